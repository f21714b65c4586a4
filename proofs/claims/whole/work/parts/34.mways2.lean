theorem l_waysh {L d : Nat} {m1 m : zmem} (ha : zan m1 m) (hk : MOk m) (hr : MRng m) {c : Int} (c0 : 0 ≤ c) (c1 : c < 40) (l2 : m 272 c + m 273 c ≤ 40) (hw : ∀ k, 0 ≤ k → k < m 273 c → 0 ≤ m 274 (7 * c + k) ∧ m 274 (7 * c + k) < m 264 0) {a q : Int} (a0 : 0 ≤ a) (a1 : a < m 273 c) (q0 : q = 0 ∨ q = 1) {i : Int} (i0 : a ≤ i) (i1 : i < m 273 c) {Q : Option zV → zM → Prop} (hx : zR (d + 5) 108 269 [some (.inr (.inl (some 264))), some (.inl c), some (.inl a), some (.inl q), some (.inl (m 273 c - 1)), some (.inl i), some (.inl (m 264 0)), none, none, none, none, none] [] (zem L (MPm m1 m c a q i (m 264 0))) Q) : ∀ (n : Nat) (h : Int), 0 ≤ h → h + n = m 264 0 → zR (d + 5) 108 23 [some (.inr (.inl (some 264))), some (.inl c), some (.inl a), some (.inl q), some (.inl (m 273 c - 1)), some (.inl i), some (.inl h), none, none, none, none, none] [] (zem L (MPm m1 m c a q i h)) Q := by
  have kc := hk.2.2.1 c c0 c1
  have kh := hk.2.1
  have w0 := hw i (by omega) i1
  intro n
  induction n with
  | zero =>
    intro h hh hn
    have ei : h = m 264 0 := by omega
    rw [ei]
    refine r_iload f108_23 rfl ?_
    refine r_aload_n f108_25 rfl ?_
    refine r_getI f108_26 o108 F7_86 g264_0 rfl ?_
    refine r_top (e := m 264 0) (zan_f (zpn_an ha) (by omega) (by omega) (by omega) _) ?_
    refine r_cge f108_29 (t := 269) (by decide) (fun _ => ?_) (fun h => absurd (by omega) h)
    exact hx
  | succ n ih =>
    intro h hh hn
    have zb := zTm_b kh.1 (J := MJ m) (Ma := MMa m c a q) (wy := fun k => m 274 (7 * c + k)) (last := m 273 c - 1) (m 273 c - 1 - (i + 1)).toNat
    have hbx : zfd (zstM (MGa m c a q (i + 1)) (MJ m h)) (-1) (m 264 0) = -1 ∨ (0 ≤ zfd (zstM (MGa m c a q (i + 1)) (MJ m h)) (-1) (m 264 0) ∧ zfd (zstM (MGa m c a q (i + 1)) (MJ m h)) (-1) (m 264 0) ≤ 8) := by
      rcases zstM_ex (ρ := MGa m c a q (i + 1)) (J := MJ m h) kh.1 with e | ⟨k, z1, z2, z3, z4, z5⟩
      · exact Or.inl e
      · have zk : MGa m c a q (i + 1) k = -1 ∨ (0 ≤ MGa m c a q (i + 1) k ∧ MGa m c a q (i + 1) k ≤ ((m 273 c - 1 - (i + 1)).toNat : Int) + 1) := zb k
        rw [← z4]; right; omega
    refine r_iload f108_23 rfl ?_
    refine r_aload_n f108_25 rfl ?_
    refine r_getI f108_26 o108 F7_86 g264_0 rfl ?_
    refine r_top (e := m 264 0) (zan_f (zpn_an ha) (by omega) (by omega) (by omega) _) ?_
    refine r_cge f108_29 (t := 269) (by decide) (fun h => absurd h (by omega)) (fun _ => ?_)
    refine r_iload f108_32 rfl ?_
    refine r_iload_n f108_34 rfl ?_
    refine r_ceq f108_35 (t := 45) (by decide) (fun q1 => ?_) (fun q1 => ?_)
    · refine r_iconst f108_45 rfl ?_
      refine r_goto f108_46 (t := 50) (by decide) ?_
      refine r_istore f108_50 rfl (ls' := [some (.inr (.inl (some 264))), some (.inl c), some (.inl a), some (.inl q), some (.inl (m 273 c - 1)), some (.inl i), some (.inl h), some (.inl 1), none, none, none, none]) rfl ?_
      refine r_iload f108_52 rfl ?_
      refine r_zeq f108_54 (t := 74) (by decide) (fun h => absurd h (by omega)) (fun _ => ?_)
      refine r_aload_n f108_57 rfl ?_
      refine r_getR f108_58 o108 F7_38 g264_14 rfl ?_
      refine r_bipush f108_61 (by decide) ?_
      refine r_iload_n f108_63 rfl ?_
      refine r_imul f108_64 (e := 7 * c) (by omega) (by omega) (by omega) ?_
      refine r_iload f108_65 rfl ?_
      refine r_iadd f108_67 (e := 7 * c + i) (by omega) (by omega) (by omega) ?_
      refine r_iald f108_68 kd274 (by omega) (by omega) ?_
      refine r_top (e := m 274 (7 * c + i)) (zan_f (zpn_an ha) (by omega) (by omega) (by omega) _) ?_
      refine r_iload f108_69 rfl ?_
      refine r_cne f108_71 (t := 112) (by decide) (fun q2 => ?_) (fun q2 => ?_)
      · refine r_iconst f108_112 rfl ?_
        refine r_istore f108_113 rfl (ls' := [some (.inr (.inl (some 264))), some (.inl c), some (.inl a), some (.inl q), some (.inl (m 273 c - 1)), some (.inl i), some (.inl h), some (.inl 1), some (.inl 0), none, none, none]) rfl ?_
        refine r_iload f108_115 rfl ?_
        refine r_iload f108_117 rfl ?_
        refine r_cne f108_119 (t := 126) (by decide) (fun q3 => ?_) (fun q3 => ?_)
        · refine r_iconst f108_126 rfl ?_
          refine r_istore f108_127 rfl (ls' := [some (.inr (.inl (some 264))), some (.inl c), some (.inl a), some (.inl q), some (.inl (m 273 c - 1)), some (.inl i), some (.inl h), some (.inl 1), some (.inl 0), some (.inl (-1)), none, none]) rfl ?_
          refine r_iconst f108_129 rfl ?_
          refine r_istore f108_130 rfl (ls' := [some (.inr (.inl (some 264))), some (.inl c), some (.inl a), some (.inl q), some (.inl (m 273 c - 1)), some (.inl i), some (.inl h), some (.inl 1), some (.inl 0), some (.inl (-1)), some (.inl 0), none]) rfl ?_
          refine l_waysg ha hk hr c0 c1 l2 hw a0 a1 q0 (i := i) (h := h) (x := 1) (y := 0) (by omega) (by omega) hh (by omega) ?_ (m 264 0).toNat 0 (by omega) (by omega)
          refine r_aload_n f108_210 rfl ?_
          refine r_getR f108_211 o108 F7_62 g264_22 rfl ?_
          refine r_bipush f108_214 (by decide) ?_
          refine r_iload f108_216 rfl ?_
          refine r_imul f108_218 (e := 12 * i) (by omega) (by omega) (by omega) ?_
          refine r_iload f108_219 rfl ?_
          refine r_iadd f108_221 (e := h + 12 * i) (by omega) (by omega) (by omega) ?_
          refine r_iload f108_222 rfl ?_
          refine r_zeq f108_224 (t := 261) (by decide) (fun _ => ?_) (fun h => absurd (by omega) h)
          refine r_iconst f108_261 rfl ?_
          refine r_iast f108_262 kd282 (by omega) (by omega) (by omega) ?_
          refine r_iinc f108_263 rfl rfl rfl (e := h + 1) (by omega) (by omega) (by omega) (ls' := [some (.inr (.inl (some 264))), some (.inl c), some (.inl a), some (.inl q), some (.inl (m 273 c - 1)), some (.inl i), some (.inl (h + 1)), some (.inl 1), some (.inl 0), some (.inl (zfd (zstM (MGa m c a q (i + 1)) (MJ m h)) (-1) (m 264 0))), some (.inl (m 264 0)), none]) rfl ?_
          refine r_goto f108_266 (t := 23) (by decide) ?_
          have ev : MGa m c a q i h = -1 := by
            first
              | (rw [MGa_0 (by omega)]; (repeat (first | rw [if_pos (by omega)] | rw [if_neg (by omega)])); done)
              | (rw [MGa_s (by omega)]; (repeat (first | rw [if_pos (by omega)] | rw [if_neg (by omega)])); try omega)
          refine r_mem (m1 := MPm m1 m c a q i (h + 1)) ((zpn_s hh (by omega) (by omega) (by omega) (by omega)).symm.trans (congrArg (fun z => zu (MPm m1 m c a q i h) 282 (h + 12 * i) z) ev)) ?_
          refine r_forget (ls' := [some (.inr (.inl (some 264))), some (.inl c), some (.inl a), some (.inl q), some (.inl (m 273 c - 1)), some (.inl i), some (.inl (h + 1)), none, none, none, none, none]) ⟨Or.inl rfl, ⟨Or.inl rfl, ⟨Or.inl rfl, ⟨Or.inl rfl, ⟨Or.inl rfl, ⟨Or.inl rfl, ⟨Or.inl rfl, ⟨Or.inr ⟨rfl, rfl⟩, ⟨Or.inr ⟨rfl, rfl⟩, ⟨Or.inr ⟨rfl, rfl⟩, ⟨Or.inr ⟨rfl, rfl⟩, ⟨Or.inl rfl, trivial⟩⟩⟩⟩⟩⟩⟩⟩⟩⟩⟩⟩ ?_
          exact ih (h + 1) (by omega) (by omega)
        · refine r_iconst f108_122 rfl ?_
          refine r_goto f108_123 (t := 127) (by decide) ?_
          refine r_istore f108_127 rfl (ls' := [some (.inr (.inl (some 264))), some (.inl c), some (.inl a), some (.inl q), some (.inl (m 273 c - 1)), some (.inl i), some (.inl h), some (.inl 1), some (.inl 0), some (.inl 0), none, none]) rfl ?_
          refine r_iconst f108_129 rfl ?_
          refine r_istore f108_130 rfl (ls' := [some (.inr (.inl (some 264))), some (.inl c), some (.inl a), some (.inl q), some (.inl (m 273 c - 1)), some (.inl i), some (.inl h), some (.inl 1), some (.inl 0), some (.inl 0), some (.inl 0), none]) rfl ?_
          refine r_iload f108_132 rfl ?_
          refine r_aload_n f108_134 rfl ?_
          refine r_getI f108_135 o108 F7_86 g264_0 rfl ?_
          refine r_top (e := m 264 0) (zan_f (zpn_an ha) (by omega) (by omega) (by omega) _) ?_
          refine r_cge f108_138 (t := 210) (by decide) (fun h => absurd h (by omega)) (fun _ => ?_)
          refine r_iload f108_141 rfl ?_
          refine r_iload f108_143 rfl ?_
          refine r_cge f108_145 (t := 210) (by decide) (fun _ => ?_) (fun h => absurd (by omega) h)
          refine r_aload_n f108_210 rfl ?_
          refine r_getR f108_211 o108 F7_62 g264_22 rfl ?_
          refine r_bipush f108_214 (by decide) ?_
          refine r_iload f108_216 rfl ?_
          refine r_imul f108_218 (e := 12 * i) (by omega) (by omega) (by omega) ?_
          refine r_iload f108_219 rfl ?_
          refine r_iadd f108_221 (e := h + 12 * i) (by omega) (by omega) (by omega) ?_
          refine r_iload f108_222 rfl ?_
          refine r_zeq f108_224 (t := 261) (by decide) (fun _ => ?_) (fun h => absurd (by omega) h)
          refine r_iconst f108_261 rfl ?_
          refine r_iast f108_262 kd282 (by omega) (by omega) (by omega) ?_
          refine r_iinc f108_263 rfl rfl rfl (e := h + 1) (by omega) (by omega) (by omega) (ls' := [some (.inr (.inl (some 264))), some (.inl c), some (.inl a), some (.inl q), some (.inl (m 273 c - 1)), some (.inl i), some (.inl (h + 1)), some (.inl 1), some (.inl 0), some (.inl 0), some (.inl 0), none]) rfl ?_
          refine r_goto f108_266 (t := 23) (by decide) ?_
          have ev : MGa m c a q i h = -1 := by
            first
              | (rw [MGa_0 (by omega)]; (repeat (first | rw [if_pos (by omega)] | rw [if_neg (by omega)])); done)
              | (rw [MGa_s (by omega)]; (repeat (first | rw [if_pos (by omega)] | rw [if_neg (by omega)])); try omega)
          refine r_mem (m1 := MPm m1 m c a q i (h + 1)) ((zpn_s hh (by omega) (by omega) (by omega) (by omega)).symm.trans (congrArg (fun z => zu (MPm m1 m c a q i h) 282 (h + 12 * i) z) ev)) ?_
          refine r_forget (ls' := [some (.inr (.inl (some 264))), some (.inl c), some (.inl a), some (.inl q), some (.inl (m 273 c - 1)), some (.inl i), some (.inl (h + 1)), none, none, none, none, none]) ⟨Or.inl rfl, ⟨Or.inl rfl, ⟨Or.inl rfl, ⟨Or.inl rfl, ⟨Or.inl rfl, ⟨Or.inl rfl, ⟨Or.inl rfl, ⟨Or.inr ⟨rfl, rfl⟩, ⟨Or.inr ⟨rfl, rfl⟩, ⟨Or.inr ⟨rfl, rfl⟩, ⟨Or.inr ⟨rfl, rfl⟩, ⟨Or.inl rfl, trivial⟩⟩⟩⟩⟩⟩⟩⟩⟩⟩⟩⟩ ?_
          exact ih (h + 1) (by omega) (by omega)
      · refine r_iload f108_74 rfl ?_
        refine r_iload_n f108_76 rfl ?_
        refine r_cne f108_77 (t := 84) (by decide) (fun q4 => ?_) (fun q4 => ?_)
        · refine r_aload_n f108_84 rfl ?_
          refine r_iload f108_85 rfl ?_
          refine r_aload_n f108_87 rfl ?_
          refine r_getR f108_88 o108 F7_32 g264_12 rfl ?_
          refine r_iload_n f108_91 rfl ?_
          refine r_iald f108_92 kd272 (by omega) (by omega) ?_
          refine r_top (e := m 272 c) (zan_f (zpn_an ha) (by omega) (by omega) (by omega) _) ?_
          refine r_iload f108_93 rfl ?_
          refine r_iadd f108_95 (e := i + m 272 c) (by omega) (by omega) (by omega) ?_
          refine r_aload_n f108_96 rfl ?_
          refine r_getR f108_97 o108 F7_29 g264_11 rfl ?_
          refine r_iload_n f108_100 rfl ?_
          refine r_iald f108_101 kd271 (by omega) (by omega) ?_
          refine r_top (e := m 271 c) (zan_f (zpn_an ha) (by omega) (by omega) (by omega) _) ?_
          refine r_callv3i (m' := (MPm m1 m c a q i h)) f108_102 o108 M7_132 p103 o103 kd264 rfl (by simp) (t_isOpenR (zpn_an ha) hk hr (h := h) (t := i + m 272 c) (n := m 271 c) (by omega) (by omega) (by omega) (by omega)) ?_
          refine r_ite (fun q5 => ?_) (fun q5 => ?_)
          · refine r_zeq f108_105 (t := 112) (by decide) (fun h => absurd h (by omega)) (fun _ => ?_)
            refine r_iconst f108_108 rfl ?_
            refine r_goto f108_109 (t := 113) (by decide) ?_
            refine r_istore f108_113 rfl (ls' := [some (.inr (.inl (some 264))), some (.inl c), some (.inl a), some (.inl q), some (.inl (m 273 c - 1)), some (.inl i), some (.inl h), some (.inl 1), some (.inl 1), none, none, none]) rfl ?_
            refine r_iload f108_115 rfl ?_
            refine r_iload f108_117 rfl ?_
            refine r_cne f108_119 (t := 126) (by decide) (fun q6 => ?_) (fun q6 => ?_)
            · refine r_iconst f108_126 rfl ?_
              refine r_istore f108_127 rfl (ls' := [some (.inr (.inl (some 264))), some (.inl c), some (.inl a), some (.inl q), some (.inl (m 273 c - 1)), some (.inl i), some (.inl h), some (.inl 1), some (.inl 1), some (.inl (-1)), none, none]) rfl ?_
              refine r_iconst f108_129 rfl ?_
              refine r_istore f108_130 rfl (ls' := [some (.inr (.inl (some 264))), some (.inl c), some (.inl a), some (.inl q), some (.inl (m 273 c - 1)), some (.inl i), some (.inl h), some (.inl 1), some (.inl 1), some (.inl (-1)), some (.inl 0), none]) rfl ?_
              refine l_waysg ha hk hr c0 c1 l2 hw a0 a1 q0 (i := i) (h := h) (x := 1) (y := 1) (by omega) (by omega) hh (by omega) ?_ (m 264 0).toNat 0 (by omega) (by omega)
              refine r_aload_n f108_210 rfl ?_
              refine r_getR f108_211 o108 F7_62 g264_22 rfl ?_
              refine r_bipush f108_214 (by decide) ?_
              refine r_iload f108_216 rfl ?_
              refine r_imul f108_218 (e := 12 * i) (by omega) (by omega) (by omega) ?_
              refine r_iload f108_219 rfl ?_
              refine r_iadd f108_221 (e := h + 12 * i) (by omega) (by omega) (by omega) ?_
              refine r_iload f108_222 rfl ?_
              refine r_zeq f108_224 (t := 261) (by decide) (fun h => absurd h (by omega)) (fun _ => ?_)
              refine r_iload f108_227 rfl ?_
              refine r_iconst f108_229 rfl ?_
              refine r_ceq f108_230 (t := 261) (by decide) (fun q7 => ?_) (fun q7 => ?_)
              · refine r_iconst f108_261 rfl ?_
                refine r_iast f108_262 kd282 (by omega) (by omega) (by omega) ?_
                refine r_iinc f108_263 rfl rfl rfl (e := h + 1) (by omega) (by omega) (by omega) (ls' := [some (.inr (.inl (some 264))), some (.inl c), some (.inl a), some (.inl q), some (.inl (m 273 c - 1)), some (.inl i), some (.inl (h + 1)), some (.inl 1), some (.inl 1), some (.inl (zfd (zstM (MGa m c a q (i + 1)) (MJ m h)) (-1) (m 264 0))), some (.inl (m 264 0)), none]) rfl ?_
                refine r_goto f108_266 (t := 23) (by decide) ?_
                have ev : MGa m c a q i h = -1 := by
                  first
                    | (rw [MGa_0 (by omega)]; (repeat (first | rw [if_pos (by omega)] | rw [if_neg (by omega)])); done)
                    | (rw [MGa_s (by omega)]; (repeat (first | rw [if_pos (by omega)] | rw [if_neg (by omega)])); try omega)
                refine r_mem (m1 := MPm m1 m c a q i (h + 1)) ((zpn_s hh (by omega) (by omega) (by omega) (by omega)).symm.trans (congrArg (fun z => zu (MPm m1 m c a q i h) 282 (h + 12 * i) z) ev)) ?_
                refine r_forget (ls' := [some (.inr (.inl (some 264))), some (.inl c), some (.inl a), some (.inl q), some (.inl (m 273 c - 1)), some (.inl i), some (.inl (h + 1)), none, none, none, none, none]) ⟨Or.inl rfl, ⟨Or.inl rfl, ⟨Or.inl rfl, ⟨Or.inl rfl, ⟨Or.inl rfl, ⟨Or.inl rfl, ⟨Or.inl rfl, ⟨Or.inr ⟨rfl, rfl⟩, ⟨Or.inr ⟨rfl, rfl⟩, ⟨Or.inr ⟨rfl, rfl⟩, ⟨Or.inr ⟨rfl, rfl⟩, ⟨Or.inl rfl, trivial⟩⟩⟩⟩⟩⟩⟩⟩⟩⟩⟩⟩ ?_
                exact ih (h + 1) (by omega) (by omega)
              · refine r_iload f108_233 rfl ?_
                refine r_aload_n f108_235 rfl ?_
                refine r_getR f108_236 o108 F7_38 g264_14 rfl ?_
                refine r_bipush f108_239 (by decide) ?_
                refine r_iload_n f108_241 rfl ?_
                refine r_imul f108_242 (e := 7 * c) (by omega) (by omega) (by omega) ?_
                refine r_iload f108_243 rfl ?_
                refine r_iadd f108_245 (e := 7 * c + i) (by omega) (by omega) (by omega) ?_
                refine r_iald f108_246 kd274 (by omega) (by omega) ?_
                refine r_top (e := m 274 (7 * c + i)) (zan_f (zpn_an ha) (by omega) (by omega) (by omega) _) ?_
                refine r_iload f108_247 rfl ?_
                refine r_cne f108_249 (t := 256) (by decide) (fun q8 => ?_) (fun q8 => ?_)
                · refine r_iconst f108_256 rfl ?_
                  refine r_iadd f108_257 (e := zfd (zstM (MGa m c a q (i + 1)) (MJ m h)) (-1) (m 264 0) + 1) (by omega) (by omega) (by omega) ?_
                  refine r_goto f108_258 (t := 262) (by decide) ?_
                  refine r_iast f108_262 kd282 (by omega) (by omega) (by omega) ?_
                  refine r_iinc f108_263 rfl rfl rfl (e := h + 1) (by omega) (by omega) (by omega) (ls' := [some (.inr (.inl (some 264))), some (.inl c), some (.inl a), some (.inl q), some (.inl (m 273 c - 1)), some (.inl i), some (.inl (h + 1)), some (.inl 1), some (.inl 1), some (.inl (zfd (zstM (MGa m c a q (i + 1)) (MJ m h)) (-1) (m 264 0))), some (.inl (m 264 0)), none]) rfl ?_
                  refine r_goto f108_266 (t := 23) (by decide) ?_
                  have ev : MGa m c a q i h = zfd (zstM (MGa m c a q (i + 1)) (MJ m h)) (-1) (m 264 0) + 1 := by
                    first
                      | (rw [MGa_0 (by omega)]; (repeat (first | rw [if_pos (by omega)] | rw [if_neg (by omega)])); done)
                      | (rw [MGa_s (by omega)]; (repeat (first | rw [if_pos (by omega)] | rw [if_neg (by omega)])); try omega)
                  refine r_mem (m1 := MPm m1 m c a q i (h + 1)) ((zpn_s hh (by omega) (by omega) (by omega) (by omega)).symm.trans (congrArg (fun z => zu (MPm m1 m c a q i h) 282 (h + 12 * i) z) ev)) ?_
                  refine r_forget (ls' := [some (.inr (.inl (some 264))), some (.inl c), some (.inl a), some (.inl q), some (.inl (m 273 c - 1)), some (.inl i), some (.inl (h + 1)), none, none, none, none, none]) ⟨Or.inl rfl, ⟨Or.inl rfl, ⟨Or.inl rfl, ⟨Or.inl rfl, ⟨Or.inl rfl, ⟨Or.inl rfl, ⟨Or.inl rfl, ⟨Or.inr ⟨rfl, rfl⟩, ⟨Or.inr ⟨rfl, rfl⟩, ⟨Or.inr ⟨rfl, rfl⟩, ⟨Or.inr ⟨rfl, rfl⟩, ⟨Or.inl rfl, trivial⟩⟩⟩⟩⟩⟩⟩⟩⟩⟩⟩⟩ ?_
                  exact ih (h + 1) (by omega) (by omega)
                · refine r_iconst f108_252 rfl ?_
                  refine r_goto f108_253 (t := 257) (by decide) ?_
                  refine r_iadd f108_257 (e := zfd (zstM (MGa m c a q (i + 1)) (MJ m h)) (-1) (m 264 0)) (by omega) (by omega) (by omega) ?_
                  refine r_goto f108_258 (t := 262) (by decide) ?_
                  refine r_iast f108_262 kd282 (by omega) (by omega) (by omega) ?_
                  refine r_iinc f108_263 rfl rfl rfl (e := h + 1) (by omega) (by omega) (by omega) (ls' := [some (.inr (.inl (some 264))), some (.inl c), some (.inl a), some (.inl q), some (.inl (m 273 c - 1)), some (.inl i), some (.inl (h + 1)), some (.inl 1), some (.inl 1), some (.inl (zfd (zstM (MGa m c a q (i + 1)) (MJ m h)) (-1) (m 264 0))), some (.inl (m 264 0)), none]) rfl ?_
                  refine r_goto f108_266 (t := 23) (by decide) ?_
                  have ev : MGa m c a q i h = zfd (zstM (MGa m c a q (i + 1)) (MJ m h)) (-1) (m 264 0) := by
                    first
                      | (rw [MGa_0 (by omega)]; (repeat (first | rw [if_pos (by omega)] | rw [if_neg (by omega)])); done)
                      | (rw [MGa_s (by omega)]; (repeat (first | rw [if_pos (by omega)] | rw [if_neg (by omega)])); try omega)
                  refine r_mem (m1 := MPm m1 m c a q i (h + 1)) ((zpn_s hh (by omega) (by omega) (by omega) (by omega)).symm.trans (congrArg (fun z => zu (MPm m1 m c a q i h) 282 (h + 12 * i) z) ev)) ?_
                  refine r_forget (ls' := [some (.inr (.inl (some 264))), some (.inl c), some (.inl a), some (.inl q), some (.inl (m 273 c - 1)), some (.inl i), some (.inl (h + 1)), none, none, none, none, none]) ⟨Or.inl rfl, ⟨Or.inl rfl, ⟨Or.inl rfl, ⟨Or.inl rfl, ⟨Or.inl rfl, ⟨Or.inl rfl, ⟨Or.inl rfl, ⟨Or.inr ⟨rfl, rfl⟩, ⟨Or.inr ⟨rfl, rfl⟩, ⟨Or.inr ⟨rfl, rfl⟩, ⟨Or.inr ⟨rfl, rfl⟩, ⟨Or.inl rfl, trivial⟩⟩⟩⟩⟩⟩⟩⟩⟩⟩⟩⟩ ?_
                  exact ih (h + 1) (by omega) (by omega)
            · refine r_iconst f108_122 rfl ?_
              refine r_goto f108_123 (t := 127) (by decide) ?_
              refine r_istore f108_127 rfl (ls' := [some (.inr (.inl (some 264))), some (.inl c), some (.inl a), some (.inl q), some (.inl (m 273 c - 1)), some (.inl i), some (.inl h), some (.inl 1), some (.inl 1), some (.inl 0), none, none]) rfl ?_
              refine r_iconst f108_129 rfl ?_
              refine r_istore f108_130 rfl (ls' := [some (.inr (.inl (some 264))), some (.inl c), some (.inl a), some (.inl q), some (.inl (m 273 c - 1)), some (.inl i), some (.inl h), some (.inl 1), some (.inl 1), some (.inl 0), some (.inl 0), none]) rfl ?_
              refine r_iload f108_132 rfl ?_
              refine r_aload_n f108_134 rfl ?_
              refine r_getI f108_135 o108 F7_86 g264_0 rfl ?_
              refine r_top (e := m 264 0) (zan_f (zpn_an ha) (by omega) (by omega) (by omega) _) ?_
              refine r_cge f108_138 (t := 210) (by decide) (fun h => absurd h (by omega)) (fun _ => ?_)
              refine r_iload f108_141 rfl ?_
              refine r_iload f108_143 rfl ?_
              refine r_cge f108_145 (t := 210) (by decide) (fun _ => ?_) (fun h => absurd (by omega) h)
              refine r_aload_n f108_210 rfl ?_
              refine r_getR f108_211 o108 F7_62 g264_22 rfl ?_
              refine r_bipush f108_214 (by decide) ?_
              refine r_iload f108_216 rfl ?_
              refine r_imul f108_218 (e := 12 * i) (by omega) (by omega) (by omega) ?_
              refine r_iload f108_219 rfl ?_
              refine r_iadd f108_221 (e := h + 12 * i) (by omega) (by omega) (by omega) ?_
              refine r_iload f108_222 rfl ?_
              refine r_zeq f108_224 (t := 261) (by decide) (fun h => absurd h (by omega)) (fun _ => ?_)
              refine r_iload f108_227 rfl ?_
              refine r_iconst f108_229 rfl ?_
              refine r_ceq f108_230 (t := 261) (by decide) (fun h => absurd h (by omega)) (fun _ => ?_)
              refine r_iload f108_233 rfl ?_
              refine r_aload_n f108_235 rfl ?_
              refine r_getR f108_236 o108 F7_38 g264_14 rfl ?_
              refine r_bipush f108_239 (by decide) ?_
              refine r_iload_n f108_241 rfl ?_
              refine r_imul f108_242 (e := 7 * c) (by omega) (by omega) (by omega) ?_
              refine r_iload f108_243 rfl ?_
              refine r_iadd f108_245 (e := 7 * c + i) (by omega) (by omega) (by omega) ?_
              refine r_iald f108_246 kd274 (by omega) (by omega) ?_
              refine r_top (e := m 274 (7 * c + i)) (zan_f (zpn_an ha) (by omega) (by omega) (by omega) _) ?_
              refine r_iload f108_247 rfl ?_
              refine r_cne f108_249 (t := 256) (by decide) (fun q9 => ?_) (fun q9 => ?_)
              · refine r_iconst f108_256 rfl ?_
                refine r_iadd f108_257 (e := 1) (by omega) (by omega) (by omega) ?_
                refine r_goto f108_258 (t := 262) (by decide) ?_
                refine r_iast f108_262 kd282 (by omega) (by omega) (by omega) ?_
                refine r_iinc f108_263 rfl rfl rfl (e := h + 1) (by omega) (by omega) (by omega) (ls' := [some (.inr (.inl (some 264))), some (.inl c), some (.inl a), some (.inl q), some (.inl (m 273 c - 1)), some (.inl i), some (.inl (h + 1)), some (.inl 1), some (.inl 1), some (.inl 0), some (.inl 0), none]) rfl ?_
                refine r_goto f108_266 (t := 23) (by decide) ?_
                have ev : MGa m c a q i h = 1 := by
                  first
                    | (rw [MGa_0 (by omega)]; (repeat (first | rw [if_pos (by omega)] | rw [if_neg (by omega)])); done)
                    | (rw [MGa_s (by omega)]; (repeat (first | rw [if_pos (by omega)] | rw [if_neg (by omega)])); try omega)
                refine r_mem (m1 := MPm m1 m c a q i (h + 1)) ((zpn_s hh (by omega) (by omega) (by omega) (by omega)).symm.trans (congrArg (fun z => zu (MPm m1 m c a q i h) 282 (h + 12 * i) z) ev)) ?_
                refine r_forget (ls' := [some (.inr (.inl (some 264))), some (.inl c), some (.inl a), some (.inl q), some (.inl (m 273 c - 1)), some (.inl i), some (.inl (h + 1)), none, none, none, none, none]) ⟨Or.inl rfl, ⟨Or.inl rfl, ⟨Or.inl rfl, ⟨Or.inl rfl, ⟨Or.inl rfl, ⟨Or.inl rfl, ⟨Or.inl rfl, ⟨Or.inr ⟨rfl, rfl⟩, ⟨Or.inr ⟨rfl, rfl⟩, ⟨Or.inr ⟨rfl, rfl⟩, ⟨Or.inr ⟨rfl, rfl⟩, ⟨Or.inl rfl, trivial⟩⟩⟩⟩⟩⟩⟩⟩⟩⟩⟩⟩ ?_
                exact ih (h + 1) (by omega) (by omega)
              · refine r_iconst f108_252 rfl ?_
                refine r_goto f108_253 (t := 257) (by decide) ?_
                refine r_iadd f108_257 (e := 0) (by omega) (by omega) (by omega) ?_
                refine r_goto f108_258 (t := 262) (by decide) ?_
                refine r_iast f108_262 kd282 (by omega) (by omega) (by omega) ?_
                refine r_iinc f108_263 rfl rfl rfl (e := h + 1) (by omega) (by omega) (by omega) (ls' := [some (.inr (.inl (some 264))), some (.inl c), some (.inl a), some (.inl q), some (.inl (m 273 c - 1)), some (.inl i), some (.inl (h + 1)), some (.inl 1), some (.inl 1), some (.inl 0), some (.inl 0), none]) rfl ?_
                refine r_goto f108_266 (t := 23) (by decide) ?_
                have ev : MGa m c a q i h = 0 := by
                  first
                    | (rw [MGa_0 (by omega)]; (repeat (first | rw [if_pos (by omega)] | rw [if_neg (by omega)])); done)
                    | (rw [MGa_s (by omega)]; (repeat (first | rw [if_pos (by omega)] | rw [if_neg (by omega)])); try omega)
                refine r_mem (m1 := MPm m1 m c a q i (h + 1)) ((zpn_s hh (by omega) (by omega) (by omega) (by omega)).symm.trans (congrArg (fun z => zu (MPm m1 m c a q i h) 282 (h + 12 * i) z) ev)) ?_
                refine r_forget (ls' := [some (.inr (.inl (some 264))), some (.inl c), some (.inl a), some (.inl q), some (.inl (m 273 c - 1)), some (.inl i), some (.inl (h + 1)), none, none, none, none, none]) ⟨Or.inl rfl, ⟨Or.inl rfl, ⟨Or.inl rfl, ⟨Or.inl rfl, ⟨Or.inl rfl, ⟨Or.inl rfl, ⟨Or.inl rfl, ⟨Or.inr ⟨rfl, rfl⟩, ⟨Or.inr ⟨rfl, rfl⟩, ⟨Or.inr ⟨rfl, rfl⟩, ⟨Or.inr ⟨rfl, rfl⟩, ⟨Or.inl rfl, trivial⟩⟩⟩⟩⟩⟩⟩⟩⟩⟩⟩⟩ ?_
                exact ih (h + 1) (by omega) (by omega)
          · refine r_zeq f108_105 (t := 112) (by decide) (fun _ => ?_) (fun h => absurd (by omega) h)
            refine r_iconst f108_112 rfl ?_
            refine r_istore f108_113 rfl (ls' := [some (.inr (.inl (some 264))), some (.inl c), some (.inl a), some (.inl q), some (.inl (m 273 c - 1)), some (.inl i), some (.inl h), some (.inl 1), some (.inl 0), none, none, none]) rfl ?_
            refine r_iload f108_115 rfl ?_
            refine r_iload f108_117 rfl ?_
            refine r_cne f108_119 (t := 126) (by decide) (fun q10 => ?_) (fun q10 => ?_)
            · refine r_iconst f108_126 rfl ?_
              refine r_istore f108_127 rfl (ls' := [some (.inr (.inl (some 264))), some (.inl c), some (.inl a), some (.inl q), some (.inl (m 273 c - 1)), some (.inl i), some (.inl h), some (.inl 1), some (.inl 0), some (.inl (-1)), none, none]) rfl ?_
              refine r_iconst f108_129 rfl ?_
              refine r_istore f108_130 rfl (ls' := [some (.inr (.inl (some 264))), some (.inl c), some (.inl a), some (.inl q), some (.inl (m 273 c - 1)), some (.inl i), some (.inl h), some (.inl 1), some (.inl 0), some (.inl (-1)), some (.inl 0), none]) rfl ?_
              refine l_waysg ha hk hr c0 c1 l2 hw a0 a1 q0 (i := i) (h := h) (x := 1) (y := 0) (by omega) (by omega) hh (by omega) ?_ (m 264 0).toNat 0 (by omega) (by omega)
              refine r_aload_n f108_210 rfl ?_
              refine r_getR f108_211 o108 F7_62 g264_22 rfl ?_
              refine r_bipush f108_214 (by decide) ?_
              refine r_iload f108_216 rfl ?_
              refine r_imul f108_218 (e := 12 * i) (by omega) (by omega) (by omega) ?_
              refine r_iload f108_219 rfl ?_
              refine r_iadd f108_221 (e := h + 12 * i) (by omega) (by omega) (by omega) ?_
              refine r_iload f108_222 rfl ?_
              refine r_zeq f108_224 (t := 261) (by decide) (fun _ => ?_) (fun h => absurd (by omega) h)
              refine r_iconst f108_261 rfl ?_
              refine r_iast f108_262 kd282 (by omega) (by omega) (by omega) ?_
              refine r_iinc f108_263 rfl rfl rfl (e := h + 1) (by omega) (by omega) (by omega) (ls' := [some (.inr (.inl (some 264))), some (.inl c), some (.inl a), some (.inl q), some (.inl (m 273 c - 1)), some (.inl i), some (.inl (h + 1)), some (.inl 1), some (.inl 0), some (.inl (zfd (zstM (MGa m c a q (i + 1)) (MJ m h)) (-1) (m 264 0))), some (.inl (m 264 0)), none]) rfl ?_
              refine r_goto f108_266 (t := 23) (by decide) ?_
              have ev : MGa m c a q i h = -1 := by
                first
                  | (rw [MGa_0 (by omega)]; (repeat (first | rw [if_pos (by omega)] | rw [if_neg (by omega)])); done)
                  | (rw [MGa_s (by omega)]; (repeat (first | rw [if_pos (by omega)] | rw [if_neg (by omega)])); try omega)
              refine r_mem (m1 := MPm m1 m c a q i (h + 1)) ((zpn_s hh (by omega) (by omega) (by omega) (by omega)).symm.trans (congrArg (fun z => zu (MPm m1 m c a q i h) 282 (h + 12 * i) z) ev)) ?_
              refine r_forget (ls' := [some (.inr (.inl (some 264))), some (.inl c), some (.inl a), some (.inl q), some (.inl (m 273 c - 1)), some (.inl i), some (.inl (h + 1)), none, none, none, none, none]) ⟨Or.inl rfl, ⟨Or.inl rfl, ⟨Or.inl rfl, ⟨Or.inl rfl, ⟨Or.inl rfl, ⟨Or.inl rfl, ⟨Or.inl rfl, ⟨Or.inr ⟨rfl, rfl⟩, ⟨Or.inr ⟨rfl, rfl⟩, ⟨Or.inr ⟨rfl, rfl⟩, ⟨Or.inr ⟨rfl, rfl⟩, ⟨Or.inl rfl, trivial⟩⟩⟩⟩⟩⟩⟩⟩⟩⟩⟩⟩ ?_
              exact ih (h + 1) (by omega) (by omega)
            · refine r_iconst f108_122 rfl ?_
              refine r_goto f108_123 (t := 127) (by decide) ?_
              refine r_istore f108_127 rfl (ls' := [some (.inr (.inl (some 264))), some (.inl c), some (.inl a), some (.inl q), some (.inl (m 273 c - 1)), some (.inl i), some (.inl h), some (.inl 1), some (.inl 0), some (.inl 0), none, none]) rfl ?_
              refine r_iconst f108_129 rfl ?_
              refine r_istore f108_130 rfl (ls' := [some (.inr (.inl (some 264))), some (.inl c), some (.inl a), some (.inl q), some (.inl (m 273 c - 1)), some (.inl i), some (.inl h), some (.inl 1), some (.inl 0), some (.inl 0), some (.inl 0), none]) rfl ?_
              refine r_iload f108_132 rfl ?_
              refine r_aload_n f108_134 rfl ?_
              refine r_getI f108_135 o108 F7_86 g264_0 rfl ?_
              refine r_top (e := m 264 0) (zan_f (zpn_an ha) (by omega) (by omega) (by omega) _) ?_
              refine r_cge f108_138 (t := 210) (by decide) (fun h => absurd h (by omega)) (fun _ => ?_)
              refine r_iload f108_141 rfl ?_
              refine r_iload f108_143 rfl ?_
              refine r_cge f108_145 (t := 210) (by decide) (fun _ => ?_) (fun h => absurd (by omega) h)
              refine r_aload_n f108_210 rfl ?_
              refine r_getR f108_211 o108 F7_62 g264_22 rfl ?_
              refine r_bipush f108_214 (by decide) ?_
              refine r_iload f108_216 rfl ?_
              refine r_imul f108_218 (e := 12 * i) (by omega) (by omega) (by omega) ?_
              refine r_iload f108_219 rfl ?_
              refine r_iadd f108_221 (e := h + 12 * i) (by omega) (by omega) (by omega) ?_
              refine r_iload f108_222 rfl ?_
              refine r_zeq f108_224 (t := 261) (by decide) (fun _ => ?_) (fun h => absurd (by omega) h)
              refine r_iconst f108_261 rfl ?_
              refine r_iast f108_262 kd282 (by omega) (by omega) (by omega) ?_
              refine r_iinc f108_263 rfl rfl rfl (e := h + 1) (by omega) (by omega) (by omega) (ls' := [some (.inr (.inl (some 264))), some (.inl c), some (.inl a), some (.inl q), some (.inl (m 273 c - 1)), some (.inl i), some (.inl (h + 1)), some (.inl 1), some (.inl 0), some (.inl 0), some (.inl 0), none]) rfl ?_
              refine r_goto f108_266 (t := 23) (by decide) ?_
              have ev : MGa m c a q i h = -1 := by
                first
                  | (rw [MGa_0 (by omega)]; (repeat (first | rw [if_pos (by omega)] | rw [if_neg (by omega)])); done)
                  | (rw [MGa_s (by omega)]; (repeat (first | rw [if_pos (by omega)] | rw [if_neg (by omega)])); try omega)
              refine r_mem (m1 := MPm m1 m c a q i (h + 1)) ((zpn_s hh (by omega) (by omega) (by omega) (by omega)).symm.trans (congrArg (fun z => zu (MPm m1 m c a q i h) 282 (h + 12 * i) z) ev)) ?_
              refine r_forget (ls' := [some (.inr (.inl (some 264))), some (.inl c), some (.inl a), some (.inl q), some (.inl (m 273 c - 1)), some (.inl i), some (.inl (h + 1)), none, none, none, none, none]) ⟨Or.inl rfl, ⟨Or.inl rfl, ⟨Or.inl rfl, ⟨Or.inl rfl, ⟨Or.inl rfl, ⟨Or.inl rfl, ⟨Or.inl rfl, ⟨Or.inr ⟨rfl, rfl⟩, ⟨Or.inr ⟨rfl, rfl⟩, ⟨Or.inr ⟨rfl, rfl⟩, ⟨Or.inr ⟨rfl, rfl⟩, ⟨Or.inl rfl, trivial⟩⟩⟩⟩⟩⟩⟩⟩⟩⟩⟩⟩ ?_
              exact ih (h + 1) (by omega) (by omega)
        · refine r_iload_n f108_80 rfl ?_
          refine r_zeq f108_81 (t := 108) (by decide) (fun q11 => ?_) (fun q11 => ?_)
          · refine r_iconst f108_108 rfl ?_
            refine r_goto f108_109 (t := 113) (by decide) ?_
            refine r_istore f108_113 rfl (ls' := [some (.inr (.inl (some 264))), some (.inl c), some (.inl a), some (.inl q), some (.inl (m 273 c - 1)), some (.inl i), some (.inl h), some (.inl 1), some (.inl 1), none, none, none]) rfl ?_
            refine r_iload f108_115 rfl ?_
            refine r_iload f108_117 rfl ?_
            refine r_cne f108_119 (t := 126) (by decide) (fun q12 => ?_) (fun q12 => ?_)
            · refine r_iconst f108_126 rfl ?_
              refine r_istore f108_127 rfl (ls' := [some (.inr (.inl (some 264))), some (.inl c), some (.inl a), some (.inl q), some (.inl (m 273 c - 1)), some (.inl i), some (.inl h), some (.inl 1), some (.inl 1), some (.inl (-1)), none, none]) rfl ?_
              refine r_iconst f108_129 rfl ?_
              refine r_istore f108_130 rfl (ls' := [some (.inr (.inl (some 264))), some (.inl c), some (.inl a), some (.inl q), some (.inl (m 273 c - 1)), some (.inl i), some (.inl h), some (.inl 1), some (.inl 1), some (.inl (-1)), some (.inl 0), none]) rfl ?_
              refine l_waysg ha hk hr c0 c1 l2 hw a0 a1 q0 (i := i) (h := h) (x := 1) (y := 1) (by omega) (by omega) hh (by omega) ?_ (m 264 0).toNat 0 (by omega) (by omega)
              refine r_aload_n f108_210 rfl ?_
              refine r_getR f108_211 o108 F7_62 g264_22 rfl ?_
              refine r_bipush f108_214 (by decide) ?_
              refine r_iload f108_216 rfl ?_
              refine r_imul f108_218 (e := 12 * i) (by omega) (by omega) (by omega) ?_
              refine r_iload f108_219 rfl ?_
              refine r_iadd f108_221 (e := h + 12 * i) (by omega) (by omega) (by omega) ?_
              refine r_iload f108_222 rfl ?_
              refine r_zeq f108_224 (t := 261) (by decide) (fun h => absurd h (by omega)) (fun _ => ?_)
              refine r_iload f108_227 rfl ?_
              refine r_iconst f108_229 rfl ?_
              refine r_ceq f108_230 (t := 261) (by decide) (fun q13 => ?_) (fun q13 => ?_)
              · refine r_iconst f108_261 rfl ?_
                refine r_iast f108_262 kd282 (by omega) (by omega) (by omega) ?_
                refine r_iinc f108_263 rfl rfl rfl (e := h + 1) (by omega) (by omega) (by omega) (ls' := [some (.inr (.inl (some 264))), some (.inl c), some (.inl a), some (.inl q), some (.inl (m 273 c - 1)), some (.inl i), some (.inl (h + 1)), some (.inl 1), some (.inl 1), some (.inl (zfd (zstM (MGa m c a q (i + 1)) (MJ m h)) (-1) (m 264 0))), some (.inl (m 264 0)), none]) rfl ?_
                refine r_goto f108_266 (t := 23) (by decide) ?_
                have ev : MGa m c a q i h = -1 := by
                  first
                    | (rw [MGa_0 (by omega)]; (repeat (first | rw [if_pos (by omega)] | rw [if_neg (by omega)])); done)
                    | (rw [MGa_s (by omega)]; (repeat (first | rw [if_pos (by omega)] | rw [if_neg (by omega)])); try omega)
                refine r_mem (m1 := MPm m1 m c a q i (h + 1)) ((zpn_s hh (by omega) (by omega) (by omega) (by omega)).symm.trans (congrArg (fun z => zu (MPm m1 m c a q i h) 282 (h + 12 * i) z) ev)) ?_
                refine r_forget (ls' := [some (.inr (.inl (some 264))), some (.inl c), some (.inl a), some (.inl q), some (.inl (m 273 c - 1)), some (.inl i), some (.inl (h + 1)), none, none, none, none, none]) ⟨Or.inl rfl, ⟨Or.inl rfl, ⟨Or.inl rfl, ⟨Or.inl rfl, ⟨Or.inl rfl, ⟨Or.inl rfl, ⟨Or.inl rfl, ⟨Or.inr ⟨rfl, rfl⟩, ⟨Or.inr ⟨rfl, rfl⟩, ⟨Or.inr ⟨rfl, rfl⟩, ⟨Or.inr ⟨rfl, rfl⟩, ⟨Or.inl rfl, trivial⟩⟩⟩⟩⟩⟩⟩⟩⟩⟩⟩⟩ ?_
                exact ih (h + 1) (by omega) (by omega)
              · refine r_iload f108_233 rfl ?_
                refine r_aload_n f108_235 rfl ?_
                refine r_getR f108_236 o108 F7_38 g264_14 rfl ?_
                refine r_bipush f108_239 (by decide) ?_
                refine r_iload_n f108_241 rfl ?_
                refine r_imul f108_242 (e := 7 * c) (by omega) (by omega) (by omega) ?_
                refine r_iload f108_243 rfl ?_
                refine r_iadd f108_245 (e := 7 * c + i) (by omega) (by omega) (by omega) ?_
                refine r_iald f108_246 kd274 (by omega) (by omega) ?_
                refine r_top (e := m 274 (7 * c + i)) (zan_f (zpn_an ha) (by omega) (by omega) (by omega) _) ?_
                refine r_iload f108_247 rfl ?_
                refine r_cne f108_249 (t := 256) (by decide) (fun q14 => ?_) (fun q14 => ?_)
                · refine r_iconst f108_256 rfl ?_
                  refine r_iadd f108_257 (e := zfd (zstM (MGa m c a q (i + 1)) (MJ m h)) (-1) (m 264 0) + 1) (by omega) (by omega) (by omega) ?_
                  refine r_goto f108_258 (t := 262) (by decide) ?_
                  refine r_iast f108_262 kd282 (by omega) (by omega) (by omega) ?_
                  refine r_iinc f108_263 rfl rfl rfl (e := h + 1) (by omega) (by omega) (by omega) (ls' := [some (.inr (.inl (some 264))), some (.inl c), some (.inl a), some (.inl q), some (.inl (m 273 c - 1)), some (.inl i), some (.inl (h + 1)), some (.inl 1), some (.inl 1), some (.inl (zfd (zstM (MGa m c a q (i + 1)) (MJ m h)) (-1) (m 264 0))), some (.inl (m 264 0)), none]) rfl ?_
                  refine r_goto f108_266 (t := 23) (by decide) ?_
                  have ev : MGa m c a q i h = zfd (zstM (MGa m c a q (i + 1)) (MJ m h)) (-1) (m 264 0) + 1 := by
                    first
                      | (rw [MGa_0 (by omega)]; (repeat (first | rw [if_pos (by omega)] | rw [if_neg (by omega)])); done)
                      | (rw [MGa_s (by omega)]; (repeat (first | rw [if_pos (by omega)] | rw [if_neg (by omega)])); try omega)
                  refine r_mem (m1 := MPm m1 m c a q i (h + 1)) ((zpn_s hh (by omega) (by omega) (by omega) (by omega)).symm.trans (congrArg (fun z => zu (MPm m1 m c a q i h) 282 (h + 12 * i) z) ev)) ?_
                  refine r_forget (ls' := [some (.inr (.inl (some 264))), some (.inl c), some (.inl a), some (.inl q), some (.inl (m 273 c - 1)), some (.inl i), some (.inl (h + 1)), none, none, none, none, none]) ⟨Or.inl rfl, ⟨Or.inl rfl, ⟨Or.inl rfl, ⟨Or.inl rfl, ⟨Or.inl rfl, ⟨Or.inl rfl, ⟨Or.inl rfl, ⟨Or.inr ⟨rfl, rfl⟩, ⟨Or.inr ⟨rfl, rfl⟩, ⟨Or.inr ⟨rfl, rfl⟩, ⟨Or.inr ⟨rfl, rfl⟩, ⟨Or.inl rfl, trivial⟩⟩⟩⟩⟩⟩⟩⟩⟩⟩⟩⟩ ?_
                  exact ih (h + 1) (by omega) (by omega)
                · refine r_iconst f108_252 rfl ?_
                  refine r_goto f108_253 (t := 257) (by decide) ?_
                  refine r_iadd f108_257 (e := zfd (zstM (MGa m c a q (i + 1)) (MJ m h)) (-1) (m 264 0)) (by omega) (by omega) (by omega) ?_
                  refine r_goto f108_258 (t := 262) (by decide) ?_
                  refine r_iast f108_262 kd282 (by omega) (by omega) (by omega) ?_
                  refine r_iinc f108_263 rfl rfl rfl (e := h + 1) (by omega) (by omega) (by omega) (ls' := [some (.inr (.inl (some 264))), some (.inl c), some (.inl a), some (.inl q), some (.inl (m 273 c - 1)), some (.inl i), some (.inl (h + 1)), some (.inl 1), some (.inl 1), some (.inl (zfd (zstM (MGa m c a q (i + 1)) (MJ m h)) (-1) (m 264 0))), some (.inl (m 264 0)), none]) rfl ?_
                  refine r_goto f108_266 (t := 23) (by decide) ?_
                  have ev : MGa m c a q i h = zfd (zstM (MGa m c a q (i + 1)) (MJ m h)) (-1) (m 264 0) := by
                    first
                      | (rw [MGa_0 (by omega)]; (repeat (first | rw [if_pos (by omega)] | rw [if_neg (by omega)])); done)
                      | (rw [MGa_s (by omega)]; (repeat (first | rw [if_pos (by omega)] | rw [if_neg (by omega)])); try omega)
                  refine r_mem (m1 := MPm m1 m c a q i (h + 1)) ((zpn_s hh (by omega) (by omega) (by omega) (by omega)).symm.trans (congrArg (fun z => zu (MPm m1 m c a q i h) 282 (h + 12 * i) z) ev)) ?_
                  refine r_forget (ls' := [some (.inr (.inl (some 264))), some (.inl c), some (.inl a), some (.inl q), some (.inl (m 273 c - 1)), some (.inl i), some (.inl (h + 1)), none, none, none, none, none]) ⟨Or.inl rfl, ⟨Or.inl rfl, ⟨Or.inl rfl, ⟨Or.inl rfl, ⟨Or.inl rfl, ⟨Or.inl rfl, ⟨Or.inl rfl, ⟨Or.inr ⟨rfl, rfl⟩, ⟨Or.inr ⟨rfl, rfl⟩, ⟨Or.inr ⟨rfl, rfl⟩, ⟨Or.inr ⟨rfl, rfl⟩, ⟨Or.inl rfl, trivial⟩⟩⟩⟩⟩⟩⟩⟩⟩⟩⟩⟩ ?_
                  exact ih (h + 1) (by omega) (by omega)
            · refine r_iconst f108_122 rfl ?_
              refine r_goto f108_123 (t := 127) (by decide) ?_
              refine r_istore f108_127 rfl (ls' := [some (.inr (.inl (some 264))), some (.inl c), some (.inl a), some (.inl q), some (.inl (m 273 c - 1)), some (.inl i), some (.inl h), some (.inl 1), some (.inl 1), some (.inl 0), none, none]) rfl ?_
              refine r_iconst f108_129 rfl ?_
              refine r_istore f108_130 rfl (ls' := [some (.inr (.inl (some 264))), some (.inl c), some (.inl a), some (.inl q), some (.inl (m 273 c - 1)), some (.inl i), some (.inl h), some (.inl 1), some (.inl 1), some (.inl 0), some (.inl 0), none]) rfl ?_
              refine r_iload f108_132 rfl ?_
              refine r_aload_n f108_134 rfl ?_
              refine r_getI f108_135 o108 F7_86 g264_0 rfl ?_
              refine r_top (e := m 264 0) (zan_f (zpn_an ha) (by omega) (by omega) (by omega) _) ?_
              refine r_cge f108_138 (t := 210) (by decide) (fun h => absurd h (by omega)) (fun _ => ?_)
              refine r_iload f108_141 rfl ?_
              refine r_iload f108_143 rfl ?_
              refine r_cge f108_145 (t := 210) (by decide) (fun _ => ?_) (fun h => absurd (by omega) h)
              refine r_aload_n f108_210 rfl ?_
              refine r_getR f108_211 o108 F7_62 g264_22 rfl ?_
              refine r_bipush f108_214 (by decide) ?_
              refine r_iload f108_216 rfl ?_
              refine r_imul f108_218 (e := 12 * i) (by omega) (by omega) (by omega) ?_
              refine r_iload f108_219 rfl ?_
              refine r_iadd f108_221 (e := h + 12 * i) (by omega) (by omega) (by omega) ?_
              refine r_iload f108_222 rfl ?_
              refine r_zeq f108_224 (t := 261) (by decide) (fun h => absurd h (by omega)) (fun _ => ?_)
              refine r_iload f108_227 rfl ?_
              refine r_iconst f108_229 rfl ?_
              refine r_ceq f108_230 (t := 261) (by decide) (fun h => absurd h (by omega)) (fun _ => ?_)
              refine r_iload f108_233 rfl ?_
              refine r_aload_n f108_235 rfl ?_
              refine r_getR f108_236 o108 F7_38 g264_14 rfl ?_
              refine r_bipush f108_239 (by decide) ?_
              refine r_iload_n f108_241 rfl ?_
              refine r_imul f108_242 (e := 7 * c) (by omega) (by omega) (by omega) ?_
              refine r_iload f108_243 rfl ?_
              refine r_iadd f108_245 (e := 7 * c + i) (by omega) (by omega) (by omega) ?_
              refine r_iald f108_246 kd274 (by omega) (by omega) ?_
              refine r_top (e := m 274 (7 * c + i)) (zan_f (zpn_an ha) (by omega) (by omega) (by omega) _) ?_
              refine r_iload f108_247 rfl ?_
              refine r_cne f108_249 (t := 256) (by decide) (fun q15 => ?_) (fun q15 => ?_)
              · refine r_iconst f108_256 rfl ?_
                refine r_iadd f108_257 (e := 1) (by omega) (by omega) (by omega) ?_
                refine r_goto f108_258 (t := 262) (by decide) ?_
                refine r_iast f108_262 kd282 (by omega) (by omega) (by omega) ?_
                refine r_iinc f108_263 rfl rfl rfl (e := h + 1) (by omega) (by omega) (by omega) (ls' := [some (.inr (.inl (some 264))), some (.inl c), some (.inl a), some (.inl q), some (.inl (m 273 c - 1)), some (.inl i), some (.inl (h + 1)), some (.inl 1), some (.inl 1), some (.inl 0), some (.inl 0), none]) rfl ?_
                refine r_goto f108_266 (t := 23) (by decide) ?_
                have ev : MGa m c a q i h = 1 := by
                  first
                    | (rw [MGa_0 (by omega)]; (repeat (first | rw [if_pos (by omega)] | rw [if_neg (by omega)])); done)
                    | (rw [MGa_s (by omega)]; (repeat (first | rw [if_pos (by omega)] | rw [if_neg (by omega)])); try omega)
                refine r_mem (m1 := MPm m1 m c a q i (h + 1)) ((zpn_s hh (by omega) (by omega) (by omega) (by omega)).symm.trans (congrArg (fun z => zu (MPm m1 m c a q i h) 282 (h + 12 * i) z) ev)) ?_
                refine r_forget (ls' := [some (.inr (.inl (some 264))), some (.inl c), some (.inl a), some (.inl q), some (.inl (m 273 c - 1)), some (.inl i), some (.inl (h + 1)), none, none, none, none, none]) ⟨Or.inl rfl, ⟨Or.inl rfl, ⟨Or.inl rfl, ⟨Or.inl rfl, ⟨Or.inl rfl, ⟨Or.inl rfl, ⟨Or.inl rfl, ⟨Or.inr ⟨rfl, rfl⟩, ⟨Or.inr ⟨rfl, rfl⟩, ⟨Or.inr ⟨rfl, rfl⟩, ⟨Or.inr ⟨rfl, rfl⟩, ⟨Or.inl rfl, trivial⟩⟩⟩⟩⟩⟩⟩⟩⟩⟩⟩⟩ ?_
                exact ih (h + 1) (by omega) (by omega)
              · refine r_iconst f108_252 rfl ?_
                refine r_goto f108_253 (t := 257) (by decide) ?_
                refine r_iadd f108_257 (e := 0) (by omega) (by omega) (by omega) ?_
                refine r_goto f108_258 (t := 262) (by decide) ?_
                refine r_iast f108_262 kd282 (by omega) (by omega) (by omega) ?_
                refine r_iinc f108_263 rfl rfl rfl (e := h + 1) (by omega) (by omega) (by omega) (ls' := [some (.inr (.inl (some 264))), some (.inl c), some (.inl a), some (.inl q), some (.inl (m 273 c - 1)), some (.inl i), some (.inl (h + 1)), some (.inl 1), some (.inl 1), some (.inl 0), some (.inl 0), none]) rfl ?_
                refine r_goto f108_266 (t := 23) (by decide) ?_
                have ev : MGa m c a q i h = 0 := by
                  first
                    | (rw [MGa_0 (by omega)]; (repeat (first | rw [if_pos (by omega)] | rw [if_neg (by omega)])); done)
                    | (rw [MGa_s (by omega)]; (repeat (first | rw [if_pos (by omega)] | rw [if_neg (by omega)])); try omega)
                refine r_mem (m1 := MPm m1 m c a q i (h + 1)) ((zpn_s hh (by omega) (by omega) (by omega) (by omega)).symm.trans (congrArg (fun z => zu (MPm m1 m c a q i h) 282 (h + 12 * i) z) ev)) ?_
                refine r_forget (ls' := [some (.inr (.inl (some 264))), some (.inl c), some (.inl a), some (.inl q), some (.inl (m 273 c - 1)), some (.inl i), some (.inl (h + 1)), none, none, none, none, none]) ⟨Or.inl rfl, ⟨Or.inl rfl, ⟨Or.inl rfl, ⟨Or.inl rfl, ⟨Or.inl rfl, ⟨Or.inl rfl, ⟨Or.inl rfl, ⟨Or.inr ⟨rfl, rfl⟩, ⟨Or.inr ⟨rfl, rfl⟩, ⟨Or.inr ⟨rfl, rfl⟩, ⟨Or.inr ⟨rfl, rfl⟩, ⟨Or.inl rfl, trivial⟩⟩⟩⟩⟩⟩⟩⟩⟩⟩⟩⟩ ?_
                exact ih (h + 1) (by omega) (by omega)
          · refine r_aload_n f108_84 rfl ?_
            refine r_iload f108_85 rfl ?_
            refine r_aload_n f108_87 rfl ?_
            refine r_getR f108_88 o108 F7_32 g264_12 rfl ?_
            refine r_iload_n f108_91 rfl ?_
            refine r_iald f108_92 kd272 (by omega) (by omega) ?_
            refine r_top (e := m 272 c) (zan_f (zpn_an ha) (by omega) (by omega) (by omega) _) ?_
            refine r_iload f108_93 rfl ?_
            refine r_iadd f108_95 (e := i + m 272 c) (by omega) (by omega) (by omega) ?_
            refine r_aload_n f108_96 rfl ?_
            refine r_getR f108_97 o108 F7_29 g264_11 rfl ?_
            refine r_iload_n f108_100 rfl ?_
            refine r_iald f108_101 kd271 (by omega) (by omega) ?_
            refine r_top (e := m 271 c) (zan_f (zpn_an ha) (by omega) (by omega) (by omega) _) ?_
            refine r_callv3i (m' := (MPm m1 m c a q i h)) f108_102 o108 M7_132 p103 o103 kd264 rfl (by simp) (t_isOpenR (zpn_an ha) hk hr (h := h) (t := i + m 272 c) (n := m 271 c) (by omega) (by omega) (by omega) (by omega)) ?_
            refine r_ite (fun q16 => ?_) (fun q16 => ?_)
            · refine r_zeq f108_105 (t := 112) (by decide) (fun h => absurd h (by omega)) (fun _ => ?_)
              refine r_iconst f108_108 rfl ?_
              refine r_goto f108_109 (t := 113) (by decide) ?_
              refine r_istore f108_113 rfl (ls' := [some (.inr (.inl (some 264))), some (.inl c), some (.inl a), some (.inl q), some (.inl (m 273 c - 1)), some (.inl i), some (.inl h), some (.inl 1), some (.inl 1), none, none, none]) rfl ?_
              refine r_iload f108_115 rfl ?_
              refine r_iload f108_117 rfl ?_
              refine r_cne f108_119 (t := 126) (by decide) (fun q17 => ?_) (fun q17 => ?_)
              · refine r_iconst f108_126 rfl ?_
                refine r_istore f108_127 rfl (ls' := [some (.inr (.inl (some 264))), some (.inl c), some (.inl a), some (.inl q), some (.inl (m 273 c - 1)), some (.inl i), some (.inl h), some (.inl 1), some (.inl 1), some (.inl (-1)), none, none]) rfl ?_
                refine r_iconst f108_129 rfl ?_
                refine r_istore f108_130 rfl (ls' := [some (.inr (.inl (some 264))), some (.inl c), some (.inl a), some (.inl q), some (.inl (m 273 c - 1)), some (.inl i), some (.inl h), some (.inl 1), some (.inl 1), some (.inl (-1)), some (.inl 0), none]) rfl ?_
                refine l_waysg ha hk hr c0 c1 l2 hw a0 a1 q0 (i := i) (h := h) (x := 1) (y := 1) (by omega) (by omega) hh (by omega) ?_ (m 264 0).toNat 0 (by omega) (by omega)
                refine r_aload_n f108_210 rfl ?_
                refine r_getR f108_211 o108 F7_62 g264_22 rfl ?_
                refine r_bipush f108_214 (by decide) ?_
                refine r_iload f108_216 rfl ?_
                refine r_imul f108_218 (e := 12 * i) (by omega) (by omega) (by omega) ?_
                refine r_iload f108_219 rfl ?_
                refine r_iadd f108_221 (e := h + 12 * i) (by omega) (by omega) (by omega) ?_
                refine r_iload f108_222 rfl ?_
                refine r_zeq f108_224 (t := 261) (by decide) (fun h => absurd h (by omega)) (fun _ => ?_)
                refine r_iload f108_227 rfl ?_
                refine r_iconst f108_229 rfl ?_
                refine r_ceq f108_230 (t := 261) (by decide) (fun q18 => ?_) (fun q18 => ?_)
                · refine r_iconst f108_261 rfl ?_
                  refine r_iast f108_262 kd282 (by omega) (by omega) (by omega) ?_
                  refine r_iinc f108_263 rfl rfl rfl (e := h + 1) (by omega) (by omega) (by omega) (ls' := [some (.inr (.inl (some 264))), some (.inl c), some (.inl a), some (.inl q), some (.inl (m 273 c - 1)), some (.inl i), some (.inl (h + 1)), some (.inl 1), some (.inl 1), some (.inl (zfd (zstM (MGa m c a q (i + 1)) (MJ m h)) (-1) (m 264 0))), some (.inl (m 264 0)), none]) rfl ?_
                  refine r_goto f108_266 (t := 23) (by decide) ?_
                  have ev : MGa m c a q i h = -1 := by
                    first
                      | (rw [MGa_0 (by omega)]; (repeat (first | rw [if_pos (by omega)] | rw [if_neg (by omega)])); done)
                      | (rw [MGa_s (by omega)]; (repeat (first | rw [if_pos (by omega)] | rw [if_neg (by omega)])); try omega)
                  refine r_mem (m1 := MPm m1 m c a q i (h + 1)) ((zpn_s hh (by omega) (by omega) (by omega) (by omega)).symm.trans (congrArg (fun z => zu (MPm m1 m c a q i h) 282 (h + 12 * i) z) ev)) ?_
                  refine r_forget (ls' := [some (.inr (.inl (some 264))), some (.inl c), some (.inl a), some (.inl q), some (.inl (m 273 c - 1)), some (.inl i), some (.inl (h + 1)), none, none, none, none, none]) ⟨Or.inl rfl, ⟨Or.inl rfl, ⟨Or.inl rfl, ⟨Or.inl rfl, ⟨Or.inl rfl, ⟨Or.inl rfl, ⟨Or.inl rfl, ⟨Or.inr ⟨rfl, rfl⟩, ⟨Or.inr ⟨rfl, rfl⟩, ⟨Or.inr ⟨rfl, rfl⟩, ⟨Or.inr ⟨rfl, rfl⟩, ⟨Or.inl rfl, trivial⟩⟩⟩⟩⟩⟩⟩⟩⟩⟩⟩⟩ ?_
                  exact ih (h + 1) (by omega) (by omega)
                · refine r_iload f108_233 rfl ?_
                  refine r_aload_n f108_235 rfl ?_
                  refine r_getR f108_236 o108 F7_38 g264_14 rfl ?_
                  refine r_bipush f108_239 (by decide) ?_
                  refine r_iload_n f108_241 rfl ?_
                  refine r_imul f108_242 (e := 7 * c) (by omega) (by omega) (by omega) ?_
                  refine r_iload f108_243 rfl ?_
                  refine r_iadd f108_245 (e := 7 * c + i) (by omega) (by omega) (by omega) ?_
                  refine r_iald f108_246 kd274 (by omega) (by omega) ?_
                  refine r_top (e := m 274 (7 * c + i)) (zan_f (zpn_an ha) (by omega) (by omega) (by omega) _) ?_
                  refine r_iload f108_247 rfl ?_
                  refine r_cne f108_249 (t := 256) (by decide) (fun q19 => ?_) (fun q19 => ?_)
                  · refine r_iconst f108_256 rfl ?_
                    refine r_iadd f108_257 (e := zfd (zstM (MGa m c a q (i + 1)) (MJ m h)) (-1) (m 264 0) + 1) (by omega) (by omega) (by omega) ?_
                    refine r_goto f108_258 (t := 262) (by decide) ?_
                    refine r_iast f108_262 kd282 (by omega) (by omega) (by omega) ?_
                    refine r_iinc f108_263 rfl rfl rfl (e := h + 1) (by omega) (by omega) (by omega) (ls' := [some (.inr (.inl (some 264))), some (.inl c), some (.inl a), some (.inl q), some (.inl (m 273 c - 1)), some (.inl i), some (.inl (h + 1)), some (.inl 1), some (.inl 1), some (.inl (zfd (zstM (MGa m c a q (i + 1)) (MJ m h)) (-1) (m 264 0))), some (.inl (m 264 0)), none]) rfl ?_
                    refine r_goto f108_266 (t := 23) (by decide) ?_
                    have ev : MGa m c a q i h = zfd (zstM (MGa m c a q (i + 1)) (MJ m h)) (-1) (m 264 0) + 1 := by
                      first
                        | (rw [MGa_0 (by omega)]; (repeat (first | rw [if_pos (by omega)] | rw [if_neg (by omega)])); done)
                        | (rw [MGa_s (by omega)]; (repeat (first | rw [if_pos (by omega)] | rw [if_neg (by omega)])); try omega)
                    refine r_mem (m1 := MPm m1 m c a q i (h + 1)) ((zpn_s hh (by omega) (by omega) (by omega) (by omega)).symm.trans (congrArg (fun z => zu (MPm m1 m c a q i h) 282 (h + 12 * i) z) ev)) ?_
                    refine r_forget (ls' := [some (.inr (.inl (some 264))), some (.inl c), some (.inl a), some (.inl q), some (.inl (m 273 c - 1)), some (.inl i), some (.inl (h + 1)), none, none, none, none, none]) ⟨Or.inl rfl, ⟨Or.inl rfl, ⟨Or.inl rfl, ⟨Or.inl rfl, ⟨Or.inl rfl, ⟨Or.inl rfl, ⟨Or.inl rfl, ⟨Or.inr ⟨rfl, rfl⟩, ⟨Or.inr ⟨rfl, rfl⟩, ⟨Or.inr ⟨rfl, rfl⟩, ⟨Or.inr ⟨rfl, rfl⟩, ⟨Or.inl rfl, trivial⟩⟩⟩⟩⟩⟩⟩⟩⟩⟩⟩⟩ ?_
                    exact ih (h + 1) (by omega) (by omega)
                  · refine r_iconst f108_252 rfl ?_
                    refine r_goto f108_253 (t := 257) (by decide) ?_
                    refine r_iadd f108_257 (e := zfd (zstM (MGa m c a q (i + 1)) (MJ m h)) (-1) (m 264 0)) (by omega) (by omega) (by omega) ?_
                    refine r_goto f108_258 (t := 262) (by decide) ?_
                    refine r_iast f108_262 kd282 (by omega) (by omega) (by omega) ?_
                    refine r_iinc f108_263 rfl rfl rfl (e := h + 1) (by omega) (by omega) (by omega) (ls' := [some (.inr (.inl (some 264))), some (.inl c), some (.inl a), some (.inl q), some (.inl (m 273 c - 1)), some (.inl i), some (.inl (h + 1)), some (.inl 1), some (.inl 1), some (.inl (zfd (zstM (MGa m c a q (i + 1)) (MJ m h)) (-1) (m 264 0))), some (.inl (m 264 0)), none]) rfl ?_
                    refine r_goto f108_266 (t := 23) (by decide) ?_
                    have ev : MGa m c a q i h = zfd (zstM (MGa m c a q (i + 1)) (MJ m h)) (-1) (m 264 0) := by
                      first
                        | (rw [MGa_0 (by omega)]; (repeat (first | rw [if_pos (by omega)] | rw [if_neg (by omega)])); done)
                        | (rw [MGa_s (by omega)]; (repeat (first | rw [if_pos (by omega)] | rw [if_neg (by omega)])); try omega)
                    refine r_mem (m1 := MPm m1 m c a q i (h + 1)) ((zpn_s hh (by omega) (by omega) (by omega) (by omega)).symm.trans (congrArg (fun z => zu (MPm m1 m c a q i h) 282 (h + 12 * i) z) ev)) ?_
                    refine r_forget (ls' := [some (.inr (.inl (some 264))), some (.inl c), some (.inl a), some (.inl q), some (.inl (m 273 c - 1)), some (.inl i), some (.inl (h + 1)), none, none, none, none, none]) ⟨Or.inl rfl, ⟨Or.inl rfl, ⟨Or.inl rfl, ⟨Or.inl rfl, ⟨Or.inl rfl, ⟨Or.inl rfl, ⟨Or.inl rfl, ⟨Or.inr ⟨rfl, rfl⟩, ⟨Or.inr ⟨rfl, rfl⟩, ⟨Or.inr ⟨rfl, rfl⟩, ⟨Or.inr ⟨rfl, rfl⟩, ⟨Or.inl rfl, trivial⟩⟩⟩⟩⟩⟩⟩⟩⟩⟩⟩⟩ ?_
                    exact ih (h + 1) (by omega) (by omega)
              · refine r_iconst f108_122 rfl ?_
                refine r_goto f108_123 (t := 127) (by decide) ?_
                refine r_istore f108_127 rfl (ls' := [some (.inr (.inl (some 264))), some (.inl c), some (.inl a), some (.inl q), some (.inl (m 273 c - 1)), some (.inl i), some (.inl h), some (.inl 1), some (.inl 1), some (.inl 0), none, none]) rfl ?_
                refine r_iconst f108_129 rfl ?_
                refine r_istore f108_130 rfl (ls' := [some (.inr (.inl (some 264))), some (.inl c), some (.inl a), some (.inl q), some (.inl (m 273 c - 1)), some (.inl i), some (.inl h), some (.inl 1), some (.inl 1), some (.inl 0), some (.inl 0), none]) rfl ?_
                refine r_iload f108_132 rfl ?_
                refine r_aload_n f108_134 rfl ?_
                refine r_getI f108_135 o108 F7_86 g264_0 rfl ?_
                refine r_top (e := m 264 0) (zan_f (zpn_an ha) (by omega) (by omega) (by omega) _) ?_
                refine r_cge f108_138 (t := 210) (by decide) (fun h => absurd h (by omega)) (fun _ => ?_)
                refine r_iload f108_141 rfl ?_
                refine r_iload f108_143 rfl ?_
                refine r_cge f108_145 (t := 210) (by decide) (fun _ => ?_) (fun h => absurd (by omega) h)
                refine r_aload_n f108_210 rfl ?_
                refine r_getR f108_211 o108 F7_62 g264_22 rfl ?_
                refine r_bipush f108_214 (by decide) ?_
                refine r_iload f108_216 rfl ?_
                refine r_imul f108_218 (e := 12 * i) (by omega) (by omega) (by omega) ?_
                refine r_iload f108_219 rfl ?_
                refine r_iadd f108_221 (e := h + 12 * i) (by omega) (by omega) (by omega) ?_
                refine r_iload f108_222 rfl ?_
                refine r_zeq f108_224 (t := 261) (by decide) (fun h => absurd h (by omega)) (fun _ => ?_)
                refine r_iload f108_227 rfl ?_
                refine r_iconst f108_229 rfl ?_
                refine r_ceq f108_230 (t := 261) (by decide) (fun h => absurd h (by omega)) (fun _ => ?_)
                refine r_iload f108_233 rfl ?_
                refine r_aload_n f108_235 rfl ?_
                refine r_getR f108_236 o108 F7_38 g264_14 rfl ?_
                refine r_bipush f108_239 (by decide) ?_
                refine r_iload_n f108_241 rfl ?_
                refine r_imul f108_242 (e := 7 * c) (by omega) (by omega) (by omega) ?_
                refine r_iload f108_243 rfl ?_
                refine r_iadd f108_245 (e := 7 * c + i) (by omega) (by omega) (by omega) ?_
                refine r_iald f108_246 kd274 (by omega) (by omega) ?_
                refine r_top (e := m 274 (7 * c + i)) (zan_f (zpn_an ha) (by omega) (by omega) (by omega) _) ?_
                refine r_iload f108_247 rfl ?_
                refine r_cne f108_249 (t := 256) (by decide) (fun q20 => ?_) (fun q20 => ?_)
                · refine r_iconst f108_256 rfl ?_
                  refine r_iadd f108_257 (e := 1) (by omega) (by omega) (by omega) ?_
                  refine r_goto f108_258 (t := 262) (by decide) ?_
                  refine r_iast f108_262 kd282 (by omega) (by omega) (by omega) ?_
                  refine r_iinc f108_263 rfl rfl rfl (e := h + 1) (by omega) (by omega) (by omega) (ls' := [some (.inr (.inl (some 264))), some (.inl c), some (.inl a), some (.inl q), some (.inl (m 273 c - 1)), some (.inl i), some (.inl (h + 1)), some (.inl 1), some (.inl 1), some (.inl 0), some (.inl 0), none]) rfl ?_
                  refine r_goto f108_266 (t := 23) (by decide) ?_
                  have ev : MGa m c a q i h = 1 := by
                    first
                      | (rw [MGa_0 (by omega)]; (repeat (first | rw [if_pos (by omega)] | rw [if_neg (by omega)])); done)
                      | (rw [MGa_s (by omega)]; (repeat (first | rw [if_pos (by omega)] | rw [if_neg (by omega)])); try omega)
                  refine r_mem (m1 := MPm m1 m c a q i (h + 1)) ((zpn_s hh (by omega) (by omega) (by omega) (by omega)).symm.trans (congrArg (fun z => zu (MPm m1 m c a q i h) 282 (h + 12 * i) z) ev)) ?_
                  refine r_forget (ls' := [some (.inr (.inl (some 264))), some (.inl c), some (.inl a), some (.inl q), some (.inl (m 273 c - 1)), some (.inl i), some (.inl (h + 1)), none, none, none, none, none]) ⟨Or.inl rfl, ⟨Or.inl rfl, ⟨Or.inl rfl, ⟨Or.inl rfl, ⟨Or.inl rfl, ⟨Or.inl rfl, ⟨Or.inl rfl, ⟨Or.inr ⟨rfl, rfl⟩, ⟨Or.inr ⟨rfl, rfl⟩, ⟨Or.inr ⟨rfl, rfl⟩, ⟨Or.inr ⟨rfl, rfl⟩, ⟨Or.inl rfl, trivial⟩⟩⟩⟩⟩⟩⟩⟩⟩⟩⟩⟩ ?_
                  exact ih (h + 1) (by omega) (by omega)
                · refine r_iconst f108_252 rfl ?_
                  refine r_goto f108_253 (t := 257) (by decide) ?_
                  refine r_iadd f108_257 (e := 0) (by omega) (by omega) (by omega) ?_
                  refine r_goto f108_258 (t := 262) (by decide) ?_
                  refine r_iast f108_262 kd282 (by omega) (by omega) (by omega) ?_
                  refine r_iinc f108_263 rfl rfl rfl (e := h + 1) (by omega) (by omega) (by omega) (ls' := [some (.inr (.inl (some 264))), some (.inl c), some (.inl a), some (.inl q), some (.inl (m 273 c - 1)), some (.inl i), some (.inl (h + 1)), some (.inl 1), some (.inl 1), some (.inl 0), some (.inl 0), none]) rfl ?_
                  refine r_goto f108_266 (t := 23) (by decide) ?_
                  have ev : MGa m c a q i h = 0 := by
                    first
                      | (rw [MGa_0 (by omega)]; (repeat (first | rw [if_pos (by omega)] | rw [if_neg (by omega)])); done)
                      | (rw [MGa_s (by omega)]; (repeat (first | rw [if_pos (by omega)] | rw [if_neg (by omega)])); try omega)
                  refine r_mem (m1 := MPm m1 m c a q i (h + 1)) ((zpn_s hh (by omega) (by omega) (by omega) (by omega)).symm.trans (congrArg (fun z => zu (MPm m1 m c a q i h) 282 (h + 12 * i) z) ev)) ?_
                  refine r_forget (ls' := [some (.inr (.inl (some 264))), some (.inl c), some (.inl a), some (.inl q), some (.inl (m 273 c - 1)), some (.inl i), some (.inl (h + 1)), none, none, none, none, none]) ⟨Or.inl rfl, ⟨Or.inl rfl, ⟨Or.inl rfl, ⟨Or.inl rfl, ⟨Or.inl rfl, ⟨Or.inl rfl, ⟨Or.inl rfl, ⟨Or.inr ⟨rfl, rfl⟩, ⟨Or.inr ⟨rfl, rfl⟩, ⟨Or.inr ⟨rfl, rfl⟩, ⟨Or.inr ⟨rfl, rfl⟩, ⟨Or.inl rfl, trivial⟩⟩⟩⟩⟩⟩⟩⟩⟩⟩⟩⟩ ?_
                  exact ih (h + 1) (by omega) (by omega)
            · refine r_zeq f108_105 (t := 112) (by decide) (fun _ => ?_) (fun h => absurd (by omega) h)
              refine r_iconst f108_112 rfl ?_
              refine r_istore f108_113 rfl (ls' := [some (.inr (.inl (some 264))), some (.inl c), some (.inl a), some (.inl q), some (.inl (m 273 c - 1)), some (.inl i), some (.inl h), some (.inl 1), some (.inl 0), none, none, none]) rfl ?_
              refine r_iload f108_115 rfl ?_
              refine r_iload f108_117 rfl ?_
              refine r_cne f108_119 (t := 126) (by decide) (fun q21 => ?_) (fun q21 => ?_)
              · refine r_iconst f108_126 rfl ?_
                refine r_istore f108_127 rfl (ls' := [some (.inr (.inl (some 264))), some (.inl c), some (.inl a), some (.inl q), some (.inl (m 273 c - 1)), some (.inl i), some (.inl h), some (.inl 1), some (.inl 0), some (.inl (-1)), none, none]) rfl ?_
                refine r_iconst f108_129 rfl ?_
                refine r_istore f108_130 rfl (ls' := [some (.inr (.inl (some 264))), some (.inl c), some (.inl a), some (.inl q), some (.inl (m 273 c - 1)), some (.inl i), some (.inl h), some (.inl 1), some (.inl 0), some (.inl (-1)), some (.inl 0), none]) rfl ?_
                refine l_waysg ha hk hr c0 c1 l2 hw a0 a1 q0 (i := i) (h := h) (x := 1) (y := 0) (by omega) (by omega) hh (by omega) ?_ (m 264 0).toNat 0 (by omega) (by omega)
                refine r_aload_n f108_210 rfl ?_
                refine r_getR f108_211 o108 F7_62 g264_22 rfl ?_
                refine r_bipush f108_214 (by decide) ?_
                refine r_iload f108_216 rfl ?_
                refine r_imul f108_218 (e := 12 * i) (by omega) (by omega) (by omega) ?_
                refine r_iload f108_219 rfl ?_
                refine r_iadd f108_221 (e := h + 12 * i) (by omega) (by omega) (by omega) ?_
                refine r_iload f108_222 rfl ?_
                refine r_zeq f108_224 (t := 261) (by decide) (fun _ => ?_) (fun h => absurd (by omega) h)
                refine r_iconst f108_261 rfl ?_
                refine r_iast f108_262 kd282 (by omega) (by omega) (by omega) ?_
                refine r_iinc f108_263 rfl rfl rfl (e := h + 1) (by omega) (by omega) (by omega) (ls' := [some (.inr (.inl (some 264))), some (.inl c), some (.inl a), some (.inl q), some (.inl (m 273 c - 1)), some (.inl i), some (.inl (h + 1)), some (.inl 1), some (.inl 0), some (.inl (zfd (zstM (MGa m c a q (i + 1)) (MJ m h)) (-1) (m 264 0))), some (.inl (m 264 0)), none]) rfl ?_
                refine r_goto f108_266 (t := 23) (by decide) ?_
                have ev : MGa m c a q i h = -1 := by
                  first
                    | (rw [MGa_0 (by omega)]; (repeat (first | rw [if_pos (by omega)] | rw [if_neg (by omega)])); done)
                    | (rw [MGa_s (by omega)]; (repeat (first | rw [if_pos (by omega)] | rw [if_neg (by omega)])); try omega)
                refine r_mem (m1 := MPm m1 m c a q i (h + 1)) ((zpn_s hh (by omega) (by omega) (by omega) (by omega)).symm.trans (congrArg (fun z => zu (MPm m1 m c a q i h) 282 (h + 12 * i) z) ev)) ?_
                refine r_forget (ls' := [some (.inr (.inl (some 264))), some (.inl c), some (.inl a), some (.inl q), some (.inl (m 273 c - 1)), some (.inl i), some (.inl (h + 1)), none, none, none, none, none]) ⟨Or.inl rfl, ⟨Or.inl rfl, ⟨Or.inl rfl, ⟨Or.inl rfl, ⟨Or.inl rfl, ⟨Or.inl rfl, ⟨Or.inl rfl, ⟨Or.inr ⟨rfl, rfl⟩, ⟨Or.inr ⟨rfl, rfl⟩, ⟨Or.inr ⟨rfl, rfl⟩, ⟨Or.inr ⟨rfl, rfl⟩, ⟨Or.inl rfl, trivial⟩⟩⟩⟩⟩⟩⟩⟩⟩⟩⟩⟩ ?_
                exact ih (h + 1) (by omega) (by omega)
              · refine r_iconst f108_122 rfl ?_
                refine r_goto f108_123 (t := 127) (by decide) ?_
                refine r_istore f108_127 rfl (ls' := [some (.inr (.inl (some 264))), some (.inl c), some (.inl a), some (.inl q), some (.inl (m 273 c - 1)), some (.inl i), some (.inl h), some (.inl 1), some (.inl 0), some (.inl 0), none, none]) rfl ?_
                refine r_iconst f108_129 rfl ?_
                refine r_istore f108_130 rfl (ls' := [some (.inr (.inl (some 264))), some (.inl c), some (.inl a), some (.inl q), some (.inl (m 273 c - 1)), some (.inl i), some (.inl h), some (.inl 1), some (.inl 0), some (.inl 0), some (.inl 0), none]) rfl ?_
                refine r_iload f108_132 rfl ?_
                refine r_aload_n f108_134 rfl ?_
                refine r_getI f108_135 o108 F7_86 g264_0 rfl ?_
                refine r_top (e := m 264 0) (zan_f (zpn_an ha) (by omega) (by omega) (by omega) _) ?_
                refine r_cge f108_138 (t := 210) (by decide) (fun h => absurd h (by omega)) (fun _ => ?_)
                refine r_iload f108_141 rfl ?_
                refine r_iload f108_143 rfl ?_
                refine r_cge f108_145 (t := 210) (by decide) (fun _ => ?_) (fun h => absurd (by omega) h)
                refine r_aload_n f108_210 rfl ?_
                refine r_getR f108_211 o108 F7_62 g264_22 rfl ?_
                refine r_bipush f108_214 (by decide) ?_
                refine r_iload f108_216 rfl ?_
                refine r_imul f108_218 (e := 12 * i) (by omega) (by omega) (by omega) ?_
                refine r_iload f108_219 rfl ?_
                refine r_iadd f108_221 (e := h + 12 * i) (by omega) (by omega) (by omega) ?_
                refine r_iload f108_222 rfl ?_
                refine r_zeq f108_224 (t := 261) (by decide) (fun _ => ?_) (fun h => absurd (by omega) h)
                refine r_iconst f108_261 rfl ?_
                refine r_iast f108_262 kd282 (by omega) (by omega) (by omega) ?_
                refine r_iinc f108_263 rfl rfl rfl (e := h + 1) (by omega) (by omega) (by omega) (ls' := [some (.inr (.inl (some 264))), some (.inl c), some (.inl a), some (.inl q), some (.inl (m 273 c - 1)), some (.inl i), some (.inl (h + 1)), some (.inl 1), some (.inl 0), some (.inl 0), some (.inl 0), none]) rfl ?_
                refine r_goto f108_266 (t := 23) (by decide) ?_
                have ev : MGa m c a q i h = -1 := by
                  first
                    | (rw [MGa_0 (by omega)]; (repeat (first | rw [if_pos (by omega)] | rw [if_neg (by omega)])); done)
                    | (rw [MGa_s (by omega)]; (repeat (first | rw [if_pos (by omega)] | rw [if_neg (by omega)])); try omega)
                refine r_mem (m1 := MPm m1 m c a q i (h + 1)) ((zpn_s hh (by omega) (by omega) (by omega) (by omega)).symm.trans (congrArg (fun z => zu (MPm m1 m c a q i h) 282 (h + 12 * i) z) ev)) ?_
                refine r_forget (ls' := [some (.inr (.inl (some 264))), some (.inl c), some (.inl a), some (.inl q), some (.inl (m 273 c - 1)), some (.inl i), some (.inl (h + 1)), none, none, none, none, none]) ⟨Or.inl rfl, ⟨Or.inl rfl, ⟨Or.inl rfl, ⟨Or.inl rfl, ⟨Or.inl rfl, ⟨Or.inl rfl, ⟨Or.inl rfl, ⟨Or.inr ⟨rfl, rfl⟩, ⟨Or.inr ⟨rfl, rfl⟩, ⟨Or.inr ⟨rfl, rfl⟩, ⟨Or.inr ⟨rfl, rfl⟩, ⟨Or.inl rfl, trivial⟩⟩⟩⟩⟩⟩⟩⟩⟩⟩⟩⟩ ?_
                exact ih (h + 1) (by omega) (by omega)
    · refine r_iload f108_38 rfl ?_
      refine r_iload f108_40 rfl ?_
      refine r_cne f108_42 (t := 49) (by decide) (fun q22 => ?_) (fun q22 => ?_)
      · refine r_iconst f108_49 rfl ?_
        refine r_istore f108_50 rfl (ls' := [some (.inr (.inl (some 264))), some (.inl c), some (.inl a), some (.inl q), some (.inl (m 273 c - 1)), some (.inl i), some (.inl h), some (.inl 0), none, none, none, none]) rfl ?_
        refine r_iload f108_52 rfl ?_
        refine r_zeq f108_54 (t := 74) (by decide) (fun _ => ?_) (fun h => absurd (by omega) h)
        refine r_iload f108_74 rfl ?_
        refine r_iload_n f108_76 rfl ?_
        refine r_cne f108_77 (t := 84) (by decide) (fun q23 => ?_) (fun q23 => ?_)
        · refine r_aload_n f108_84 rfl ?_
          refine r_iload f108_85 rfl ?_
          refine r_aload_n f108_87 rfl ?_
          refine r_getR f108_88 o108 F7_32 g264_12 rfl ?_
          refine r_iload_n f108_91 rfl ?_
          refine r_iald f108_92 kd272 (by omega) (by omega) ?_
          refine r_top (e := m 272 c) (zan_f (zpn_an ha) (by omega) (by omega) (by omega) _) ?_
          refine r_iload f108_93 rfl ?_
          refine r_iadd f108_95 (e := i + m 272 c) (by omega) (by omega) (by omega) ?_
          refine r_aload_n f108_96 rfl ?_
          refine r_getR f108_97 o108 F7_29 g264_11 rfl ?_
          refine r_iload_n f108_100 rfl ?_
          refine r_iald f108_101 kd271 (by omega) (by omega) ?_
          refine r_top (e := m 271 c) (zan_f (zpn_an ha) (by omega) (by omega) (by omega) _) ?_
          refine r_callv3i (m' := (MPm m1 m c a q i h)) f108_102 o108 M7_132 p103 o103 kd264 rfl (by simp) (t_isOpenR (zpn_an ha) hk hr (h := h) (t := i + m 272 c) (n := m 271 c) (by omega) (by omega) (by omega) (by omega)) ?_
          refine r_ite (fun q24 => ?_) (fun q24 => ?_)
          · refine r_zeq f108_105 (t := 112) (by decide) (fun h => absurd h (by omega)) (fun _ => ?_)
            refine r_iconst f108_108 rfl ?_
            refine r_goto f108_109 (t := 113) (by decide) ?_
            refine r_istore f108_113 rfl (ls' := [some (.inr (.inl (some 264))), some (.inl c), some (.inl a), some (.inl q), some (.inl (m 273 c - 1)), some (.inl i), some (.inl h), some (.inl 0), some (.inl 1), none, none, none]) rfl ?_
            refine r_iload f108_115 rfl ?_
            refine r_iload f108_117 rfl ?_
            refine r_cne f108_119 (t := 126) (by decide) (fun q25 => ?_) (fun q25 => ?_)
            · refine r_iconst f108_126 rfl ?_
              refine r_istore f108_127 rfl (ls' := [some (.inr (.inl (some 264))), some (.inl c), some (.inl a), some (.inl q), some (.inl (m 273 c - 1)), some (.inl i), some (.inl h), some (.inl 0), some (.inl 1), some (.inl (-1)), none, none]) rfl ?_
              refine r_iconst f108_129 rfl ?_
              refine r_istore f108_130 rfl (ls' := [some (.inr (.inl (some 264))), some (.inl c), some (.inl a), some (.inl q), some (.inl (m 273 c - 1)), some (.inl i), some (.inl h), some (.inl 0), some (.inl 1), some (.inl (-1)), some (.inl 0), none]) rfl ?_
              refine l_waysg ha hk hr c0 c1 l2 hw a0 a1 q0 (i := i) (h := h) (x := 0) (y := 1) (by omega) (by omega) hh (by omega) ?_ (m 264 0).toNat 0 (by omega) (by omega)
              refine r_aload_n f108_210 rfl ?_
              refine r_getR f108_211 o108 F7_62 g264_22 rfl ?_
              refine r_bipush f108_214 (by decide) ?_
              refine r_iload f108_216 rfl ?_
              refine r_imul f108_218 (e := 12 * i) (by omega) (by omega) (by omega) ?_
              refine r_iload f108_219 rfl ?_
              refine r_iadd f108_221 (e := h + 12 * i) (by omega) (by omega) (by omega) ?_
              refine r_iload f108_222 rfl ?_
              refine r_zeq f108_224 (t := 261) (by decide) (fun h => absurd h (by omega)) (fun _ => ?_)
              refine r_iload f108_227 rfl ?_
              refine r_iconst f108_229 rfl ?_
              refine r_ceq f108_230 (t := 261) (by decide) (fun q26 => ?_) (fun q26 => ?_)
              · refine r_iconst f108_261 rfl ?_
                refine r_iast f108_262 kd282 (by omega) (by omega) (by omega) ?_
                refine r_iinc f108_263 rfl rfl rfl (e := h + 1) (by omega) (by omega) (by omega) (ls' := [some (.inr (.inl (some 264))), some (.inl c), some (.inl a), some (.inl q), some (.inl (m 273 c - 1)), some (.inl i), some (.inl (h + 1)), some (.inl 0), some (.inl 1), some (.inl (zfd (zstM (MGa m c a q (i + 1)) (MJ m h)) (-1) (m 264 0))), some (.inl (m 264 0)), none]) rfl ?_
                refine r_goto f108_266 (t := 23) (by decide) ?_
                have ev : MGa m c a q i h = -1 := by
                  first
                    | (rw [MGa_0 (by omega)]; (repeat (first | rw [if_pos (by omega)] | rw [if_neg (by omega)])); done)
                    | (rw [MGa_s (by omega)]; (repeat (first | rw [if_pos (by omega)] | rw [if_neg (by omega)])); try omega)
                refine r_mem (m1 := MPm m1 m c a q i (h + 1)) ((zpn_s hh (by omega) (by omega) (by omega) (by omega)).symm.trans (congrArg (fun z => zu (MPm m1 m c a q i h) 282 (h + 12 * i) z) ev)) ?_
                refine r_forget (ls' := [some (.inr (.inl (some 264))), some (.inl c), some (.inl a), some (.inl q), some (.inl (m 273 c - 1)), some (.inl i), some (.inl (h + 1)), none, none, none, none, none]) ⟨Or.inl rfl, ⟨Or.inl rfl, ⟨Or.inl rfl, ⟨Or.inl rfl, ⟨Or.inl rfl, ⟨Or.inl rfl, ⟨Or.inl rfl, ⟨Or.inr ⟨rfl, rfl⟩, ⟨Or.inr ⟨rfl, rfl⟩, ⟨Or.inr ⟨rfl, rfl⟩, ⟨Or.inr ⟨rfl, rfl⟩, ⟨Or.inl rfl, trivial⟩⟩⟩⟩⟩⟩⟩⟩⟩⟩⟩⟩ ?_
                exact ih (h + 1) (by omega) (by omega)
              · refine r_iload f108_233 rfl ?_
                refine r_aload_n f108_235 rfl ?_
                refine r_getR f108_236 o108 F7_38 g264_14 rfl ?_
                refine r_bipush f108_239 (by decide) ?_
                refine r_iload_n f108_241 rfl ?_
                refine r_imul f108_242 (e := 7 * c) (by omega) (by omega) (by omega) ?_
                refine r_iload f108_243 rfl ?_
                refine r_iadd f108_245 (e := 7 * c + i) (by omega) (by omega) (by omega) ?_
                refine r_iald f108_246 kd274 (by omega) (by omega) ?_
                refine r_top (e := m 274 (7 * c + i)) (zan_f (zpn_an ha) (by omega) (by omega) (by omega) _) ?_
                refine r_iload f108_247 rfl ?_
                refine r_cne f108_249 (t := 256) (by decide) (fun q27 => ?_) (fun q27 => ?_)
                · refine r_iconst f108_256 rfl ?_
                  refine r_iadd f108_257 (e := zfd (zstM (MGa m c a q (i + 1)) (MJ m h)) (-1) (m 264 0) + 1) (by omega) (by omega) (by omega) ?_
                  refine r_goto f108_258 (t := 262) (by decide) ?_
                  refine r_iast f108_262 kd282 (by omega) (by omega) (by omega) ?_
                  refine r_iinc f108_263 rfl rfl rfl (e := h + 1) (by omega) (by omega) (by omega) (ls' := [some (.inr (.inl (some 264))), some (.inl c), some (.inl a), some (.inl q), some (.inl (m 273 c - 1)), some (.inl i), some (.inl (h + 1)), some (.inl 0), some (.inl 1), some (.inl (zfd (zstM (MGa m c a q (i + 1)) (MJ m h)) (-1) (m 264 0))), some (.inl (m 264 0)), none]) rfl ?_
                  refine r_goto f108_266 (t := 23) (by decide) ?_
                  have ev : MGa m c a q i h = zfd (zstM (MGa m c a q (i + 1)) (MJ m h)) (-1) (m 264 0) + 1 := by
                    first
                      | (rw [MGa_0 (by omega)]; (repeat (first | rw [if_pos (by omega)] | rw [if_neg (by omega)])); done)
                      | (rw [MGa_s (by omega)]; (repeat (first | rw [if_pos (by omega)] | rw [if_neg (by omega)])); try omega)
                  refine r_mem (m1 := MPm m1 m c a q i (h + 1)) ((zpn_s hh (by omega) (by omega) (by omega) (by omega)).symm.trans (congrArg (fun z => zu (MPm m1 m c a q i h) 282 (h + 12 * i) z) ev)) ?_
                  refine r_forget (ls' := [some (.inr (.inl (some 264))), some (.inl c), some (.inl a), some (.inl q), some (.inl (m 273 c - 1)), some (.inl i), some (.inl (h + 1)), none, none, none, none, none]) ⟨Or.inl rfl, ⟨Or.inl rfl, ⟨Or.inl rfl, ⟨Or.inl rfl, ⟨Or.inl rfl, ⟨Or.inl rfl, ⟨Or.inl rfl, ⟨Or.inr ⟨rfl, rfl⟩, ⟨Or.inr ⟨rfl, rfl⟩, ⟨Or.inr ⟨rfl, rfl⟩, ⟨Or.inr ⟨rfl, rfl⟩, ⟨Or.inl rfl, trivial⟩⟩⟩⟩⟩⟩⟩⟩⟩⟩⟩⟩ ?_
                  exact ih (h + 1) (by omega) (by omega)
                · refine r_iconst f108_252 rfl ?_
                  refine r_goto f108_253 (t := 257) (by decide) ?_
                  refine r_iadd f108_257 (e := zfd (zstM (MGa m c a q (i + 1)) (MJ m h)) (-1) (m 264 0)) (by omega) (by omega) (by omega) ?_
                  refine r_goto f108_258 (t := 262) (by decide) ?_
                  refine r_iast f108_262 kd282 (by omega) (by omega) (by omega) ?_
                  refine r_iinc f108_263 rfl rfl rfl (e := h + 1) (by omega) (by omega) (by omega) (ls' := [some (.inr (.inl (some 264))), some (.inl c), some (.inl a), some (.inl q), some (.inl (m 273 c - 1)), some (.inl i), some (.inl (h + 1)), some (.inl 0), some (.inl 1), some (.inl (zfd (zstM (MGa m c a q (i + 1)) (MJ m h)) (-1) (m 264 0))), some (.inl (m 264 0)), none]) rfl ?_
                  refine r_goto f108_266 (t := 23) (by decide) ?_
                  have ev : MGa m c a q i h = zfd (zstM (MGa m c a q (i + 1)) (MJ m h)) (-1) (m 264 0) := by
                    first
                      | (rw [MGa_0 (by omega)]; (repeat (first | rw [if_pos (by omega)] | rw [if_neg (by omega)])); done)
                      | (rw [MGa_s (by omega)]; (repeat (first | rw [if_pos (by omega)] | rw [if_neg (by omega)])); try omega)
                  refine r_mem (m1 := MPm m1 m c a q i (h + 1)) ((zpn_s hh (by omega) (by omega) (by omega) (by omega)).symm.trans (congrArg (fun z => zu (MPm m1 m c a q i h) 282 (h + 12 * i) z) ev)) ?_
                  refine r_forget (ls' := [some (.inr (.inl (some 264))), some (.inl c), some (.inl a), some (.inl q), some (.inl (m 273 c - 1)), some (.inl i), some (.inl (h + 1)), none, none, none, none, none]) ⟨Or.inl rfl, ⟨Or.inl rfl, ⟨Or.inl rfl, ⟨Or.inl rfl, ⟨Or.inl rfl, ⟨Or.inl rfl, ⟨Or.inl rfl, ⟨Or.inr ⟨rfl, rfl⟩, ⟨Or.inr ⟨rfl, rfl⟩, ⟨Or.inr ⟨rfl, rfl⟩, ⟨Or.inr ⟨rfl, rfl⟩, ⟨Or.inl rfl, trivial⟩⟩⟩⟩⟩⟩⟩⟩⟩⟩⟩⟩ ?_
                  exact ih (h + 1) (by omega) (by omega)
            · refine r_iconst f108_122 rfl ?_
              refine r_goto f108_123 (t := 127) (by decide) ?_
              refine r_istore f108_127 rfl (ls' := [some (.inr (.inl (some 264))), some (.inl c), some (.inl a), some (.inl q), some (.inl (m 273 c - 1)), some (.inl i), some (.inl h), some (.inl 0), some (.inl 1), some (.inl 0), none, none]) rfl ?_
              refine r_iconst f108_129 rfl ?_
              refine r_istore f108_130 rfl (ls' := [some (.inr (.inl (some 264))), some (.inl c), some (.inl a), some (.inl q), some (.inl (m 273 c - 1)), some (.inl i), some (.inl h), some (.inl 0), some (.inl 1), some (.inl 0), some (.inl 0), none]) rfl ?_
              refine r_iload f108_132 rfl ?_
              refine r_aload_n f108_134 rfl ?_
              refine r_getI f108_135 o108 F7_86 g264_0 rfl ?_
              refine r_top (e := m 264 0) (zan_f (zpn_an ha) (by omega) (by omega) (by omega) _) ?_
              refine r_cge f108_138 (t := 210) (by decide) (fun h => absurd h (by omega)) (fun _ => ?_)
              refine r_iload f108_141 rfl ?_
              refine r_iload f108_143 rfl ?_
              refine r_cge f108_145 (t := 210) (by decide) (fun _ => ?_) (fun h => absurd (by omega) h)
              refine r_aload_n f108_210 rfl ?_
              refine r_getR f108_211 o108 F7_62 g264_22 rfl ?_
              refine r_bipush f108_214 (by decide) ?_
              refine r_iload f108_216 rfl ?_
              refine r_imul f108_218 (e := 12 * i) (by omega) (by omega) (by omega) ?_
              refine r_iload f108_219 rfl ?_
              refine r_iadd f108_221 (e := h + 12 * i) (by omega) (by omega) (by omega) ?_
              refine r_iload f108_222 rfl ?_
              refine r_zeq f108_224 (t := 261) (by decide) (fun h => absurd h (by omega)) (fun _ => ?_)
              refine r_iload f108_227 rfl ?_
              refine r_iconst f108_229 rfl ?_
              refine r_ceq f108_230 (t := 261) (by decide) (fun h => absurd h (by omega)) (fun _ => ?_)
              refine r_iload f108_233 rfl ?_
              refine r_aload_n f108_235 rfl ?_
              refine r_getR f108_236 o108 F7_38 g264_14 rfl ?_
              refine r_bipush f108_239 (by decide) ?_
              refine r_iload_n f108_241 rfl ?_
              refine r_imul f108_242 (e := 7 * c) (by omega) (by omega) (by omega) ?_
              refine r_iload f108_243 rfl ?_
              refine r_iadd f108_245 (e := 7 * c + i) (by omega) (by omega) (by omega) ?_
              refine r_iald f108_246 kd274 (by omega) (by omega) ?_
              refine r_top (e := m 274 (7 * c + i)) (zan_f (zpn_an ha) (by omega) (by omega) (by omega) _) ?_
              refine r_iload f108_247 rfl ?_
              refine r_cne f108_249 (t := 256) (by decide) (fun q28 => ?_) (fun q28 => ?_)
              · refine r_iconst f108_256 rfl ?_
                refine r_iadd f108_257 (e := 1) (by omega) (by omega) (by omega) ?_
                refine r_goto f108_258 (t := 262) (by decide) ?_
                refine r_iast f108_262 kd282 (by omega) (by omega) (by omega) ?_
                refine r_iinc f108_263 rfl rfl rfl (e := h + 1) (by omega) (by omega) (by omega) (ls' := [some (.inr (.inl (some 264))), some (.inl c), some (.inl a), some (.inl q), some (.inl (m 273 c - 1)), some (.inl i), some (.inl (h + 1)), some (.inl 0), some (.inl 1), some (.inl 0), some (.inl 0), none]) rfl ?_
                refine r_goto f108_266 (t := 23) (by decide) ?_
                have ev : MGa m c a q i h = 1 := by
                  first
                    | (rw [MGa_0 (by omega)]; (repeat (first | rw [if_pos (by omega)] | rw [if_neg (by omega)])); done)
                    | (rw [MGa_s (by omega)]; (repeat (first | rw [if_pos (by omega)] | rw [if_neg (by omega)])); try omega)
                refine r_mem (m1 := MPm m1 m c a q i (h + 1)) ((zpn_s hh (by omega) (by omega) (by omega) (by omega)).symm.trans (congrArg (fun z => zu (MPm m1 m c a q i h) 282 (h + 12 * i) z) ev)) ?_
                refine r_forget (ls' := [some (.inr (.inl (some 264))), some (.inl c), some (.inl a), some (.inl q), some (.inl (m 273 c - 1)), some (.inl i), some (.inl (h + 1)), none, none, none, none, none]) ⟨Or.inl rfl, ⟨Or.inl rfl, ⟨Or.inl rfl, ⟨Or.inl rfl, ⟨Or.inl rfl, ⟨Or.inl rfl, ⟨Or.inl rfl, ⟨Or.inr ⟨rfl, rfl⟩, ⟨Or.inr ⟨rfl, rfl⟩, ⟨Or.inr ⟨rfl, rfl⟩, ⟨Or.inr ⟨rfl, rfl⟩, ⟨Or.inl rfl, trivial⟩⟩⟩⟩⟩⟩⟩⟩⟩⟩⟩⟩ ?_
                exact ih (h + 1) (by omega) (by omega)
              · refine r_iconst f108_252 rfl ?_
                refine r_goto f108_253 (t := 257) (by decide) ?_
                refine r_iadd f108_257 (e := 0) (by omega) (by omega) (by omega) ?_
                refine r_goto f108_258 (t := 262) (by decide) ?_
                refine r_iast f108_262 kd282 (by omega) (by omega) (by omega) ?_
                refine r_iinc f108_263 rfl rfl rfl (e := h + 1) (by omega) (by omega) (by omega) (ls' := [some (.inr (.inl (some 264))), some (.inl c), some (.inl a), some (.inl q), some (.inl (m 273 c - 1)), some (.inl i), some (.inl (h + 1)), some (.inl 0), some (.inl 1), some (.inl 0), some (.inl 0), none]) rfl ?_
                refine r_goto f108_266 (t := 23) (by decide) ?_
                have ev : MGa m c a q i h = 0 := by
                  first
                    | (rw [MGa_0 (by omega)]; (repeat (first | rw [if_pos (by omega)] | rw [if_neg (by omega)])); done)
                    | (rw [MGa_s (by omega)]; (repeat (first | rw [if_pos (by omega)] | rw [if_neg (by omega)])); try omega)
                refine r_mem (m1 := MPm m1 m c a q i (h + 1)) ((zpn_s hh (by omega) (by omega) (by omega) (by omega)).symm.trans (congrArg (fun z => zu (MPm m1 m c a q i h) 282 (h + 12 * i) z) ev)) ?_
                refine r_forget (ls' := [some (.inr (.inl (some 264))), some (.inl c), some (.inl a), some (.inl q), some (.inl (m 273 c - 1)), some (.inl i), some (.inl (h + 1)), none, none, none, none, none]) ⟨Or.inl rfl, ⟨Or.inl rfl, ⟨Or.inl rfl, ⟨Or.inl rfl, ⟨Or.inl rfl, ⟨Or.inl rfl, ⟨Or.inl rfl, ⟨Or.inr ⟨rfl, rfl⟩, ⟨Or.inr ⟨rfl, rfl⟩, ⟨Or.inr ⟨rfl, rfl⟩, ⟨Or.inr ⟨rfl, rfl⟩, ⟨Or.inl rfl, trivial⟩⟩⟩⟩⟩⟩⟩⟩⟩⟩⟩⟩ ?_
                exact ih (h + 1) (by omega) (by omega)
          · refine r_zeq f108_105 (t := 112) (by decide) (fun _ => ?_) (fun h => absurd (by omega) h)
            refine r_iconst f108_112 rfl ?_
            refine r_istore f108_113 rfl (ls' := [some (.inr (.inl (some 264))), some (.inl c), some (.inl a), some (.inl q), some (.inl (m 273 c - 1)), some (.inl i), some (.inl h), some (.inl 0), some (.inl 0), none, none, none]) rfl ?_
            refine r_iload f108_115 rfl ?_
            refine r_iload f108_117 rfl ?_
            refine r_cne f108_119 (t := 126) (by decide) (fun q29 => ?_) (fun q29 => ?_)
            · refine r_iconst f108_126 rfl ?_
              refine r_istore f108_127 rfl (ls' := [some (.inr (.inl (some 264))), some (.inl c), some (.inl a), some (.inl q), some (.inl (m 273 c - 1)), some (.inl i), some (.inl h), some (.inl 0), some (.inl 0), some (.inl (-1)), none, none]) rfl ?_
              refine r_iconst f108_129 rfl ?_
              refine r_istore f108_130 rfl (ls' := [some (.inr (.inl (some 264))), some (.inl c), some (.inl a), some (.inl q), some (.inl (m 273 c - 1)), some (.inl i), some (.inl h), some (.inl 0), some (.inl 0), some (.inl (-1)), some (.inl 0), none]) rfl ?_
              refine l_waysg ha hk hr c0 c1 l2 hw a0 a1 q0 (i := i) (h := h) (x := 0) (y := 0) (by omega) (by omega) hh (by omega) ?_ (m 264 0).toNat 0 (by omega) (by omega)
              refine r_aload_n f108_210 rfl ?_
              refine r_getR f108_211 o108 F7_62 g264_22 rfl ?_
              refine r_bipush f108_214 (by decide) ?_
              refine r_iload f108_216 rfl ?_
              refine r_imul f108_218 (e := 12 * i) (by omega) (by omega) (by omega) ?_
              refine r_iload f108_219 rfl ?_
              refine r_iadd f108_221 (e := h + 12 * i) (by omega) (by omega) (by omega) ?_
              refine r_iload f108_222 rfl ?_
              refine r_zeq f108_224 (t := 261) (by decide) (fun _ => ?_) (fun h => absurd (by omega) h)
              refine r_iconst f108_261 rfl ?_
              refine r_iast f108_262 kd282 (by omega) (by omega) (by omega) ?_
              refine r_iinc f108_263 rfl rfl rfl (e := h + 1) (by omega) (by omega) (by omega) (ls' := [some (.inr (.inl (some 264))), some (.inl c), some (.inl a), some (.inl q), some (.inl (m 273 c - 1)), some (.inl i), some (.inl (h + 1)), some (.inl 0), some (.inl 0), some (.inl (zfd (zstM (MGa m c a q (i + 1)) (MJ m h)) (-1) (m 264 0))), some (.inl (m 264 0)), none]) rfl ?_
              refine r_goto f108_266 (t := 23) (by decide) ?_
              have ev : MGa m c a q i h = -1 := by
                first
                  | (rw [MGa_0 (by omega)]; (repeat (first | rw [if_pos (by omega)] | rw [if_neg (by omega)])); done)
                  | (rw [MGa_s (by omega)]; (repeat (first | rw [if_pos (by omega)] | rw [if_neg (by omega)])); try omega)
              refine r_mem (m1 := MPm m1 m c a q i (h + 1)) ((zpn_s hh (by omega) (by omega) (by omega) (by omega)).symm.trans (congrArg (fun z => zu (MPm m1 m c a q i h) 282 (h + 12 * i) z) ev)) ?_
              refine r_forget (ls' := [some (.inr (.inl (some 264))), some (.inl c), some (.inl a), some (.inl q), some (.inl (m 273 c - 1)), some (.inl i), some (.inl (h + 1)), none, none, none, none, none]) ⟨Or.inl rfl, ⟨Or.inl rfl, ⟨Or.inl rfl, ⟨Or.inl rfl, ⟨Or.inl rfl, ⟨Or.inl rfl, ⟨Or.inl rfl, ⟨Or.inr ⟨rfl, rfl⟩, ⟨Or.inr ⟨rfl, rfl⟩, ⟨Or.inr ⟨rfl, rfl⟩, ⟨Or.inr ⟨rfl, rfl⟩, ⟨Or.inl rfl, trivial⟩⟩⟩⟩⟩⟩⟩⟩⟩⟩⟩⟩ ?_
              exact ih (h + 1) (by omega) (by omega)
            · refine r_iconst f108_122 rfl ?_
              refine r_goto f108_123 (t := 127) (by decide) ?_
              refine r_istore f108_127 rfl (ls' := [some (.inr (.inl (some 264))), some (.inl c), some (.inl a), some (.inl q), some (.inl (m 273 c - 1)), some (.inl i), some (.inl h), some (.inl 0), some (.inl 0), some (.inl 0), none, none]) rfl ?_
              refine r_iconst f108_129 rfl ?_
              refine r_istore f108_130 rfl (ls' := [some (.inr (.inl (some 264))), some (.inl c), some (.inl a), some (.inl q), some (.inl (m 273 c - 1)), some (.inl i), some (.inl h), some (.inl 0), some (.inl 0), some (.inl 0), some (.inl 0), none]) rfl ?_
              refine r_iload f108_132 rfl ?_
              refine r_aload_n f108_134 rfl ?_
              refine r_getI f108_135 o108 F7_86 g264_0 rfl ?_
              refine r_top (e := m 264 0) (zan_f (zpn_an ha) (by omega) (by omega) (by omega) _) ?_
              refine r_cge f108_138 (t := 210) (by decide) (fun h => absurd h (by omega)) (fun _ => ?_)
              refine r_iload f108_141 rfl ?_
              refine r_iload f108_143 rfl ?_
              refine r_cge f108_145 (t := 210) (by decide) (fun _ => ?_) (fun h => absurd (by omega) h)
              refine r_aload_n f108_210 rfl ?_
              refine r_getR f108_211 o108 F7_62 g264_22 rfl ?_
              refine r_bipush f108_214 (by decide) ?_
              refine r_iload f108_216 rfl ?_
              refine r_imul f108_218 (e := 12 * i) (by omega) (by omega) (by omega) ?_
              refine r_iload f108_219 rfl ?_
              refine r_iadd f108_221 (e := h + 12 * i) (by omega) (by omega) (by omega) ?_
              refine r_iload f108_222 rfl ?_
              refine r_zeq f108_224 (t := 261) (by decide) (fun _ => ?_) (fun h => absurd (by omega) h)
              refine r_iconst f108_261 rfl ?_
              refine r_iast f108_262 kd282 (by omega) (by omega) (by omega) ?_
              refine r_iinc f108_263 rfl rfl rfl (e := h + 1) (by omega) (by omega) (by omega) (ls' := [some (.inr (.inl (some 264))), some (.inl c), some (.inl a), some (.inl q), some (.inl (m 273 c - 1)), some (.inl i), some (.inl (h + 1)), some (.inl 0), some (.inl 0), some (.inl 0), some (.inl 0), none]) rfl ?_
              refine r_goto f108_266 (t := 23) (by decide) ?_
              have ev : MGa m c a q i h = -1 := by
                first
                  | (rw [MGa_0 (by omega)]; (repeat (first | rw [if_pos (by omega)] | rw [if_neg (by omega)])); done)
                  | (rw [MGa_s (by omega)]; (repeat (first | rw [if_pos (by omega)] | rw [if_neg (by omega)])); try omega)
              refine r_mem (m1 := MPm m1 m c a q i (h + 1)) ((zpn_s hh (by omega) (by omega) (by omega) (by omega)).symm.trans (congrArg (fun z => zu (MPm m1 m c a q i h) 282 (h + 12 * i) z) ev)) ?_
              refine r_forget (ls' := [some (.inr (.inl (some 264))), some (.inl c), some (.inl a), some (.inl q), some (.inl (m 273 c - 1)), some (.inl i), some (.inl (h + 1)), none, none, none, none, none]) ⟨Or.inl rfl, ⟨Or.inl rfl, ⟨Or.inl rfl, ⟨Or.inl rfl, ⟨Or.inl rfl, ⟨Or.inl rfl, ⟨Or.inl rfl, ⟨Or.inr ⟨rfl, rfl⟩, ⟨Or.inr ⟨rfl, rfl⟩, ⟨Or.inr ⟨rfl, rfl⟩, ⟨Or.inr ⟨rfl, rfl⟩, ⟨Or.inl rfl, trivial⟩⟩⟩⟩⟩⟩⟩⟩⟩⟩⟩⟩ ?_
              exact ih (h + 1) (by omega) (by omega)
        · refine r_iload_n f108_80 rfl ?_
          refine r_zeq f108_81 (t := 108) (by decide) (fun q30 => ?_) (fun q30 => ?_)
          · refine r_iconst f108_108 rfl ?_
            refine r_goto f108_109 (t := 113) (by decide) ?_
            refine r_istore f108_113 rfl (ls' := [some (.inr (.inl (some 264))), some (.inl c), some (.inl a), some (.inl q), some (.inl (m 273 c - 1)), some (.inl i), some (.inl h), some (.inl 0), some (.inl 1), none, none, none]) rfl ?_
            refine r_iload f108_115 rfl ?_
            refine r_iload f108_117 rfl ?_
            refine r_cne f108_119 (t := 126) (by decide) (fun q31 => ?_) (fun q31 => ?_)
            · refine r_iconst f108_126 rfl ?_
              refine r_istore f108_127 rfl (ls' := [some (.inr (.inl (some 264))), some (.inl c), some (.inl a), some (.inl q), some (.inl (m 273 c - 1)), some (.inl i), some (.inl h), some (.inl 0), some (.inl 1), some (.inl (-1)), none, none]) rfl ?_
              refine r_iconst f108_129 rfl ?_
              refine r_istore f108_130 rfl (ls' := [some (.inr (.inl (some 264))), some (.inl c), some (.inl a), some (.inl q), some (.inl (m 273 c - 1)), some (.inl i), some (.inl h), some (.inl 0), some (.inl 1), some (.inl (-1)), some (.inl 0), none]) rfl ?_
              refine l_waysg ha hk hr c0 c1 l2 hw a0 a1 q0 (i := i) (h := h) (x := 0) (y := 1) (by omega) (by omega) hh (by omega) ?_ (m 264 0).toNat 0 (by omega) (by omega)
              refine r_aload_n f108_210 rfl ?_
              refine r_getR f108_211 o108 F7_62 g264_22 rfl ?_
              refine r_bipush f108_214 (by decide) ?_
              refine r_iload f108_216 rfl ?_
              refine r_imul f108_218 (e := 12 * i) (by omega) (by omega) (by omega) ?_
              refine r_iload f108_219 rfl ?_
              refine r_iadd f108_221 (e := h + 12 * i) (by omega) (by omega) (by omega) ?_
              refine r_iload f108_222 rfl ?_
              refine r_zeq f108_224 (t := 261) (by decide) (fun h => absurd h (by omega)) (fun _ => ?_)
              refine r_iload f108_227 rfl ?_
              refine r_iconst f108_229 rfl ?_
              refine r_ceq f108_230 (t := 261) (by decide) (fun q32 => ?_) (fun q32 => ?_)
              · refine r_iconst f108_261 rfl ?_
                refine r_iast f108_262 kd282 (by omega) (by omega) (by omega) ?_
                refine r_iinc f108_263 rfl rfl rfl (e := h + 1) (by omega) (by omega) (by omega) (ls' := [some (.inr (.inl (some 264))), some (.inl c), some (.inl a), some (.inl q), some (.inl (m 273 c - 1)), some (.inl i), some (.inl (h + 1)), some (.inl 0), some (.inl 1), some (.inl (zfd (zstM (MGa m c a q (i + 1)) (MJ m h)) (-1) (m 264 0))), some (.inl (m 264 0)), none]) rfl ?_
                refine r_goto f108_266 (t := 23) (by decide) ?_
                have ev : MGa m c a q i h = -1 := by
                  first
                    | (rw [MGa_0 (by omega)]; (repeat (first | rw [if_pos (by omega)] | rw [if_neg (by omega)])); done)
                    | (rw [MGa_s (by omega)]; (repeat (first | rw [if_pos (by omega)] | rw [if_neg (by omega)])); try omega)
                refine r_mem (m1 := MPm m1 m c a q i (h + 1)) ((zpn_s hh (by omega) (by omega) (by omega) (by omega)).symm.trans (congrArg (fun z => zu (MPm m1 m c a q i h) 282 (h + 12 * i) z) ev)) ?_
                refine r_forget (ls' := [some (.inr (.inl (some 264))), some (.inl c), some (.inl a), some (.inl q), some (.inl (m 273 c - 1)), some (.inl i), some (.inl (h + 1)), none, none, none, none, none]) ⟨Or.inl rfl, ⟨Or.inl rfl, ⟨Or.inl rfl, ⟨Or.inl rfl, ⟨Or.inl rfl, ⟨Or.inl rfl, ⟨Or.inl rfl, ⟨Or.inr ⟨rfl, rfl⟩, ⟨Or.inr ⟨rfl, rfl⟩, ⟨Or.inr ⟨rfl, rfl⟩, ⟨Or.inr ⟨rfl, rfl⟩, ⟨Or.inl rfl, trivial⟩⟩⟩⟩⟩⟩⟩⟩⟩⟩⟩⟩ ?_
                exact ih (h + 1) (by omega) (by omega)
              · refine r_iload f108_233 rfl ?_
                refine r_aload_n f108_235 rfl ?_
                refine r_getR f108_236 o108 F7_38 g264_14 rfl ?_
                refine r_bipush f108_239 (by decide) ?_
                refine r_iload_n f108_241 rfl ?_
                refine r_imul f108_242 (e := 7 * c) (by omega) (by omega) (by omega) ?_
                refine r_iload f108_243 rfl ?_
                refine r_iadd f108_245 (e := 7 * c + i) (by omega) (by omega) (by omega) ?_
                refine r_iald f108_246 kd274 (by omega) (by omega) ?_
                refine r_top (e := m 274 (7 * c + i)) (zan_f (zpn_an ha) (by omega) (by omega) (by omega) _) ?_
                refine r_iload f108_247 rfl ?_
                refine r_cne f108_249 (t := 256) (by decide) (fun q33 => ?_) (fun q33 => ?_)
                · refine r_iconst f108_256 rfl ?_
                  refine r_iadd f108_257 (e := zfd (zstM (MGa m c a q (i + 1)) (MJ m h)) (-1) (m 264 0) + 1) (by omega) (by omega) (by omega) ?_
                  refine r_goto f108_258 (t := 262) (by decide) ?_
                  refine r_iast f108_262 kd282 (by omega) (by omega) (by omega) ?_
                  refine r_iinc f108_263 rfl rfl rfl (e := h + 1) (by omega) (by omega) (by omega) (ls' := [some (.inr (.inl (some 264))), some (.inl c), some (.inl a), some (.inl q), some (.inl (m 273 c - 1)), some (.inl i), some (.inl (h + 1)), some (.inl 0), some (.inl 1), some (.inl (zfd (zstM (MGa m c a q (i + 1)) (MJ m h)) (-1) (m 264 0))), some (.inl (m 264 0)), none]) rfl ?_
                  refine r_goto f108_266 (t := 23) (by decide) ?_
                  have ev : MGa m c a q i h = zfd (zstM (MGa m c a q (i + 1)) (MJ m h)) (-1) (m 264 0) + 1 := by
                    first
                      | (rw [MGa_0 (by omega)]; (repeat (first | rw [if_pos (by omega)] | rw [if_neg (by omega)])); done)
                      | (rw [MGa_s (by omega)]; (repeat (first | rw [if_pos (by omega)] | rw [if_neg (by omega)])); try omega)
                  refine r_mem (m1 := MPm m1 m c a q i (h + 1)) ((zpn_s hh (by omega) (by omega) (by omega) (by omega)).symm.trans (congrArg (fun z => zu (MPm m1 m c a q i h) 282 (h + 12 * i) z) ev)) ?_
                  refine r_forget (ls' := [some (.inr (.inl (some 264))), some (.inl c), some (.inl a), some (.inl q), some (.inl (m 273 c - 1)), some (.inl i), some (.inl (h + 1)), none, none, none, none, none]) ⟨Or.inl rfl, ⟨Or.inl rfl, ⟨Or.inl rfl, ⟨Or.inl rfl, ⟨Or.inl rfl, ⟨Or.inl rfl, ⟨Or.inl rfl, ⟨Or.inr ⟨rfl, rfl⟩, ⟨Or.inr ⟨rfl, rfl⟩, ⟨Or.inr ⟨rfl, rfl⟩, ⟨Or.inr ⟨rfl, rfl⟩, ⟨Or.inl rfl, trivial⟩⟩⟩⟩⟩⟩⟩⟩⟩⟩⟩⟩ ?_
                  exact ih (h + 1) (by omega) (by omega)
                · refine r_iconst f108_252 rfl ?_
                  refine r_goto f108_253 (t := 257) (by decide) ?_
                  refine r_iadd f108_257 (e := zfd (zstM (MGa m c a q (i + 1)) (MJ m h)) (-1) (m 264 0)) (by omega) (by omega) (by omega) ?_
                  refine r_goto f108_258 (t := 262) (by decide) ?_
                  refine r_iast f108_262 kd282 (by omega) (by omega) (by omega) ?_
                  refine r_iinc f108_263 rfl rfl rfl (e := h + 1) (by omega) (by omega) (by omega) (ls' := [some (.inr (.inl (some 264))), some (.inl c), some (.inl a), some (.inl q), some (.inl (m 273 c - 1)), some (.inl i), some (.inl (h + 1)), some (.inl 0), some (.inl 1), some (.inl (zfd (zstM (MGa m c a q (i + 1)) (MJ m h)) (-1) (m 264 0))), some (.inl (m 264 0)), none]) rfl ?_
                  refine r_goto f108_266 (t := 23) (by decide) ?_
                  have ev : MGa m c a q i h = zfd (zstM (MGa m c a q (i + 1)) (MJ m h)) (-1) (m 264 0) := by
                    first
                      | (rw [MGa_0 (by omega)]; (repeat (first | rw [if_pos (by omega)] | rw [if_neg (by omega)])); done)
                      | (rw [MGa_s (by omega)]; (repeat (first | rw [if_pos (by omega)] | rw [if_neg (by omega)])); try omega)
                  refine r_mem (m1 := MPm m1 m c a q i (h + 1)) ((zpn_s hh (by omega) (by omega) (by omega) (by omega)).symm.trans (congrArg (fun z => zu (MPm m1 m c a q i h) 282 (h + 12 * i) z) ev)) ?_
                  refine r_forget (ls' := [some (.inr (.inl (some 264))), some (.inl c), some (.inl a), some (.inl q), some (.inl (m 273 c - 1)), some (.inl i), some (.inl (h + 1)), none, none, none, none, none]) ⟨Or.inl rfl, ⟨Or.inl rfl, ⟨Or.inl rfl, ⟨Or.inl rfl, ⟨Or.inl rfl, ⟨Or.inl rfl, ⟨Or.inl rfl, ⟨Or.inr ⟨rfl, rfl⟩, ⟨Or.inr ⟨rfl, rfl⟩, ⟨Or.inr ⟨rfl, rfl⟩, ⟨Or.inr ⟨rfl, rfl⟩, ⟨Or.inl rfl, trivial⟩⟩⟩⟩⟩⟩⟩⟩⟩⟩⟩⟩ ?_
                  exact ih (h + 1) (by omega) (by omega)
            · refine r_iconst f108_122 rfl ?_
              refine r_goto f108_123 (t := 127) (by decide) ?_
              refine r_istore f108_127 rfl (ls' := [some (.inr (.inl (some 264))), some (.inl c), some (.inl a), some (.inl q), some (.inl (m 273 c - 1)), some (.inl i), some (.inl h), some (.inl 0), some (.inl 1), some (.inl 0), none, none]) rfl ?_
              refine r_iconst f108_129 rfl ?_
              refine r_istore f108_130 rfl (ls' := [some (.inr (.inl (some 264))), some (.inl c), some (.inl a), some (.inl q), some (.inl (m 273 c - 1)), some (.inl i), some (.inl h), some (.inl 0), some (.inl 1), some (.inl 0), some (.inl 0), none]) rfl ?_
              refine r_iload f108_132 rfl ?_
              refine r_aload_n f108_134 rfl ?_
              refine r_getI f108_135 o108 F7_86 g264_0 rfl ?_
              refine r_top (e := m 264 0) (zan_f (zpn_an ha) (by omega) (by omega) (by omega) _) ?_
              refine r_cge f108_138 (t := 210) (by decide) (fun h => absurd h (by omega)) (fun _ => ?_)
              refine r_iload f108_141 rfl ?_
              refine r_iload f108_143 rfl ?_
              refine r_cge f108_145 (t := 210) (by decide) (fun _ => ?_) (fun h => absurd (by omega) h)
              refine r_aload_n f108_210 rfl ?_
              refine r_getR f108_211 o108 F7_62 g264_22 rfl ?_
              refine r_bipush f108_214 (by decide) ?_
              refine r_iload f108_216 rfl ?_
              refine r_imul f108_218 (e := 12 * i) (by omega) (by omega) (by omega) ?_
              refine r_iload f108_219 rfl ?_
              refine r_iadd f108_221 (e := h + 12 * i) (by omega) (by omega) (by omega) ?_
              refine r_iload f108_222 rfl ?_
              refine r_zeq f108_224 (t := 261) (by decide) (fun h => absurd h (by omega)) (fun _ => ?_)
              refine r_iload f108_227 rfl ?_
              refine r_iconst f108_229 rfl ?_
              refine r_ceq f108_230 (t := 261) (by decide) (fun h => absurd h (by omega)) (fun _ => ?_)
              refine r_iload f108_233 rfl ?_
              refine r_aload_n f108_235 rfl ?_
              refine r_getR f108_236 o108 F7_38 g264_14 rfl ?_
              refine r_bipush f108_239 (by decide) ?_
              refine r_iload_n f108_241 rfl ?_
              refine r_imul f108_242 (e := 7 * c) (by omega) (by omega) (by omega) ?_
              refine r_iload f108_243 rfl ?_
              refine r_iadd f108_245 (e := 7 * c + i) (by omega) (by omega) (by omega) ?_
              refine r_iald f108_246 kd274 (by omega) (by omega) ?_
              refine r_top (e := m 274 (7 * c + i)) (zan_f (zpn_an ha) (by omega) (by omega) (by omega) _) ?_
              refine r_iload f108_247 rfl ?_
              refine r_cne f108_249 (t := 256) (by decide) (fun q34 => ?_) (fun q34 => ?_)
              · refine r_iconst f108_256 rfl ?_
                refine r_iadd f108_257 (e := 1) (by omega) (by omega) (by omega) ?_
                refine r_goto f108_258 (t := 262) (by decide) ?_
                refine r_iast f108_262 kd282 (by omega) (by omega) (by omega) ?_
                refine r_iinc f108_263 rfl rfl rfl (e := h + 1) (by omega) (by omega) (by omega) (ls' := [some (.inr (.inl (some 264))), some (.inl c), some (.inl a), some (.inl q), some (.inl (m 273 c - 1)), some (.inl i), some (.inl (h + 1)), some (.inl 0), some (.inl 1), some (.inl 0), some (.inl 0), none]) rfl ?_
                refine r_goto f108_266 (t := 23) (by decide) ?_
                have ev : MGa m c a q i h = 1 := by
                  first
                    | (rw [MGa_0 (by omega)]; (repeat (first | rw [if_pos (by omega)] | rw [if_neg (by omega)])); done)
                    | (rw [MGa_s (by omega)]; (repeat (first | rw [if_pos (by omega)] | rw [if_neg (by omega)])); try omega)
                refine r_mem (m1 := MPm m1 m c a q i (h + 1)) ((zpn_s hh (by omega) (by omega) (by omega) (by omega)).symm.trans (congrArg (fun z => zu (MPm m1 m c a q i h) 282 (h + 12 * i) z) ev)) ?_
                refine r_forget (ls' := [some (.inr (.inl (some 264))), some (.inl c), some (.inl a), some (.inl q), some (.inl (m 273 c - 1)), some (.inl i), some (.inl (h + 1)), none, none, none, none, none]) ⟨Or.inl rfl, ⟨Or.inl rfl, ⟨Or.inl rfl, ⟨Or.inl rfl, ⟨Or.inl rfl, ⟨Or.inl rfl, ⟨Or.inl rfl, ⟨Or.inr ⟨rfl, rfl⟩, ⟨Or.inr ⟨rfl, rfl⟩, ⟨Or.inr ⟨rfl, rfl⟩, ⟨Or.inr ⟨rfl, rfl⟩, ⟨Or.inl rfl, trivial⟩⟩⟩⟩⟩⟩⟩⟩⟩⟩⟩⟩ ?_
                exact ih (h + 1) (by omega) (by omega)
              · refine r_iconst f108_252 rfl ?_
                refine r_goto f108_253 (t := 257) (by decide) ?_
                refine r_iadd f108_257 (e := 0) (by omega) (by omega) (by omega) ?_
                refine r_goto f108_258 (t := 262) (by decide) ?_
                refine r_iast f108_262 kd282 (by omega) (by omega) (by omega) ?_
                refine r_iinc f108_263 rfl rfl rfl (e := h + 1) (by omega) (by omega) (by omega) (ls' := [some (.inr (.inl (some 264))), some (.inl c), some (.inl a), some (.inl q), some (.inl (m 273 c - 1)), some (.inl i), some (.inl (h + 1)), some (.inl 0), some (.inl 1), some (.inl 0), some (.inl 0), none]) rfl ?_
                refine r_goto f108_266 (t := 23) (by decide) ?_
                have ev : MGa m c a q i h = 0 := by
                  first
                    | (rw [MGa_0 (by omega)]; (repeat (first | rw [if_pos (by omega)] | rw [if_neg (by omega)])); done)
                    | (rw [MGa_s (by omega)]; (repeat (first | rw [if_pos (by omega)] | rw [if_neg (by omega)])); try omega)
                refine r_mem (m1 := MPm m1 m c a q i (h + 1)) ((zpn_s hh (by omega) (by omega) (by omega) (by omega)).symm.trans (congrArg (fun z => zu (MPm m1 m c a q i h) 282 (h + 12 * i) z) ev)) ?_
                refine r_forget (ls' := [some (.inr (.inl (some 264))), some (.inl c), some (.inl a), some (.inl q), some (.inl (m 273 c - 1)), some (.inl i), some (.inl (h + 1)), none, none, none, none, none]) ⟨Or.inl rfl, ⟨Or.inl rfl, ⟨Or.inl rfl, ⟨Or.inl rfl, ⟨Or.inl rfl, ⟨Or.inl rfl, ⟨Or.inl rfl, ⟨Or.inr ⟨rfl, rfl⟩, ⟨Or.inr ⟨rfl, rfl⟩, ⟨Or.inr ⟨rfl, rfl⟩, ⟨Or.inr ⟨rfl, rfl⟩, ⟨Or.inl rfl, trivial⟩⟩⟩⟩⟩⟩⟩⟩⟩⟩⟩⟩ ?_
                exact ih (h + 1) (by omega) (by omega)
          · refine r_aload_n f108_84 rfl ?_
            refine r_iload f108_85 rfl ?_
            refine r_aload_n f108_87 rfl ?_
            refine r_getR f108_88 o108 F7_32 g264_12 rfl ?_
            refine r_iload_n f108_91 rfl ?_
            refine r_iald f108_92 kd272 (by omega) (by omega) ?_
            refine r_top (e := m 272 c) (zan_f (zpn_an ha) (by omega) (by omega) (by omega) _) ?_
            refine r_iload f108_93 rfl ?_
            refine r_iadd f108_95 (e := i + m 272 c) (by omega) (by omega) (by omega) ?_
            refine r_aload_n f108_96 rfl ?_
            refine r_getR f108_97 o108 F7_29 g264_11 rfl ?_
            refine r_iload_n f108_100 rfl ?_
            refine r_iald f108_101 kd271 (by omega) (by omega) ?_
            refine r_top (e := m 271 c) (zan_f (zpn_an ha) (by omega) (by omega) (by omega) _) ?_
            refine r_callv3i (m' := (MPm m1 m c a q i h)) f108_102 o108 M7_132 p103 o103 kd264 rfl (by simp) (t_isOpenR (zpn_an ha) hk hr (h := h) (t := i + m 272 c) (n := m 271 c) (by omega) (by omega) (by omega) (by omega)) ?_
            refine r_ite (fun q35 => ?_) (fun q35 => ?_)
            · refine r_zeq f108_105 (t := 112) (by decide) (fun h => absurd h (by omega)) (fun _ => ?_)
              refine r_iconst f108_108 rfl ?_
              refine r_goto f108_109 (t := 113) (by decide) ?_
              refine r_istore f108_113 rfl (ls' := [some (.inr (.inl (some 264))), some (.inl c), some (.inl a), some (.inl q), some (.inl (m 273 c - 1)), some (.inl i), some (.inl h), some (.inl 0), some (.inl 1), none, none, none]) rfl ?_
              refine r_iload f108_115 rfl ?_
              refine r_iload f108_117 rfl ?_
              refine r_cne f108_119 (t := 126) (by decide) (fun q36 => ?_) (fun q36 => ?_)
              · refine r_iconst f108_126 rfl ?_
                refine r_istore f108_127 rfl (ls' := [some (.inr (.inl (some 264))), some (.inl c), some (.inl a), some (.inl q), some (.inl (m 273 c - 1)), some (.inl i), some (.inl h), some (.inl 0), some (.inl 1), some (.inl (-1)), none, none]) rfl ?_
                refine r_iconst f108_129 rfl ?_
                refine r_istore f108_130 rfl (ls' := [some (.inr (.inl (some 264))), some (.inl c), some (.inl a), some (.inl q), some (.inl (m 273 c - 1)), some (.inl i), some (.inl h), some (.inl 0), some (.inl 1), some (.inl (-1)), some (.inl 0), none]) rfl ?_
                refine l_waysg ha hk hr c0 c1 l2 hw a0 a1 q0 (i := i) (h := h) (x := 0) (y := 1) (by omega) (by omega) hh (by omega) ?_ (m 264 0).toNat 0 (by omega) (by omega)
                refine r_aload_n f108_210 rfl ?_
                refine r_getR f108_211 o108 F7_62 g264_22 rfl ?_
                refine r_bipush f108_214 (by decide) ?_
                refine r_iload f108_216 rfl ?_
                refine r_imul f108_218 (e := 12 * i) (by omega) (by omega) (by omega) ?_
                refine r_iload f108_219 rfl ?_
                refine r_iadd f108_221 (e := h + 12 * i) (by omega) (by omega) (by omega) ?_
                refine r_iload f108_222 rfl ?_
                refine r_zeq f108_224 (t := 261) (by decide) (fun h => absurd h (by omega)) (fun _ => ?_)
                refine r_iload f108_227 rfl ?_
                refine r_iconst f108_229 rfl ?_
                refine r_ceq f108_230 (t := 261) (by decide) (fun q37 => ?_) (fun q37 => ?_)
                · refine r_iconst f108_261 rfl ?_
                  refine r_iast f108_262 kd282 (by omega) (by omega) (by omega) ?_
                  refine r_iinc f108_263 rfl rfl rfl (e := h + 1) (by omega) (by omega) (by omega) (ls' := [some (.inr (.inl (some 264))), some (.inl c), some (.inl a), some (.inl q), some (.inl (m 273 c - 1)), some (.inl i), some (.inl (h + 1)), some (.inl 0), some (.inl 1), some (.inl (zfd (zstM (MGa m c a q (i + 1)) (MJ m h)) (-1) (m 264 0))), some (.inl (m 264 0)), none]) rfl ?_
                  refine r_goto f108_266 (t := 23) (by decide) ?_
                  have ev : MGa m c a q i h = -1 := by
                    first
                      | (rw [MGa_0 (by omega)]; (repeat (first | rw [if_pos (by omega)] | rw [if_neg (by omega)])); done)
                      | (rw [MGa_s (by omega)]; (repeat (first | rw [if_pos (by omega)] | rw [if_neg (by omega)])); try omega)
                  refine r_mem (m1 := MPm m1 m c a q i (h + 1)) ((zpn_s hh (by omega) (by omega) (by omega) (by omega)).symm.trans (congrArg (fun z => zu (MPm m1 m c a q i h) 282 (h + 12 * i) z) ev)) ?_
                  refine r_forget (ls' := [some (.inr (.inl (some 264))), some (.inl c), some (.inl a), some (.inl q), some (.inl (m 273 c - 1)), some (.inl i), some (.inl (h + 1)), none, none, none, none, none]) ⟨Or.inl rfl, ⟨Or.inl rfl, ⟨Or.inl rfl, ⟨Or.inl rfl, ⟨Or.inl rfl, ⟨Or.inl rfl, ⟨Or.inl rfl, ⟨Or.inr ⟨rfl, rfl⟩, ⟨Or.inr ⟨rfl, rfl⟩, ⟨Or.inr ⟨rfl, rfl⟩, ⟨Or.inr ⟨rfl, rfl⟩, ⟨Or.inl rfl, trivial⟩⟩⟩⟩⟩⟩⟩⟩⟩⟩⟩⟩ ?_
                  exact ih (h + 1) (by omega) (by omega)
                · refine r_iload f108_233 rfl ?_
                  refine r_aload_n f108_235 rfl ?_
                  refine r_getR f108_236 o108 F7_38 g264_14 rfl ?_
                  refine r_bipush f108_239 (by decide) ?_
                  refine r_iload_n f108_241 rfl ?_
                  refine r_imul f108_242 (e := 7 * c) (by omega) (by omega) (by omega) ?_
                  refine r_iload f108_243 rfl ?_
                  refine r_iadd f108_245 (e := 7 * c + i) (by omega) (by omega) (by omega) ?_
                  refine r_iald f108_246 kd274 (by omega) (by omega) ?_
                  refine r_top (e := m 274 (7 * c + i)) (zan_f (zpn_an ha) (by omega) (by omega) (by omega) _) ?_
                  refine r_iload f108_247 rfl ?_
                  refine r_cne f108_249 (t := 256) (by decide) (fun q38 => ?_) (fun q38 => ?_)
                  · refine r_iconst f108_256 rfl ?_
                    refine r_iadd f108_257 (e := zfd (zstM (MGa m c a q (i + 1)) (MJ m h)) (-1) (m 264 0) + 1) (by omega) (by omega) (by omega) ?_
                    refine r_goto f108_258 (t := 262) (by decide) ?_
                    refine r_iast f108_262 kd282 (by omega) (by omega) (by omega) ?_
                    refine r_iinc f108_263 rfl rfl rfl (e := h + 1) (by omega) (by omega) (by omega) (ls' := [some (.inr (.inl (some 264))), some (.inl c), some (.inl a), some (.inl q), some (.inl (m 273 c - 1)), some (.inl i), some (.inl (h + 1)), some (.inl 0), some (.inl 1), some (.inl (zfd (zstM (MGa m c a q (i + 1)) (MJ m h)) (-1) (m 264 0))), some (.inl (m 264 0)), none]) rfl ?_
                    refine r_goto f108_266 (t := 23) (by decide) ?_
                    have ev : MGa m c a q i h = zfd (zstM (MGa m c a q (i + 1)) (MJ m h)) (-1) (m 264 0) + 1 := by
                      first
                        | (rw [MGa_0 (by omega)]; (repeat (first | rw [if_pos (by omega)] | rw [if_neg (by omega)])); done)
                        | (rw [MGa_s (by omega)]; (repeat (first | rw [if_pos (by omega)] | rw [if_neg (by omega)])); try omega)
                    refine r_mem (m1 := MPm m1 m c a q i (h + 1)) ((zpn_s hh (by omega) (by omega) (by omega) (by omega)).symm.trans (congrArg (fun z => zu (MPm m1 m c a q i h) 282 (h + 12 * i) z) ev)) ?_
                    refine r_forget (ls' := [some (.inr (.inl (some 264))), some (.inl c), some (.inl a), some (.inl q), some (.inl (m 273 c - 1)), some (.inl i), some (.inl (h + 1)), none, none, none, none, none]) ⟨Or.inl rfl, ⟨Or.inl rfl, ⟨Or.inl rfl, ⟨Or.inl rfl, ⟨Or.inl rfl, ⟨Or.inl rfl, ⟨Or.inl rfl, ⟨Or.inr ⟨rfl, rfl⟩, ⟨Or.inr ⟨rfl, rfl⟩, ⟨Or.inr ⟨rfl, rfl⟩, ⟨Or.inr ⟨rfl, rfl⟩, ⟨Or.inl rfl, trivial⟩⟩⟩⟩⟩⟩⟩⟩⟩⟩⟩⟩ ?_
                    exact ih (h + 1) (by omega) (by omega)
                  · refine r_iconst f108_252 rfl ?_
                    refine r_goto f108_253 (t := 257) (by decide) ?_
                    refine r_iadd f108_257 (e := zfd (zstM (MGa m c a q (i + 1)) (MJ m h)) (-1) (m 264 0)) (by omega) (by omega) (by omega) ?_
                    refine r_goto f108_258 (t := 262) (by decide) ?_
                    refine r_iast f108_262 kd282 (by omega) (by omega) (by omega) ?_
                    refine r_iinc f108_263 rfl rfl rfl (e := h + 1) (by omega) (by omega) (by omega) (ls' := [some (.inr (.inl (some 264))), some (.inl c), some (.inl a), some (.inl q), some (.inl (m 273 c - 1)), some (.inl i), some (.inl (h + 1)), some (.inl 0), some (.inl 1), some (.inl (zfd (zstM (MGa m c a q (i + 1)) (MJ m h)) (-1) (m 264 0))), some (.inl (m 264 0)), none]) rfl ?_
                    refine r_goto f108_266 (t := 23) (by decide) ?_
                    have ev : MGa m c a q i h = zfd (zstM (MGa m c a q (i + 1)) (MJ m h)) (-1) (m 264 0) := by
                      first
                        | (rw [MGa_0 (by omega)]; (repeat (first | rw [if_pos (by omega)] | rw [if_neg (by omega)])); done)
                        | (rw [MGa_s (by omega)]; (repeat (first | rw [if_pos (by omega)] | rw [if_neg (by omega)])); try omega)
                    refine r_mem (m1 := MPm m1 m c a q i (h + 1)) ((zpn_s hh (by omega) (by omega) (by omega) (by omega)).symm.trans (congrArg (fun z => zu (MPm m1 m c a q i h) 282 (h + 12 * i) z) ev)) ?_
                    refine r_forget (ls' := [some (.inr (.inl (some 264))), some (.inl c), some (.inl a), some (.inl q), some (.inl (m 273 c - 1)), some (.inl i), some (.inl (h + 1)), none, none, none, none, none]) ⟨Or.inl rfl, ⟨Or.inl rfl, ⟨Or.inl rfl, ⟨Or.inl rfl, ⟨Or.inl rfl, ⟨Or.inl rfl, ⟨Or.inl rfl, ⟨Or.inr ⟨rfl, rfl⟩, ⟨Or.inr ⟨rfl, rfl⟩, ⟨Or.inr ⟨rfl, rfl⟩, ⟨Or.inr ⟨rfl, rfl⟩, ⟨Or.inl rfl, trivial⟩⟩⟩⟩⟩⟩⟩⟩⟩⟩⟩⟩ ?_
                    exact ih (h + 1) (by omega) (by omega)
              · refine r_iconst f108_122 rfl ?_
                refine r_goto f108_123 (t := 127) (by decide) ?_
                refine r_istore f108_127 rfl (ls' := [some (.inr (.inl (some 264))), some (.inl c), some (.inl a), some (.inl q), some (.inl (m 273 c - 1)), some (.inl i), some (.inl h), some (.inl 0), some (.inl 1), some (.inl 0), none, none]) rfl ?_
                refine r_iconst f108_129 rfl ?_
                refine r_istore f108_130 rfl (ls' := [some (.inr (.inl (some 264))), some (.inl c), some (.inl a), some (.inl q), some (.inl (m 273 c - 1)), some (.inl i), some (.inl h), some (.inl 0), some (.inl 1), some (.inl 0), some (.inl 0), none]) rfl ?_
                refine r_iload f108_132 rfl ?_
                refine r_aload_n f108_134 rfl ?_
                refine r_getI f108_135 o108 F7_86 g264_0 rfl ?_
                refine r_top (e := m 264 0) (zan_f (zpn_an ha) (by omega) (by omega) (by omega) _) ?_
                refine r_cge f108_138 (t := 210) (by decide) (fun h => absurd h (by omega)) (fun _ => ?_)
                refine r_iload f108_141 rfl ?_
                refine r_iload f108_143 rfl ?_
                refine r_cge f108_145 (t := 210) (by decide) (fun _ => ?_) (fun h => absurd (by omega) h)
                refine r_aload_n f108_210 rfl ?_
                refine r_getR f108_211 o108 F7_62 g264_22 rfl ?_
                refine r_bipush f108_214 (by decide) ?_
                refine r_iload f108_216 rfl ?_
                refine r_imul f108_218 (e := 12 * i) (by omega) (by omega) (by omega) ?_
                refine r_iload f108_219 rfl ?_
                refine r_iadd f108_221 (e := h + 12 * i) (by omega) (by omega) (by omega) ?_
                refine r_iload f108_222 rfl ?_
                refine r_zeq f108_224 (t := 261) (by decide) (fun h => absurd h (by omega)) (fun _ => ?_)
                refine r_iload f108_227 rfl ?_
                refine r_iconst f108_229 rfl ?_
                refine r_ceq f108_230 (t := 261) (by decide) (fun h => absurd h (by omega)) (fun _ => ?_)
                refine r_iload f108_233 rfl ?_
                refine r_aload_n f108_235 rfl ?_
                refine r_getR f108_236 o108 F7_38 g264_14 rfl ?_
                refine r_bipush f108_239 (by decide) ?_
                refine r_iload_n f108_241 rfl ?_
                refine r_imul f108_242 (e := 7 * c) (by omega) (by omega) (by omega) ?_
                refine r_iload f108_243 rfl ?_
                refine r_iadd f108_245 (e := 7 * c + i) (by omega) (by omega) (by omega) ?_
                refine r_iald f108_246 kd274 (by omega) (by omega) ?_
                refine r_top (e := m 274 (7 * c + i)) (zan_f (zpn_an ha) (by omega) (by omega) (by omega) _) ?_
                refine r_iload f108_247 rfl ?_
                refine r_cne f108_249 (t := 256) (by decide) (fun q39 => ?_) (fun q39 => ?_)
                · refine r_iconst f108_256 rfl ?_
                  refine r_iadd f108_257 (e := 1) (by omega) (by omega) (by omega) ?_
                  refine r_goto f108_258 (t := 262) (by decide) ?_
                  refine r_iast f108_262 kd282 (by omega) (by omega) (by omega) ?_
                  refine r_iinc f108_263 rfl rfl rfl (e := h + 1) (by omega) (by omega) (by omega) (ls' := [some (.inr (.inl (some 264))), some (.inl c), some (.inl a), some (.inl q), some (.inl (m 273 c - 1)), some (.inl i), some (.inl (h + 1)), some (.inl 0), some (.inl 1), some (.inl 0), some (.inl 0), none]) rfl ?_
                  refine r_goto f108_266 (t := 23) (by decide) ?_
                  have ev : MGa m c a q i h = 1 := by
                    first
                      | (rw [MGa_0 (by omega)]; (repeat (first | rw [if_pos (by omega)] | rw [if_neg (by omega)])); done)
                      | (rw [MGa_s (by omega)]; (repeat (first | rw [if_pos (by omega)] | rw [if_neg (by omega)])); try omega)
                  refine r_mem (m1 := MPm m1 m c a q i (h + 1)) ((zpn_s hh (by omega) (by omega) (by omega) (by omega)).symm.trans (congrArg (fun z => zu (MPm m1 m c a q i h) 282 (h + 12 * i) z) ev)) ?_
                  refine r_forget (ls' := [some (.inr (.inl (some 264))), some (.inl c), some (.inl a), some (.inl q), some (.inl (m 273 c - 1)), some (.inl i), some (.inl (h + 1)), none, none, none, none, none]) ⟨Or.inl rfl, ⟨Or.inl rfl, ⟨Or.inl rfl, ⟨Or.inl rfl, ⟨Or.inl rfl, ⟨Or.inl rfl, ⟨Or.inl rfl, ⟨Or.inr ⟨rfl, rfl⟩, ⟨Or.inr ⟨rfl, rfl⟩, ⟨Or.inr ⟨rfl, rfl⟩, ⟨Or.inr ⟨rfl, rfl⟩, ⟨Or.inl rfl, trivial⟩⟩⟩⟩⟩⟩⟩⟩⟩⟩⟩⟩ ?_
                  exact ih (h + 1) (by omega) (by omega)
                · refine r_iconst f108_252 rfl ?_
                  refine r_goto f108_253 (t := 257) (by decide) ?_
                  refine r_iadd f108_257 (e := 0) (by omega) (by omega) (by omega) ?_
                  refine r_goto f108_258 (t := 262) (by decide) ?_
                  refine r_iast f108_262 kd282 (by omega) (by omega) (by omega) ?_
                  refine r_iinc f108_263 rfl rfl rfl (e := h + 1) (by omega) (by omega) (by omega) (ls' := [some (.inr (.inl (some 264))), some (.inl c), some (.inl a), some (.inl q), some (.inl (m 273 c - 1)), some (.inl i), some (.inl (h + 1)), some (.inl 0), some (.inl 1), some (.inl 0), some (.inl 0), none]) rfl ?_
                  refine r_goto f108_266 (t := 23) (by decide) ?_
                  have ev : MGa m c a q i h = 0 := by
                    first
                      | (rw [MGa_0 (by omega)]; (repeat (first | rw [if_pos (by omega)] | rw [if_neg (by omega)])); done)
                      | (rw [MGa_s (by omega)]; (repeat (first | rw [if_pos (by omega)] | rw [if_neg (by omega)])); try omega)
                  refine r_mem (m1 := MPm m1 m c a q i (h + 1)) ((zpn_s hh (by omega) (by omega) (by omega) (by omega)).symm.trans (congrArg (fun z => zu (MPm m1 m c a q i h) 282 (h + 12 * i) z) ev)) ?_
                  refine r_forget (ls' := [some (.inr (.inl (some 264))), some (.inl c), some (.inl a), some (.inl q), some (.inl (m 273 c - 1)), some (.inl i), some (.inl (h + 1)), none, none, none, none, none]) ⟨Or.inl rfl, ⟨Or.inl rfl, ⟨Or.inl rfl, ⟨Or.inl rfl, ⟨Or.inl rfl, ⟨Or.inl rfl, ⟨Or.inl rfl, ⟨Or.inr ⟨rfl, rfl⟩, ⟨Or.inr ⟨rfl, rfl⟩, ⟨Or.inr ⟨rfl, rfl⟩, ⟨Or.inr ⟨rfl, rfl⟩, ⟨Or.inl rfl, trivial⟩⟩⟩⟩⟩⟩⟩⟩⟩⟩⟩⟩ ?_
                  exact ih (h + 1) (by omega) (by omega)
            · refine r_zeq f108_105 (t := 112) (by decide) (fun _ => ?_) (fun h => absurd (by omega) h)
              refine r_iconst f108_112 rfl ?_
              refine r_istore f108_113 rfl (ls' := [some (.inr (.inl (some 264))), some (.inl c), some (.inl a), some (.inl q), some (.inl (m 273 c - 1)), some (.inl i), some (.inl h), some (.inl 0), some (.inl 0), none, none, none]) rfl ?_
              refine r_iload f108_115 rfl ?_
              refine r_iload f108_117 rfl ?_
              refine r_cne f108_119 (t := 126) (by decide) (fun q40 => ?_) (fun q40 => ?_)
              · refine r_iconst f108_126 rfl ?_
                refine r_istore f108_127 rfl (ls' := [some (.inr (.inl (some 264))), some (.inl c), some (.inl a), some (.inl q), some (.inl (m 273 c - 1)), some (.inl i), some (.inl h), some (.inl 0), some (.inl 0), some (.inl (-1)), none, none]) rfl ?_
                refine r_iconst f108_129 rfl ?_
                refine r_istore f108_130 rfl (ls' := [some (.inr (.inl (some 264))), some (.inl c), some (.inl a), some (.inl q), some (.inl (m 273 c - 1)), some (.inl i), some (.inl h), some (.inl 0), some (.inl 0), some (.inl (-1)), some (.inl 0), none]) rfl ?_
                refine l_waysg ha hk hr c0 c1 l2 hw a0 a1 q0 (i := i) (h := h) (x := 0) (y := 0) (by omega) (by omega) hh (by omega) ?_ (m 264 0).toNat 0 (by omega) (by omega)
                refine r_aload_n f108_210 rfl ?_
                refine r_getR f108_211 o108 F7_62 g264_22 rfl ?_
                refine r_bipush f108_214 (by decide) ?_
                refine r_iload f108_216 rfl ?_
                refine r_imul f108_218 (e := 12 * i) (by omega) (by omega) (by omega) ?_
                refine r_iload f108_219 rfl ?_
                refine r_iadd f108_221 (e := h + 12 * i) (by omega) (by omega) (by omega) ?_
                refine r_iload f108_222 rfl ?_
                refine r_zeq f108_224 (t := 261) (by decide) (fun _ => ?_) (fun h => absurd (by omega) h)
                refine r_iconst f108_261 rfl ?_
                refine r_iast f108_262 kd282 (by omega) (by omega) (by omega) ?_
                refine r_iinc f108_263 rfl rfl rfl (e := h + 1) (by omega) (by omega) (by omega) (ls' := [some (.inr (.inl (some 264))), some (.inl c), some (.inl a), some (.inl q), some (.inl (m 273 c - 1)), some (.inl i), some (.inl (h + 1)), some (.inl 0), some (.inl 0), some (.inl (zfd (zstM (MGa m c a q (i + 1)) (MJ m h)) (-1) (m 264 0))), some (.inl (m 264 0)), none]) rfl ?_
                refine r_goto f108_266 (t := 23) (by decide) ?_
                have ev : MGa m c a q i h = -1 := by
                  first
                    | (rw [MGa_0 (by omega)]; (repeat (first | rw [if_pos (by omega)] | rw [if_neg (by omega)])); done)
                    | (rw [MGa_s (by omega)]; (repeat (first | rw [if_pos (by omega)] | rw [if_neg (by omega)])); try omega)
                refine r_mem (m1 := MPm m1 m c a q i (h + 1)) ((zpn_s hh (by omega) (by omega) (by omega) (by omega)).symm.trans (congrArg (fun z => zu (MPm m1 m c a q i h) 282 (h + 12 * i) z) ev)) ?_
                refine r_forget (ls' := [some (.inr (.inl (some 264))), some (.inl c), some (.inl a), some (.inl q), some (.inl (m 273 c - 1)), some (.inl i), some (.inl (h + 1)), none, none, none, none, none]) ⟨Or.inl rfl, ⟨Or.inl rfl, ⟨Or.inl rfl, ⟨Or.inl rfl, ⟨Or.inl rfl, ⟨Or.inl rfl, ⟨Or.inl rfl, ⟨Or.inr ⟨rfl, rfl⟩, ⟨Or.inr ⟨rfl, rfl⟩, ⟨Or.inr ⟨rfl, rfl⟩, ⟨Or.inr ⟨rfl, rfl⟩, ⟨Or.inl rfl, trivial⟩⟩⟩⟩⟩⟩⟩⟩⟩⟩⟩⟩ ?_
                exact ih (h + 1) (by omega) (by omega)
              · refine r_iconst f108_122 rfl ?_
                refine r_goto f108_123 (t := 127) (by decide) ?_
                refine r_istore f108_127 rfl (ls' := [some (.inr (.inl (some 264))), some (.inl c), some (.inl a), some (.inl q), some (.inl (m 273 c - 1)), some (.inl i), some (.inl h), some (.inl 0), some (.inl 0), some (.inl 0), none, none]) rfl ?_
                refine r_iconst f108_129 rfl ?_
                refine r_istore f108_130 rfl (ls' := [some (.inr (.inl (some 264))), some (.inl c), some (.inl a), some (.inl q), some (.inl (m 273 c - 1)), some (.inl i), some (.inl h), some (.inl 0), some (.inl 0), some (.inl 0), some (.inl 0), none]) rfl ?_
                refine r_iload f108_132 rfl ?_
                refine r_aload_n f108_134 rfl ?_
                refine r_getI f108_135 o108 F7_86 g264_0 rfl ?_
                refine r_top (e := m 264 0) (zan_f (zpn_an ha) (by omega) (by omega) (by omega) _) ?_
                refine r_cge f108_138 (t := 210) (by decide) (fun h => absurd h (by omega)) (fun _ => ?_)
                refine r_iload f108_141 rfl ?_
                refine r_iload f108_143 rfl ?_
                refine r_cge f108_145 (t := 210) (by decide) (fun _ => ?_) (fun h => absurd (by omega) h)
                refine r_aload_n f108_210 rfl ?_
                refine r_getR f108_211 o108 F7_62 g264_22 rfl ?_
                refine r_bipush f108_214 (by decide) ?_
                refine r_iload f108_216 rfl ?_
                refine r_imul f108_218 (e := 12 * i) (by omega) (by omega) (by omega) ?_
                refine r_iload f108_219 rfl ?_
                refine r_iadd f108_221 (e := h + 12 * i) (by omega) (by omega) (by omega) ?_
                refine r_iload f108_222 rfl ?_
                refine r_zeq f108_224 (t := 261) (by decide) (fun _ => ?_) (fun h => absurd (by omega) h)
                refine r_iconst f108_261 rfl ?_
                refine r_iast f108_262 kd282 (by omega) (by omega) (by omega) ?_
                refine r_iinc f108_263 rfl rfl rfl (e := h + 1) (by omega) (by omega) (by omega) (ls' := [some (.inr (.inl (some 264))), some (.inl c), some (.inl a), some (.inl q), some (.inl (m 273 c - 1)), some (.inl i), some (.inl (h + 1)), some (.inl 0), some (.inl 0), some (.inl 0), some (.inl 0), none]) rfl ?_
                refine r_goto f108_266 (t := 23) (by decide) ?_
                have ev : MGa m c a q i h = -1 := by
                  first
                    | (rw [MGa_0 (by omega)]; (repeat (first | rw [if_pos (by omega)] | rw [if_neg (by omega)])); done)
                    | (rw [MGa_s (by omega)]; (repeat (first | rw [if_pos (by omega)] | rw [if_neg (by omega)])); try omega)
                refine r_mem (m1 := MPm m1 m c a q i (h + 1)) ((zpn_s hh (by omega) (by omega) (by omega) (by omega)).symm.trans (congrArg (fun z => zu (MPm m1 m c a q i h) 282 (h + 12 * i) z) ev)) ?_
                refine r_forget (ls' := [some (.inr (.inl (some 264))), some (.inl c), some (.inl a), some (.inl q), some (.inl (m 273 c - 1)), some (.inl i), some (.inl (h + 1)), none, none, none, none, none]) ⟨Or.inl rfl, ⟨Or.inl rfl, ⟨Or.inl rfl, ⟨Or.inl rfl, ⟨Or.inl rfl, ⟨Or.inl rfl, ⟨Or.inl rfl, ⟨Or.inr ⟨rfl, rfl⟩, ⟨Or.inr ⟨rfl, rfl⟩, ⟨Or.inr ⟨rfl, rfl⟩, ⟨Or.inr ⟨rfl, rfl⟩, ⟨Or.inl rfl, trivial⟩⟩⟩⟩⟩⟩⟩⟩⟩⟩⟩⟩ ?_
                exact ih (h + 1) (by omega) (by omega)
      · refine r_iconst f108_45 rfl ?_
        refine r_goto f108_46 (t := 50) (by decide) ?_
        refine r_istore f108_50 rfl (ls' := [some (.inr (.inl (some 264))), some (.inl c), some (.inl a), some (.inl q), some (.inl (m 273 c - 1)), some (.inl i), some (.inl h), some (.inl 1), none, none, none, none]) rfl ?_
        refine r_iload f108_52 rfl ?_
        refine r_zeq f108_54 (t := 74) (by decide) (fun h => absurd h (by omega)) (fun _ => ?_)
        refine r_aload_n f108_57 rfl ?_
        refine r_getR f108_58 o108 F7_38 g264_14 rfl ?_
        refine r_bipush f108_61 (by decide) ?_
        refine r_iload_n f108_63 rfl ?_
        refine r_imul f108_64 (e := 7 * c) (by omega) (by omega) (by omega) ?_
        refine r_iload f108_65 rfl ?_
        refine r_iadd f108_67 (e := 7 * c + i) (by omega) (by omega) (by omega) ?_
        refine r_iald f108_68 kd274 (by omega) (by omega) ?_
        refine r_top (e := m 274 (7 * c + i)) (zan_f (zpn_an ha) (by omega) (by omega) (by omega) _) ?_
        refine r_iload f108_69 rfl ?_
        refine r_cne f108_71 (t := 112) (by decide) (fun q41 => ?_) (fun q41 => ?_)
        · refine r_iconst f108_112 rfl ?_
          refine r_istore f108_113 rfl (ls' := [some (.inr (.inl (some 264))), some (.inl c), some (.inl a), some (.inl q), some (.inl (m 273 c - 1)), some (.inl i), some (.inl h), some (.inl 1), some (.inl 0), none, none, none]) rfl ?_
          refine r_iload f108_115 rfl ?_
          refine r_iload f108_117 rfl ?_
          refine r_cne f108_119 (t := 126) (by decide) (fun q42 => ?_) (fun q42 => ?_)
          · refine r_iconst f108_126 rfl ?_
            refine r_istore f108_127 rfl (ls' := [some (.inr (.inl (some 264))), some (.inl c), some (.inl a), some (.inl q), some (.inl (m 273 c - 1)), some (.inl i), some (.inl h), some (.inl 1), some (.inl 0), some (.inl (-1)), none, none]) rfl ?_
            refine r_iconst f108_129 rfl ?_
            refine r_istore f108_130 rfl (ls' := [some (.inr (.inl (some 264))), some (.inl c), some (.inl a), some (.inl q), some (.inl (m 273 c - 1)), some (.inl i), some (.inl h), some (.inl 1), some (.inl 0), some (.inl (-1)), some (.inl 0), none]) rfl ?_
            refine l_waysg ha hk hr c0 c1 l2 hw a0 a1 q0 (i := i) (h := h) (x := 1) (y := 0) (by omega) (by omega) hh (by omega) ?_ (m 264 0).toNat 0 (by omega) (by omega)
            refine r_aload_n f108_210 rfl ?_
            refine r_getR f108_211 o108 F7_62 g264_22 rfl ?_
            refine r_bipush f108_214 (by decide) ?_
            refine r_iload f108_216 rfl ?_
            refine r_imul f108_218 (e := 12 * i) (by omega) (by omega) (by omega) ?_
            refine r_iload f108_219 rfl ?_
            refine r_iadd f108_221 (e := h + 12 * i) (by omega) (by omega) (by omega) ?_
            refine r_iload f108_222 rfl ?_
            refine r_zeq f108_224 (t := 261) (by decide) (fun _ => ?_) (fun h => absurd (by omega) h)
            refine r_iconst f108_261 rfl ?_
            refine r_iast f108_262 kd282 (by omega) (by omega) (by omega) ?_
            refine r_iinc f108_263 rfl rfl rfl (e := h + 1) (by omega) (by omega) (by omega) (ls' := [some (.inr (.inl (some 264))), some (.inl c), some (.inl a), some (.inl q), some (.inl (m 273 c - 1)), some (.inl i), some (.inl (h + 1)), some (.inl 1), some (.inl 0), some (.inl (zfd (zstM (MGa m c a q (i + 1)) (MJ m h)) (-1) (m 264 0))), some (.inl (m 264 0)), none]) rfl ?_
            refine r_goto f108_266 (t := 23) (by decide) ?_
            have ev : MGa m c a q i h = -1 := by
              first
                | (rw [MGa_0 (by omega)]; (repeat (first | rw [if_pos (by omega)] | rw [if_neg (by omega)])); done)
                | (rw [MGa_s (by omega)]; (repeat (first | rw [if_pos (by omega)] | rw [if_neg (by omega)])); try omega)
            refine r_mem (m1 := MPm m1 m c a q i (h + 1)) ((zpn_s hh (by omega) (by omega) (by omega) (by omega)).symm.trans (congrArg (fun z => zu (MPm m1 m c a q i h) 282 (h + 12 * i) z) ev)) ?_
            refine r_forget (ls' := [some (.inr (.inl (some 264))), some (.inl c), some (.inl a), some (.inl q), some (.inl (m 273 c - 1)), some (.inl i), some (.inl (h + 1)), none, none, none, none, none]) ⟨Or.inl rfl, ⟨Or.inl rfl, ⟨Or.inl rfl, ⟨Or.inl rfl, ⟨Or.inl rfl, ⟨Or.inl rfl, ⟨Or.inl rfl, ⟨Or.inr ⟨rfl, rfl⟩, ⟨Or.inr ⟨rfl, rfl⟩, ⟨Or.inr ⟨rfl, rfl⟩, ⟨Or.inr ⟨rfl, rfl⟩, ⟨Or.inl rfl, trivial⟩⟩⟩⟩⟩⟩⟩⟩⟩⟩⟩⟩ ?_
            exact ih (h + 1) (by omega) (by omega)
          · refine r_iconst f108_122 rfl ?_
            refine r_goto f108_123 (t := 127) (by decide) ?_
            refine r_istore f108_127 rfl (ls' := [some (.inr (.inl (some 264))), some (.inl c), some (.inl a), some (.inl q), some (.inl (m 273 c - 1)), some (.inl i), some (.inl h), some (.inl 1), some (.inl 0), some (.inl 0), none, none]) rfl ?_
            refine r_iconst f108_129 rfl ?_
            refine r_istore f108_130 rfl (ls' := [some (.inr (.inl (some 264))), some (.inl c), some (.inl a), some (.inl q), some (.inl (m 273 c - 1)), some (.inl i), some (.inl h), some (.inl 1), some (.inl 0), some (.inl 0), some (.inl 0), none]) rfl ?_
            refine r_iload f108_132 rfl ?_
            refine r_aload_n f108_134 rfl ?_
            refine r_getI f108_135 o108 F7_86 g264_0 rfl ?_
            refine r_top (e := m 264 0) (zan_f (zpn_an ha) (by omega) (by omega) (by omega) _) ?_
            refine r_cge f108_138 (t := 210) (by decide) (fun h => absurd h (by omega)) (fun _ => ?_)
            refine r_iload f108_141 rfl ?_
            refine r_iload f108_143 rfl ?_
            refine r_cge f108_145 (t := 210) (by decide) (fun _ => ?_) (fun h => absurd (by omega) h)
            refine r_aload_n f108_210 rfl ?_
            refine r_getR f108_211 o108 F7_62 g264_22 rfl ?_
            refine r_bipush f108_214 (by decide) ?_
            refine r_iload f108_216 rfl ?_
            refine r_imul f108_218 (e := 12 * i) (by omega) (by omega) (by omega) ?_
            refine r_iload f108_219 rfl ?_
            refine r_iadd f108_221 (e := h + 12 * i) (by omega) (by omega) (by omega) ?_
            refine r_iload f108_222 rfl ?_
            refine r_zeq f108_224 (t := 261) (by decide) (fun _ => ?_) (fun h => absurd (by omega) h)
            refine r_iconst f108_261 rfl ?_
            refine r_iast f108_262 kd282 (by omega) (by omega) (by omega) ?_
            refine r_iinc f108_263 rfl rfl rfl (e := h + 1) (by omega) (by omega) (by omega) (ls' := [some (.inr (.inl (some 264))), some (.inl c), some (.inl a), some (.inl q), some (.inl (m 273 c - 1)), some (.inl i), some (.inl (h + 1)), some (.inl 1), some (.inl 0), some (.inl 0), some (.inl 0), none]) rfl ?_
            refine r_goto f108_266 (t := 23) (by decide) ?_
            have ev : MGa m c a q i h = -1 := by
              first
                | (rw [MGa_0 (by omega)]; (repeat (first | rw [if_pos (by omega)] | rw [if_neg (by omega)])); done)
                | (rw [MGa_s (by omega)]; (repeat (first | rw [if_pos (by omega)] | rw [if_neg (by omega)])); try omega)
            refine r_mem (m1 := MPm m1 m c a q i (h + 1)) ((zpn_s hh (by omega) (by omega) (by omega) (by omega)).symm.trans (congrArg (fun z => zu (MPm m1 m c a q i h) 282 (h + 12 * i) z) ev)) ?_
            refine r_forget (ls' := [some (.inr (.inl (some 264))), some (.inl c), some (.inl a), some (.inl q), some (.inl (m 273 c - 1)), some (.inl i), some (.inl (h + 1)), none, none, none, none, none]) ⟨Or.inl rfl, ⟨Or.inl rfl, ⟨Or.inl rfl, ⟨Or.inl rfl, ⟨Or.inl rfl, ⟨Or.inl rfl, ⟨Or.inl rfl, ⟨Or.inr ⟨rfl, rfl⟩, ⟨Or.inr ⟨rfl, rfl⟩, ⟨Or.inr ⟨rfl, rfl⟩, ⟨Or.inr ⟨rfl, rfl⟩, ⟨Or.inl rfl, trivial⟩⟩⟩⟩⟩⟩⟩⟩⟩⟩⟩⟩ ?_
            exact ih (h + 1) (by omega) (by omega)
        · refine r_iload f108_74 rfl ?_
          refine r_iload_n f108_76 rfl ?_
          refine r_cne f108_77 (t := 84) (by decide) (fun q43 => ?_) (fun q43 => ?_)
          · refine r_aload_n f108_84 rfl ?_
            refine r_iload f108_85 rfl ?_
            refine r_aload_n f108_87 rfl ?_
            refine r_getR f108_88 o108 F7_32 g264_12 rfl ?_
            refine r_iload_n f108_91 rfl ?_
            refine r_iald f108_92 kd272 (by omega) (by omega) ?_
            refine r_top (e := m 272 c) (zan_f (zpn_an ha) (by omega) (by omega) (by omega) _) ?_
            refine r_iload f108_93 rfl ?_
            refine r_iadd f108_95 (e := i + m 272 c) (by omega) (by omega) (by omega) ?_
            refine r_aload_n f108_96 rfl ?_
            refine r_getR f108_97 o108 F7_29 g264_11 rfl ?_
            refine r_iload_n f108_100 rfl ?_
            refine r_iald f108_101 kd271 (by omega) (by omega) ?_
            refine r_top (e := m 271 c) (zan_f (zpn_an ha) (by omega) (by omega) (by omega) _) ?_
            refine r_callv3i (m' := (MPm m1 m c a q i h)) f108_102 o108 M7_132 p103 o103 kd264 rfl (by simp) (t_isOpenR (zpn_an ha) hk hr (h := h) (t := i + m 272 c) (n := m 271 c) (by omega) (by omega) (by omega) (by omega)) ?_
            refine r_ite (fun q44 => ?_) (fun q44 => ?_)
            · refine r_zeq f108_105 (t := 112) (by decide) (fun h => absurd h (by omega)) (fun _ => ?_)
              refine r_iconst f108_108 rfl ?_
              refine r_goto f108_109 (t := 113) (by decide) ?_
              refine r_istore f108_113 rfl (ls' := [some (.inr (.inl (some 264))), some (.inl c), some (.inl a), some (.inl q), some (.inl (m 273 c - 1)), some (.inl i), some (.inl h), some (.inl 1), some (.inl 1), none, none, none]) rfl ?_
              refine r_iload f108_115 rfl ?_
              refine r_iload f108_117 rfl ?_
              refine r_cne f108_119 (t := 126) (by decide) (fun q45 => ?_) (fun q45 => ?_)
              · refine r_iconst f108_126 rfl ?_
                refine r_istore f108_127 rfl (ls' := [some (.inr (.inl (some 264))), some (.inl c), some (.inl a), some (.inl q), some (.inl (m 273 c - 1)), some (.inl i), some (.inl h), some (.inl 1), some (.inl 1), some (.inl (-1)), none, none]) rfl ?_
                refine r_iconst f108_129 rfl ?_
                refine r_istore f108_130 rfl (ls' := [some (.inr (.inl (some 264))), some (.inl c), some (.inl a), some (.inl q), some (.inl (m 273 c - 1)), some (.inl i), some (.inl h), some (.inl 1), some (.inl 1), some (.inl (-1)), some (.inl 0), none]) rfl ?_
                refine l_waysg ha hk hr c0 c1 l2 hw a0 a1 q0 (i := i) (h := h) (x := 1) (y := 1) (by omega) (by omega) hh (by omega) ?_ (m 264 0).toNat 0 (by omega) (by omega)
                refine r_aload_n f108_210 rfl ?_
                refine r_getR f108_211 o108 F7_62 g264_22 rfl ?_
                refine r_bipush f108_214 (by decide) ?_
                refine r_iload f108_216 rfl ?_
                refine r_imul f108_218 (e := 12 * i) (by omega) (by omega) (by omega) ?_
                refine r_iload f108_219 rfl ?_
                refine r_iadd f108_221 (e := h + 12 * i) (by omega) (by omega) (by omega) ?_
                refine r_iload f108_222 rfl ?_
                refine r_zeq f108_224 (t := 261) (by decide) (fun h => absurd h (by omega)) (fun _ => ?_)
                refine r_iload f108_227 rfl ?_
                refine r_iconst f108_229 rfl ?_
                refine r_ceq f108_230 (t := 261) (by decide) (fun q46 => ?_) (fun q46 => ?_)
                · refine r_iconst f108_261 rfl ?_
                  refine r_iast f108_262 kd282 (by omega) (by omega) (by omega) ?_
                  refine r_iinc f108_263 rfl rfl rfl (e := h + 1) (by omega) (by omega) (by omega) (ls' := [some (.inr (.inl (some 264))), some (.inl c), some (.inl a), some (.inl q), some (.inl (m 273 c - 1)), some (.inl i), some (.inl (h + 1)), some (.inl 1), some (.inl 1), some (.inl (zfd (zstM (MGa m c a q (i + 1)) (MJ m h)) (-1) (m 264 0))), some (.inl (m 264 0)), none]) rfl ?_
                  refine r_goto f108_266 (t := 23) (by decide) ?_
                  have ev : MGa m c a q i h = -1 := by
                    first
                      | (rw [MGa_0 (by omega)]; (repeat (first | rw [if_pos (by omega)] | rw [if_neg (by omega)])); done)
                      | (rw [MGa_s (by omega)]; (repeat (first | rw [if_pos (by omega)] | rw [if_neg (by omega)])); try omega)
                  refine r_mem (m1 := MPm m1 m c a q i (h + 1)) ((zpn_s hh (by omega) (by omega) (by omega) (by omega)).symm.trans (congrArg (fun z => zu (MPm m1 m c a q i h) 282 (h + 12 * i) z) ev)) ?_
                  refine r_forget (ls' := [some (.inr (.inl (some 264))), some (.inl c), some (.inl a), some (.inl q), some (.inl (m 273 c - 1)), some (.inl i), some (.inl (h + 1)), none, none, none, none, none]) ⟨Or.inl rfl, ⟨Or.inl rfl, ⟨Or.inl rfl, ⟨Or.inl rfl, ⟨Or.inl rfl, ⟨Or.inl rfl, ⟨Or.inl rfl, ⟨Or.inr ⟨rfl, rfl⟩, ⟨Or.inr ⟨rfl, rfl⟩, ⟨Or.inr ⟨rfl, rfl⟩, ⟨Or.inr ⟨rfl, rfl⟩, ⟨Or.inl rfl, trivial⟩⟩⟩⟩⟩⟩⟩⟩⟩⟩⟩⟩ ?_
                  exact ih (h + 1) (by omega) (by omega)
                · refine r_iload f108_233 rfl ?_
                  refine r_aload_n f108_235 rfl ?_
                  refine r_getR f108_236 o108 F7_38 g264_14 rfl ?_
                  refine r_bipush f108_239 (by decide) ?_
                  refine r_iload_n f108_241 rfl ?_
                  refine r_imul f108_242 (e := 7 * c) (by omega) (by omega) (by omega) ?_
                  refine r_iload f108_243 rfl ?_
                  refine r_iadd f108_245 (e := 7 * c + i) (by omega) (by omega) (by omega) ?_
                  refine r_iald f108_246 kd274 (by omega) (by omega) ?_
                  refine r_top (e := m 274 (7 * c + i)) (zan_f (zpn_an ha) (by omega) (by omega) (by omega) _) ?_
                  refine r_iload f108_247 rfl ?_
                  refine r_cne f108_249 (t := 256) (by decide) (fun q47 => ?_) (fun q47 => ?_)
                  · refine r_iconst f108_256 rfl ?_
                    refine r_iadd f108_257 (e := zfd (zstM (MGa m c a q (i + 1)) (MJ m h)) (-1) (m 264 0) + 1) (by omega) (by omega) (by omega) ?_
                    refine r_goto f108_258 (t := 262) (by decide) ?_
                    refine r_iast f108_262 kd282 (by omega) (by omega) (by omega) ?_
                    refine r_iinc f108_263 rfl rfl rfl (e := h + 1) (by omega) (by omega) (by omega) (ls' := [some (.inr (.inl (some 264))), some (.inl c), some (.inl a), some (.inl q), some (.inl (m 273 c - 1)), some (.inl i), some (.inl (h + 1)), some (.inl 1), some (.inl 1), some (.inl (zfd (zstM (MGa m c a q (i + 1)) (MJ m h)) (-1) (m 264 0))), some (.inl (m 264 0)), none]) rfl ?_
                    refine r_goto f108_266 (t := 23) (by decide) ?_
                    have ev : MGa m c a q i h = zfd (zstM (MGa m c a q (i + 1)) (MJ m h)) (-1) (m 264 0) + 1 := by
                      first
                        | (rw [MGa_0 (by omega)]; (repeat (first | rw [if_pos (by omega)] | rw [if_neg (by omega)])); done)
                        | (rw [MGa_s (by omega)]; (repeat (first | rw [if_pos (by omega)] | rw [if_neg (by omega)])); try omega)
                    refine r_mem (m1 := MPm m1 m c a q i (h + 1)) ((zpn_s hh (by omega) (by omega) (by omega) (by omega)).symm.trans (congrArg (fun z => zu (MPm m1 m c a q i h) 282 (h + 12 * i) z) ev)) ?_
                    refine r_forget (ls' := [some (.inr (.inl (some 264))), some (.inl c), some (.inl a), some (.inl q), some (.inl (m 273 c - 1)), some (.inl i), some (.inl (h + 1)), none, none, none, none, none]) ⟨Or.inl rfl, ⟨Or.inl rfl, ⟨Or.inl rfl, ⟨Or.inl rfl, ⟨Or.inl rfl, ⟨Or.inl rfl, ⟨Or.inl rfl, ⟨Or.inr ⟨rfl, rfl⟩, ⟨Or.inr ⟨rfl, rfl⟩, ⟨Or.inr ⟨rfl, rfl⟩, ⟨Or.inr ⟨rfl, rfl⟩, ⟨Or.inl rfl, trivial⟩⟩⟩⟩⟩⟩⟩⟩⟩⟩⟩⟩ ?_
                    exact ih (h + 1) (by omega) (by omega)
                  · refine r_iconst f108_252 rfl ?_
                    refine r_goto f108_253 (t := 257) (by decide) ?_
                    refine r_iadd f108_257 (e := zfd (zstM (MGa m c a q (i + 1)) (MJ m h)) (-1) (m 264 0)) (by omega) (by omega) (by omega) ?_
                    refine r_goto f108_258 (t := 262) (by decide) ?_
                    refine r_iast f108_262 kd282 (by omega) (by omega) (by omega) ?_
                    refine r_iinc f108_263 rfl rfl rfl (e := h + 1) (by omega) (by omega) (by omega) (ls' := [some (.inr (.inl (some 264))), some (.inl c), some (.inl a), some (.inl q), some (.inl (m 273 c - 1)), some (.inl i), some (.inl (h + 1)), some (.inl 1), some (.inl 1), some (.inl (zfd (zstM (MGa m c a q (i + 1)) (MJ m h)) (-1) (m 264 0))), some (.inl (m 264 0)), none]) rfl ?_
                    refine r_goto f108_266 (t := 23) (by decide) ?_
                    have ev : MGa m c a q i h = zfd (zstM (MGa m c a q (i + 1)) (MJ m h)) (-1) (m 264 0) := by
                      first
                        | (rw [MGa_0 (by omega)]; (repeat (first | rw [if_pos (by omega)] | rw [if_neg (by omega)])); done)
                        | (rw [MGa_s (by omega)]; (repeat (first | rw [if_pos (by omega)] | rw [if_neg (by omega)])); try omega)
                    refine r_mem (m1 := MPm m1 m c a q i (h + 1)) ((zpn_s hh (by omega) (by omega) (by omega) (by omega)).symm.trans (congrArg (fun z => zu (MPm m1 m c a q i h) 282 (h + 12 * i) z) ev)) ?_
                    refine r_forget (ls' := [some (.inr (.inl (some 264))), some (.inl c), some (.inl a), some (.inl q), some (.inl (m 273 c - 1)), some (.inl i), some (.inl (h + 1)), none, none, none, none, none]) ⟨Or.inl rfl, ⟨Or.inl rfl, ⟨Or.inl rfl, ⟨Or.inl rfl, ⟨Or.inl rfl, ⟨Or.inl rfl, ⟨Or.inl rfl, ⟨Or.inr ⟨rfl, rfl⟩, ⟨Or.inr ⟨rfl, rfl⟩, ⟨Or.inr ⟨rfl, rfl⟩, ⟨Or.inr ⟨rfl, rfl⟩, ⟨Or.inl rfl, trivial⟩⟩⟩⟩⟩⟩⟩⟩⟩⟩⟩⟩ ?_
                    exact ih (h + 1) (by omega) (by omega)
              · refine r_iconst f108_122 rfl ?_
                refine r_goto f108_123 (t := 127) (by decide) ?_
                refine r_istore f108_127 rfl (ls' := [some (.inr (.inl (some 264))), some (.inl c), some (.inl a), some (.inl q), some (.inl (m 273 c - 1)), some (.inl i), some (.inl h), some (.inl 1), some (.inl 1), some (.inl 0), none, none]) rfl ?_
                refine r_iconst f108_129 rfl ?_
                refine r_istore f108_130 rfl (ls' := [some (.inr (.inl (some 264))), some (.inl c), some (.inl a), some (.inl q), some (.inl (m 273 c - 1)), some (.inl i), some (.inl h), some (.inl 1), some (.inl 1), some (.inl 0), some (.inl 0), none]) rfl ?_
                refine r_iload f108_132 rfl ?_
                refine r_aload_n f108_134 rfl ?_
                refine r_getI f108_135 o108 F7_86 g264_0 rfl ?_
                refine r_top (e := m 264 0) (zan_f (zpn_an ha) (by omega) (by omega) (by omega) _) ?_
                refine r_cge f108_138 (t := 210) (by decide) (fun h => absurd h (by omega)) (fun _ => ?_)
                refine r_iload f108_141 rfl ?_
                refine r_iload f108_143 rfl ?_
                refine r_cge f108_145 (t := 210) (by decide) (fun _ => ?_) (fun h => absurd (by omega) h)
                refine r_aload_n f108_210 rfl ?_
                refine r_getR f108_211 o108 F7_62 g264_22 rfl ?_
                refine r_bipush f108_214 (by decide) ?_
                refine r_iload f108_216 rfl ?_
                refine r_imul f108_218 (e := 12 * i) (by omega) (by omega) (by omega) ?_
                refine r_iload f108_219 rfl ?_
                refine r_iadd f108_221 (e := h + 12 * i) (by omega) (by omega) (by omega) ?_
                refine r_iload f108_222 rfl ?_
                refine r_zeq f108_224 (t := 261) (by decide) (fun h => absurd h (by omega)) (fun _ => ?_)
                refine r_iload f108_227 rfl ?_
                refine r_iconst f108_229 rfl ?_
                refine r_ceq f108_230 (t := 261) (by decide) (fun h => absurd h (by omega)) (fun _ => ?_)
                refine r_iload f108_233 rfl ?_
                refine r_aload_n f108_235 rfl ?_
                refine r_getR f108_236 o108 F7_38 g264_14 rfl ?_
                refine r_bipush f108_239 (by decide) ?_
                refine r_iload_n f108_241 rfl ?_
                refine r_imul f108_242 (e := 7 * c) (by omega) (by omega) (by omega) ?_
                refine r_iload f108_243 rfl ?_
                refine r_iadd f108_245 (e := 7 * c + i) (by omega) (by omega) (by omega) ?_
                refine r_iald f108_246 kd274 (by omega) (by omega) ?_
                refine r_top (e := m 274 (7 * c + i)) (zan_f (zpn_an ha) (by omega) (by omega) (by omega) _) ?_
                refine r_iload f108_247 rfl ?_
                refine r_cne f108_249 (t := 256) (by decide) (fun q48 => ?_) (fun q48 => ?_)
                · refine r_iconst f108_256 rfl ?_
                  refine r_iadd f108_257 (e := 1) (by omega) (by omega) (by omega) ?_
                  refine r_goto f108_258 (t := 262) (by decide) ?_
                  refine r_iast f108_262 kd282 (by omega) (by omega) (by omega) ?_
                  refine r_iinc f108_263 rfl rfl rfl (e := h + 1) (by omega) (by omega) (by omega) (ls' := [some (.inr (.inl (some 264))), some (.inl c), some (.inl a), some (.inl q), some (.inl (m 273 c - 1)), some (.inl i), some (.inl (h + 1)), some (.inl 1), some (.inl 1), some (.inl 0), some (.inl 0), none]) rfl ?_
                  refine r_goto f108_266 (t := 23) (by decide) ?_
                  have ev : MGa m c a q i h = 1 := by
                    first
                      | (rw [MGa_0 (by omega)]; (repeat (first | rw [if_pos (by omega)] | rw [if_neg (by omega)])); done)
                      | (rw [MGa_s (by omega)]; (repeat (first | rw [if_pos (by omega)] | rw [if_neg (by omega)])); try omega)
                  refine r_mem (m1 := MPm m1 m c a q i (h + 1)) ((zpn_s hh (by omega) (by omega) (by omega) (by omega)).symm.trans (congrArg (fun z => zu (MPm m1 m c a q i h) 282 (h + 12 * i) z) ev)) ?_
                  refine r_forget (ls' := [some (.inr (.inl (some 264))), some (.inl c), some (.inl a), some (.inl q), some (.inl (m 273 c - 1)), some (.inl i), some (.inl (h + 1)), none, none, none, none, none]) ⟨Or.inl rfl, ⟨Or.inl rfl, ⟨Or.inl rfl, ⟨Or.inl rfl, ⟨Or.inl rfl, ⟨Or.inl rfl, ⟨Or.inl rfl, ⟨Or.inr ⟨rfl, rfl⟩, ⟨Or.inr ⟨rfl, rfl⟩, ⟨Or.inr ⟨rfl, rfl⟩, ⟨Or.inr ⟨rfl, rfl⟩, ⟨Or.inl rfl, trivial⟩⟩⟩⟩⟩⟩⟩⟩⟩⟩⟩⟩ ?_
                  exact ih (h + 1) (by omega) (by omega)
                · refine r_iconst f108_252 rfl ?_
                  refine r_goto f108_253 (t := 257) (by decide) ?_
                  refine r_iadd f108_257 (e := 0) (by omega) (by omega) (by omega) ?_
                  refine r_goto f108_258 (t := 262) (by decide) ?_
                  refine r_iast f108_262 kd282 (by omega) (by omega) (by omega) ?_
                  refine r_iinc f108_263 rfl rfl rfl (e := h + 1) (by omega) (by omega) (by omega) (ls' := [some (.inr (.inl (some 264))), some (.inl c), some (.inl a), some (.inl q), some (.inl (m 273 c - 1)), some (.inl i), some (.inl (h + 1)), some (.inl 1), some (.inl 1), some (.inl 0), some (.inl 0), none]) rfl ?_
                  refine r_goto f108_266 (t := 23) (by decide) ?_
                  have ev : MGa m c a q i h = 0 := by
                    first
                      | (rw [MGa_0 (by omega)]; (repeat (first | rw [if_pos (by omega)] | rw [if_neg (by omega)])); done)
                      | (rw [MGa_s (by omega)]; (repeat (first | rw [if_pos (by omega)] | rw [if_neg (by omega)])); try omega)
                  refine r_mem (m1 := MPm m1 m c a q i (h + 1)) ((zpn_s hh (by omega) (by omega) (by omega) (by omega)).symm.trans (congrArg (fun z => zu (MPm m1 m c a q i h) 282 (h + 12 * i) z) ev)) ?_
                  refine r_forget (ls' := [some (.inr (.inl (some 264))), some (.inl c), some (.inl a), some (.inl q), some (.inl (m 273 c - 1)), some (.inl i), some (.inl (h + 1)), none, none, none, none, none]) ⟨Or.inl rfl, ⟨Or.inl rfl, ⟨Or.inl rfl, ⟨Or.inl rfl, ⟨Or.inl rfl, ⟨Or.inl rfl, ⟨Or.inl rfl, ⟨Or.inr ⟨rfl, rfl⟩, ⟨Or.inr ⟨rfl, rfl⟩, ⟨Or.inr ⟨rfl, rfl⟩, ⟨Or.inr ⟨rfl, rfl⟩, ⟨Or.inl rfl, trivial⟩⟩⟩⟩⟩⟩⟩⟩⟩⟩⟩⟩ ?_
                  exact ih (h + 1) (by omega) (by omega)
            · refine r_zeq f108_105 (t := 112) (by decide) (fun _ => ?_) (fun h => absurd (by omega) h)
              refine r_iconst f108_112 rfl ?_
              refine r_istore f108_113 rfl (ls' := [some (.inr (.inl (some 264))), some (.inl c), some (.inl a), some (.inl q), some (.inl (m 273 c - 1)), some (.inl i), some (.inl h), some (.inl 1), some (.inl 0), none, none, none]) rfl ?_
              refine r_iload f108_115 rfl ?_
              refine r_iload f108_117 rfl ?_
              refine r_cne f108_119 (t := 126) (by decide) (fun q49 => ?_) (fun q49 => ?_)
              · refine r_iconst f108_126 rfl ?_
                refine r_istore f108_127 rfl (ls' := [some (.inr (.inl (some 264))), some (.inl c), some (.inl a), some (.inl q), some (.inl (m 273 c - 1)), some (.inl i), some (.inl h), some (.inl 1), some (.inl 0), some (.inl (-1)), none, none]) rfl ?_
                refine r_iconst f108_129 rfl ?_
                refine r_istore f108_130 rfl (ls' := [some (.inr (.inl (some 264))), some (.inl c), some (.inl a), some (.inl q), some (.inl (m 273 c - 1)), some (.inl i), some (.inl h), some (.inl 1), some (.inl 0), some (.inl (-1)), some (.inl 0), none]) rfl ?_
                refine l_waysg ha hk hr c0 c1 l2 hw a0 a1 q0 (i := i) (h := h) (x := 1) (y := 0) (by omega) (by omega) hh (by omega) ?_ (m 264 0).toNat 0 (by omega) (by omega)
                refine r_aload_n f108_210 rfl ?_
                refine r_getR f108_211 o108 F7_62 g264_22 rfl ?_
                refine r_bipush f108_214 (by decide) ?_
                refine r_iload f108_216 rfl ?_
                refine r_imul f108_218 (e := 12 * i) (by omega) (by omega) (by omega) ?_
                refine r_iload f108_219 rfl ?_
                refine r_iadd f108_221 (e := h + 12 * i) (by omega) (by omega) (by omega) ?_
                refine r_iload f108_222 rfl ?_
                refine r_zeq f108_224 (t := 261) (by decide) (fun _ => ?_) (fun h => absurd (by omega) h)
                refine r_iconst f108_261 rfl ?_
                refine r_iast f108_262 kd282 (by omega) (by omega) (by omega) ?_
                refine r_iinc f108_263 rfl rfl rfl (e := h + 1) (by omega) (by omega) (by omega) (ls' := [some (.inr (.inl (some 264))), some (.inl c), some (.inl a), some (.inl q), some (.inl (m 273 c - 1)), some (.inl i), some (.inl (h + 1)), some (.inl 1), some (.inl 0), some (.inl (zfd (zstM (MGa m c a q (i + 1)) (MJ m h)) (-1) (m 264 0))), some (.inl (m 264 0)), none]) rfl ?_
                refine r_goto f108_266 (t := 23) (by decide) ?_
                have ev : MGa m c a q i h = -1 := by
                  first
                    | (rw [MGa_0 (by omega)]; (repeat (first | rw [if_pos (by omega)] | rw [if_neg (by omega)])); done)
                    | (rw [MGa_s (by omega)]; (repeat (first | rw [if_pos (by omega)] | rw [if_neg (by omega)])); try omega)
                refine r_mem (m1 := MPm m1 m c a q i (h + 1)) ((zpn_s hh (by omega) (by omega) (by omega) (by omega)).symm.trans (congrArg (fun z => zu (MPm m1 m c a q i h) 282 (h + 12 * i) z) ev)) ?_
                refine r_forget (ls' := [some (.inr (.inl (some 264))), some (.inl c), some (.inl a), some (.inl q), some (.inl (m 273 c - 1)), some (.inl i), some (.inl (h + 1)), none, none, none, none, none]) ⟨Or.inl rfl, ⟨Or.inl rfl, ⟨Or.inl rfl, ⟨Or.inl rfl, ⟨Or.inl rfl, ⟨Or.inl rfl, ⟨Or.inl rfl, ⟨Or.inr ⟨rfl, rfl⟩, ⟨Or.inr ⟨rfl, rfl⟩, ⟨Or.inr ⟨rfl, rfl⟩, ⟨Or.inr ⟨rfl, rfl⟩, ⟨Or.inl rfl, trivial⟩⟩⟩⟩⟩⟩⟩⟩⟩⟩⟩⟩ ?_
                exact ih (h + 1) (by omega) (by omega)
              · refine r_iconst f108_122 rfl ?_
                refine r_goto f108_123 (t := 127) (by decide) ?_
                refine r_istore f108_127 rfl (ls' := [some (.inr (.inl (some 264))), some (.inl c), some (.inl a), some (.inl q), some (.inl (m 273 c - 1)), some (.inl i), some (.inl h), some (.inl 1), some (.inl 0), some (.inl 0), none, none]) rfl ?_
                refine r_iconst f108_129 rfl ?_
                refine r_istore f108_130 rfl (ls' := [some (.inr (.inl (some 264))), some (.inl c), some (.inl a), some (.inl q), some (.inl (m 273 c - 1)), some (.inl i), some (.inl h), some (.inl 1), some (.inl 0), some (.inl 0), some (.inl 0), none]) rfl ?_
                refine r_iload f108_132 rfl ?_
                refine r_aload_n f108_134 rfl ?_
                refine r_getI f108_135 o108 F7_86 g264_0 rfl ?_
                refine r_top (e := m 264 0) (zan_f (zpn_an ha) (by omega) (by omega) (by omega) _) ?_
                refine r_cge f108_138 (t := 210) (by decide) (fun h => absurd h (by omega)) (fun _ => ?_)
                refine r_iload f108_141 rfl ?_
                refine r_iload f108_143 rfl ?_
                refine r_cge f108_145 (t := 210) (by decide) (fun _ => ?_) (fun h => absurd (by omega) h)
                refine r_aload_n f108_210 rfl ?_
                refine r_getR f108_211 o108 F7_62 g264_22 rfl ?_
                refine r_bipush f108_214 (by decide) ?_
                refine r_iload f108_216 rfl ?_
                refine r_imul f108_218 (e := 12 * i) (by omega) (by omega) (by omega) ?_
                refine r_iload f108_219 rfl ?_
                refine r_iadd f108_221 (e := h + 12 * i) (by omega) (by omega) (by omega) ?_
                refine r_iload f108_222 rfl ?_
                refine r_zeq f108_224 (t := 261) (by decide) (fun _ => ?_) (fun h => absurd (by omega) h)
                refine r_iconst f108_261 rfl ?_
                refine r_iast f108_262 kd282 (by omega) (by omega) (by omega) ?_
                refine r_iinc f108_263 rfl rfl rfl (e := h + 1) (by omega) (by omega) (by omega) (ls' := [some (.inr (.inl (some 264))), some (.inl c), some (.inl a), some (.inl q), some (.inl (m 273 c - 1)), some (.inl i), some (.inl (h + 1)), some (.inl 1), some (.inl 0), some (.inl 0), some (.inl 0), none]) rfl ?_
                refine r_goto f108_266 (t := 23) (by decide) ?_
                have ev : MGa m c a q i h = -1 := by
                  first
                    | (rw [MGa_0 (by omega)]; (repeat (first | rw [if_pos (by omega)] | rw [if_neg (by omega)])); done)
                    | (rw [MGa_s (by omega)]; (repeat (first | rw [if_pos (by omega)] | rw [if_neg (by omega)])); try omega)
                refine r_mem (m1 := MPm m1 m c a q i (h + 1)) ((zpn_s hh (by omega) (by omega) (by omega) (by omega)).symm.trans (congrArg (fun z => zu (MPm m1 m c a q i h) 282 (h + 12 * i) z) ev)) ?_
                refine r_forget (ls' := [some (.inr (.inl (some 264))), some (.inl c), some (.inl a), some (.inl q), some (.inl (m 273 c - 1)), some (.inl i), some (.inl (h + 1)), none, none, none, none, none]) ⟨Or.inl rfl, ⟨Or.inl rfl, ⟨Or.inl rfl, ⟨Or.inl rfl, ⟨Or.inl rfl, ⟨Or.inl rfl, ⟨Or.inl rfl, ⟨Or.inr ⟨rfl, rfl⟩, ⟨Or.inr ⟨rfl, rfl⟩, ⟨Or.inr ⟨rfl, rfl⟩, ⟨Or.inr ⟨rfl, rfl⟩, ⟨Or.inl rfl, trivial⟩⟩⟩⟩⟩⟩⟩⟩⟩⟩⟩⟩ ?_
                exact ih (h + 1) (by omega) (by omega)
          · refine r_iload_n f108_80 rfl ?_
            refine r_zeq f108_81 (t := 108) (by decide) (fun q50 => ?_) (fun q50 => ?_)
            · refine r_iconst f108_108 rfl ?_
              refine r_goto f108_109 (t := 113) (by decide) ?_
              refine r_istore f108_113 rfl (ls' := [some (.inr (.inl (some 264))), some (.inl c), some (.inl a), some (.inl q), some (.inl (m 273 c - 1)), some (.inl i), some (.inl h), some (.inl 1), some (.inl 1), none, none, none]) rfl ?_
              refine r_iload f108_115 rfl ?_
              refine r_iload f108_117 rfl ?_
              refine r_cne f108_119 (t := 126) (by decide) (fun q51 => ?_) (fun q51 => ?_)
              · refine r_iconst f108_126 rfl ?_
                refine r_istore f108_127 rfl (ls' := [some (.inr (.inl (some 264))), some (.inl c), some (.inl a), some (.inl q), some (.inl (m 273 c - 1)), some (.inl i), some (.inl h), some (.inl 1), some (.inl 1), some (.inl (-1)), none, none]) rfl ?_
                refine r_iconst f108_129 rfl ?_
                refine r_istore f108_130 rfl (ls' := [some (.inr (.inl (some 264))), some (.inl c), some (.inl a), some (.inl q), some (.inl (m 273 c - 1)), some (.inl i), some (.inl h), some (.inl 1), some (.inl 1), some (.inl (-1)), some (.inl 0), none]) rfl ?_
                refine l_waysg ha hk hr c0 c1 l2 hw a0 a1 q0 (i := i) (h := h) (x := 1) (y := 1) (by omega) (by omega) hh (by omega) ?_ (m 264 0).toNat 0 (by omega) (by omega)
                refine r_aload_n f108_210 rfl ?_
                refine r_getR f108_211 o108 F7_62 g264_22 rfl ?_
                refine r_bipush f108_214 (by decide) ?_
                refine r_iload f108_216 rfl ?_
                refine r_imul f108_218 (e := 12 * i) (by omega) (by omega) (by omega) ?_
                refine r_iload f108_219 rfl ?_
                refine r_iadd f108_221 (e := h + 12 * i) (by omega) (by omega) (by omega) ?_
                refine r_iload f108_222 rfl ?_
                refine r_zeq f108_224 (t := 261) (by decide) (fun h => absurd h (by omega)) (fun _ => ?_)
                refine r_iload f108_227 rfl ?_
                refine r_iconst f108_229 rfl ?_
                refine r_ceq f108_230 (t := 261) (by decide) (fun q52 => ?_) (fun q52 => ?_)
                · refine r_iconst f108_261 rfl ?_
                  refine r_iast f108_262 kd282 (by omega) (by omega) (by omega) ?_
                  refine r_iinc f108_263 rfl rfl rfl (e := h + 1) (by omega) (by omega) (by omega) (ls' := [some (.inr (.inl (some 264))), some (.inl c), some (.inl a), some (.inl q), some (.inl (m 273 c - 1)), some (.inl i), some (.inl (h + 1)), some (.inl 1), some (.inl 1), some (.inl (zfd (zstM (MGa m c a q (i + 1)) (MJ m h)) (-1) (m 264 0))), some (.inl (m 264 0)), none]) rfl ?_
                  refine r_goto f108_266 (t := 23) (by decide) ?_
                  have ev : MGa m c a q i h = -1 := by
                    first
                      | (rw [MGa_0 (by omega)]; (repeat (first | rw [if_pos (by omega)] | rw [if_neg (by omega)])); done)
                      | (rw [MGa_s (by omega)]; (repeat (first | rw [if_pos (by omega)] | rw [if_neg (by omega)])); try omega)
                  refine r_mem (m1 := MPm m1 m c a q i (h + 1)) ((zpn_s hh (by omega) (by omega) (by omega) (by omega)).symm.trans (congrArg (fun z => zu (MPm m1 m c a q i h) 282 (h + 12 * i) z) ev)) ?_
                  refine r_forget (ls' := [some (.inr (.inl (some 264))), some (.inl c), some (.inl a), some (.inl q), some (.inl (m 273 c - 1)), some (.inl i), some (.inl (h + 1)), none, none, none, none, none]) ⟨Or.inl rfl, ⟨Or.inl rfl, ⟨Or.inl rfl, ⟨Or.inl rfl, ⟨Or.inl rfl, ⟨Or.inl rfl, ⟨Or.inl rfl, ⟨Or.inr ⟨rfl, rfl⟩, ⟨Or.inr ⟨rfl, rfl⟩, ⟨Or.inr ⟨rfl, rfl⟩, ⟨Or.inr ⟨rfl, rfl⟩, ⟨Or.inl rfl, trivial⟩⟩⟩⟩⟩⟩⟩⟩⟩⟩⟩⟩ ?_
                  exact ih (h + 1) (by omega) (by omega)
                · refine r_iload f108_233 rfl ?_
                  refine r_aload_n f108_235 rfl ?_
                  refine r_getR f108_236 o108 F7_38 g264_14 rfl ?_
                  refine r_bipush f108_239 (by decide) ?_
                  refine r_iload_n f108_241 rfl ?_
                  refine r_imul f108_242 (e := 7 * c) (by omega) (by omega) (by omega) ?_
                  refine r_iload f108_243 rfl ?_
                  refine r_iadd f108_245 (e := 7 * c + i) (by omega) (by omega) (by omega) ?_
                  refine r_iald f108_246 kd274 (by omega) (by omega) ?_
                  refine r_top (e := m 274 (7 * c + i)) (zan_f (zpn_an ha) (by omega) (by omega) (by omega) _) ?_
                  refine r_iload f108_247 rfl ?_
                  refine r_cne f108_249 (t := 256) (by decide) (fun q53 => ?_) (fun q53 => ?_)
                  · refine r_iconst f108_256 rfl ?_
                    refine r_iadd f108_257 (e := zfd (zstM (MGa m c a q (i + 1)) (MJ m h)) (-1) (m 264 0) + 1) (by omega) (by omega) (by omega) ?_
                    refine r_goto f108_258 (t := 262) (by decide) ?_
                    refine r_iast f108_262 kd282 (by omega) (by omega) (by omega) ?_
                    refine r_iinc f108_263 rfl rfl rfl (e := h + 1) (by omega) (by omega) (by omega) (ls' := [some (.inr (.inl (some 264))), some (.inl c), some (.inl a), some (.inl q), some (.inl (m 273 c - 1)), some (.inl i), some (.inl (h + 1)), some (.inl 1), some (.inl 1), some (.inl (zfd (zstM (MGa m c a q (i + 1)) (MJ m h)) (-1) (m 264 0))), some (.inl (m 264 0)), none]) rfl ?_
                    refine r_goto f108_266 (t := 23) (by decide) ?_
                    have ev : MGa m c a q i h = zfd (zstM (MGa m c a q (i + 1)) (MJ m h)) (-1) (m 264 0) + 1 := by
                      first
                        | (rw [MGa_0 (by omega)]; (repeat (first | rw [if_pos (by omega)] | rw [if_neg (by omega)])); done)
                        | (rw [MGa_s (by omega)]; (repeat (first | rw [if_pos (by omega)] | rw [if_neg (by omega)])); try omega)
                    refine r_mem (m1 := MPm m1 m c a q i (h + 1)) ((zpn_s hh (by omega) (by omega) (by omega) (by omega)).symm.trans (congrArg (fun z => zu (MPm m1 m c a q i h) 282 (h + 12 * i) z) ev)) ?_
                    refine r_forget (ls' := [some (.inr (.inl (some 264))), some (.inl c), some (.inl a), some (.inl q), some (.inl (m 273 c - 1)), some (.inl i), some (.inl (h + 1)), none, none, none, none, none]) ⟨Or.inl rfl, ⟨Or.inl rfl, ⟨Or.inl rfl, ⟨Or.inl rfl, ⟨Or.inl rfl, ⟨Or.inl rfl, ⟨Or.inl rfl, ⟨Or.inr ⟨rfl, rfl⟩, ⟨Or.inr ⟨rfl, rfl⟩, ⟨Or.inr ⟨rfl, rfl⟩, ⟨Or.inr ⟨rfl, rfl⟩, ⟨Or.inl rfl, trivial⟩⟩⟩⟩⟩⟩⟩⟩⟩⟩⟩⟩ ?_
                    exact ih (h + 1) (by omega) (by omega)
                  · refine r_iconst f108_252 rfl ?_
                    refine r_goto f108_253 (t := 257) (by decide) ?_
                    refine r_iadd f108_257 (e := zfd (zstM (MGa m c a q (i + 1)) (MJ m h)) (-1) (m 264 0)) (by omega) (by omega) (by omega) ?_
                    refine r_goto f108_258 (t := 262) (by decide) ?_
                    refine r_iast f108_262 kd282 (by omega) (by omega) (by omega) ?_
                    refine r_iinc f108_263 rfl rfl rfl (e := h + 1) (by omega) (by omega) (by omega) (ls' := [some (.inr (.inl (some 264))), some (.inl c), some (.inl a), some (.inl q), some (.inl (m 273 c - 1)), some (.inl i), some (.inl (h + 1)), some (.inl 1), some (.inl 1), some (.inl (zfd (zstM (MGa m c a q (i + 1)) (MJ m h)) (-1) (m 264 0))), some (.inl (m 264 0)), none]) rfl ?_
                    refine r_goto f108_266 (t := 23) (by decide) ?_
                    have ev : MGa m c a q i h = zfd (zstM (MGa m c a q (i + 1)) (MJ m h)) (-1) (m 264 0) := by
                      first
                        | (rw [MGa_0 (by omega)]; (repeat (first | rw [if_pos (by omega)] | rw [if_neg (by omega)])); done)
                        | (rw [MGa_s (by omega)]; (repeat (first | rw [if_pos (by omega)] | rw [if_neg (by omega)])); try omega)
                    refine r_mem (m1 := MPm m1 m c a q i (h + 1)) ((zpn_s hh (by omega) (by omega) (by omega) (by omega)).symm.trans (congrArg (fun z => zu (MPm m1 m c a q i h) 282 (h + 12 * i) z) ev)) ?_
                    refine r_forget (ls' := [some (.inr (.inl (some 264))), some (.inl c), some (.inl a), some (.inl q), some (.inl (m 273 c - 1)), some (.inl i), some (.inl (h + 1)), none, none, none, none, none]) ⟨Or.inl rfl, ⟨Or.inl rfl, ⟨Or.inl rfl, ⟨Or.inl rfl, ⟨Or.inl rfl, ⟨Or.inl rfl, ⟨Or.inl rfl, ⟨Or.inr ⟨rfl, rfl⟩, ⟨Or.inr ⟨rfl, rfl⟩, ⟨Or.inr ⟨rfl, rfl⟩, ⟨Or.inr ⟨rfl, rfl⟩, ⟨Or.inl rfl, trivial⟩⟩⟩⟩⟩⟩⟩⟩⟩⟩⟩⟩ ?_
                    exact ih (h + 1) (by omega) (by omega)
              · refine r_iconst f108_122 rfl ?_
                refine r_goto f108_123 (t := 127) (by decide) ?_
                refine r_istore f108_127 rfl (ls' := [some (.inr (.inl (some 264))), some (.inl c), some (.inl a), some (.inl q), some (.inl (m 273 c - 1)), some (.inl i), some (.inl h), some (.inl 1), some (.inl 1), some (.inl 0), none, none]) rfl ?_
                refine r_iconst f108_129 rfl ?_
                refine r_istore f108_130 rfl (ls' := [some (.inr (.inl (some 264))), some (.inl c), some (.inl a), some (.inl q), some (.inl (m 273 c - 1)), some (.inl i), some (.inl h), some (.inl 1), some (.inl 1), some (.inl 0), some (.inl 0), none]) rfl ?_
                refine r_iload f108_132 rfl ?_
                refine r_aload_n f108_134 rfl ?_
                refine r_getI f108_135 o108 F7_86 g264_0 rfl ?_
                refine r_top (e := m 264 0) (zan_f (zpn_an ha) (by omega) (by omega) (by omega) _) ?_
                refine r_cge f108_138 (t := 210) (by decide) (fun h => absurd h (by omega)) (fun _ => ?_)
                refine r_iload f108_141 rfl ?_
                refine r_iload f108_143 rfl ?_
                refine r_cge f108_145 (t := 210) (by decide) (fun _ => ?_) (fun h => absurd (by omega) h)
                refine r_aload_n f108_210 rfl ?_
                refine r_getR f108_211 o108 F7_62 g264_22 rfl ?_
                refine r_bipush f108_214 (by decide) ?_
                refine r_iload f108_216 rfl ?_
                refine r_imul f108_218 (e := 12 * i) (by omega) (by omega) (by omega) ?_
                refine r_iload f108_219 rfl ?_
                refine r_iadd f108_221 (e := h + 12 * i) (by omega) (by omega) (by omega) ?_
                refine r_iload f108_222 rfl ?_
                refine r_zeq f108_224 (t := 261) (by decide) (fun h => absurd h (by omega)) (fun _ => ?_)
                refine r_iload f108_227 rfl ?_
                refine r_iconst f108_229 rfl ?_
                refine r_ceq f108_230 (t := 261) (by decide) (fun h => absurd h (by omega)) (fun _ => ?_)
                refine r_iload f108_233 rfl ?_
                refine r_aload_n f108_235 rfl ?_
                refine r_getR f108_236 o108 F7_38 g264_14 rfl ?_
                refine r_bipush f108_239 (by decide) ?_
                refine r_iload_n f108_241 rfl ?_
                refine r_imul f108_242 (e := 7 * c) (by omega) (by omega) (by omega) ?_
                refine r_iload f108_243 rfl ?_
                refine r_iadd f108_245 (e := 7 * c + i) (by omega) (by omega) (by omega) ?_
                refine r_iald f108_246 kd274 (by omega) (by omega) ?_
                refine r_top (e := m 274 (7 * c + i)) (zan_f (zpn_an ha) (by omega) (by omega) (by omega) _) ?_
                refine r_iload f108_247 rfl ?_
                refine r_cne f108_249 (t := 256) (by decide) (fun q54 => ?_) (fun q54 => ?_)
                · refine r_iconst f108_256 rfl ?_
                  refine r_iadd f108_257 (e := 1) (by omega) (by omega) (by omega) ?_
                  refine r_goto f108_258 (t := 262) (by decide) ?_
                  refine r_iast f108_262 kd282 (by omega) (by omega) (by omega) ?_
                  refine r_iinc f108_263 rfl rfl rfl (e := h + 1) (by omega) (by omega) (by omega) (ls' := [some (.inr (.inl (some 264))), some (.inl c), some (.inl a), some (.inl q), some (.inl (m 273 c - 1)), some (.inl i), some (.inl (h + 1)), some (.inl 1), some (.inl 1), some (.inl 0), some (.inl 0), none]) rfl ?_
                  refine r_goto f108_266 (t := 23) (by decide) ?_
                  have ev : MGa m c a q i h = 1 := by
                    first
                      | (rw [MGa_0 (by omega)]; (repeat (first | rw [if_pos (by omega)] | rw [if_neg (by omega)])); done)
                      | (rw [MGa_s (by omega)]; (repeat (first | rw [if_pos (by omega)] | rw [if_neg (by omega)])); try omega)
                  refine r_mem (m1 := MPm m1 m c a q i (h + 1)) ((zpn_s hh (by omega) (by omega) (by omega) (by omega)).symm.trans (congrArg (fun z => zu (MPm m1 m c a q i h) 282 (h + 12 * i) z) ev)) ?_
                  refine r_forget (ls' := [some (.inr (.inl (some 264))), some (.inl c), some (.inl a), some (.inl q), some (.inl (m 273 c - 1)), some (.inl i), some (.inl (h + 1)), none, none, none, none, none]) ⟨Or.inl rfl, ⟨Or.inl rfl, ⟨Or.inl rfl, ⟨Or.inl rfl, ⟨Or.inl rfl, ⟨Or.inl rfl, ⟨Or.inl rfl, ⟨Or.inr ⟨rfl, rfl⟩, ⟨Or.inr ⟨rfl, rfl⟩, ⟨Or.inr ⟨rfl, rfl⟩, ⟨Or.inr ⟨rfl, rfl⟩, ⟨Or.inl rfl, trivial⟩⟩⟩⟩⟩⟩⟩⟩⟩⟩⟩⟩ ?_
                  exact ih (h + 1) (by omega) (by omega)
                · refine r_iconst f108_252 rfl ?_
                  refine r_goto f108_253 (t := 257) (by decide) ?_
                  refine r_iadd f108_257 (e := 0) (by omega) (by omega) (by omega) ?_
                  refine r_goto f108_258 (t := 262) (by decide) ?_
                  refine r_iast f108_262 kd282 (by omega) (by omega) (by omega) ?_
                  refine r_iinc f108_263 rfl rfl rfl (e := h + 1) (by omega) (by omega) (by omega) (ls' := [some (.inr (.inl (some 264))), some (.inl c), some (.inl a), some (.inl q), some (.inl (m 273 c - 1)), some (.inl i), some (.inl (h + 1)), some (.inl 1), some (.inl 1), some (.inl 0), some (.inl 0), none]) rfl ?_
                  refine r_goto f108_266 (t := 23) (by decide) ?_
                  have ev : MGa m c a q i h = 0 := by
                    first
                      | (rw [MGa_0 (by omega)]; (repeat (first | rw [if_pos (by omega)] | rw [if_neg (by omega)])); done)
                      | (rw [MGa_s (by omega)]; (repeat (first | rw [if_pos (by omega)] | rw [if_neg (by omega)])); try omega)
                  refine r_mem (m1 := MPm m1 m c a q i (h + 1)) ((zpn_s hh (by omega) (by omega) (by omega) (by omega)).symm.trans (congrArg (fun z => zu (MPm m1 m c a q i h) 282 (h + 12 * i) z) ev)) ?_
                  refine r_forget (ls' := [some (.inr (.inl (some 264))), some (.inl c), some (.inl a), some (.inl q), some (.inl (m 273 c - 1)), some (.inl i), some (.inl (h + 1)), none, none, none, none, none]) ⟨Or.inl rfl, ⟨Or.inl rfl, ⟨Or.inl rfl, ⟨Or.inl rfl, ⟨Or.inl rfl, ⟨Or.inl rfl, ⟨Or.inl rfl, ⟨Or.inr ⟨rfl, rfl⟩, ⟨Or.inr ⟨rfl, rfl⟩, ⟨Or.inr ⟨rfl, rfl⟩, ⟨Or.inr ⟨rfl, rfl⟩, ⟨Or.inl rfl, trivial⟩⟩⟩⟩⟩⟩⟩⟩⟩⟩⟩⟩ ?_
                  exact ih (h + 1) (by omega) (by omega)
            · refine r_aload_n f108_84 rfl ?_
              refine r_iload f108_85 rfl ?_
              refine r_aload_n f108_87 rfl ?_
              refine r_getR f108_88 o108 F7_32 g264_12 rfl ?_
              refine r_iload_n f108_91 rfl ?_
              refine r_iald f108_92 kd272 (by omega) (by omega) ?_
              refine r_top (e := m 272 c) (zan_f (zpn_an ha) (by omega) (by omega) (by omega) _) ?_
              refine r_iload f108_93 rfl ?_
              refine r_iadd f108_95 (e := i + m 272 c) (by omega) (by omega) (by omega) ?_
              refine r_aload_n f108_96 rfl ?_
              refine r_getR f108_97 o108 F7_29 g264_11 rfl ?_
              refine r_iload_n f108_100 rfl ?_
              refine r_iald f108_101 kd271 (by omega) (by omega) ?_
              refine r_top (e := m 271 c) (zan_f (zpn_an ha) (by omega) (by omega) (by omega) _) ?_
              refine r_callv3i (m' := (MPm m1 m c a q i h)) f108_102 o108 M7_132 p103 o103 kd264 rfl (by simp) (t_isOpenR (zpn_an ha) hk hr (h := h) (t := i + m 272 c) (n := m 271 c) (by omega) (by omega) (by omega) (by omega)) ?_
              refine r_ite (fun q55 => ?_) (fun q55 => ?_)
              · refine r_zeq f108_105 (t := 112) (by decide) (fun h => absurd h (by omega)) (fun _ => ?_)
                refine r_iconst f108_108 rfl ?_
                refine r_goto f108_109 (t := 113) (by decide) ?_
                refine r_istore f108_113 rfl (ls' := [some (.inr (.inl (some 264))), some (.inl c), some (.inl a), some (.inl q), some (.inl (m 273 c - 1)), some (.inl i), some (.inl h), some (.inl 1), some (.inl 1), none, none, none]) rfl ?_
                refine r_iload f108_115 rfl ?_
                refine r_iload f108_117 rfl ?_
                refine r_cne f108_119 (t := 126) (by decide) (fun q56 => ?_) (fun q56 => ?_)
                · refine r_iconst f108_126 rfl ?_
                  refine r_istore f108_127 rfl (ls' := [some (.inr (.inl (some 264))), some (.inl c), some (.inl a), some (.inl q), some (.inl (m 273 c - 1)), some (.inl i), some (.inl h), some (.inl 1), some (.inl 1), some (.inl (-1)), none, none]) rfl ?_
                  refine r_iconst f108_129 rfl ?_
                  refine r_istore f108_130 rfl (ls' := [some (.inr (.inl (some 264))), some (.inl c), some (.inl a), some (.inl q), some (.inl (m 273 c - 1)), some (.inl i), some (.inl h), some (.inl 1), some (.inl 1), some (.inl (-1)), some (.inl 0), none]) rfl ?_
                  refine l_waysg ha hk hr c0 c1 l2 hw a0 a1 q0 (i := i) (h := h) (x := 1) (y := 1) (by omega) (by omega) hh (by omega) ?_ (m 264 0).toNat 0 (by omega) (by omega)
                  refine r_aload_n f108_210 rfl ?_
                  refine r_getR f108_211 o108 F7_62 g264_22 rfl ?_
                  refine r_bipush f108_214 (by decide) ?_
                  refine r_iload f108_216 rfl ?_
                  refine r_imul f108_218 (e := 12 * i) (by omega) (by omega) (by omega) ?_
                  refine r_iload f108_219 rfl ?_
                  refine r_iadd f108_221 (e := h + 12 * i) (by omega) (by omega) (by omega) ?_
                  refine r_iload f108_222 rfl ?_
                  refine r_zeq f108_224 (t := 261) (by decide) (fun h => absurd h (by omega)) (fun _ => ?_)
                  refine r_iload f108_227 rfl ?_
                  refine r_iconst f108_229 rfl ?_
                  refine r_ceq f108_230 (t := 261) (by decide) (fun q57 => ?_) (fun q57 => ?_)
                  · refine r_iconst f108_261 rfl ?_
                    refine r_iast f108_262 kd282 (by omega) (by omega) (by omega) ?_
                    refine r_iinc f108_263 rfl rfl rfl (e := h + 1) (by omega) (by omega) (by omega) (ls' := [some (.inr (.inl (some 264))), some (.inl c), some (.inl a), some (.inl q), some (.inl (m 273 c - 1)), some (.inl i), some (.inl (h + 1)), some (.inl 1), some (.inl 1), some (.inl (zfd (zstM (MGa m c a q (i + 1)) (MJ m h)) (-1) (m 264 0))), some (.inl (m 264 0)), none]) rfl ?_
                    refine r_goto f108_266 (t := 23) (by decide) ?_
                    have ev : MGa m c a q i h = -1 := by
                      first
                        | (rw [MGa_0 (by omega)]; (repeat (first | rw [if_pos (by omega)] | rw [if_neg (by omega)])); done)
                        | (rw [MGa_s (by omega)]; (repeat (first | rw [if_pos (by omega)] | rw [if_neg (by omega)])); try omega)
                    refine r_mem (m1 := MPm m1 m c a q i (h + 1)) ((zpn_s hh (by omega) (by omega) (by omega) (by omega)).symm.trans (congrArg (fun z => zu (MPm m1 m c a q i h) 282 (h + 12 * i) z) ev)) ?_
                    refine r_forget (ls' := [some (.inr (.inl (some 264))), some (.inl c), some (.inl a), some (.inl q), some (.inl (m 273 c - 1)), some (.inl i), some (.inl (h + 1)), none, none, none, none, none]) ⟨Or.inl rfl, ⟨Or.inl rfl, ⟨Or.inl rfl, ⟨Or.inl rfl, ⟨Or.inl rfl, ⟨Or.inl rfl, ⟨Or.inl rfl, ⟨Or.inr ⟨rfl, rfl⟩, ⟨Or.inr ⟨rfl, rfl⟩, ⟨Or.inr ⟨rfl, rfl⟩, ⟨Or.inr ⟨rfl, rfl⟩, ⟨Or.inl rfl, trivial⟩⟩⟩⟩⟩⟩⟩⟩⟩⟩⟩⟩ ?_
                    exact ih (h + 1) (by omega) (by omega)
                  · refine r_iload f108_233 rfl ?_
                    refine r_aload_n f108_235 rfl ?_
                    refine r_getR f108_236 o108 F7_38 g264_14 rfl ?_
                    refine r_bipush f108_239 (by decide) ?_
                    refine r_iload_n f108_241 rfl ?_
                    refine r_imul f108_242 (e := 7 * c) (by omega) (by omega) (by omega) ?_
                    refine r_iload f108_243 rfl ?_
                    refine r_iadd f108_245 (e := 7 * c + i) (by omega) (by omega) (by omega) ?_
                    refine r_iald f108_246 kd274 (by omega) (by omega) ?_
                    refine r_top (e := m 274 (7 * c + i)) (zan_f (zpn_an ha) (by omega) (by omega) (by omega) _) ?_
                    refine r_iload f108_247 rfl ?_
                    refine r_cne f108_249 (t := 256) (by decide) (fun q58 => ?_) (fun q58 => ?_)
                    · refine r_iconst f108_256 rfl ?_
                      refine r_iadd f108_257 (e := zfd (zstM (MGa m c a q (i + 1)) (MJ m h)) (-1) (m 264 0) + 1) (by omega) (by omega) (by omega) ?_
                      refine r_goto f108_258 (t := 262) (by decide) ?_
                      refine r_iast f108_262 kd282 (by omega) (by omega) (by omega) ?_
                      refine r_iinc f108_263 rfl rfl rfl (e := h + 1) (by omega) (by omega) (by omega) (ls' := [some (.inr (.inl (some 264))), some (.inl c), some (.inl a), some (.inl q), some (.inl (m 273 c - 1)), some (.inl i), some (.inl (h + 1)), some (.inl 1), some (.inl 1), some (.inl (zfd (zstM (MGa m c a q (i + 1)) (MJ m h)) (-1) (m 264 0))), some (.inl (m 264 0)), none]) rfl ?_
                      refine r_goto f108_266 (t := 23) (by decide) ?_
                      have ev : MGa m c a q i h = zfd (zstM (MGa m c a q (i + 1)) (MJ m h)) (-1) (m 264 0) + 1 := by
                        first
                          | (rw [MGa_0 (by omega)]; (repeat (first | rw [if_pos (by omega)] | rw [if_neg (by omega)])); done)
                          | (rw [MGa_s (by omega)]; (repeat (first | rw [if_pos (by omega)] | rw [if_neg (by omega)])); try omega)
                      refine r_mem (m1 := MPm m1 m c a q i (h + 1)) ((zpn_s hh (by omega) (by omega) (by omega) (by omega)).symm.trans (congrArg (fun z => zu (MPm m1 m c a q i h) 282 (h + 12 * i) z) ev)) ?_
                      refine r_forget (ls' := [some (.inr (.inl (some 264))), some (.inl c), some (.inl a), some (.inl q), some (.inl (m 273 c - 1)), some (.inl i), some (.inl (h + 1)), none, none, none, none, none]) ⟨Or.inl rfl, ⟨Or.inl rfl, ⟨Or.inl rfl, ⟨Or.inl rfl, ⟨Or.inl rfl, ⟨Or.inl rfl, ⟨Or.inl rfl, ⟨Or.inr ⟨rfl, rfl⟩, ⟨Or.inr ⟨rfl, rfl⟩, ⟨Or.inr ⟨rfl, rfl⟩, ⟨Or.inr ⟨rfl, rfl⟩, ⟨Or.inl rfl, trivial⟩⟩⟩⟩⟩⟩⟩⟩⟩⟩⟩⟩ ?_
                      exact ih (h + 1) (by omega) (by omega)
                    · refine r_iconst f108_252 rfl ?_
                      refine r_goto f108_253 (t := 257) (by decide) ?_
                      refine r_iadd f108_257 (e := zfd (zstM (MGa m c a q (i + 1)) (MJ m h)) (-1) (m 264 0)) (by omega) (by omega) (by omega) ?_
                      refine r_goto f108_258 (t := 262) (by decide) ?_
                      refine r_iast f108_262 kd282 (by omega) (by omega) (by omega) ?_
                      refine r_iinc f108_263 rfl rfl rfl (e := h + 1) (by omega) (by omega) (by omega) (ls' := [some (.inr (.inl (some 264))), some (.inl c), some (.inl a), some (.inl q), some (.inl (m 273 c - 1)), some (.inl i), some (.inl (h + 1)), some (.inl 1), some (.inl 1), some (.inl (zfd (zstM (MGa m c a q (i + 1)) (MJ m h)) (-1) (m 264 0))), some (.inl (m 264 0)), none]) rfl ?_
                      refine r_goto f108_266 (t := 23) (by decide) ?_
                      have ev : MGa m c a q i h = zfd (zstM (MGa m c a q (i + 1)) (MJ m h)) (-1) (m 264 0) := by
                        first
                          | (rw [MGa_0 (by omega)]; (repeat (first | rw [if_pos (by omega)] | rw [if_neg (by omega)])); done)
                          | (rw [MGa_s (by omega)]; (repeat (first | rw [if_pos (by omega)] | rw [if_neg (by omega)])); try omega)
                      refine r_mem (m1 := MPm m1 m c a q i (h + 1)) ((zpn_s hh (by omega) (by omega) (by omega) (by omega)).symm.trans (congrArg (fun z => zu (MPm m1 m c a q i h) 282 (h + 12 * i) z) ev)) ?_
                      refine r_forget (ls' := [some (.inr (.inl (some 264))), some (.inl c), some (.inl a), some (.inl q), some (.inl (m 273 c - 1)), some (.inl i), some (.inl (h + 1)), none, none, none, none, none]) ⟨Or.inl rfl, ⟨Or.inl rfl, ⟨Or.inl rfl, ⟨Or.inl rfl, ⟨Or.inl rfl, ⟨Or.inl rfl, ⟨Or.inl rfl, ⟨Or.inr ⟨rfl, rfl⟩, ⟨Or.inr ⟨rfl, rfl⟩, ⟨Or.inr ⟨rfl, rfl⟩, ⟨Or.inr ⟨rfl, rfl⟩, ⟨Or.inl rfl, trivial⟩⟩⟩⟩⟩⟩⟩⟩⟩⟩⟩⟩ ?_
                      exact ih (h + 1) (by omega) (by omega)
                · refine r_iconst f108_122 rfl ?_
                  refine r_goto f108_123 (t := 127) (by decide) ?_
                  refine r_istore f108_127 rfl (ls' := [some (.inr (.inl (some 264))), some (.inl c), some (.inl a), some (.inl q), some (.inl (m 273 c - 1)), some (.inl i), some (.inl h), some (.inl 1), some (.inl 1), some (.inl 0), none, none]) rfl ?_
                  refine r_iconst f108_129 rfl ?_
                  refine r_istore f108_130 rfl (ls' := [some (.inr (.inl (some 264))), some (.inl c), some (.inl a), some (.inl q), some (.inl (m 273 c - 1)), some (.inl i), some (.inl h), some (.inl 1), some (.inl 1), some (.inl 0), some (.inl 0), none]) rfl ?_
                  refine r_iload f108_132 rfl ?_
                  refine r_aload_n f108_134 rfl ?_
                  refine r_getI f108_135 o108 F7_86 g264_0 rfl ?_
                  refine r_top (e := m 264 0) (zan_f (zpn_an ha) (by omega) (by omega) (by omega) _) ?_
                  refine r_cge f108_138 (t := 210) (by decide) (fun h => absurd h (by omega)) (fun _ => ?_)
                  refine r_iload f108_141 rfl ?_
                  refine r_iload f108_143 rfl ?_
                  refine r_cge f108_145 (t := 210) (by decide) (fun _ => ?_) (fun h => absurd (by omega) h)
                  refine r_aload_n f108_210 rfl ?_
                  refine r_getR f108_211 o108 F7_62 g264_22 rfl ?_
                  refine r_bipush f108_214 (by decide) ?_
                  refine r_iload f108_216 rfl ?_
                  refine r_imul f108_218 (e := 12 * i) (by omega) (by omega) (by omega) ?_
                  refine r_iload f108_219 rfl ?_
                  refine r_iadd f108_221 (e := h + 12 * i) (by omega) (by omega) (by omega) ?_
                  refine r_iload f108_222 rfl ?_
                  refine r_zeq f108_224 (t := 261) (by decide) (fun h => absurd h (by omega)) (fun _ => ?_)
                  refine r_iload f108_227 rfl ?_
                  refine r_iconst f108_229 rfl ?_
                  refine r_ceq f108_230 (t := 261) (by decide) (fun h => absurd h (by omega)) (fun _ => ?_)
                  refine r_iload f108_233 rfl ?_
                  refine r_aload_n f108_235 rfl ?_
                  refine r_getR f108_236 o108 F7_38 g264_14 rfl ?_
                  refine r_bipush f108_239 (by decide) ?_
                  refine r_iload_n f108_241 rfl ?_
                  refine r_imul f108_242 (e := 7 * c) (by omega) (by omega) (by omega) ?_
                  refine r_iload f108_243 rfl ?_
                  refine r_iadd f108_245 (e := 7 * c + i) (by omega) (by omega) (by omega) ?_
                  refine r_iald f108_246 kd274 (by omega) (by omega) ?_
                  refine r_top (e := m 274 (7 * c + i)) (zan_f (zpn_an ha) (by omega) (by omega) (by omega) _) ?_
                  refine r_iload f108_247 rfl ?_
                  refine r_cne f108_249 (t := 256) (by decide) (fun q59 => ?_) (fun q59 => ?_)
                  · refine r_iconst f108_256 rfl ?_
                    refine r_iadd f108_257 (e := 1) (by omega) (by omega) (by omega) ?_
                    refine r_goto f108_258 (t := 262) (by decide) ?_
                    refine r_iast f108_262 kd282 (by omega) (by omega) (by omega) ?_
                    refine r_iinc f108_263 rfl rfl rfl (e := h + 1) (by omega) (by omega) (by omega) (ls' := [some (.inr (.inl (some 264))), some (.inl c), some (.inl a), some (.inl q), some (.inl (m 273 c - 1)), some (.inl i), some (.inl (h + 1)), some (.inl 1), some (.inl 1), some (.inl 0), some (.inl 0), none]) rfl ?_
                    refine r_goto f108_266 (t := 23) (by decide) ?_
                    have ev : MGa m c a q i h = 1 := by
                      first
                        | (rw [MGa_0 (by omega)]; (repeat (first | rw [if_pos (by omega)] | rw [if_neg (by omega)])); done)
                        | (rw [MGa_s (by omega)]; (repeat (first | rw [if_pos (by omega)] | rw [if_neg (by omega)])); try omega)
                    refine r_mem (m1 := MPm m1 m c a q i (h + 1)) ((zpn_s hh (by omega) (by omega) (by omega) (by omega)).symm.trans (congrArg (fun z => zu (MPm m1 m c a q i h) 282 (h + 12 * i) z) ev)) ?_
                    refine r_forget (ls' := [some (.inr (.inl (some 264))), some (.inl c), some (.inl a), some (.inl q), some (.inl (m 273 c - 1)), some (.inl i), some (.inl (h + 1)), none, none, none, none, none]) ⟨Or.inl rfl, ⟨Or.inl rfl, ⟨Or.inl rfl, ⟨Or.inl rfl, ⟨Or.inl rfl, ⟨Or.inl rfl, ⟨Or.inl rfl, ⟨Or.inr ⟨rfl, rfl⟩, ⟨Or.inr ⟨rfl, rfl⟩, ⟨Or.inr ⟨rfl, rfl⟩, ⟨Or.inr ⟨rfl, rfl⟩, ⟨Or.inl rfl, trivial⟩⟩⟩⟩⟩⟩⟩⟩⟩⟩⟩⟩ ?_
                    exact ih (h + 1) (by omega) (by omega)
                  · refine r_iconst f108_252 rfl ?_
                    refine r_goto f108_253 (t := 257) (by decide) ?_
                    refine r_iadd f108_257 (e := 0) (by omega) (by omega) (by omega) ?_
                    refine r_goto f108_258 (t := 262) (by decide) ?_
                    refine r_iast f108_262 kd282 (by omega) (by omega) (by omega) ?_
                    refine r_iinc f108_263 rfl rfl rfl (e := h + 1) (by omega) (by omega) (by omega) (ls' := [some (.inr (.inl (some 264))), some (.inl c), some (.inl a), some (.inl q), some (.inl (m 273 c - 1)), some (.inl i), some (.inl (h + 1)), some (.inl 1), some (.inl 1), some (.inl 0), some (.inl 0), none]) rfl ?_
                    refine r_goto f108_266 (t := 23) (by decide) ?_
                    have ev : MGa m c a q i h = 0 := by
                      first
                        | (rw [MGa_0 (by omega)]; (repeat (first | rw [if_pos (by omega)] | rw [if_neg (by omega)])); done)
                        | (rw [MGa_s (by omega)]; (repeat (first | rw [if_pos (by omega)] | rw [if_neg (by omega)])); try omega)
                    refine r_mem (m1 := MPm m1 m c a q i (h + 1)) ((zpn_s hh (by omega) (by omega) (by omega) (by omega)).symm.trans (congrArg (fun z => zu (MPm m1 m c a q i h) 282 (h + 12 * i) z) ev)) ?_
                    refine r_forget (ls' := [some (.inr (.inl (some 264))), some (.inl c), some (.inl a), some (.inl q), some (.inl (m 273 c - 1)), some (.inl i), some (.inl (h + 1)), none, none, none, none, none]) ⟨Or.inl rfl, ⟨Or.inl rfl, ⟨Or.inl rfl, ⟨Or.inl rfl, ⟨Or.inl rfl, ⟨Or.inl rfl, ⟨Or.inl rfl, ⟨Or.inr ⟨rfl, rfl⟩, ⟨Or.inr ⟨rfl, rfl⟩, ⟨Or.inr ⟨rfl, rfl⟩, ⟨Or.inr ⟨rfl, rfl⟩, ⟨Or.inl rfl, trivial⟩⟩⟩⟩⟩⟩⟩⟩⟩⟩⟩⟩ ?_
                    exact ih (h + 1) (by omega) (by omega)
              · refine r_zeq f108_105 (t := 112) (by decide) (fun _ => ?_) (fun h => absurd (by omega) h)
                refine r_iconst f108_112 rfl ?_
                refine r_istore f108_113 rfl (ls' := [some (.inr (.inl (some 264))), some (.inl c), some (.inl a), some (.inl q), some (.inl (m 273 c - 1)), some (.inl i), some (.inl h), some (.inl 1), some (.inl 0), none, none, none]) rfl ?_
                refine r_iload f108_115 rfl ?_
                refine r_iload f108_117 rfl ?_
                refine r_cne f108_119 (t := 126) (by decide) (fun q60 => ?_) (fun q60 => ?_)
                · refine r_iconst f108_126 rfl ?_
                  refine r_istore f108_127 rfl (ls' := [some (.inr (.inl (some 264))), some (.inl c), some (.inl a), some (.inl q), some (.inl (m 273 c - 1)), some (.inl i), some (.inl h), some (.inl 1), some (.inl 0), some (.inl (-1)), none, none]) rfl ?_
                  refine r_iconst f108_129 rfl ?_
                  refine r_istore f108_130 rfl (ls' := [some (.inr (.inl (some 264))), some (.inl c), some (.inl a), some (.inl q), some (.inl (m 273 c - 1)), some (.inl i), some (.inl h), some (.inl 1), some (.inl 0), some (.inl (-1)), some (.inl 0), none]) rfl ?_
                  refine l_waysg ha hk hr c0 c1 l2 hw a0 a1 q0 (i := i) (h := h) (x := 1) (y := 0) (by omega) (by omega) hh (by omega) ?_ (m 264 0).toNat 0 (by omega) (by omega)
                  refine r_aload_n f108_210 rfl ?_
                  refine r_getR f108_211 o108 F7_62 g264_22 rfl ?_
                  refine r_bipush f108_214 (by decide) ?_
                  refine r_iload f108_216 rfl ?_
                  refine r_imul f108_218 (e := 12 * i) (by omega) (by omega) (by omega) ?_
                  refine r_iload f108_219 rfl ?_
                  refine r_iadd f108_221 (e := h + 12 * i) (by omega) (by omega) (by omega) ?_
                  refine r_iload f108_222 rfl ?_
                  refine r_zeq f108_224 (t := 261) (by decide) (fun _ => ?_) (fun h => absurd (by omega) h)
                  refine r_iconst f108_261 rfl ?_
                  refine r_iast f108_262 kd282 (by omega) (by omega) (by omega) ?_
                  refine r_iinc f108_263 rfl rfl rfl (e := h + 1) (by omega) (by omega) (by omega) (ls' := [some (.inr (.inl (some 264))), some (.inl c), some (.inl a), some (.inl q), some (.inl (m 273 c - 1)), some (.inl i), some (.inl (h + 1)), some (.inl 1), some (.inl 0), some (.inl (zfd (zstM (MGa m c a q (i + 1)) (MJ m h)) (-1) (m 264 0))), some (.inl (m 264 0)), none]) rfl ?_
                  refine r_goto f108_266 (t := 23) (by decide) ?_
                  have ev : MGa m c a q i h = -1 := by
                    first
                      | (rw [MGa_0 (by omega)]; (repeat (first | rw [if_pos (by omega)] | rw [if_neg (by omega)])); done)
                      | (rw [MGa_s (by omega)]; (repeat (first | rw [if_pos (by omega)] | rw [if_neg (by omega)])); try omega)
                  refine r_mem (m1 := MPm m1 m c a q i (h + 1)) ((zpn_s hh (by omega) (by omega) (by omega) (by omega)).symm.trans (congrArg (fun z => zu (MPm m1 m c a q i h) 282 (h + 12 * i) z) ev)) ?_
                  refine r_forget (ls' := [some (.inr (.inl (some 264))), some (.inl c), some (.inl a), some (.inl q), some (.inl (m 273 c - 1)), some (.inl i), some (.inl (h + 1)), none, none, none, none, none]) ⟨Or.inl rfl, ⟨Or.inl rfl, ⟨Or.inl rfl, ⟨Or.inl rfl, ⟨Or.inl rfl, ⟨Or.inl rfl, ⟨Or.inl rfl, ⟨Or.inr ⟨rfl, rfl⟩, ⟨Or.inr ⟨rfl, rfl⟩, ⟨Or.inr ⟨rfl, rfl⟩, ⟨Or.inr ⟨rfl, rfl⟩, ⟨Or.inl rfl, trivial⟩⟩⟩⟩⟩⟩⟩⟩⟩⟩⟩⟩ ?_
                  exact ih (h + 1) (by omega) (by omega)
                · refine r_iconst f108_122 rfl ?_
                  refine r_goto f108_123 (t := 127) (by decide) ?_
                  refine r_istore f108_127 rfl (ls' := [some (.inr (.inl (some 264))), some (.inl c), some (.inl a), some (.inl q), some (.inl (m 273 c - 1)), some (.inl i), some (.inl h), some (.inl 1), some (.inl 0), some (.inl 0), none, none]) rfl ?_
                  refine r_iconst f108_129 rfl ?_
                  refine r_istore f108_130 rfl (ls' := [some (.inr (.inl (some 264))), some (.inl c), some (.inl a), some (.inl q), some (.inl (m 273 c - 1)), some (.inl i), some (.inl h), some (.inl 1), some (.inl 0), some (.inl 0), some (.inl 0), none]) rfl ?_
                  refine r_iload f108_132 rfl ?_
                  refine r_aload_n f108_134 rfl ?_
                  refine r_getI f108_135 o108 F7_86 g264_0 rfl ?_
                  refine r_top (e := m 264 0) (zan_f (zpn_an ha) (by omega) (by omega) (by omega) _) ?_
                  refine r_cge f108_138 (t := 210) (by decide) (fun h => absurd h (by omega)) (fun _ => ?_)
                  refine r_iload f108_141 rfl ?_
                  refine r_iload f108_143 rfl ?_
                  refine r_cge f108_145 (t := 210) (by decide) (fun _ => ?_) (fun h => absurd (by omega) h)
                  refine r_aload_n f108_210 rfl ?_
                  refine r_getR f108_211 o108 F7_62 g264_22 rfl ?_
                  refine r_bipush f108_214 (by decide) ?_
                  refine r_iload f108_216 rfl ?_
                  refine r_imul f108_218 (e := 12 * i) (by omega) (by omega) (by omega) ?_
                  refine r_iload f108_219 rfl ?_
                  refine r_iadd f108_221 (e := h + 12 * i) (by omega) (by omega) (by omega) ?_
                  refine r_iload f108_222 rfl ?_
                  refine r_zeq f108_224 (t := 261) (by decide) (fun _ => ?_) (fun h => absurd (by omega) h)
                  refine r_iconst f108_261 rfl ?_
                  refine r_iast f108_262 kd282 (by omega) (by omega) (by omega) ?_
                  refine r_iinc f108_263 rfl rfl rfl (e := h + 1) (by omega) (by omega) (by omega) (ls' := [some (.inr (.inl (some 264))), some (.inl c), some (.inl a), some (.inl q), some (.inl (m 273 c - 1)), some (.inl i), some (.inl (h + 1)), some (.inl 1), some (.inl 0), some (.inl 0), some (.inl 0), none]) rfl ?_
                  refine r_goto f108_266 (t := 23) (by decide) ?_
                  have ev : MGa m c a q i h = -1 := by
                    first
                      | (rw [MGa_0 (by omega)]; (repeat (first | rw [if_pos (by omega)] | rw [if_neg (by omega)])); done)
                      | (rw [MGa_s (by omega)]; (repeat (first | rw [if_pos (by omega)] | rw [if_neg (by omega)])); try omega)
                  refine r_mem (m1 := MPm m1 m c a q i (h + 1)) ((zpn_s hh (by omega) (by omega) (by omega) (by omega)).symm.trans (congrArg (fun z => zu (MPm m1 m c a q i h) 282 (h + 12 * i) z) ev)) ?_
                  refine r_forget (ls' := [some (.inr (.inl (some 264))), some (.inl c), some (.inl a), some (.inl q), some (.inl (m 273 c - 1)), some (.inl i), some (.inl (h + 1)), none, none, none, none, none]) ⟨Or.inl rfl, ⟨Or.inl rfl, ⟨Or.inl rfl, ⟨Or.inl rfl, ⟨Or.inl rfl, ⟨Or.inl rfl, ⟨Or.inl rfl, ⟨Or.inr ⟨rfl, rfl⟩, ⟨Or.inr ⟨rfl, rfl⟩, ⟨Or.inr ⟨rfl, rfl⟩, ⟨Or.inr ⟨rfl, rfl⟩, ⟨Or.inl rfl, trivial⟩⟩⟩⟩⟩⟩⟩⟩⟩⟩⟩⟩ ?_
                  exact ih (h + 1) (by omega) (by omega)
theorem l_waysi {L d : Nat} {m1 m : zmem} (ha : zan m1 m) (hk : MOk m) (hr : MRng m) {c : Int} (c0 : 0 ≤ c) (c1 : c < 40) (l2 : m 272 c + m 273 c ≤ 40) (hw : ∀ k, 0 ≤ k → k < m 273 c → 0 ≤ m 274 (7 * c + k) ∧ m 274 (7 * c + k) < m 264 0) {a q : Int} (a0 : 0 ≤ a) (a1 : a < m 273 c) (q0 : q = 0 ∨ q = 1) {Q : Option zV → zM → Prop} (hx : zR (d + 5) 108 275 [some (.inr (.inl (some 264))), some (.inl c), some (.inl a), some (.inl q), some (.inl (m 273 c - 1)), some (.inl (a - 1)), none, none, none, none, none, none] [] (zem L (MPm m1 m c a q (a - 1) 0)) Q) : ∀ (n : Nat) (i : Int), i + 1 = a + n → i < m 273 c → zR (d + 5) 108 14 [some (.inr (.inl (some 264))), some (.inl c), some (.inl a), some (.inl q), some (.inl (m 273 c - 1)), some (.inl i), none, none, none, none, none, none] [] (zem L (MPm m1 m c a q i 0)) Q := by
  have kc := hk.2.2.1 c c0 c1
  have kh := hk.2.1
  intro n
  induction n with
  | zero =>
    intro i hn hl
    have ei : i = a - 1 := by omega
    rw [ei]
    refine r_iload f108_14 rfl ?_
    refine r_iload_n f108_16 rfl ?_
    refine r_clt f108_17 (t := 275) (by decide) (fun _ => ?_) (fun h => absurd (by omega) h)
    exact hx
  | succ n ih =>
    intro i hn hl
    refine r_iload f108_14 rfl ?_
    refine r_iload_n f108_16 rfl ?_
    refine r_clt f108_17 (t := 275) (by decide) (fun h => absurd h (by omega)) (fun _ => ?_)
    refine r_iconst f108_20 rfl ?_
    refine r_istore f108_21 rfl (ls' := [some (.inr (.inl (some 264))), some (.inl c), some (.inl a), some (.inl q), some (.inl (m 273 c - 1)), some (.inl i), some (.inl 0), none, none, none, none, none]) rfl ?_
    refine l_waysh ha hk hr c0 c1 l2 hw a0 a1 q0 (i := i) (by omega) hl ?_ (m 264 0).toNat 0 (by omega) (by omega)
    refine r_mem (m1 := MPm m1 m c a q (i - 1) 0) zpn_r.symm ?_
    refine r_iinc f108_269 rfl rfl rfl (e := i - 1) (by omega) (by omega) (by omega) (ls' := [some (.inr (.inl (some 264))), some (.inl c), some (.inl a), some (.inl q), some (.inl (m 273 c - 1)), some (.inl (i - 1)), some (.inl (m 264 0)), none, none, none, none, none]) rfl ?_
    refine r_goto f108_272 (t := 14) (by decide) ?_
    refine r_forget (ls' := [some (.inr (.inl (some 264))), some (.inl c), some (.inl a), some (.inl q), some (.inl (m 273 c - 1)), some (.inl (i - 1)), none, none, none, none, none, none]) ⟨Or.inl rfl, ⟨Or.inl rfl, ⟨Or.inl rfl, ⟨Or.inl rfl, ⟨Or.inl rfl, ⟨Or.inl rfl, ⟨Or.inr ⟨rfl, rfl⟩, ⟨Or.inl rfl, ⟨Or.inl rfl, ⟨Or.inl rfl, ⟨Or.inl rfl, ⟨Or.inl rfl, trivial⟩⟩⟩⟩⟩⟩⟩⟩⟩⟩⟩⟩ ?_
    exact ih (i - 1) (by omega) (by omega)
