theorem t_leadRound {L d : Nat} {m : zmem} {c s v g : Int} (eg : s + 1 = g) {X1 X2 W Z : zmem} (c0 : 0 ≤ c) (c1 : c < 40) (w0 : 0 ≤ m 0 7) (w1 : m 0 7 ≤ 39) (f0 : 0 ≤ m (64 + 5 * c) 5) (f1 : m (64 + 5 * c) 5 ≤ 39) (hsx : (if m 0 7 - m (64 + 5 * c) 5 < -1 then -1 else m 0 7 - m (64 + 5 * c) 5) = s) (s0 : -1 ≤ s) (s1 : s ≤ 39) (hL : zF L (d + 4) 75 [.inr (.inl (some 0)), .inr (.inl (some (64 + 5 * c))), .inl g] m none X1) (hX : zF L (d + 4) 37 [.inr (.inl (some 51)), .inr (.inl (some (64 + 5 * c))), .inl s] X1 (some (.inl v)) X2) (hF : ¬ v = -1 → zF L (d + 4) 2 [.inr (.inl (some (64 + 5 * c))), .inr (.inl (some 53)), .inl g] X2 none W) (hY : ¬ v = -1 → zF L (d + 4) 74 [.inr (.inl (some 0)), .inr (.inl (some (64 + 5 * c))), .inl g] W none Z) : zF L (d + 5) 76 [.inr (.inl (some 0)), .inr (.inl (some (64 + 5 * c)))] m (some (.inl (if v = -1 then 0 else 1))) (if v = -1 then (if s = -1 then zu X2 (64 + 5 * c) 7 2 else zu X2 (64 + 5 * c) 6 g) else Z) := by
  refine zF_of n76 (ls := [some (.inr (.inl (some 0))), some (.inr (.inl (some (64 + 5 * c)))), none]) rfl ?_
  refine r_aload_n f76_0 rfl ?_
  refine r_getI f76_1 o76 F6_94 g0_7 rfl ?_
  refine r_aload_n f76_4 rfl ?_
  refine r_getI f76_5 o76 F6_121 (gC_5 (c := c) (by omega) (by omega)) rfl ?_
  refine r_isub f76_8 (e := m 0 7 - m (64 + 5 * c) 5) (by omega) (by omega) (by omega) ?_
  refine r_iconst f76_9 rfl ?_
  refine r_max f76_10 o76 M6_272 (by simp) ?_
  refine r_top (e := s) hsx ?_
  refine r_istore_n f76_13 rfl (ls' := [some (.inr (.inl (some 0))), some (.inr (.inl (some (64 + 5 * c)))), some (.inl s)]) rfl ?_
  refine r_aload_n f76_14 rfl ?_
  refine r_aload_n f76_15 rfl ?_
  refine r_iload_n f76_16 rfl ?_
  refine r_iconst f76_17 rfl ?_
  refine r_iadd f76_18 (e := s + 1) (by omega) (by omega) (by omega) ?_
  refine r_top (e := g) eg ?_
  refine r_callv2u (m' := X1) f76_19 o76 M6_152 p75 o75 kd0 rfl (by simp) hL ?_
  refine r_aload_n f76_22 rfl ?_
  refine r_getR f76_23 o76 F6_21 g0_1 rfl ?_
  refine r_aload_n f76_26 rfl ?_
  refine r_iload_n f76_27 rfl ?_
  refine r_callv2i (m' := X2) (v := v) f76_28 o76 M6_137 p37 o37 kd51 rfl (by simp) hX ?_
  refine r_iconst f76_31 rfl ?_
  refine r_ceq f76_32 (t := 59) (by decide) (fun q1 => ?_) (fun q1 => ?_)
  · refine r_iload_n f76_59 rfl ?_
    refine r_iconst f76_60 rfl ?_
    refine r_cne f76_61 (t := 72) (by decide) (fun q2 => ?_) (fun q2 => ?_)
    · refine r_aload_n f76_72 rfl ?_
      refine r_iload_n f76_73 rfl ?_
      refine r_iconst f76_74 rfl ?_
      refine r_iadd f76_75 (e := s + 1) (by omega) (by omega) (by omega) ?_
      refine r_top (e := g) eg ?_
      refine r_put f76_76 o76 F6_124 (gC_6 (c := c) (by omega) (by omega)) rfl T0_6 U0_6 ?_
      refine r_iconst f76_79 rfl ?_
      exact r_zret f76_80 v76 (by omega) ⟨zs_eq (by first | rfl | omega | ((repeat (first | rw [if_pos (by omega)] | rw [if_neg (by omega)])) <;> first | rfl | omega)), (by first | rfl | ((repeat (first | rw [if_pos (by omega)] | rw [if_neg (by omega)])); done) | ((repeat (first | rw [if_pos (by omega)] | rw [if_neg (by omega)])); rfl))⟩
    · refine r_aload_n f76_64 rfl ?_
      refine r_iconst f76_65 rfl ?_
      refine r_put f76_66 o76 F6_104 (gC_7 (c := c) (by omega) (by omega)) rfl T0_7 U0_7 ?_
      refine r_goto f76_69 (t := 79) (by decide) ?_
      refine r_iconst f76_79 rfl ?_
      exact r_zret f76_80 v76 (by omega) ⟨zs_eq (by first | rfl | omega | ((repeat (first | rw [if_pos (by omega)] | rw [if_neg (by omega)])) <;> first | rfl | omega)), (by first | rfl | ((repeat (first | rw [if_pos (by omega)] | rw [if_neg (by omega)])); done) | ((repeat (first | rw [if_pos (by omega)] | rw [if_neg (by omega)])); rfl))⟩
  · refine r_aload_n f76_35 rfl ?_
    refine r_aload_n f76_36 rfl ?_
    refine r_getR f76_37 o76 F6_21 g0_1 rfl ?_
    refine r_getR f76_40 o76 F6_141 g51_2 rfl ?_
    refine r_iload_n f76_43 rfl ?_
    refine r_iconst f76_44 rfl ?_
    refine r_iadd f76_45 (e := s + 1) (by omega) (by omega) (by omega) ?_
    refine r_top (e := g) eg ?_
    refine r_callv2u (m' := W) f76_46 o76 M6_144 p2 o2 (kdC0 (c := c) (by omega) (by omega)) rfl (by simp) (hF (by omega)) ?_
    refine r_aload_n f76_49 rfl ?_
    refine r_aload_n f76_50 rfl ?_
    refine r_iload_n f76_51 rfl ?_
    refine r_iconst f76_52 rfl ?_
    refine r_iadd f76_53 (e := s + 1) (by omega) (by omega) (by omega) ?_
    refine r_top (e := g) eg ?_
    refine r_callv2u (m' := Z) f76_54 o76 M6_148 p74 o74 kd0 rfl (by simp) (hY (by omega)) ?_
    refine r_iconst f76_57 rfl ?_
    exact r_zret f76_58 v76 (by omega) ⟨zs_eq (by first | rfl | omega | ((repeat (first | rw [if_pos (by omega)] | rw [if_neg (by omega)])) <;> first | rfl | omega)), (by first | rfl | ((repeat (first | rw [if_pos (by omega)] | rw [if_neg (by omega)])); done) | ((repeat (first | rw [if_pos (by omega)] | rw [if_neg (by omega)])); rfl))⟩

theorem l_lout {L d : Nat} {c N : Int} {f q : Int} (c0 : 0 ≤ c) (c1 : c < 40) (n1 : N ≤ 7) {Q : Option zV → zM → Prop} : ∀ (n : Nat) (i : Int) (M : zmem), M 273 c = N → 0 ≤ i → i + n = N → zR (d + 1) 115 85 [some (.inr (.inl (some 264))), some (.inl c), some (.inl f), some (.inl q), some (.inl N), none] [] (zem L (MLf c n i M)) Q → zR (d + 1) 115 61 [some (.inr (.inl (some 264))), some (.inl c), some (.inl f), some (.inl q), some (.inl i), none] [] (zem L M) Q
  | 0, i, M, h3, i0, hn, hk => by
    have ei : i = N := by omega
    rw [ei]
    refine r_iload f115_61 rfl ?_
    refine r_aload_n f115_63 rfl ?_
    refine r_getR f115_64 o115 F7_35 g264_13 rfl ?_
    refine r_iload_n f115_67 rfl ?_
    refine r_iald f115_68 kd273 (by omega) (by omega) ?_
    refine r_top (e := N) h3 ?_
    refine r_cge f115_69 (t := 85) (by decide) (fun _ => ?_) (fun h => absurd (by omega) h)
    exact hk
  | n + 1, i, M, h3, i0, hn, hk => by
    refine r_iload f115_61 rfl ?_
    refine r_aload_n f115_63 rfl ?_
    refine r_getR f115_64 o115 F7_35 g264_13 rfl ?_
    refine r_iload_n f115_67 rfl ?_
    refine r_iald f115_68 kd273 (by omega) (by omega) ?_
    refine r_top (e := N) h3 ?_
    refine r_cge f115_69 (t := 85) (by decide) (fun h => absurd h (by omega)) (fun _ => ?_)
    refine r_aload_n f115_72 rfl ?_
    refine r_iload_n f115_73 rfl ?_
    refine r_iload f115_74 rfl ?_
    refine r_callv2u (m' := (zu M 276 (7 * c + i) 0)) f115_76 o115 M7_157 p99 o99 kd264 rfl (by simp) (t_takesOut (c := c) (i := i) (by omega) (by omega) (by omega) (by omega)) ?_
    refine r_iinc f115_79 rfl rfl rfl (e := i + 1) (by omega) (by omega) (by omega) (ls' := [some (.inr (.inl (some 264))), some (.inl c), some (.inl f), some (.inl q), some (.inl (i + 1)), none]) rfl ?_
    refine r_goto f115_82 (t := 61) (by decide) ?_
    exact l_lout c0 c1 n1 n (i + 1) _ (by rw [zu_ne (by omega)]; exact h3) (by omega) (by omega) hk
theorem t_leadsW {L d : Nat} {m1 m : zmem} (ha : zan m1 m) {c v N : Int} {Y Z : zmem} (c0 : 0 ≤ c) (c1 : c < 40) (w0 : 0 ≤ m 264 9) (w1 : m 264 9 ≤ 39) (t0 : 0 ≤ m 272 c) (t1 : m 272 c ≤ 39) (h3 : m 273 c = N) (n0 : 1 ≤ N) (n1 : N ≤ 7) (hwh : m 264 9 < m 272 c) (hX : zF L (d + 5) 108 [.inr (.inl (some 264)), .inl c, .inl 0, .inl 1] (MLf c (N - 0).toNat 0 m1) (some (.inl v)) Y) (hZ : ¬ v = -1 → ∀ Q : Option zV → zM → Prop, zR (d + 6) 115 208 [some (.inr (.inl (some 264))), some (.inl c), some (.inl 0), some (.inl 1), some (.inl 1), some (.inl N)] [] (zem L Z) Q → zR (d + 6) 115 165 [some (.inr (.inl (some 264))), some (.inl c), some (.inl 0), some (.inl 1), some (.inl 1), some (.inl 0)] [] (zem L Y) Q) : zF L (d + 6) 115 [.inr (.inl (some 264)), .inl c] m1 (some (.inl (if v = -1 then 0 else 1))) (if v = -1 then zu (zu Y 275 c 2) 273 c (Y 273 c) else Z) := by
  refine zF_of n115 (ls := [some (.inr (.inl (some 264))), some (.inl c), none, none, none, none]) rfl ?_
  refine r_aload_n f115_0 rfl ?_
  refine r_getI f115_1 o115 F7_122 g264_9 rfl ?_
  refine r_top (e := m 264 9) (zan_f ha (by omega) (by omega) (by omega) _) ?_
  refine r_aload_n f115_4 rfl ?_
  refine r_getR f115_5 o115 F7_32 g264_12 rfl ?_
  refine r_iload_n f115_8 rfl ?_
  refine r_iald f115_9 kd272 (by omega) (by omega) ?_
  refine r_top (e := m 272 c) (zan_f ha (by omega) (by omega) (by omega) _) ?_
  refine r_cge f115_10 (t := 17) (by decide) (fun h => absurd h (by omega)) (fun _ => ?_)
  refine r_iconst f115_13 rfl ?_
  refine r_goto f115_14 (t := 28) (by decide) ?_
  refine r_istore_n f115_28 rfl (ls' := [some (.inr (.inl (some 264))), some (.inl c), some (.inl 0), none, none, none]) rfl ?_
  refine r_aload_n f115_29 rfl ?_
  refine r_getI f115_30 o115 F7_122 g264_9 rfl ?_
  refine r_top (e := m 264 9) (zan_f ha (by omega) (by omega) (by omega) _) ?_
  refine r_aload_n f115_33 rfl ?_
  refine r_getR f115_34 o115 F7_32 g264_12 rfl ?_
  refine r_iload_n f115_37 rfl ?_
  refine r_iald f115_38 kd272 (by omega) (by omega) ?_
  refine r_top (e := m 272 c) (zan_f ha (by omega) (by omega) (by omega) _) ?_
  refine r_cge f115_39 (t := 46) (by decide) (fun h => absurd h (by omega)) (fun _ => ?_)
  refine r_iconst f115_42 rfl ?_
  refine r_goto f115_43 (t := 47) (by decide) ?_
  refine r_istore_n f115_47 rfl (ls' := [some (.inr (.inl (some 264))), some (.inl c), some (.inl 0), some (.inl 1), none, none]) rfl ?_
  refine r_iload_n f115_48 rfl ?_
  refine r_zeq f115_49 (t := 56) (by decide) (fun h => absurd h (by omega)) (fun _ => ?_)
  refine r_iconst f115_52 rfl ?_
  refine r_goto f115_53 (t := 59) (by decide) ?_
  refine r_istore f115_59 rfl (ls' := [some (.inr (.inl (some 264))), some (.inl c), some (.inl 0), some (.inl 1), some (.inl 0), none]) rfl ?_
  refine l_lout (f := 0) (q := 1) (N := N) c0 c1 n1 (N - 0).toNat 0 m1 ((zan_f ha (by omega) (by omega) (by omega) _).trans h3) (by omega) (by omega) ?_
  refine r_aload_n f115_85 rfl ?_
  refine r_iload_n f115_86 rfl ?_
  refine r_iload_n f115_87 rfl ?_
  refine r_iload_n f115_88 rfl ?_
  refine r_callv3i (m' := Y) (v := v) f115_89 o115 M7_150 p108 o108 kd264 rfl (by simp) hX ?_
  refine r_iconst f115_92 rfl ?_
  refine r_ceq f115_93 (t := 100) (by decide) (fun q1 => ?_) (fun q1 => ?_)
  · refine r_iconst f115_100 rfl ?_
    refine r_istore f115_101 rfl (ls' := [some (.inr (.inl (some 264))), some (.inl c), some (.inl 0), some (.inl 1), some (.inl 0), none]) rfl ?_
    refine r_iload f115_103 rfl ?_
    refine r_zne f115_105 (t := 152) (by decide) (fun h => absurd h (by omega)) (fun _ => ?_)
    refine r_aload_n f115_108 rfl ?_
    refine r_getR f115_109 o115 F7_41 g264_15 rfl ?_
    refine r_iload_n f115_112 rfl ?_
    refine r_iload_n f115_113 rfl ?_
    refine r_zeq f115_114 (t := 121) (by decide) (fun h => absurd h (by omega)) (fun _ => ?_)
    refine r_iconst f115_117 rfl ?_
    refine r_goto f115_118 (t := 127) (by decide) ?_
    refine r_iast f115_127 kd275 (by omega) (by omega) (by omega) ?_
    refine r_aload_n f115_128 rfl ?_
    refine r_getR f115_129 o115 F7_35 g264_13 rfl ?_
    refine r_iload_n f115_132 rfl ?_
    refine r_iload_n f115_133 rfl ?_
    refine r_zeq f115_134 (t := 146) (by decide) (fun h => absurd h (by omega)) (fun _ => ?_)
    refine r_aload_n f115_137 rfl ?_
    refine r_getR f115_138 o115 F7_35 g264_13 rfl ?_
    refine r_iload_n f115_141 rfl ?_
    refine r_iald f115_142 kd273 (by omega) (by omega) ?_
    refine r_top (e := Y 273 c) (by rw [zu_if, if_neg (by omega)]) ?_
    refine r_goto f115_143 (t := 149) (by decide) ?_
    refine r_iast f115_149 kd273 (by omega) (by omega) (by omega) ?_
    refine r_iconst f115_150 rfl ?_
    exact r_zret f115_151 v115 (by omega) ⟨zs_eq (by first | rfl | omega | ((repeat (first | rw [if_pos (by omega)] | rw [if_neg (by omega)])) <;> first | rfl | omega)), (by first | rfl | ((repeat (first | rw [if_pos (by omega)] | rw [if_neg (by omega)])); done) | ((repeat (first | rw [if_pos (by omega)] | rw [if_neg (by omega)])); rfl))⟩
  · refine r_iconst f115_96 rfl ?_
    refine r_goto f115_97 (t := 101) (by decide) ?_
    refine r_istore f115_101 rfl (ls' := [some (.inr (.inl (some 264))), some (.inl c), some (.inl 0), some (.inl 1), some (.inl 1), none]) rfl ?_
    refine r_iload f115_103 rfl ?_
    refine r_zne f115_105 (t := 152) (by decide) (fun _ => ?_) (fun h => absurd (by omega) h)
    refine r_iload_n f115_152 rfl ?_
    refine r_zeq f115_153 (t := 160) (by decide) (fun h => absurd h (by omega)) (fun _ => ?_)
    refine r_iconst f115_156 rfl ?_
    refine r_goto f115_157 (t := 163) (by decide) ?_
    refine r_istore f115_163 rfl (ls' := [some (.inr (.inl (some 264))), some (.inl c), some (.inl 0), some (.inl 1), some (.inl 1), some (.inl 0)]) rfl ?_
    refine hZ (by omega) _ ?_
    refine r_iconst f115_208 rfl ?_
    exact r_zret f115_209 v115 (by omega) ⟨zs_eq (by first | rfl | omega | ((repeat (first | rw [if_pos (by omega)] | rw [if_neg (by omega)])) <;> first | rfl | omega)), (by first | rfl | ((repeat (first | rw [if_pos (by omega)] | rw [if_neg (by omega)])); done) | ((repeat (first | rw [if_pos (by omega)] | rw [if_neg (by omega)])); rfl))⟩

theorem t_leadsN {L d : Nat} {m1 m : zmem} (ha : zan m1 m) {c v N : Int} {f : Int} {Y Z : zmem} (c0 : 0 ≤ c) (c1 : c < 40) (w0 : 0 ≤ m 264 9) (w1 : m 264 9 ≤ 39) (t0 : 0 ≤ m 272 c) (t1 : m 272 c ≤ 39) (h3 : m 273 c = N) (n0 : 1 ≤ N) (n1 : N ≤ 7) (hwh : m 272 c ≤ m 264 9) (ef : f = m 264 9 - m 272 c) (f0 : 0 ≤ f) (f1 : f < N) (hX : zF L (d + 5) 108 [.inr (.inl (some 264)), .inl c, .inl f, .inl 0] (MLf c (N - (f + 1)).toNat (f + 1) m1) (some (.inl v)) Y) (hZ : ¬ v = -1 → ∀ Q : Option zV → zM → Prop, zR (d + 6) 115 208 [some (.inr (.inl (some 264))), some (.inl c), some (.inl f), some (.inl 0), some (.inl 1), some (.inl N)] [] (zem L Z) Q → zR (d + 6) 115 165 [some (.inr (.inl (some 264))), some (.inl c), some (.inl f), some (.inl 0), some (.inl 1), some (.inl (f + 1))] [] (zem L Y) Q) : zF L (d + 6) 115 [.inr (.inl (some 264)), .inl c] m1 (some (.inl (if v = -1 then 0 else 1))) (if v = -1 then zu (zu Y 275 c (Y 275 c)) 273 c (f + 1) else Z) := by
  refine zF_of n115 (ls := [some (.inr (.inl (some 264))), some (.inl c), none, none, none, none]) rfl ?_
  refine r_aload_n f115_0 rfl ?_
  refine r_getI f115_1 o115 F7_122 g264_9 rfl ?_
  refine r_top (e := m 264 9) (zan_f ha (by omega) (by omega) (by omega) _) ?_
  refine r_aload_n f115_4 rfl ?_
  refine r_getR f115_5 o115 F7_32 g264_12 rfl ?_
  refine r_iload_n f115_8 rfl ?_
  refine r_iald f115_9 kd272 (by omega) (by omega) ?_
  refine r_top (e := m 272 c) (zan_f ha (by omega) (by omega) (by omega) _) ?_
  refine r_cge f115_10 (t := 17) (by decide) (fun _ => ?_) (fun h => absurd (by omega) h)
  refine r_aload_n f115_17 rfl ?_
  refine r_getI f115_18 o115 F7_122 g264_9 rfl ?_
  refine r_top (e := m 264 9) (zan_f ha (by omega) (by omega) (by omega) _) ?_
  refine r_aload_n f115_21 rfl ?_
  refine r_getR f115_22 o115 F7_32 g264_12 rfl ?_
  refine r_iload_n f115_25 rfl ?_
  refine r_iald f115_26 kd272 (by omega) (by omega) ?_
  refine r_top (e := m 272 c) (zan_f ha (by omega) (by omega) (by omega) _) ?_
  refine r_isub f115_27 (e := m 264 9 - m 272 c) (by omega) (by omega) (by omega) ?_
  refine r_istore_n f115_28 rfl (ls' := [some (.inr (.inl (some 264))), some (.inl c), some (.inl (m 264 9 - m 272 c)), none, none, none]) rfl ?_
  refine r_aload_n f115_29 rfl ?_
  refine r_getI f115_30 o115 F7_122 g264_9 rfl ?_
  refine r_top (e := m 264 9) (zan_f ha (by omega) (by omega) (by omega) _) ?_
  refine r_aload_n f115_33 rfl ?_
  refine r_getR f115_34 o115 F7_32 g264_12 rfl ?_
  refine r_iload_n f115_37 rfl ?_
  refine r_iald f115_38 kd272 (by omega) (by omega) ?_
  refine r_top (e := m 272 c) (zan_f ha (by omega) (by omega) (by omega) _) ?_
  refine r_cge f115_39 (t := 46) (by decide) (fun _ => ?_) (fun h => absurd (by omega) h)
  refine r_iconst f115_46 rfl ?_
  refine r_istore_n f115_47 rfl (ls' := [some (.inr (.inl (some 264))), some (.inl c), some (.inl (m 264 9 - m 272 c)), some (.inl 0), none, none]) rfl ?_
  refine r_iload_n f115_48 rfl ?_
  refine r_zeq f115_49 (t := 56) (by decide) (fun _ => ?_) (fun h => absurd (by omega) h)
  refine r_iload_n f115_56 rfl ?_
  refine r_iconst f115_57 rfl ?_
  refine r_iadd f115_58 (e := m 264 9 + 1 - m 272 c) (by omega) (by omega) (by omega) ?_
  refine r_istore f115_59 rfl (ls' := [some (.inr (.inl (some 264))), some (.inl c), some (.inl (m 264 9 - m 272 c)), some (.inl 0), some (.inl (m 264 9 + 1 - m 272 c)), none]) rfl ?_
  refine r_setI (k := 2) (a := m 264 9 - m 272 c) (e := f) (by omega) rfl (ls' := [some (.inr (.inl (some 264))), some (.inl c), some (.inl f), some (.inl 0), some (.inl (m 264 9 + 1 - m 272 c)), none]) rfl ?_
  refine r_setI (k := 4) (a := m 264 9 + 1 - m 272 c) (e := f + 1) (by omega) rfl (ls' := [some (.inr (.inl (some 264))), some (.inl c), some (.inl f), some (.inl 0), some (.inl (f + 1)), none]) rfl ?_
  refine l_lout (f := f) (q := 0) (N := N) c0 c1 n1 (N - (f + 1)).toNat (f + 1) m1 ((zan_f ha (by omega) (by omega) (by omega) _).trans h3) (by omega) (by omega) ?_
  refine r_aload_n f115_85 rfl ?_
  refine r_iload_n f115_86 rfl ?_
  refine r_iload_n f115_87 rfl ?_
  refine r_iload_n f115_88 rfl ?_
  refine r_callv3i (m' := Y) (v := v) f115_89 o115 M7_150 p108 o108 kd264 rfl (by simp) hX ?_
  refine r_iconst f115_92 rfl ?_
  refine r_ceq f115_93 (t := 100) (by decide) (fun q1 => ?_) (fun q1 => ?_)
  · refine r_iconst f115_100 rfl ?_
    refine r_istore f115_101 rfl (ls' := [some (.inr (.inl (some 264))), some (.inl c), some (.inl f), some (.inl 0), some (.inl 0), none]) rfl ?_
    refine r_iload f115_103 rfl ?_
    refine r_zne f115_105 (t := 152) (by decide) (fun h => absurd h (by omega)) (fun _ => ?_)
    refine r_aload_n f115_108 rfl ?_
    refine r_getR f115_109 o115 F7_41 g264_15 rfl ?_
    refine r_iload_n f115_112 rfl ?_
    refine r_iload_n f115_113 rfl ?_
    refine r_zeq f115_114 (t := 121) (by decide) (fun _ => ?_) (fun h => absurd (by omega) h)
    refine r_aload_n f115_121 rfl ?_
    refine r_getR f115_122 o115 F7_41 g264_15 rfl ?_
    refine r_iload_n f115_125 rfl ?_
    refine r_iald f115_126 kd275 (by omega) (by omega) ?_
    refine r_iast f115_127 kd275 (by omega) (by omega) (by omega) ?_
    refine r_aload_n f115_128 rfl ?_
    refine r_getR f115_129 o115 F7_35 g264_13 rfl ?_
    refine r_iload_n f115_132 rfl ?_
    refine r_iload_n f115_133 rfl ?_
    refine r_zeq f115_134 (t := 146) (by decide) (fun _ => ?_) (fun h => absurd (by omega) h)
    refine r_iload_n f115_146 rfl ?_
    refine r_iconst f115_147 rfl ?_
    refine r_iadd f115_148 (e := f + 1) (by omega) (by omega) (by omega) ?_
    refine r_iast f115_149 kd273 (by omega) (by omega) (by omega) ?_
    refine r_iconst f115_150 rfl ?_
    exact r_zret f115_151 v115 (by omega) ⟨zs_eq (by first | rfl | omega | ((repeat (first | rw [if_pos (by omega)] | rw [if_neg (by omega)])) <;> first | rfl | omega)), (by first | rfl | ((repeat (first | rw [if_pos (by omega)] | rw [if_neg (by omega)])); done) | ((repeat (first | rw [if_pos (by omega)] | rw [if_neg (by omega)])); rfl))⟩
  · refine r_iconst f115_96 rfl ?_
    refine r_goto f115_97 (t := 101) (by decide) ?_
    refine r_istore f115_101 rfl (ls' := [some (.inr (.inl (some 264))), some (.inl c), some (.inl f), some (.inl 0), some (.inl 1), none]) rfl ?_
    refine r_iload f115_103 rfl ?_
    refine r_zne f115_105 (t := 152) (by decide) (fun _ => ?_) (fun h => absurd (by omega) h)
    refine r_iload_n f115_152 rfl ?_
    refine r_zeq f115_153 (t := 160) (by decide) (fun _ => ?_) (fun h => absurd (by omega) h)
    refine r_iload_n f115_160 rfl ?_
    refine r_iconst f115_161 rfl ?_
    refine r_iadd f115_162 (e := f + 1) (by omega) (by omega) (by omega) ?_
    refine r_istore f115_163 rfl (ls' := [some (.inr (.inl (some 264))), some (.inl c), some (.inl f), some (.inl 0), some (.inl 1), some (.inl (f + 1))]) rfl ?_
    refine hZ (by omega) _ ?_
    refine r_iconst f115_208 rfl ?_
    exact r_zret f115_209 v115 (by omega) ⟨zs_eq (by first | rfl | omega | ((repeat (first | rw [if_pos (by omega)] | rw [if_neg (by omega)])) <;> first | rfl | omega)), (by first | rfl | ((repeat (first | rw [if_pos (by omega)] | rw [if_neg (by omega)])); done) | ((repeat (first | rw [if_pos (by omega)] | rw [if_neg (by omega)])); rfl))⟩

