theorem XF_lift {a : zmem} {x t c i : Int} (x0 : 0 ≤ x) (x1 : x < 12) (c0 : 0 ≤ c) (c1 : c < 40) : XF (XV a x t c i) x t = XF a x t + (a (66 + 5 * c) (3 * i) + a (66 + 5 * c) (3 * i + 1) + a (66 + 5 * c) (3 * i + 2)) := by
  unfold XF XV
  (repeat (first | rw [zu_ne (by omega)] | rw [zu_ne2 (by omega)] | rw [zfu_ne (by omega)] | rw [zu_if, if_pos (by omega)]))
  omega
theorem l_clear {L d e : Nat} {T x y h : Int} (y0 : 1 ≤ y) (y1 : y ≤ 9) : ∀ (n : Nat) (k : Int) (a b : zmem), Sim T a b → k + 1 = n → k < b 264 10 → 0 ≤ x → x < b 264 0 → y ≤ MO b x (b 264 9) + zsum (MZf b x) (k + 1) → ∃ (X M : zmem) (w : Int), Sim T X M ∧ zan X a ∧ (0 ≤ w ∧ w ≤ n) ∧ M 264 = b 264 ∧ (y ≤ MO M x (b 264 9) ∧ (y ≤ MO b x (b 264 9) → X = a ∧ M = b ∧ w = 0)) ∧ (∀ (Q : Option zV → zM → Prop) (z : Int), 0 ≤ z → z + n ≤ 40 → zR (d + 5) 79 97 [some (.inr (.inl (some 0))), some (.inl x), some (.inl y), some (.inr (.inl (some (3 + 4 * x)))), some (.inl (z + w)), none] [] (zem L X) Q → zR (d + 5) 79 21 [some (.inr (.inl (some 0))), some (.inl x), some (.inl y), some (.inr (.inl (some (3 + 4 * x)))), some (.inl z), some (.inl k)] [] (zem L a) Q) ∧ ∀ m1, zan m1 b → ∃ Y, zac Y m1 ∧ zan Y M ∧ ∀ (Q : Option zV → zM → Prop) (z v q : Int), 0 ≤ z → z + n ≤ 40 → v = MO b x (b 264 9) → zR (e + 3) 125 205 [some (.inr (.inl (some 264))), some (.inl x), some (.inl y), some (.inl h), none, none, some (.inl (z + w)), none] [] (zem L Y) Q → zR (e + 3) 125 145 [some (.inr (.inl (some 264))), some (.inl x), some (.inl y), some (.inl h), some (.inl v), some (.inl q), some (.inl z), some (.inl k)] [] (zem L m1) Q := by
  intro n
  induction n with
  | zero =>
    intro k a b hs hn k1 x0 x1 hy
    have s1 := hs.s1
    unfold S1 at s1
    rw [show k + 1 = 0 by omega, zsum_0] at hy
    refine ⟨a, b, 0, hs, zan_rf a, by omega, rfl, ⟨by omega, fun _ => ⟨rfl, rfl, rfl⟩⟩, fun Q z z0 z1 hk => ?_, fun m1 ha => ⟨m1, zac_rf m1, ha, fun Q z v q z0 z1 ev hk => ?_⟩⟩
    · rw [Int.add_zero] at hk
      refine r_iload f79_21 rfl ?_
      refine r_zlt f79_23 (t := 97) (by decide) (fun _ => ?_) (fun h => absurd (by omega) h)
      refine r_forget (ls' := [some (.inr (.inl (some 0))), some (.inl x), some (.inl y), some (.inr (.inl (some (3 + 4 * x)))), some (.inl z), none]) ⟨Or.inl rfl, ⟨Or.inl rfl, ⟨Or.inl rfl, ⟨Or.inl rfl, ⟨Or.inl rfl, ⟨Or.inr ⟨rfl, rfl⟩, trivial⟩⟩⟩⟩⟩⟩ ?_
      exact hk
    · rw [Int.add_zero] at hk
      refine r_iload f125_145 rfl ?_
      refine r_zlt f125_147 (t := 205) (by decide) (fun _ => ?_) (fun h => absurd (by omega) h)
      refine r_forget (ls' := [some (.inr (.inl (some 264))), some (.inl x), some (.inl y), some (.inl h), none, none, some (.inl z), none]) ⟨Or.inl rfl, ⟨Or.inl rfl, ⟨Or.inl rfl, ⟨Or.inl rfl, ⟨Or.inr ⟨rfl, rfl⟩, ⟨Or.inr ⟨rfl, rfl⟩, ⟨Or.inl rfl, ⟨Or.inr ⟨rfl, rfl⟩, trivial⟩⟩⟩⟩⟩⟩⟩⟩ ?_
      exact hk
  | succ n ih =>
    intro k a b hs hn k1 x0 x1 hy
    have s1 := hs.s1
    unfold S1 at s1
    have k5 := hs.s5 k (by omega) (by omega)
    have fe : XF a x (a 0 7) = MO b x (b 264 9) := by rw [show a 0 7 = b 264 9 by omega]; exact Sim_F hs x0 x1 (by omega) (by omega)
    have r0 := Sim_rng hs x 0 (b 264 9) x0 x1 (by omega) (by omega) (by omega) (by omega)
    have r1 := Sim_rng hs x 1 (b 264 9) x0 x1 (by omega) (by omega) (by omega) (by omega)
    have r2 := Sim_rng hs x 2 (b 264 9) x0 x1 (by omega) (by omega) (by omega) (by omega)
    have rb : 0 ≤ MO b x (b 264 9) ∧ MO b x (b 264 9) ≤ 27 := by unfold MO; omega
    by_cases hA : y ≤ MO b x (b 264 9)
    · refine ⟨a, b, 0, hs, zan_rf a, by omega, rfl, ⟨hA, fun _ => ⟨rfl, rfl, rfl⟩⟩, fun Q z z0 z1 hk => ?_, fun m1 ha => ⟨m1, zac_rf m1, ha, fun Q z v q z0 z1 ev hk => ?_⟩⟩
      · rw [Int.add_zero] at hk
        refine r_iload f79_21 rfl ?_
        refine r_zlt f79_23 (t := 97) (by decide) (fun h => absurd h (by omega)) (fun _ => ?_)
        refine r_aload_n f79_26 rfl ?_
        refine r_aload_n f79_27 rfl ?_
        refine r_getI f79_28 o79 F6_94 g0_7 rfl ?_
        refine r_callv1i (m' := a) (v := XF a x (a 0 7)) f79_31 o79 M6_83 p14 o14 (kdH0 (h := x) (by omega) (by omega)) rfl (by simp) (t_freeBeds (h := x) (t := a 0 7) (by omega) (by omega) (by omega) (by omega) (fun k u v => (hs.s10 x (by omega) (by omega)).1 k u v)) ?_
        refine r_iload_n f79_34 rfl ?_
        refine r_cge f79_35 (t := 97) (by decide) (fun _ => ?_) (fun h => absurd (by omega) h)
        refine r_forget (ls' := [some (.inr (.inl (some 0))), some (.inl x), some (.inl y), some (.inr (.inl (some (3 + 4 * x)))), some (.inl z), none]) ⟨Or.inl rfl, ⟨Or.inl rfl, ⟨Or.inl rfl, ⟨Or.inl rfl, ⟨Or.inl rfl, ⟨Or.inr ⟨rfl, rfl⟩, trivial⟩⟩⟩⟩⟩⟩ ?_
        exact hk
      · rw [Int.add_zero] at hk
        refine r_iload f125_145 rfl ?_
        refine r_zlt f125_147 (t := 205) (by decide) (fun h => absurd h (by omega)) (fun _ => ?_)
        refine r_iload f125_150 rfl ?_
        refine r_iload_n f125_152 rfl ?_
        refine r_cge f125_153 (t := 205) (by decide) (fun _ => ?_) (fun h => absurd (by omega) h)
        refine r_forget (ls' := [some (.inr (.inl (some 264))), some (.inl x), some (.inl y), some (.inl h), none, none, some (.inl z), none]) ⟨Or.inl rfl, ⟨Or.inl rfl, ⟨Or.inl rfl, ⟨Or.inl rfl, ⟨Or.inr ⟨rfl, rfl⟩, ⟨Or.inr ⟨rfl, rfl⟩, ⟨Or.inl rfl, ⟨Or.inr ⟨rfl, rfl⟩, trivial⟩⟩⟩⟩⟩⟩⟩⟩ ?_
        exact hk
    · have sl := Sim_Lt hs (c := k) (x := x) (by omega) k1
      have li := t_isLate (L := L) (d := d) (m := a) (c := k) (x := x) (by omega) (by omega) (by omega) (by omega) (by omega) (by omega) (Sim_hl hs k (by omega) (by omega)) (by omega) (by omega)
      have lm := fun (m1 : zmem) (ha : zan m1 b) => t_mayLose (L := L) (d := e) ha (c := k) (x := x) (by omega) (by omega) (by omega) (by omega) (by omega) (by omega) (by omega) (by omega)
      by_cases hL : MLt b k x
      · rw [if_pos (sl.2 hL)] at li
        rw [if_pos hL] at lm
        have hh : 0 ≤ b 264 9 - b 272 k ∧ b 264 9 - b 272 k < b 273 k := hL.1
        have hl1 := hL.2.1
        have hl2 := hL.2.2.1
        have hl3 := hL.2.2.2
        rw [show 7 * k + b 264 9 - b 272 k = 7 * k + (b 264 9 - b 272 k) by omega] at hl1 hl2
        have g9 := hs.s9 k (by omega) (by omega) (b 264 9 - b 272 k) hh.1 (by omega)
        have g9b := g9.2.2 (by have := g9.1; omega)
        have hs2 := sm_lift hs (c := k) (i := (b 264 9 - b 272 k)) (h := x) (t := a 0 7) (by omega) k1 hh.1 hh.2 hl2.symm (by omega) (by omega)
        have e264 : zu b 276 (7 * k + (b 264 9 - b 272 k)) 0 264 = b 264 := zu_ne (by omega)
        have f2 := Sim_F hs2 (h := x) (t := b 264 9) x0 (by rw [e264]; exact x1) (by omega) (by omega)
        have f3 := XF_lift (a := a) (x := x) (t := b 264 9) (c := k) (i := (b 264 9 - b 272 k)) x0 (by omega) (by omega) (by omega)
        have fe0 := fe
        rw [show a 0 7 = b 264 9 by omega] at f2 fe
        have fo : MO (zu b 276 (7 * k + (b 264 9 - b 272 k)) 0) x (b 264 9) = MO b x (b 264 9) + b 271 k := by omega
        have ez : zsum (MZf (zu b 276 (7 * k + (b 264 9 - b 272 k)) 0) x) k = zsum (MZf b x) k := by
          refine zsum_c (fun c c0 c1 => ?_)
          have k6 := hs.s5 c c0 (by omega)
          have iff : MLt (zu b 276 (7 * k + (b 264 9 - b 272 k)) 0) c x ↔ MLt b c x := by
            unfold MLt MH
            rw [zu_ne (a := 264) (by omega), zu_ne (a := 272) (by omega), zu_ne (a := 273) (by omega), zu_ne (a := 274) (by omega), zu_ne (a := 280) (by omega)]
            constructor
            · intro z
              have z1 := z.1
              have z2 := z.2.1
              rw [zu_ne2 (by omega)] at z2
              exact ⟨z1, z2, z.2.2⟩
            · intro z
              have z1 := z.1
              refine ⟨z1, ?_, z.2.2⟩
              rw [zu_ne2 (by omega)]
              exact z.2.1
          unfold MZf
          rw [zu_ne (a := 271) (by omega)]
          by_cases q : MLt b c x
          · rw [if_pos q, if_pos (iff.2 q)]
          · rw [if_neg q, if_neg (fun z => q (iff.1 z))]
        have mz : MZf b x k = b 271 k := if_pos hL
        rw [zsum_s (by omega), mz] at hy
        obtain ⟨X, M, w, i1, i2, i3, i4, i5, i6, i7⟩ := ih (k - 1) _ _ hs2 (by omega) (by rw [e264]; omega) x0 (by rw [e264]; exact x1) (by rw [e264, fo, show k - 1 + 1 = k by omega, ez]; omega)
        rw [e264] at i4 i5 i7
        refine ⟨X, M, w + 1, i1, zan_tr i2 (XV_an x0 (by omega) (by omega) (by omega)), by omega, i4, ⟨i5.1, fun hh => absurd hh hA⟩, fun Q z z0 z1 hk => ?_, fun m1 ha => ?_⟩
        · have hk2 := i6 Q (z + 1) (by omega) (by omega) (by rw [show z + 1 + w = z + (w + 1) by omega]; exact hk)
          refine r_iload f79_21 rfl ?_
          refine r_zlt f79_23 (t := 97) (by decide) (fun h => absurd h (by omega)) (fun _ => ?_)
          refine r_aload_n f79_26 rfl ?_
          refine r_aload_n f79_27 rfl ?_
          refine r_getI f79_28 o79 F6_94 g0_7 rfl ?_
          refine r_callv1i (m' := a) (v := XF a x (a 0 7)) f79_31 o79 M6_83 p14 o14 (kdH0 (h := x) (by omega) (by omega)) rfl (by simp) (t_freeBeds (h := x) (t := a 0 7) (by omega) (by omega) (by omega) (by omega) (fun k u v => (hs.s10 x (by omega) (by omega)).1 k u v)) ?_
          refine r_iload_n f79_34 rfl ?_
          refine r_cge f79_35 (t := 97) (by decide) (fun h => absurd h (by omega)) (fun _ => ?_)
          refine r_aload_n f79_38 rfl ?_
          refine r_aload_n f79_39 rfl ?_
          refine r_getR f79_40 o79 F6_27 g0_2 rfl ?_
          refine r_iload f79_43 rfl ?_
          refine r_aldC f79_45 (by omega) (by omega) ?_
          refine r_iload_n f79_46 rfl ?_
          refine r_callv2i (m' := a) (v := 1) f79_47 o79 M6_277 p77 o77 kd0 rfl (by simp) li ?_
          refine r_zeq f79_50 (t := 91) (by decide) (fun h => absurd h (by omega)) (fun _ => ?_)
          refine r_aload_n f79_53 rfl ?_
          refine r_aload_n f79_54 rfl ?_
          refine r_getI f79_55 o79 F6_94 g0_7 rfl ?_
          refine r_aload_n f79_58 rfl ?_
          refine r_getR f79_59 o79 F6_27 g0_2 rfl ?_
          refine r_iload f79_62 rfl ?_
          refine r_aldC f79_64 (by omega) (by omega) ?_
          refine r_getR f79_65 o79 F6_174 (gC_1 (c := k) (by omega) (by omega)) rfl ?_
          refine r_aload_n f79_68 rfl ?_
          refine r_getI f79_69 o79 F6_94 g0_7 rfl ?_
          refine r_aload_n f79_72 rfl ?_
          refine r_getR f79_73 o79 F6_27 g0_2 rfl ?_
          refine r_iload f79_76 rfl ?_
          refine r_aldC f79_78 (by omega) (by omega) ?_
          refine r_getI f79_79 o79 F6_121 (gC_5 (c := k) (by omega) (by omega)) rfl ?_
          refine r_isub f79_82 (e := a 0 7 - a (64 + 5 * k) 5) (by omega) (by omega) (by omega) ?_
          refine r_iconst f79_83 rfl ?_
          refine r_imul f79_84 (e := 3 * (a 0 7) - 3 * (a (64 + 5 * k) 5)) (by omega) (by omega) (by omega) ?_
          refine r_top (e := 3 * (b 264 9 - b 272 k)) (by omega) ?_
          refine r_callv3u (m' := (XV a x (a 0 7) k (b 264 9 - b 272 k))) f79_85 o79 M6_268 p20 o20 (kdH0 (h := x) (by omega) (by omega)) rfl (by simp) (t_clear (h := x) (t := a 0 7) (c := k) (i := (b 264 9 - b 272 k)) (by omega) (by omega) (by omega) (by omega) (fun k u v => (hs.s10 x (by omega) (by omega)).1 k u v) (by omega) (by omega) (by omega) (by omega) (Sim_hl hs k (by omega) (by omega))) ?_
          refine r_iinc f79_88 rfl rfl rfl (e := z + 1) (by omega) (by omega) (by omega) (ls' := [some (.inr (.inl (some 0))), some (.inl x), some (.inl y), some (.inr (.inl (some (3 + 4 * x)))), some (.inl (z + 1)), some (.inl k)]) rfl ?_
          refine r_iinc f79_91 rfl rfl rfl (e := k - 1) (by omega) (by omega) (by omega) (ls' := [some (.inr (.inl (some 0))), some (.inl x), some (.inl y), some (.inr (.inl (some (3 + 4 * x)))), some (.inl (z + 1)), some (.inl (k - 1))]) rfl ?_
          refine r_goto f79_94 (t := 21) (by decide) ?_
          exact hk2
        · obtain ⟨Y, y2, y3, y4⟩ := i7 _ (zan_w ha)
          refine ⟨Y, zac_tr y2 (zac_u (zac_rf _) (by omega)), y3, fun Q z v q z0 z1 ev hk => ?_⟩
          refine r_iload f125_145 rfl ?_
          refine r_zlt f125_147 (t := 205) (by decide) (fun h => absurd h (by omega)) (fun _ => ?_)
          refine r_iload f125_150 rfl ?_
          refine r_iload_n f125_152 rfl ?_
          refine r_cge f125_153 (t := 205) (by decide) (fun h => absurd h (by omega)) (fun _ => ?_)
          refine r_aload_n f125_156 rfl ?_
          refine r_iload f125_157 rfl ?_
          refine r_iload_n f125_159 rfl ?_
          refine r_callv2i (m' := m1) (v := 1) f125_160 o125 M7_176 p124 o124 kd264 rfl (by simp) (lm m1 ha) ?_
          refine r_zeq f125_163 (t := 199) (by decide) (fun h => absurd h (by omega)) (fun _ => ?_)
          refine r_iload f125_166 rfl ?_
          refine r_aload_n f125_168 rfl ?_
          refine r_getR f125_169 o125 F7_29 g264_11 rfl ?_
          refine r_iload f125_172 rfl ?_
          refine r_iald f125_174 kd271 (by omega) (by omega) ?_
          refine r_top (e := b 271 k) (zan_f ha (by omega) (by omega) (by omega) _) ?_
          refine r_iadd f125_175 (e := b 271 k + v) (by omega) (by omega) (by omega) ?_
          refine r_istore f125_176 rfl (ls' := [some (.inr (.inl (some 264))), some (.inl x), some (.inl y), some (.inl h), some (.inl (b 271 k + v)), some (.inl q), some (.inl z), some (.inl k)]) rfl ?_
          refine r_aload_n f125_178 rfl ?_
          refine r_iload f125_179 rfl ?_
          refine r_aload_n f125_181 rfl ?_
          refine r_getI f125_182 o125 F7_122 g264_9 rfl ?_
          refine r_top (e := b 264 9) (zan_f ha (by omega) (by omega) (by omega) _) ?_
          refine r_aload_n f125_185 rfl ?_
          refine r_getR f125_186 o125 F7_32 g264_12 rfl ?_
          refine r_iload f125_189 rfl ?_
          refine r_iald f125_191 kd272 (by omega) (by omega) ?_
          refine r_top (e := b 272 k) (zan_f ha (by omega) (by omega) (by omega) _) ?_
          refine r_isub f125_192 (e := b 264 9 - b 272 k) (by omega) (by omega) (by omega) ?_
          refine r_callv2u (m' := (zu m1 276 (7 * k + (b 264 9 - b 272 k)) 0)) f125_193 o125 M7_157 p99 o99 kd264 rfl (by simp) (t_takesOut (c := k) (i := b 264 9 - b 272 k) (by omega) (by omega) (by omega) (by omega)) ?_
          refine r_iinc f125_196 rfl rfl rfl (e := z + 1) (by omega) (by omega) (by omega) (ls' := [some (.inr (.inl (some 264))), some (.inl x), some (.inl y), some (.inl h), some (.inl (b 271 k + v)), some (.inl q), some (.inl (z + 1)), some (.inl k)]) rfl ?_
          refine r_iinc f125_199 rfl rfl rfl (e := k - 1) (by omega) (by omega) (by omega) (ls' := [some (.inr (.inl (some 264))), some (.inl x), some (.inl y), some (.inl h), some (.inl (b 271 k + v)), some (.inl q), some (.inl (z + 1)), some (.inl (k - 1))]) rfl ?_
          refine r_goto f125_202 (t := 145) (by decide) ?_
          exact y4 Q (z + 1) (b 271 k + v) q (by omega) (by omega) (by omega) (by rw [show z + 1 + w = z + (w + 1) by omega]; exact hk)
      · rw [if_neg (fun z => hL (sl.1 z))] at li
        rw [if_neg hL] at lm
        have mz : MZf b x k = 0 := if_neg hL
        rw [zsum_s (by omega), mz] at hy
        obtain ⟨X, M, w, i1, i2, i3, i4, i5, i6, i7⟩ := ih (k - 1) a b hs (by omega) (by omega) x0 x1 (by rw [show k - 1 + 1 = k by omega]; omega)
        refine ⟨X, M, w, i1, i2, by omega, i4, ⟨i5.1, fun hh => absurd hh hA⟩, fun Q z z0 z1 hk => ?_, fun m1 ha => ?_⟩
        · have hk2 := i6 Q z z0 (by omega) hk
          refine r_iload f79_21 rfl ?_
          refine r_zlt f79_23 (t := 97) (by decide) (fun h => absurd h (by omega)) (fun _ => ?_)
          refine r_aload_n f79_26 rfl ?_
          refine r_aload_n f79_27 rfl ?_
          refine r_getI f79_28 o79 F6_94 g0_7 rfl ?_
          refine r_callv1i (m' := a) (v := XF a x (a 0 7)) f79_31 o79 M6_83 p14 o14 (kdH0 (h := x) (by omega) (by omega)) rfl (by simp) (t_freeBeds (h := x) (t := a 0 7) (by omega) (by omega) (by omega) (by omega) (fun k u v => (hs.s10 x (by omega) (by omega)).1 k u v)) ?_
          refine r_iload_n f79_34 rfl ?_
          refine r_cge f79_35 (t := 97) (by decide) (fun h => absurd h (by omega)) (fun _ => ?_)
          refine r_aload_n f79_38 rfl ?_
          refine r_aload_n f79_39 rfl ?_
          refine r_getR f79_40 o79 F6_27 g0_2 rfl ?_
          refine r_iload f79_43 rfl ?_
          refine r_aldC f79_45 (by omega) (by omega) ?_
          refine r_iload_n f79_46 rfl ?_
          refine r_callv2i (m' := a) (v := 0) f79_47 o79 M6_277 p77 o77 kd0 rfl (by simp) li ?_
          refine r_zeq f79_50 (t := 91) (by decide) (fun _ => ?_) (fun h => absurd (by omega) h)
          refine r_iinc f79_91 rfl rfl rfl (e := k - 1) (by omega) (by omega) (by omega) (ls' := [some (.inr (.inl (some 0))), some (.inl x), some (.inl y), some (.inr (.inl (some (3 + 4 * x)))), some (.inl z), some (.inl (k - 1))]) rfl ?_
          refine r_goto f79_94 (t := 21) (by decide) ?_
          exact hk2
        · obtain ⟨Y, y2, y3, y4⟩ := i7 m1 ha
          refine ⟨Y, y2, y3, fun Q z v q z0 z1 ev hk => ?_⟩
          refine r_iload f125_145 rfl ?_
          refine r_zlt f125_147 (t := 205) (by decide) (fun h => absurd h (by omega)) (fun _ => ?_)
          refine r_iload f125_150 rfl ?_
          refine r_iload_n f125_152 rfl ?_
          refine r_cge f125_153 (t := 205) (by decide) (fun h => absurd h (by omega)) (fun _ => ?_)
          refine r_aload_n f125_156 rfl ?_
          refine r_iload f125_157 rfl ?_
          refine r_iload_n f125_159 rfl ?_
          refine r_callv2i (m' := m1) (v := 0) f125_160 o125 M7_176 p124 o124 kd264 rfl (by simp) (lm m1 ha) ?_
          refine r_zeq f125_163 (t := 199) (by decide) (fun _ => ?_) (fun h => absurd (by omega) h)
          refine r_iinc f125_199 rfl rfl rfl (e := k - 1) (by omega) (by omega) (by omega) (ls' := [some (.inr (.inl (some 264))), some (.inl x), some (.inl y), some (.inl h), some (.inl v), some (.inl q), some (.inl z), some (.inl (k - 1))]) rfl ?_
          refine r_goto f125_202 (t := 145) (by decide) ?_
          exact y4 Q z v q z0 (by omega) ev hk
