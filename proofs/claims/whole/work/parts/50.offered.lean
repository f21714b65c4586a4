theorem zag_an {X m : zmem} (h : zag X m) : zan X m := fun p h1 _ _ => h p (by omega) (by omega)
theorem zag_ac {X m : zmem} (h : zag X m) : zac X m := fun p h1 h2 _ => h p h1.1 h2
theorem zaw_ac {X m : zmem} (h : ∀ p, p ≠ 282 → p ≠ 283 → X p = m p) : zac X m := fun p h1 _ _ => h p (by omega) (by omega)
theorem zaw_an {X m b : zmem} (h : ∀ p, p ≠ 282 → p ≠ 283 → X p = m p) (ha : zan m b) : zan X b := fun p h1 h2 h3 => (h p h2 h3).trans (ha p h1 h2 h3)
theorem t_Xoffered {L d : Nat} {m : zmem} (k0 : 0 ≤ m 0 6) (k1 : m 0 6 ≤ 40) {c y : Int} (hc : 0 ≤ c → c < 40 → 0 ≤ m (64 + 5 * c) 6 ∧ m (64 + 5 * c) 6 ≤ 7) {v : Int} {X : zmem} (hX : (0 ≤ c ∧ c < m 0 6) → (m (64 + 5 * c) 7 = 0 ∧ m 0 7 ≤ m (64 + 5 * c) 5) → zF L (d + 4) 37 [.inr (.inl (some 51)), .inr (.inl (some (64 + 5 * c))), .inl (-1)] m (some (.inl v)) X)  : zF L (d + 5) 53 [.inr (.inl (some 0)), .inl c, .inl y] m (some (.inl (if ((0 ≤ c ∧ c < m 0 6) ∧ 0 ≤ y ∧ y < m (64 + 5 * c) 6) then (if (m (64 + 5 * c) 7 = 0 ∧ m 0 7 ≤ m (64 + 5 * c) 5) then (if v = -1 then -1 else X 53 y) else -3) else -2))) (if ((0 ≤ c ∧ c < m 0 6) ∧ 0 ≤ y ∧ y < m (64 + 5 * c) 6) then (if (m (64 + 5 * c) 7 = 0 ∧ m 0 7 ≤ m (64 + 5 * c) 5) then X else m) else m) := by
  refine zF_of n53 (ls := [some (.inr (.inl (some 0))), some (.inl c), some (.inl y)]) rfl ?_
  refine r_aload_n f53_0 rfl ?_
  refine r_iload_n f53_1 rfl ?_
  refine r_callv1i (m' := m) f53_2 o53 M6_118 p69 o69 kd0 rfl (by simp) (t_isChainX c k0 k1) ?_
  refine r_ite (fun q1 => ?_) (fun q1 => ?_)
  · refine r_zeq f53_5 (t := 27) (by decide) (fun h => absurd h (by omega)) (fun _ => ?_)
    refine r_iload_n f53_8 rfl ?_
    refine r_iconst f53_9 rfl ?_
    refine r_aload_n f53_10 rfl ?_
    refine r_getR f53_11 o53 F6_27 g0_2 rfl ?_
    refine r_iload_n f53_14 rfl ?_
    refine r_aldC f53_15 (by omega) (by omega) ?_
    refine r_getI f53_16 o53 F6_124 (gC_6 (c := c) (by omega) (by omega)) rfl ?_
    refine r_iconst f53_19 rfl ?_
    refine r_isub f53_20 (e := m (64 + 5 * c) 6 - 1) (by omega) (by omega) (by omega) ?_
    refine r_calls3i (m' := m) f53_21 o53 M6_50 (Or.inl rfl) p67 rfl (by simp) (t_within y 0 (m (64 + 5 * c) 6 - 1)) ?_
    refine r_ite (fun q2 => ?_) (fun q2 => ?_)
    · refine r_zne f53_24 (t := 30) (by decide) (fun _ => ?_) (fun h => absurd (by omega) h)
      refine r_aload_n f53_30 rfl ?_
      refine r_aload_n f53_31 rfl ?_
      refine r_getR f53_32 o53 F6_27 g0_2 rfl ?_
      refine r_iload_n f53_35 rfl ?_
      refine r_aldC f53_36 (by omega) (by omega) ?_
      refine r_callv1i (m' := m) f53_37 o53 M6_130 p70 o70 kd0 rfl (by simp) (t_canBeGiven (c := c) (by omega) (by omega)) ?_
      refine r_ite (fun q3 => ?_) (fun q3 => ?_)
      · refine r_zne f53_40 (t := 46) (by decide) (fun _ => ?_) (fun h => absurd (by omega) h)
        refine r_aload_n f53_46 rfl ?_
        refine r_getR f53_47 o53 F6_21 g0_1 rfl ?_
        refine r_aload_n f53_50 rfl ?_
        refine r_getR f53_51 o53 F6_27 g0_2 rfl ?_
        refine r_iload_n f53_54 rfl ?_
        refine r_aldC f53_55 (by omega) (by omega) ?_
        refine r_iconst f53_56 rfl ?_
        refine r_callv2i (m' := X) (v := v) f53_57 o53 M6_137 p37 o37 kd51 rfl (by simp) (hX (by omega) (by omega)) ?_
        refine r_iconst f53_60 rfl ?_
        refine r_cne f53_61 (t := 68) (by decide) (fun q4 => ?_) (fun q4 => ?_)
        · refine r_aload_n f53_68 rfl ?_
          refine r_getR f53_69 o53 F6_21 g0_1 rfl ?_
          refine r_getR f53_72 o53 F6_141 g51_2 rfl ?_
          refine r_iload_n f53_75 rfl ?_
          refine r_iald f53_76 kd53 (by omega) (by omega) ?_
          exact r_iret f53_77 v53 ⟨zs_eq (by first | rfl | omega | ((repeat (first | rw [if_pos (by omega)] | rw [if_neg (by omega)])) <;> first | rfl | omega)), (by first | rfl | ((repeat (first | rw [if_pos (by omega)] | rw [if_neg (by omega)])); done) | ((repeat (first | rw [if_pos (by omega)] | rw [if_neg (by omega)])); rfl))⟩
        · refine r_iconst f53_64 rfl ?_
          refine r_goto f53_65 (t := 77) (by decide) ?_
          exact r_iret f53_77 v53 ⟨zs_eq (by first | rfl | omega | ((repeat (first | rw [if_pos (by omega)] | rw [if_neg (by omega)])) <;> first | rfl | omega)), (by first | rfl | ((repeat (first | rw [if_pos (by omega)] | rw [if_neg (by omega)])); done) | ((repeat (first | rw [if_pos (by omega)] | rw [if_neg (by omega)])); rfl))⟩
      · refine r_zne f53_40 (t := 46) (by decide) (fun h => absurd h (by omega)) (fun _ => ?_)
        refine r_bipush f53_43 (by decide) ?_
        exact r_iret f53_45 v53 ⟨zs_eq (by first | rfl | omega | ((repeat (first | rw [if_pos (by omega)] | rw [if_neg (by omega)])) <;> first | rfl | omega)), (by first | rfl | ((repeat (first | rw [if_pos (by omega)] | rw [if_neg (by omega)])); done) | ((repeat (first | rw [if_pos (by omega)] | rw [if_neg (by omega)])); rfl))⟩
    · refine r_zne f53_24 (t := 30) (by decide) (fun h => absurd h (by omega)) (fun _ => ?_)
      refine r_bipush f53_27 (by decide) ?_
      exact r_iret f53_29 v53 ⟨zs_eq (by first | rfl | omega | ((repeat (first | rw [if_pos (by omega)] | rw [if_neg (by omega)])) <;> first | rfl | omega)), (by first | rfl | ((repeat (first | rw [if_pos (by omega)] | rw [if_neg (by omega)])); done) | ((repeat (first | rw [if_pos (by omega)] | rw [if_neg (by omega)])); rfl))⟩
  · refine r_zeq f53_5 (t := 27) (by decide) (fun _ => ?_) (fun h => absurd (by omega) h)
    refine r_bipush f53_27 (by decide) ?_
    exact r_iret f53_29 v53 ⟨zs_eq (by first | rfl | omega | ((repeat (first | rw [if_pos (by omega)] | rw [if_neg (by omega)])) <;> first | rfl | omega)), (by first | rfl | ((repeat (first | rw [if_pos (by omega)] | rw [if_neg (by omega)])); done) | ((repeat (first | rw [if_pos (by omega)] | rw [if_neg (by omega)])); rfl))⟩

theorem t_Moffered {L d : Nat} {m1 m : zmem} (ha : zan m1 m) (k0 : 0 ≤ m 264 10) (k1 : m 264 10 ≤ 40) {c y : Int} (hc : 0 ≤ c → c < 40 → 0 ≤ m 273 c ∧ m 273 c ≤ 7) {v : Int} {X : zmem} (hX : (0 ≤ c ∧ c < m 264 10) → (m 275 c = 0 ∧ m 264 9 ≤ m 272 c) → zF L (d + 5) 108 [.inr (.inl (some 264)), .inl c, .inl 0, .inl 1] m1 (some (.inl v)) X)  : zF L (d + 6) 110 [.inr (.inl (some 264)), .inl c, .inl y] m1 (some (.inl (if ((0 ≤ c ∧ c < m 264 10) ∧ 0 ≤ y ∧ y < m 273 c) then (if (m 275 c = 0 ∧ m 264 9 ≤ m 272 c) then (if v = -1 then -1 else X 283 y) else -3) else -2))) (if ((0 ≤ c ∧ c < m 264 10) ∧ 0 ≤ y ∧ y < m 273 c) then (if (m 275 c = 0 ∧ m 264 9 ≤ m 272 c) then X else m1) else m1) := by
  refine zF_of n110 (ls := [some (.inr (.inl (some 264))), some (.inl c), some (.inl y), none]) rfl ?_
  refine r_aload_n f110_0 rfl ?_
  refine r_iload_n f110_1 rfl ?_
  refine r_callv1i (m' := m1) f110_2 o110 M7_125 p88 o88 kd264 rfl (by simp) (tN_isChain ha k0 k1 c) ?_
  refine r_ite (fun q1 => ?_) (fun q1 => ?_)
  · refine r_zeq f110_5 (t := 24) (by decide) (fun h => absurd h (by omega)) (fun _ => ?_)
    refine r_iload_n f110_8 rfl ?_
    refine r_iconst f110_9 rfl ?_
    refine r_aload_n f110_10 rfl ?_
    refine r_getR f110_11 o110 F7_35 g264_13 rfl ?_
    refine r_iload_n f110_14 rfl ?_
    refine r_iald f110_15 kd273 (by omega) (by omega) ?_
    refine r_top (e := m 273 c) (zan_f ha (by omega) (by omega) (by omega) _) ?_
    refine r_iconst f110_16 rfl ?_
    refine r_isub f110_17 (e := m 273 c - 1) (by omega) (by omega) (by omega) ?_
    refine r_calls3i (m' := m1) f110_18 o110 M7_90 (Or.inl rfl) p85 rfl (by simp) (t_in y 0 (m 273 c - 1)) ?_
    refine r_ite (fun q2 => ?_) (fun q2 => ?_)
    · refine r_zne f110_21 (t := 27) (by decide) (fun _ => ?_) (fun h => absurd (by omega) h)
      refine r_aload_n f110_27 rfl ?_
      refine r_iload_n f110_28 rfl ?_
      refine r_callv1i (m' := m1) (v := if (0 ≤ c ∧ c < m 264 10) then (if (m 275 c = 0 ∧ m 264 9 ≤ m 272 c) then 0 else -3) else -2) f110_29 o110 M7_139 p106 o106 kd264 rfl (by simp) (tN_refuses ha k0 k1 c) ?_
      by_cases q3 : (0 ≤ c ∧ c < m 264 10)
      · by_cases q4 : (m 275 c = 0 ∧ m 264 9 ≤ m 272 c)
        · refine r_top (e := 0) (by rw [if_pos q3, if_pos q4]) ?_
          refine r_istore_n f110_32 rfl (ls' := [some (.inr (.inl (some 264))), some (.inl c), some (.inl y), some (.inl 0)]) rfl ?_
          refine r_iload_n f110_33 rfl ?_
          refine r_zeq f110_34 (t := 39) (by decide) (fun _ => ?_) (fun h => absurd (by omega) h)
          refine r_aload_n f110_39 rfl ?_
          refine r_iload_n f110_40 rfl ?_
          refine r_iconst f110_41 rfl ?_
          refine r_iconst f110_42 rfl ?_
          refine r_callv3i (m' := X) (v := v) f110_43 o110 M7_150 p108 o108 kd264 rfl (by simp) (hX (by omega) (by omega)) ?_
          refine r_iconst f110_46 rfl ?_
          refine r_cne f110_47 (t := 54) (by decide) (fun q5 => ?_) (fun q5 => ?_)
          · refine r_aload_n f110_54 rfl ?_
            refine r_getR f110_55 o110 F7_65 g264_23 rfl ?_
            refine r_iload_n f110_58 rfl ?_
            refine r_iald f110_59 kd283 (by omega) (by omega) ?_
            first | (exfalso; omega) | (exact r_iret f110_60 v110 ⟨zs_eq (by first | rfl | omega | ((repeat (first | rw [if_pos (by omega)] | rw [if_neg (by omega)])) <;> first | rfl | omega)), (by first | rfl | ((repeat (first | rw [if_pos (by omega)] | rw [if_neg (by omega)])); done) | ((repeat (first | rw [if_pos (by omega)] | rw [if_neg (by omega)])); rfl))⟩)
          · refine r_iconst f110_50 rfl ?_
            refine r_goto f110_51 (t := 60) (by decide) ?_
            first | (exfalso; omega) | (exact r_iret f110_60 v110 ⟨zs_eq (by first | rfl | omega | ((repeat (first | rw [if_pos (by omega)] | rw [if_neg (by omega)])) <;> first | rfl | omega)), (by first | rfl | ((repeat (first | rw [if_pos (by omega)] | rw [if_neg (by omega)])); done) | ((repeat (first | rw [if_pos (by omega)] | rw [if_neg (by omega)])); rfl))⟩)
        · refine r_top (e := -3) (by rw [if_pos q3, if_neg q4]) ?_
          refine r_istore_n f110_32 rfl (ls' := [some (.inr (.inl (some 264))), some (.inl c), some (.inl y), some (.inl (-3))]) rfl ?_
          refine r_iload_n f110_33 rfl ?_
          refine r_zeq f110_34 (t := 39) (by decide) (fun h => absurd h (by omega)) (fun _ => ?_)
          refine r_iload_n f110_37 rfl ?_
          first | (exfalso; omega) | (exact r_iret f110_38 v110 ⟨zs_eq (by first | rfl | omega | ((repeat (first | rw [if_pos (by omega)] | rw [if_neg (by omega)])) <;> first | rfl | omega)), (by first | rfl | ((repeat (first | rw [if_pos (by omega)] | rw [if_neg (by omega)])); done) | ((repeat (first | rw [if_pos (by omega)] | rw [if_neg (by omega)])); rfl))⟩)
      · refine r_top (e := -2) (by rw [if_neg q3]) ?_
        refine r_istore_n f110_32 rfl (ls' := [some (.inr (.inl (some 264))), some (.inl c), some (.inl y), some (.inl (-2))]) rfl ?_
        refine r_iload_n f110_33 rfl ?_
        refine r_zeq f110_34 (t := 39) (by decide) (fun h => absurd h (by omega)) (fun _ => ?_)
        refine r_iload_n f110_37 rfl ?_
        first | (exfalso; omega) | (exact r_iret f110_38 v110 ⟨zs_eq (by first | rfl | omega | ((repeat (first | rw [if_pos (by omega)] | rw [if_neg (by omega)])) <;> first | rfl | omega)), (by first | rfl | ((repeat (first | rw [if_pos (by omega)] | rw [if_neg (by omega)])); done) | ((repeat (first | rw [if_pos (by omega)] | rw [if_neg (by omega)])); rfl))⟩)
    · refine r_zne f110_21 (t := 27) (by decide) (fun h => absurd h (by omega)) (fun _ => ?_)
      refine r_bipush f110_24 (by decide) ?_
      first | (exfalso; omega) | (exact r_iret f110_26 v110 ⟨zs_eq (by first | rfl | omega | ((repeat (first | rw [if_pos (by omega)] | rw [if_neg (by omega)])) <;> first | rfl | omega)), (by first | rfl | ((repeat (first | rw [if_pos (by omega)] | rw [if_neg (by omega)])); done) | ((repeat (first | rw [if_pos (by omega)] | rw [if_neg (by omega)])); rfl))⟩)
  · refine r_zeq f110_5 (t := 24) (by decide) (fun _ => ?_) (fun h => absurd (by omega) h)
    refine r_bipush f110_24 (by decide) ?_
    first | (exfalso; omega) | (exact r_iret f110_26 v110 ⟨zs_eq (by first | rfl | omega | ((repeat (first | rw [if_pos (by omega)] | rw [if_neg (by omega)])) <;> first | rfl | omega)), (by first | rfl | ((repeat (first | rw [if_pos (by omega)] | rw [if_neg (by omega)])); done) | ((repeat (first | rw [if_pos (by omega)] | rw [if_neg (by omega)])); rfl))⟩)

theorem pr_other {L : Nat} {T : Int} {m : zmem} (hs : Sim T m m) (c : Int) : zPr L 52 109 [.inl c] T m := by
  have s1 := hs.s1
  unfold S1 at s1
  by_cases hg : (0 ≤ c ∧ c < m 264 10)
  · have k5 := hs.s5 c (by omega) (by omega)
    have hg2 : (0 ≤ c ∧ c < m 0 6) := by omega
    by_cases hc : (m 275 c = 0 ∧ m 264 9 ≤ m 272 c)
    · have hc2 : (m (64 + 5 * c) 7 = 0 ∧ m 0 7 ≤ m (64 + 5 * c) 5) := by omega
      have hq : zsq (-1) 0 1 := Or.inl ⟨rfl, rfl, rfl⟩
      obtain ⟨X, f1, f2, f3⟩ := t_findS (L := L) (d := 3) hs (c := c) (by omega) (by omega) hq (by omega) (by omega)
      have gx := t_Xother (L := L) (d := 3) (m := m) (c := c) (by omega) (by omega) (fun _ _ => f1)
      rw [if_pos hg2, if_pos hg2, if_pos hc2, if_pos hc2] at gx
      refine zPr_of gx (zag_an f2) (fun m1 ha => ?_) (Sim_g (Sim_T hs (by omega)) (zag_ac f2) (zan_rf m))
      obtain ⟨Y, w1, w2, w3⟩ := t_waysS (L := L) (d := 2) hs ha (c := c) (by omega) (by omega) hq (by omega) (by omega)
      have gm := t_Mother (L := L) (d := 2) ha (c := c) (by omega) (by omega) (fun _ _ => w1)
      rw [if_pos hg, if_pos hg, if_pos hc, if_pos hc] at gm
      exact ⟨_, _, gm, rfl, zaw_ac w2, zaw_an w2 ha⟩
    · have hc2 : ¬ (m (64 + 5 * c) 7 = 0 ∧ m 0 7 ≤ m (64 + 5 * c) 5) := by omega
      have gx := t_Xother (L := L) (d := 3) (m := m) (c := c) (v := 0) (X := m) (by omega) (by omega) (fun _ h => absurd h hc2)
      rw [if_pos hg2, if_pos hg2, if_neg hc2, if_neg hc2] at gx
      refine zPr_of gx (zan_rf m) (fun m1 ha => ?_) (Sim_T hs (by omega))
      have gm := t_Mother (L := L) (d := 2) ha (c := c) (v := 0) (X := m) (by omega) (by omega) (fun _ h => absurd h hc)
      rw [if_pos hg, if_pos hg, if_neg hc, if_neg hc] at gm
      exact ⟨_, _, gm, rfl, zac_rf _, ha⟩
  · have k5 : 0 ≤ c → c < 40 → m (64 + 5 * c) 6 = m 273 c ∧ m (64 + 5 * c) 7 = m 275 c ∧ m (64 + 5 * c) 5 = m 272 c := fun a b => by have := hs.s5 c a b; omega
    have hg2 : ¬ (0 ≤ c ∧ c < m 0 6) := by omega
    by_cases hv : (0 ≤ c ∧ c < m 264 10) ∧ (m 275 c = 0 ∧ m 264 9 ≤ m 272 c)
    · have k55 := hs.s5 c (by omega) (by omega)
      have hq : zsq (-1) 0 1 := Or.inl ⟨rfl, rfl, rfl⟩
      obtain ⟨X, f1, f2, f3⟩ := t_findS (L := L) (d := 3) hs (c := c) (by omega) (by omega) hq (by omega) (by omega)
      have gx := t_Xother (L := L) (d := 3) (m := m) (c := c) (by omega) (by omega) (fun _ _ => f1)
      rw [if_neg hg2, if_neg hg2] at gx
      refine zPr_of gx (zan_rf m) (fun m1 ha => ?_) (Sim_T hs (by omega))
      obtain ⟨Y, w1, w2, w3⟩ := t_waysS (L := L) (d := 2) hs ha (c := c) (by omega) (by omega) hq (by omega) (by omega)
      have gm := t_Mother (L := L) (d := 2) ha (c := c) (by omega) (by omega) (fun _ _ => w1)
      rw [if_neg hg, if_neg hg] at gm
      exact ⟨_, _, gm, rfl, zac_rf _, ha⟩
    · have gx := t_Xother (L := L) (d := 3) (m := m) (c := c) (v := 0) (X := m) (by omega) (by omega) (fun h1 h2 => by exfalso; omega)
      rw [if_neg hg2, if_neg hg2] at gx
      refine zPr_of gx (zan_rf m) (fun m1 ha => ?_) (Sim_T hs (by omega))
      have gm := t_Mother (L := L) (d := 2) ha (c := c) (v := 0) (X := m) (by omega) (by omega) (fun h1 h2 => absurd ⟨h1, h2⟩ hv)
      rw [if_neg hg, if_neg hg] at gm
      exact ⟨_, _, gm, rfl, zac_rf _, ha⟩
theorem pr_offered {L : Nat} {T : Int} {m : zmem} (hs : Sim T m m) (c y : Int) : zPr L 53 110 [.inl c, .inl y] T m := by
  have s1 := hs.s1
  unfold S1 at s1
  by_cases hg : ((0 ≤ c ∧ c < m 264 10) ∧ 0 ≤ y ∧ y < m 273 c)
  · have k5 := hs.s5 c (by omega) (by omega)
    have hg2 : ((0 ≤ c ∧ c < m 0 6) ∧ 0 ≤ y ∧ y < m (64 + 5 * c) 6) := by omega
    by_cases hc : (m 275 c = 0 ∧ m 264 9 ≤ m 272 c)
    · have hc2 : (m (64 + 5 * c) 7 = 0 ∧ m 0 7 ≤ m (64 + 5 * c) 5) := by omega
      have hq : zsq (-1) 0 1 := Or.inl ⟨rfl, rfl, rfl⟩
      obtain ⟨X, f1, f2, f3⟩ := t_findS (L := L) (d := 3) hs (c := c) (by omega) (by omega) hq (by omega) (by omega)
      have gx := t_Xoffered (L := L) (d := 3) (m := m) (c := c) (y := y) (by omega) (by omega) (fun a b => by have := hs.s5 c a b; omega) (fun _ _ => f1)
      rw [if_pos hg2, if_pos hg2, if_pos hc2, if_pos hc2] at gx
      refine zPr_of gx (zag_an f2) (fun m1 ha => ?_) (Sim_g (Sim_T hs (by omega)) (zag_ac f2) (zan_rf m))
      obtain ⟨Y, w1, w2, w3⟩ := t_waysS (L := L) (d := 2) hs ha (c := c) (by omega) (by omega) hq (by omega) (by omega)
      have gm := t_Moffered (L := L) (d := 2) ha (c := c) (y := y) (by omega) (by omega) (fun a b => by have := hs.s5 c a b; omega) (fun _ _ => w1)
      rw [if_pos hg, if_pos hg, if_pos hc, if_pos hc] at gm
      exact ⟨_, _, gm, by
        by_cases hv : MGa m c 0 1 0 (m 274 (7 * c + 0)) = -1
        · rw [if_pos hv, if_pos hv]
        · rw [if_neg hv, if_neg hv, f3 hv y (by omega) (by omega), w3 hv y (by omega) (by omega)], zaw_ac w2, zaw_an w2 ha⟩
    · have hc2 : ¬ (m (64 + 5 * c) 7 = 0 ∧ m 0 7 ≤ m (64 + 5 * c) 5) := by omega
      have gx := t_Xoffered (L := L) (d := 3) (m := m) (c := c) (v := 0) (X := m) (y := y) (by omega) (by omega) (fun a b => by have := hs.s5 c a b; omega) (fun _ h => absurd h hc2)
      rw [if_pos hg2, if_pos hg2, if_neg hc2, if_neg hc2] at gx
      refine zPr_of gx (zan_rf m) (fun m1 ha => ?_) (Sim_T hs (by omega))
      have gm := t_Moffered (L := L) (d := 2) ha (c := c) (v := 0) (X := m) (y := y) (by omega) (by omega) (fun a b => by have := hs.s5 c a b; omega) (fun _ h => absurd h hc)
      rw [if_pos hg, if_pos hg, if_neg hc, if_neg hc] at gm
      exact ⟨_, _, gm, rfl, zac_rf _, ha⟩
  · have k5 : 0 ≤ c → c < 40 → m (64 + 5 * c) 6 = m 273 c ∧ m (64 + 5 * c) 7 = m 275 c ∧ m (64 + 5 * c) 5 = m 272 c := fun a b => by have := hs.s5 c a b; omega
    have hg2 : ¬ ((0 ≤ c ∧ c < m 0 6) ∧ 0 ≤ y ∧ y < m (64 + 5 * c) 6) := by omega
    by_cases hv : (0 ≤ c ∧ c < m 264 10) ∧ (m 275 c = 0 ∧ m 264 9 ≤ m 272 c)
    · have k55 := hs.s5 c (by omega) (by omega)
      have hq : zsq (-1) 0 1 := Or.inl ⟨rfl, rfl, rfl⟩
      obtain ⟨X, f1, f2, f3⟩ := t_findS (L := L) (d := 3) hs (c := c) (by omega) (by omega) hq (by omega) (by omega)
      have gx := t_Xoffered (L := L) (d := 3) (m := m) (c := c) (y := y) (by omega) (by omega) (fun a b => by have := hs.s5 c a b; omega) (fun _ _ => f1)
      rw [if_neg hg2, if_neg hg2] at gx
      refine zPr_of gx (zan_rf m) (fun m1 ha => ?_) (Sim_T hs (by omega))
      obtain ⟨Y, w1, w2, w3⟩ := t_waysS (L := L) (d := 2) hs ha (c := c) (by omega) (by omega) hq (by omega) (by omega)
      have gm := t_Moffered (L := L) (d := 2) ha (c := c) (y := y) (by omega) (by omega) (fun a b => by have := hs.s5 c a b; omega) (fun _ _ => w1)
      rw [if_neg hg, if_neg hg] at gm
      exact ⟨_, _, gm, rfl, zac_rf _, ha⟩
    · have gx := t_Xoffered (L := L) (d := 3) (m := m) (c := c) (v := 0) (X := m) (y := y) (by omega) (by omega) (fun a b => by have := hs.s5 c a b; omega) (fun h1 h2 => by exfalso; omega)
      rw [if_neg hg2, if_neg hg2] at gx
      refine zPr_of gx (zan_rf m) (fun m1 ha => ?_) (Sim_T hs (by omega))
      have gm := t_Moffered (L := L) (d := 2) ha (c := c) (v := 0) (X := m) (y := y) (by omega) (by omega) (fun a b => by have := hs.s5 c a b; omega) (fun h1 h2 => absurd ⟨h1, h2⟩ hv)
      rw [if_neg hg, if_neg hg] at gm
      exact ⟨_, _, gm, rfl, zac_rf _, ha⟩
