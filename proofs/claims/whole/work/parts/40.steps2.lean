theorem t_Xarrive {L d : Nat} {m : zmem} (k0 : 0 ≤ m 0 6) (k1 : m 0 6 ≤ 40) (w0 : 0 ≤ m 0 7) (w1 : m 0 7 ≤ 39) (c : Int) (hc : 0 ≤ c → c < 40 → (0 ≤ m (64 + 5 * c) 5 ∧ m (64 + 5 * c) 5 ≤ 39) ∧ (0 ≤ m (64 + 5 * c) 6 ∧ m (64 + 5 * c) 6 ≤ 7)) (hl : 0 ≤ c → c < 40 → ∀ k, 0 ≤ k → k < 21 → 0 ≤ m (66 + 5 * c) k ∧ m (66 + 5 * c) k ≤ 9)  : zF L (d + 3) 60 [.inr (.inl (some 0)), .inl c] m (some (.inl (if (0 ≤ c ∧ c < m 0 6) then (if ¬ (XO m c (m 0 7) ∧ m (67 + 5 * c) (m 0 7 - m (64 + 5 * c) 5) = 0) then -3 else 1) else -2))) (if (0 ≤ c ∧ c < m 0 6) then (if ¬ (XO m c (m 0 7) ∧ m (67 + 5 * c) (m 0 7 - m (64 + 5 * c) 5) = 0) then m else zu m (67 + 5 * c) (m 0 7 - m (64 + 5 * c) 5) 1) else m) := by
  refine zF_of n60 (ls := [some (.inr (.inl (some 0))), some (.inl c), none]) rfl ?_
  refine r_aload_n f60_0 rfl ?_
  refine r_iload_n f60_1 rfl ?_
  refine r_callv1i (m' := m) f60_2 o60 M6_118 p69 o69 kd0 rfl (by simp) (t_isChainX c k0 k1) ?_
  refine r_ite (fun q1 => ?_) (fun q1 => ?_)
  · refine r_zne f60_5 (t := 11) (by decide) (fun _ => ?_) (fun h => absurd (by omega) h)
    refine r_aload_n f60_11 rfl ?_
    refine r_getR f60_12 o60 F6_27 g0_2 rfl ?_
    refine r_iload_n f60_15 rfl ?_
    refine r_aldC f60_16 (by omega) (by omega) ?_
    refine r_astore_n f60_17 rfl (ls' := [some (.inr (.inl (some 0))), some (.inl c), some (.inr (.inl (some (64 + 5 * c))))]) rfl ?_
    refine r_aload_n f60_18 rfl ?_
    refine r_aload_n f60_19 rfl ?_
    refine r_getI f60_20 o60 F6_94 g0_7 rfl ?_
    refine r_callv1i (m' := m) f60_23 o60 M6_192 p5 o5 (kdC0 (c := c) (by omega) (by omega)) rfl (by simp) (t_isLaidOn (c := c) (t := m 0 7) (by omega) (by omega) (by omega) (by omega) (by omega) (by omega) (hl (by omega) (by omega)) (by omega) (by omega)) ?_
    refine r_ite (fun q2 => ?_) (fun q2 => ?_)
    · refine r_zeq f60_26 (t := 46) (by decide) (fun h => absurd h (by omega)) (fun _ => ?_)
      refine r_aload_n f60_29 rfl ?_
      refine r_getR f60_30 o60 F6_195 (gC_2 (c := c) (by omega) (by omega)) rfl ?_
      refine r_aload_n f60_33 rfl ?_
      refine r_getI f60_34 o60 F6_94 g0_7 rfl ?_
      refine r_aload_n f60_37 rfl ?_
      refine r_getI f60_38 o60 F6_121 (gC_5 (c := c) (by omega) (by omega)) rfl ?_
      refine r_isub f60_41 (e := m 0 7 - m (64 + 5 * c) 5) (by omega) (by omega) (by omega) ?_
      refine r_bald f60_42 (kdC3 (c := c) (by omega) (by omega)) (by omega) (by omega) ?_
      refine r_zeq f60_43 (t := 49) (by decide) (fun q3 => ?_) (fun q3 => ?_)
      · refine r_aload_n f60_49 rfl ?_
        refine r_getR f60_50 o60 F6_195 (gC_2 (c := c) (by omega) (by omega)) rfl ?_
        refine r_aload_n f60_53 rfl ?_
        refine r_getI f60_54 o60 F6_94 g0_7 rfl ?_
        refine r_aload_n f60_57 rfl ?_
        refine r_getI f60_58 o60 F6_121 (gC_5 (c := c) (by omega) (by omega)) rfl ?_
        refine r_isub f60_61 (e := m 0 7 - m (64 + 5 * c) 5) (by omega) (by omega) (by omega) ?_
        refine r_iconst f60_62 rfl ?_
        refine r_bast f60_63 (kdC3 (c := c) (by omega) (by omega)) (by omega) (by omega) (by omega) (by omega) ?_
        refine r_iconst f60_64 rfl ?_
        exact r_iret f60_65 v60 ⟨zs_eq (by first | rfl | omega | ((repeat (first | rw [if_pos (by omega)] | rw [if_neg (by omega)])) <;> first | rfl | omega)), (by first | rfl | ((repeat (first | rw [if_pos (by omega)] | rw [if_neg (by omega)])); done) | ((repeat (first | rw [if_pos (by omega)] | rw [if_neg (by omega)])); rfl))⟩
      · refine r_bipush f60_46 (by decide) ?_
        exact r_iret f60_48 v60 ⟨zs_eq (by first | rfl | omega | ((repeat (first | rw [if_pos (by omega)] | rw [if_neg (by omega)])) <;> first | rfl | omega)), (by first | rfl | ((repeat (first | rw [if_pos (by omega)] | rw [if_neg (by omega)])); done) | ((repeat (first | rw [if_pos (by omega)] | rw [if_neg (by omega)])); rfl))⟩
    · refine r_zeq f60_26 (t := 46) (by decide) (fun _ => ?_) (fun h => absurd (by omega) h)
      refine r_bipush f60_46 (by decide) ?_
      exact r_iret f60_48 v60 ⟨zs_eq (by first | rfl | omega | ((repeat (first | rw [if_pos (by omega)] | rw [if_neg (by omega)])) <;> first | rfl | omega)), (by first | rfl | ((repeat (first | rw [if_pos (by omega)] | rw [if_neg (by omega)])); done) | ((repeat (first | rw [if_pos (by omega)] | rw [if_neg (by omega)])); rfl))⟩
  · refine r_zne f60_5 (t := 11) (by decide) (fun h => absurd h (by omega)) (fun _ => ?_)
    refine r_bipush f60_8 (by decide) ?_
    exact r_iret f60_10 v60 ⟨zs_eq (by first | rfl | omega | ((repeat (first | rw [if_pos (by omega)] | rw [if_neg (by omega)])) <;> first | rfl | omega)), (by first | rfl | ((repeat (first | rw [if_pos (by omega)] | rw [if_neg (by omega)])); done) | ((repeat (first | rw [if_pos (by omega)] | rw [if_neg (by omega)])); rfl))⟩

theorem t_Marrive {L d : Nat} {m1 m : zmem} (ha : zan m1 m) (k0 : 0 ≤ m 264 10) (k1 : m 264 10 ≤ 40) (w0 : 0 ≤ m 264 9) (w1 : m 264 9 ≤ 39) (c : Int) (hc : 0 ≤ c → c < 40 → (0 ≤ m 272 c ∧ m 272 c ≤ 39) ∧ (0 ≤ m 273 c ∧ m 273 c ≤ 7))  : zF L (d + 2) 123 [.inr (.inl (some 264)), .inl c] m1 (some (.inl (if (0 ≤ c ∧ c < m 264 10) then (if ¬ (MH m c (m 264 9) ∧ ¬ m 276 (7 * c + m 264 9 - m 272 c) = 0 ∧ m 280 c = 0) then -3 else 1) else -2))) (if (0 ≤ c ∧ c < m 264 10) then (if ¬ (MH m c (m 264 9) ∧ ¬ m 276 (7 * c + m 264 9 - m 272 c) = 0 ∧ m 280 c = 0) then m1 else zu m1 280 c 1) else m1) := by
  refine zF_of n123 (ls := [some (.inr (.inl (some 264))), some (.inl c), none]) rfl ?_
  refine r_aload_n f123_0 rfl ?_
  refine r_iload_n f123_1 rfl ?_
  refine r_callv1i (m' := m1) f123_2 o123 M7_125 p88 o88 kd264 rfl (by simp) (tN_isChain ha k0 k1 c) ?_
  refine r_ite (fun q1 => ?_) (fun q1 => ?_)
  · refine r_zne f123_5 (t := 11) (by decide) (fun _ => ?_) (fun h => absurd (by omega) h)
    refine r_aload_n f123_11 rfl ?_
    refine r_iload_n f123_12 rfl ?_
    refine r_aload_n f123_13 rfl ?_
    refine r_getI f123_14 o123 F7_122 g264_9 rfl ?_
    refine r_top (e := m 264 9) (zan_f ha (by omega) (by omega) (by omega) _) ?_
    refine r_callv2i (m' := m1) f123_17 o123 M7_104 p92 o92 kd264 rfl (by simp) (tN_placeOf ha (c := c) (t := m 264 9) (by omega) (by omega) (by omega) (by omega) (by omega) (by omega) (by omega) (by omega)) ?_
    refine r_ite (fun q2 => ?_) (fun q2 => ?_)
    · refine r_istore_n f123_20 rfl (ls' := [some (.inr (.inl (some 264))), some (.inl c), some (.inl (7 * c + m 264 9 - m 272 c))]) rfl ?_
      refine r_iload_n f123_21 rfl ?_
      refine r_iconst f123_22 rfl ?_
      refine r_ceq f123_23 (t := 44) (by decide) (fun q3 => ?_) (fun q3 => ?_)
      · refine r_bipush f123_44 (by decide) ?_
        exact r_iret f123_46 v123 ⟨zs_eq (by first | rfl | omega | ((repeat (first | rw [if_pos (by omega)] | rw [if_neg (by omega)])) <;> first | rfl | omega)), (by first | rfl | ((repeat (first | rw [if_pos (by omega)] | rw [if_neg (by omega)])); done) | ((repeat (first | rw [if_pos (by omega)] | rw [if_neg (by omega)])); rfl))⟩
      · refine r_aload_n f123_26 rfl ?_
        refine r_getR f123_27 o123 F7_44 g264_16 rfl ?_
        refine r_iload_n f123_30 rfl ?_
        refine r_bald f123_31 kd276 (by omega) (by omega) ?_
        refine r_top (e := m 276 (7 * c + m 264 9 - m 272 c)) (zan_f ha (by omega) (by omega) (by omega) _) ?_
        refine r_zeq f123_32 (t := 44) (by decide) (fun q4 => ?_) (fun q4 => ?_)
        · refine r_bipush f123_44 (by decide) ?_
          exact r_iret f123_46 v123 ⟨zs_eq (by first | rfl | omega | ((repeat (first | rw [if_pos (by omega)] | rw [if_neg (by omega)])) <;> first | rfl | omega)), (by first | rfl | ((repeat (first | rw [if_pos (by omega)] | rw [if_neg (by omega)])); done) | ((repeat (first | rw [if_pos (by omega)] | rw [if_neg (by omega)])); rfl))⟩
        · refine r_aload_n f123_35 rfl ?_
          refine r_getR f123_36 o123 F7_56 g264_20 rfl ?_
          refine r_iload_n f123_39 rfl ?_
          refine r_bald f123_40 kd280 (by omega) (by omega) ?_
          refine r_top (e := m 280 c) (zan_f ha (by omega) (by omega) (by omega) _) ?_
          refine r_zeq f123_41 (t := 47) (by decide) (fun q5 => ?_) (fun q5 => ?_)
          · refine r_aload_n f123_47 rfl ?_
            refine r_getR f123_48 o123 F7_56 g264_20 rfl ?_
            refine r_iload_n f123_51 rfl ?_
            refine r_iconst f123_52 rfl ?_
            refine r_bast f123_53 kd280 (by omega) (by omega) (by omega) (by omega) ?_
            refine r_iconst f123_54 rfl ?_
            exact r_iret f123_55 v123 ⟨zs_eq (by first | rfl | omega | ((repeat (first | rw [if_pos (by omega)] | rw [if_neg (by omega)])) <;> first | rfl | omega)), (by first | rfl | ((repeat (first | rw [if_pos (by omega)] | rw [if_neg (by omega)])); done) | ((repeat (first | rw [if_pos (by omega)] | rw [if_neg (by omega)])); rfl))⟩
          · refine r_bipush f123_44 (by decide) ?_
            exact r_iret f123_46 v123 ⟨zs_eq (by first | rfl | omega | ((repeat (first | rw [if_pos (by omega)] | rw [if_neg (by omega)])) <;> first | rfl | omega)), (by first | rfl | ((repeat (first | rw [if_pos (by omega)] | rw [if_neg (by omega)])); done) | ((repeat (first | rw [if_pos (by omega)] | rw [if_neg (by omega)])); rfl))⟩
    · refine r_istore_n f123_20 rfl (ls' := [some (.inr (.inl (some 264))), some (.inl c), some (.inl (-1))]) rfl ?_
      refine r_iload_n f123_21 rfl ?_
      refine r_iconst f123_22 rfl ?_
      refine r_ceq f123_23 (t := 44) (by decide) (fun _ => ?_) (fun h => absurd (by omega) h)
      refine r_bipush f123_44 (by decide) ?_
      exact r_iret f123_46 v123 ⟨zs_eq (by first | rfl | omega | ((repeat (first | rw [if_pos (by omega)] | rw [if_neg (by omega)])) <;> first | rfl | omega)), (by first | rfl | ((repeat (first | rw [if_pos (by omega)] | rw [if_neg (by omega)])); done) | ((repeat (first | rw [if_pos (by omega)] | rw [if_neg (by omega)])); rfl))⟩
  · refine r_zne f123_5 (t := 11) (by decide) (fun h => absurd h (by omega)) (fun _ => ?_)
    refine r_bipush f123_8 (by decide) ?_
    exact r_iret f123_10 v123 ⟨zs_eq (by first | rfl | omega | ((repeat (first | rw [if_pos (by omega)] | rw [if_neg (by omega)])) <;> first | rfl | omega)), (by first | rfl | ((repeat (first | rw [if_pos (by omega)] | rw [if_neg (by omega)])); done) | ((repeat (first | rw [if_pos (by omega)] | rw [if_neg (by omega)])); rfl))⟩

theorem MF_k {b b2 : zmem} (f1 : b2 265 = b 265) (f2 : b2 269 = b 269) (fz : ∀ h e t, zsum (MCf b2 h e t) (b2 264 10) = zsum (MCf b h e t) (b 264 10)) : MF b2 = MF b := by
  funext h e t
  unfold MF
  rw [f1, f2, fz]
theorem sm_house {T : Int} {a b : zmem} (hs : Sim T a b) {x y z u : Int} (x0 : 0 ≤ x) (x1 : x ≤ 9) (y0 : 0 ≤ y) (y1 : y ≤ 9) (z0 : 0 ≤ z) (z1 : z ≤ 9) (px : a 1 1 < 12) : Sim (T + 9) (XBu a x y z u) (MBu b b x y z u) := by
  have s1 := hs.s1
  unfold S1 at s1
  have cS1 : S1 (T + 9) (XBu a x y z u) (MBu b b x y z u) := by
    unfold S1 XBu MBu
    (repeat (first | rw [zu_ne (by omega)] | rw [zu_ne2 (by omega)] | rw [zfu_ne (by omega)] | rw [zu_if, if_pos (by omega)]))
    omega
  have cS2 : S2 (XBu a x y z u) (MBu b b x y z u) := by
    intro h h0 h1
    have g := hs.s2 h h0 h1
    unfold XBu MBu
    by_cases eh : h = b 264 0
    · (repeat (first | rw [zu_ne (by omega)] | rw [zu_ne2 (by omega)] | rw [zfu_ne (by omega)] | rw [zu_if, if_pos (by omega)]))
      omega
    · (repeat (first | rw [zu_ne (by omega)] | rw [zu_ne2 (by omega)] | rw [zfu_ne (by omega)] | rw [zu_if, if_pos (by omega)]))
      omega
  have cS3 : S3 (XBu a x y z u) (MBu b b x y z u) := S3_f hs.s3 (fun h h0 h1 => by unfold XBu; (repeat (first | rw [zu_ne (by omega)] | rw [zu_ne2 (by omega)] | rw [zfu_ne (by omega)] | rw [zu_if, if_pos (by omega)])) <;> rfl) (by unfold MBu; (repeat (first | rw [zu_ne (by omega)] | rw [zu_ne2 (by omega)] | rw [zfu_ne (by omega)] | rw [zu_if, if_pos (by omega)])) <;> rfl)
  have cS4 : S4 (XBu a x y z u) (MBu b b x y z u) := S4_f hs.s4 (fun h h0 h1 => by unfold XBu; (repeat (first | rw [zu_ne (by omega)] | rw [zu_ne2 (by omega)] | rw [zfu_ne (by omega)] | rw [zu_if, if_pos (by omega)])) <;> rfl) (by unfold MBu; (repeat (first | rw [zu_ne (by omega)] | rw [zu_ne2 (by omega)] | rw [zfu_ne (by omega)] | rw [zu_if, if_pos (by omega)])) <;> rfl)
  have cS5 : S5 (XBu a x y z u) (MBu b b x y z u) := S5_f hs.s5 (fun c c0 c1 => by unfold XBu; (repeat (first | rw [zu_ne (by omega)] | rw [zu_ne2 (by omega)] | rw [zfu_ne (by omega)] | rw [zu_if, if_pos (by omega)])) <;> rfl) (by unfold MBu; (repeat (first | rw [zu_ne (by omega)] | rw [zu_ne2 (by omega)] | rw [zfu_ne (by omega)] | rw [zu_if, if_pos (by omega)])) <;> rfl) (by unfold MBu; (repeat (first | rw [zu_ne (by omega)] | rw [zu_ne2 (by omega)] | rw [zfu_ne (by omega)] | rw [zu_if, if_pos (by omega)])) <;> rfl) (by unfold MBu; (repeat (first | rw [zu_ne (by omega)] | rw [zu_ne2 (by omega)] | rw [zfu_ne (by omega)] | rw [zu_if, if_pos (by omega)])) <;> rfl) (by unfold MBu; (repeat (first | rw [zu_ne (by omega)] | rw [zu_ne2 (by omega)] | rw [zfu_ne (by omega)] | rw [zu_if, if_pos (by omega)])) <;> rfl) (by unfold MBu; (repeat (first | rw [zu_ne (by omega)] | rw [zu_ne2 (by omega)] | rw [zfu_ne (by omega)] | rw [zu_if, if_pos (by omega)])) <;> rfl) (by unfold MBu; (repeat (first | rw [zu_ne (by omega)] | rw [zu_ne2 (by omega)] | rw [zfu_ne (by omega)] | rw [zu_if, if_pos (by omega)])) <;> rfl) (by unfold MBu; (repeat (first | rw [zu_ne (by omega)] | rw [zu_ne2 (by omega)] | rw [zfu_ne (by omega)] | rw [zu_if, if_pos (by omega)])) <;> rfl)
  have cS6 : S6 (XBu a x y z u) (MBu b b x y z u) := by
    intro c c0 c1 k k0 k1
    have g := hs.s6 c c0 c1 k k0 k1
    unfold XBu MBu
    (repeat (first | rw [zu_ne (by omega)] | rw [zu_ne2 (by omega)] | rw [zfu_ne (by omega)] | rw [zu_if, if_pos (by omega)]))
    omega
  have cS7 : S7 (XBu a x y z u) (MBu b b x y z u) := S7_f hs.s7 (fun c c0 c1 => by unfold XBu; (repeat (first | rw [zu_ne (by omega)] | rw [zu_ne2 (by omega)] | rw [zfu_ne (by omega)] | rw [zu_if, if_pos (by omega)])) <;> rfl) (by unfold MBu; (repeat (first | rw [zu_ne (by omega)] | rw [zu_ne2 (by omega)] | rw [zfu_ne (by omega)] | rw [zu_if, if_pos (by omega)])) <;> rfl)
  have cS8 : S8 (XBu a x y z u) (MBu b b x y z u) := S8_f hs.s8 (fun c c0 c1 => by unfold XBu; (repeat (first | rw [zu_ne (by omega)] | rw [zu_ne2 (by omega)] | rw [zfu_ne (by omega)] | rw [zu_if, if_pos (by omega)])) <;> rfl) (by unfold MBu; (repeat (first | rw [zu_ne (by omega)] | rw [zu_ne2 (by omega)] | rw [zfu_ne (by omega)] | rw [zu_if, if_pos (by omega)])) <;> rfl) (by unfold MBu; (repeat (first | rw [zu_ne (by omega)] | rw [zu_ne2 (by omega)] | rw [zfu_ne (by omega)] | rw [zu_if, if_pos (by omega)])) <;> rfl) (by unfold MBu; (repeat (first | rw [zu_ne (by omega)] | rw [zu_ne2 (by omega)] | rw [zfu_ne (by omega)] | rw [zu_if, if_pos (by omega)])) <;> rfl) (by unfold MBu; (repeat (first | rw [zu_ne (by omega)] | rw [zu_ne2 (by omega)] | rw [zfu_ne (by omega)] | rw [zu_if, if_pos (by omega)])) <;> rfl) (by unfold MBu; (repeat (first | rw [zu_ne (by omega)] | rw [zu_ne2 (by omega)] | rw [zfu_ne (by omega)] | rw [zu_if, if_pos (by omega)])) <;> rfl)
  have cS9 : S9 (XBu a x y z u) (MBu b b x y z u) := S9_f hs.s9 (fun c c0 c1 => by unfold XBu; (repeat (first | rw [zu_ne (by omega)] | rw [zu_ne2 (by omega)] | rw [zfu_ne (by omega)] | rw [zu_if, if_pos (by omega)])) <;> rfl) (by unfold MBu; (repeat (first | rw [zu_ne (by omega)] | rw [zu_ne2 (by omega)] | rw [zfu_ne (by omega)] | rw [zu_if, if_pos (by omega)])) <;> rfl) (by unfold MBu; (repeat (first | rw [zu_ne (by omega)] | rw [zu_ne2 (by omega)] | rw [zfu_ne (by omega)] | rw [zu_if, if_pos (by omega)])) <;> rfl) (by unfold MBu; (repeat (first | rw [zu_ne (by omega)] | rw [zu_ne2 (by omega)] | rw [zfu_ne (by omega)] | rw [zu_if, if_pos (by omega)])) <;> rfl) (by unfold MBu; (repeat (first | rw [zu_ne (by omega)] | rw [zu_ne2 (by omega)] | rw [zfu_ne (by omega)] | rw [zu_if, if_pos (by omega)])) <;> rfl)
  have cS10 : S10 (XBu a x y z u) (MBu b b x y z u) := by
    intro h h0 h1
    have g := hs.s10 h h0 h1
    have f : MCf (MBu b b x y z u) = MCf b := MCf_e (by unfold MBu; (repeat (first | rw [zu_ne (by omega)] | rw [zu_ne2 (by omega)] | rw [zfu_ne (by omega)] | rw [zu_if, if_pos (by omega)])) <;> rfl) (by unfold MBu; (repeat (first | rw [zu_ne (by omega)] | rw [zu_ne2 (by omega)] | rw [zfu_ne (by omega)] | rw [zu_if, if_pos (by omega)])) <;> rfl) (by unfold MBu; (repeat (first | rw [zu_ne (by omega)] | rw [zu_ne2 (by omega)] | rw [zfu_ne (by omega)] | rw [zu_if, if_pos (by omega)])) <;> rfl) (by unfold MBu; (repeat (first | rw [zu_ne (by omega)] | rw [zu_ne2 (by omega)] | rw [zfu_ne (by omega)] | rw [zu_if, if_pos (by omega)])) <;> rfl) (by unfold MBu; (repeat (first | rw [zu_ne (by omega)] | rw [zu_ne2 (by omega)] | rw [zfu_ne (by omega)] | rw [zu_if, if_pos (by omega)])) <;> rfl)
    refine ⟨fun k k0 k1 => ?_, fun hl e t e0 e1 t0 t1 => ?_⟩
    · have g1 := g.1 k k0 k1
      unfold XBu
      rw [zu_ne (by omega), zu_ne (by omega)]
      unfold zfu
      split
      · omega
      · split
        · omega
        · split
          · omega
          · exact g1
    · unfold MF
      rw [f]
      have hl2 : h < b 264 0 + 1 := by
        unfold MBu at hl
        rw [zu_at] at hl
        exact hl
      by_cases eh : h = b 264 0
      · have g3 := (hs.s11 h h0 h1).1 (3 * t + e) (by omega) (by omega)
        have z0 : zsum (MCf b h e t) (MBu b b x y z u 264 10) = 0 := by
          have e10 : MBu b b x y z u 264 10 = b 264 10 := by unfold MBu; (repeat (first | rw [zu_ne (by omega)] | rw [zu_ne2 (by omega)] | rw [zfu_ne (by omega)] | rw [zu_if, if_pos (by omega)]))
          rw [e10]
          refine zsum_z (by omega) (fun k k0 k1 => ?_)
          unfold MCf
          have g6 := hs.s6 k k0 (by omega) (t - b 272 k)
          have g5 := hs.s5 k k0 (by omega)
          rw [if_neg (fun hh => by
            have g7 := g6 (by omega) (by omega)
            have e7 : 7 * k + t - b 272 k = 7 * k + (t - b 272 k) := by omega
            rw [e7] at hh
            omega)]
        rw [z0]
        have e1 : MBu b b x y z u 269 = b 269 := by unfold MBu; (repeat (first | rw [zu_ne (by omega)] | rw [zu_ne2 (by omega)] | rw [zfu_ne (by omega)] | rw [zu_if, if_pos (by omega)]))
        rw [e1]
        have e2 : 120 * h + 3 * t + e = 120 * h + (3 * t + e) := by omega
        have e3 : e + 120 * h + 3 * t = 120 * h + (3 * t + e) := by omega
        first | rw [e3] | rw [e2]
        unfold XBu MBu
        rw [zu_ne (by omega), zu_ne (by omega), zu_ne (by omega), zu_ne (by omega)]
        unfold zfu
        rcases (show e = 0 ∨ e = 1 ∨ e = 2 by omega) with r | r | r
        · rw [if_neg (by omega), if_neg (by omega), if_pos (by omega), zu_ne2 (by omega), zu_ne2 (by omega), zu_if, if_pos (by omega)]
          omega
        · rw [if_neg (by omega), if_pos (by omega), zu_ne2 (by omega), zu_if, if_pos (by omega)]
          omega
        · rw [if_pos (by omega), zu_if, if_pos (by omega)]
          omega
      · have g2 := g.2 (by omega) e t e0 e1 t0 t1
        unfold MF at g2
        unfold XBu MBu
        (repeat (first | rw [zu_ne (by omega)] | rw [zu_ne2 (by omega)] | rw [zfu_ne (by omega)] | rw [zu_if, if_pos (by omega)]))
        exact g2
  have cS11 : S11 (XBu a x y z u) (MBu b b x y z u) := by
    intro h h0 h1
    have g := hs.s11 h h0 h1
    have e1 : MBu b b x y z u 269 = b 269 := by unfold MBu; (repeat (first | rw [zu_ne (by omega)] | rw [zu_ne2 (by omega)] | rw [zfu_ne (by omega)] | rw [zu_if, if_pos (by omega)]))
    have e2 : MBu b b x y z u 264 9 = b 264 9 := by unfold MBu; (repeat (first | rw [zu_ne (by omega)] | rw [zu_ne2 (by omega)] | rw [zfu_ne (by omega)] | rw [zu_if, if_pos (by omega)]))
    have e3 : MBu b b x y z u 264 0 = b 264 0 + 1 := by unfold MBu; exact zu_at
    have e4 : XBu a x y z u (3 + 4 * h) 5 = a (3 + 4 * h) 5 := by unfold XBu; (repeat (first | rw [zu_ne (by omega)] | rw [zu_ne2 (by omega)] | rw [zfu_ne (by omega)] | rw [zu_if, if_pos (by omega)]))
    have e5 : XBu a x y z u (3 + 4 * h) 6 = a (3 + 4 * h) 6 := by unfold XBu; (repeat (first | rw [zu_ne (by omega)] | rw [zu_ne2 (by omega)] | rw [zfu_ne (by omega)] | rw [zu_if, if_pos (by omega)]))
    rw [e1, e2, e3, e4, e5]
    refine ⟨fun k k0 k1 => ?_, g.2⟩
    have g1 := g.1 k k0 k1
    omega
  have cS12 : S12 (XBu a x y z u) (MBu b b x y z u) := S12_f hs.s12 (by unfold XBu; (repeat (first | rw [zu_ne (by omega)] | rw [zu_ne2 (by omega)] | rw [zfu_ne (by omega)] | rw [zu_if, if_pos (by omega)])) <;> rfl) (by unfold XBu; (repeat (first | rw [zu_ne (by omega)] | rw [zu_ne2 (by omega)] | rw [zfu_ne (by omega)] | rw [zu_if, if_pos (by omega)])) <;> rfl) (by unfold XBu; (repeat (first | rw [zu_ne (by omega)] | rw [zu_ne2 (by omega)] | rw [zfu_ne (by omega)] | rw [zu_if, if_pos (by omega)])) <;> rfl) (by unfold XBu; (repeat (first | rw [zu_ne (by omega)] | rw [zu_ne2 (by omega)] | rw [zfu_ne (by omega)] | rw [zu_if, if_pos (by omega)])) <;> rfl) (by unfold MBu; (repeat (first | rw [zu_ne (by omega)] | rw [zu_ne2 (by omega)] | rw [zfu_ne (by omega)] | rw [zu_if, if_pos (by omega)])) <;> rfl) (by unfold MBu; (repeat (first | rw [zu_ne (by omega)] | rw [zu_ne2 (by omega)] | rw [zfu_ne (by omega)] | rw [zu_if, if_pos (by omega)])) <;> rfl) (by unfold MBu; (repeat (first | rw [zu_ne (by omega)] | rw [zu_ne2 (by omega)] | rw [zfu_ne (by omega)] | rw [zu_if, if_pos (by omega)])) <;> rfl) (by unfold MBu; (repeat (first | rw [zu_ne (by omega)] | rw [zu_ne2 (by omega)] | rw [zfu_ne (by omega)] | rw [zu_if, if_pos (by omega)])) <;> rfl) (by unfold MBu; (repeat (first | rw [zu_ne (by omega)] | rw [zu_ne2 (by omega)] | rw [zfu_ne (by omega)] | rw [zu_if, if_pos (by omega)])) <;> rfl) (by unfold MBu; (repeat (first | rw [zu_ne (by omega)] | rw [zu_ne2 (by omega)] | rw [zfu_ne (by omega)] | rw [zu_if, if_pos (by omega)])) <;> rfl)
  have cS13 : S13 (XBu a x y z u) (MBu b b x y z u) := S13_f hs.s13 (by unfold XBu; (repeat (first | rw [zu_ne (by omega)] | rw [zu_ne2 (by omega)] | rw [zfu_ne (by omega)] | rw [zu_if, if_pos (by omega)])) <;> rfl) (by unfold XBu; (repeat (first | rw [zu_ne (by omega)] | rw [zu_ne2 (by omega)] | rw [zfu_ne (by omega)] | rw [zu_if, if_pos (by omega)])) <;> rfl) (by unfold MBu; (repeat (first | rw [zu_ne (by omega)] | rw [zu_ne2 (by omega)] | rw [zfu_ne (by omega)] | rw [zu_if, if_pos (by omega)])) <;> rfl) (by unfold MBu; (repeat (first | rw [zu_ne (by omega)] | rw [zu_ne2 (by omega)] | rw [zfu_ne (by omega)] | rw [zu_if, if_pos (by omega)])) <;> rfl)
  have cS14 : S14 (XBu a x y z u) (MBu b b x y z u) := by
    have g := hs.s14
    refine ⟨fun k => ?_, fun k k0 k1 => ?_, fun k k0 k1 => ?_⟩
    · have g1 := g.1 k
      unfold XBu
      (repeat (first | rw [zu_ne (by omega)] | rw [zu_ne2 (by omega)] | rw [zfu_ne (by omega)] | rw [zu_if, if_pos (by omega)]))
      exact g1
    · have g1 := g.2.1 k k0 k1
      unfold MBu
      rw [zu_ne (by omega), zu_ne (by omega), zu_if]
      split
      · omega
      · rw [zu_if]
        split
        · omega
        · rw [zu_if]
          split
          · omega
          · exact g1
    · have g1 := g.2.2 k k0 k1
      unfold MBu
      (repeat (first | rw [zu_ne (by omega)] | rw [zu_ne2 (by omega)] | rw [zfu_ne (by omega)] | rw [zu_if, if_pos (by omega)]))
      exact g1
  have cS15 : S15 (XBu a x y z u) (MBu b b x y z u) := S15_f hs.s15 (fun c c0 c1 => by unfold XBu; (repeat (first | rw [zu_ne (by omega)] | rw [zu_ne2 (by omega)] | rw [zfu_ne (by omega)] | rw [zu_if, if_pos (by omega)])) <;> rfl) (by unfold MBu; (repeat (first | rw [zu_ne (by omega)] | rw [zu_ne2 (by omega)] | rw [zfu_ne (by omega)] | rw [zu_if, if_pos (by omega)])) <;> rfl) (by unfold MBu; (repeat (first | rw [zu_ne (by omega)] | rw [zu_ne2 (by omega)] | rw [zfu_ne (by omega)] | rw [zu_if, if_pos (by omega)])) <;> rfl) (by unfold MBu; (repeat (first | rw [zu_ne (by omega)] | rw [zu_ne2 (by omega)] | rw [zfu_ne (by omega)] | rw [zu_if, if_pos (by omega)])) <;> rfl) (by unfold MBu; (repeat (first | rw [zu_ne (by omega)] | rw [zu_ne2 (by omega)] | rw [zfu_ne (by omega)] | rw [zu_if, if_pos (by omega)])) <;> rfl) (by unfold MBu; (repeat (first | rw [zu_ne (by omega)] | rw [zu_ne2 (by omega)] | rw [zfu_ne (by omega)] | rw [zu_if, if_pos (by omega)])) <;> rfl) (by unfold MBu; (repeat (first | rw [zu_ne (by omega)] | rw [zu_ne2 (by omega)] | rw [zfu_ne (by omega)] | rw [zu_if, if_pos (by omega)])) <;> rfl) (by unfold MBu; (repeat (first | rw [zu_ne (by omega)] | rw [zu_ne2 (by omega)] | rw [zfu_ne (by omega)] | rw [zu_if, if_pos (by omega)])) <;> rfl) (by unfold MBu; (repeat (first | rw [zu_ne (by omega)] | rw [zu_ne2 (by omega)] | rw [zfu_ne (by omega)] | rw [zu_if, if_pos (by omega)])) <;> rfl) (by unfold MBu; (repeat (first | rw [zu_ne (by omega)] | rw [zu_ne2 (by omega)] | rw [zfu_ne (by omega)] | rw [zu_if, if_pos (by omega)])) <;> rfl)
  have cS16 : S16 (XBu a x y z u) (MBu b b x y z u) := S16_f hs.s16 (by unfold MBu; (repeat (first | rw [zu_ne (by omega)] | rw [zu_ne2 (by omega)] | rw [zfu_ne (by omega)] | rw [zu_if, if_pos (by omega)])) <;> rfl) (by unfold MBu; (repeat (first | rw [zu_ne (by omega)] | rw [zu_ne2 (by omega)] | rw [zfu_ne (by omega)] | rw [zu_if, if_pos (by omega)])) <;> rfl) (by unfold MBu; (repeat (first | rw [zu_ne (by omega)] | rw [zu_ne2 (by omega)] | rw [zfu_ne (by omega)] | rw [zu_if, if_pos (by omega)])) <;> rfl)
  exact ⟨cS1, cS2, cS3, cS4, cS5, cS6, cS7, cS8, cS9, cS10, cS11, cS12, cS13, cS14, cS15, cS16⟩
