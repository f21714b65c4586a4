theorem t_Xshut {L d : Nat} {m : zmem} (n0 : 0 ≤ m 1 1) (n1 : m 1 1 ≤ 12) (w0 : 0 ≤ m 0 7) (w1 : m 0 7 ≤ 39) {x y z w N : Int} {X : zmem} (hC : ((0 ≤ x ∧ x < m 1 1) ∧ m 0 7 < y ∧ y ≤ z ∧ z ≤ 39) → ∀ Q : Option zV → zM → Prop, zR (d + 6) 48 109 [some (.inr (.inl (some 0))), some (.inl x), some (.inl y), some (.inl z), some (.inl w), some (.inl N), none] [] (zem L X) Q → zR (d + 6) 48 53 [some (.inr (.inl (some 0))), some (.inl x), some (.inl y), some (.inl z), some (.inl 0), some (.inl 0), none] [] (zem L (zcs m x y (z + 1))) Q) : zF L (d + 6) 48 [.inr (.inl (some 0)), .inl x, .inl y, .inl z] m (some (.inl (if ((0 ≤ x ∧ x < m 1 1) ∧ m 0 7 < y ∧ y ≤ z ∧ z ≤ 39) then w else -2))) (if ((0 ≤ x ∧ x < m 1 1) ∧ m 0 7 < y ∧ y ≤ z ∧ z ≤ 39) then X else m) := by
  refine zF_of n48 (ls := [some (.inr (.inl (some 0))), some (.inl x), some (.inl y), some (.inl z), none, none, none]) rfl ?_
  refine r_aload_n f48_0 rfl ?_
  refine r_getR f48_1 o48 F6_10 g0_0 rfl ?_
  refine r_iload_n f48_4 rfl ?_
  refine r_callv1i (m' := m) f48_5 o48 M6_58 p30 o30 kd1 rfl (by simp) (t_hasHouse x n0 n1) ?_
  refine r_ite (fun q1 => ?_) (fun q1 => ?_)
  · refine r_zeq f48_8 (t := 30) (by decide) (fun h => absurd h (by omega)) (fun _ => ?_)
    refine r_iload_n f48_11 rfl ?_
    refine r_aload_n f48_12 rfl ?_
    refine r_getI f48_13 o48 F6_94 g0_7 rfl ?_
    refine r_cle f48_16 (t := 30) (by decide) (fun q2 => ?_) (fun q2 => ?_)
    · refine r_bipush f48_30 (by decide) ?_
      exact r_iret f48_32 v48 ⟨zs_eq (by first | rfl | omega | ((repeat (first | rw [if_pos (by omega)] | rw [if_neg (by omega)])) <;> first | rfl | omega)), (by first | rfl | ((repeat (first | rw [if_pos (by omega)] | rw [if_neg (by omega)])); done) | ((repeat (first | rw [if_pos (by omega)] | rw [if_neg (by omega)])); rfl))⟩
    · refine r_iload_n f48_19 rfl ?_
      refine r_bipush f48_20 (by decide) ?_
      refine r_cge f48_22 (t := 30) (by decide) (fun q3 => ?_) (fun q3 => ?_)
      · refine r_bipush f48_30 (by decide) ?_
        exact r_iret f48_32 v48 ⟨zs_eq (by first | rfl | omega | ((repeat (first | rw [if_pos (by omega)] | rw [if_neg (by omega)])) <;> first | rfl | omega)), (by first | rfl | ((repeat (first | rw [if_pos (by omega)] | rw [if_neg (by omega)])); done) | ((repeat (first | rw [if_pos (by omega)] | rw [if_neg (by omega)])); rfl))⟩
      · refine r_iload_n f48_25 rfl ?_
        refine r_iload_n f48_26 rfl ?_
        refine r_cle f48_27 (t := 33) (by decide) (fun q4 => ?_) (fun q4 => ?_)
        · refine r_aload_n f48_33 rfl ?_
          refine r_getR f48_34 o48 F6_10 g0_0 rfl ?_
          refine r_getR f48_37 o48 F6_70 g1_0 rfl ?_
          refine r_iload_n f48_40 rfl ?_
          refine r_aldH f48_41 (by omega) (by omega) ?_
          refine r_iload_n f48_42 rfl ?_
          refine r_iload_n f48_43 rfl ?_
          refine r_callv2u (m' := (zcs m x y (z + 1))) f48_44 o48 M6_97 p16 o16 (kdH0 (h := x) (by omega) (by omega)) rfl (by simp) (t_close (h := x) (a := y) (b := z) (by omega) (by omega) (by omega) (by omega) (by omega)) ?_
          refine r_iconst f48_47 rfl ?_
          refine r_istore f48_48 rfl (ls' := [some (.inr (.inl (some 0))), some (.inl x), some (.inl y), some (.inl z), some (.inl 0), none, none]) rfl ?_
          refine r_iconst f48_50 rfl ?_
          refine r_istore f48_51 rfl (ls' := [some (.inr (.inl (some 0))), some (.inl x), some (.inl y), some (.inl z), some (.inl 0), some (.inl 0), none]) rfl ?_
          refine hC (by omega) _ ?_
          refine r_iload f48_109 rfl ?_
          exact r_iret f48_111 v48 ⟨zs_eq (by first | rfl | omega | ((repeat (first | rw [if_pos (by omega)] | rw [if_neg (by omega)])) <;> first | rfl | omega)), (by first | rfl | ((repeat (first | rw [if_pos (by omega)] | rw [if_neg (by omega)])); done) | ((repeat (first | rw [if_pos (by omega)] | rw [if_neg (by omega)])); rfl))⟩
        · refine r_bipush f48_30 (by decide) ?_
          exact r_iret f48_32 v48 ⟨zs_eq (by first | rfl | omega | ((repeat (first | rw [if_pos (by omega)] | rw [if_neg (by omega)])) <;> first | rfl | omega)), (by first | rfl | ((repeat (first | rw [if_pos (by omega)] | rw [if_neg (by omega)])); done) | ((repeat (first | rw [if_pos (by omega)] | rw [if_neg (by omega)])); rfl))⟩
  · refine r_zeq f48_8 (t := 30) (by decide) (fun _ => ?_) (fun h => absurd (by omega) h)
    refine r_bipush f48_30 (by decide) ?_
    exact r_iret f48_32 v48 ⟨zs_eq (by first | rfl | omega | ((repeat (first | rw [if_pos (by omega)] | rw [if_neg (by omega)])) <;> first | rfl | omega)), (by first | rfl | ((repeat (first | rw [if_pos (by omega)] | rw [if_neg (by omega)])); done) | ((repeat (first | rw [if_pos (by omega)] | rw [if_neg (by omega)])); rfl))⟩

theorem t_Mshut {L d : Nat} {m1 m : zmem} (ha : zan m1 m) (n0 : 0 ≤ m 264 0) (n1 : m 264 0 ≤ 12) (w0 : 0 ≤ m 264 9) (w1 : m 264 9 ≤ 39) {x y z w N : Int} {Y : zmem} (hC : ((0 ≤ x ∧ x < m 264 0) ∧ m 264 9 < y ∧ y ≤ z ∧ z ≤ 39) → ∀ Q : Option zV → zM → Prop, zR (d + 7) 116 121 [some (.inr (.inl (some 264))), some (.inl x), some (.inl y), some (.inl z), some (.inl w), some (.inl N)] [] (zem L Y) Q → zR (d + 7) 116 64 [some (.inr (.inl (some 264))), some (.inl x), some (.inl y), some (.inl z), some (.inl 0), some (.inl 0)] [] (zem L (zms m1 x y (z + 1))) Q) : zF L (d + 7) 116 [.inr (.inl (some 264)), .inl x, .inl y, .inl z] m1 (some (.inl (if ((0 ≤ x ∧ x < m 264 0) ∧ m 264 9 < y ∧ y ≤ z ∧ z ≤ 39) then w else -2))) (if ((0 ≤ x ∧ x < m 264 0) ∧ m 264 9 < y ∧ y ≤ z ∧ z ≤ 39) then Y else m1) := by
  refine zF_of n116 (ls := [some (.inr (.inl (some 264))), some (.inl x), some (.inl y), some (.inl z), none, none]) rfl ?_
  refine r_aload_n f116_0 rfl ?_
  refine r_iload_n f116_1 rfl ?_
  refine r_callv1i (m' := m1) f116_2 o116 M7_97 p86 o86 kd264 rfl (by simp) (tN_isHouse ha n0 n1 x) ?_
  refine r_ite (fun q1 => ?_) (fun q1 => ?_)
  · refine r_zeq f116_5 (t := 27) (by decide) (fun h => absurd h (by omega)) (fun _ => ?_)
    refine r_iload_n f116_8 rfl ?_
    refine r_aload_n f116_9 rfl ?_
    refine r_getI f116_10 o116 F7_122 g264_9 rfl ?_
    refine r_top (e := m 264 9) (zan_f ha (by omega) (by omega) (by omega) _) ?_
    refine r_cle f116_13 (t := 27) (by decide) (fun q2 => ?_) (fun q2 => ?_)
    · refine r_bipush f116_27 (by decide) ?_
      exact r_iret f116_29 v116 ⟨zs_eq (by first | rfl | omega | ((repeat (first | rw [if_pos (by omega)] | rw [if_neg (by omega)])) <;> first | rfl | omega)), (by first | rfl | ((repeat (first | rw [if_pos (by omega)] | rw [if_neg (by omega)])); done) | ((repeat (first | rw [if_pos (by omega)] | rw [if_neg (by omega)])); rfl))⟩
    · refine r_iload_n f116_16 rfl ?_
      refine r_iload_n f116_17 rfl ?_
      refine r_cgt f116_18 (t := 27) (by decide) (fun q3 => ?_) (fun q3 => ?_)
      · refine r_bipush f116_27 (by decide) ?_
        exact r_iret f116_29 v116 ⟨zs_eq (by first | rfl | omega | ((repeat (first | rw [if_pos (by omega)] | rw [if_neg (by omega)])) <;> first | rfl | omega)), (by first | rfl | ((repeat (first | rw [if_pos (by omega)] | rw [if_neg (by omega)])); done) | ((repeat (first | rw [if_pos (by omega)] | rw [if_neg (by omega)])); rfl))⟩
      · refine r_iload_n f116_21 rfl ?_
        refine r_bipush f116_22 (by decide) ?_
        refine r_cle f116_24 (t := 30) (by decide) (fun q4 => ?_) (fun q4 => ?_)
        · refine r_iload_n f116_30 rfl ?_
          refine r_istore f116_31 rfl (ls' := [some (.inr (.inl (some 264))), some (.inl x), some (.inl y), some (.inl z), some (.inl y), none]) rfl ?_
          refine r_mem (m1 := zms m1 x y y) zms_0 ?_
          refine l_shuts (m := m) (m1 := m1) (h := x) (f := y) (t := z) (by omega) (by omega) (by omega) (by omega) ?_ (z + 1 - y).toNat y (by omega) (by omega)
          refine r_iconst f116_58 rfl ?_
          refine r_istore f116_59 rfl (ls' := [some (.inr (.inl (some 264))), some (.inl x), some (.inl y), some (.inl z), some (.inl 0), none]) rfl ?_
          refine r_iconst f116_61 rfl ?_
          refine r_istore f116_62 rfl (ls' := [some (.inr (.inl (some 264))), some (.inl x), some (.inl y), some (.inl z), some (.inl 0), some (.inl 0)]) rfl ?_
          refine hC (by omega) _ ?_
          refine r_iload f116_121 rfl ?_
          exact r_iret f116_123 v116 ⟨zs_eq (by first | rfl | omega | ((repeat (first | rw [if_pos (by omega)] | rw [if_neg (by omega)])) <;> first | rfl | omega)), (by first | rfl | ((repeat (first | rw [if_pos (by omega)] | rw [if_neg (by omega)])); done) | ((repeat (first | rw [if_pos (by omega)] | rw [if_neg (by omega)])); rfl))⟩
        · refine r_bipush f116_27 (by decide) ?_
          exact r_iret f116_29 v116 ⟨zs_eq (by first | rfl | omega | ((repeat (first | rw [if_pos (by omega)] | rw [if_neg (by omega)])) <;> first | rfl | omega)), (by first | rfl | ((repeat (first | rw [if_pos (by omega)] | rw [if_neg (by omega)])); done) | ((repeat (first | rw [if_pos (by omega)] | rw [if_neg (by omega)])); rfl))⟩
  · refine r_zeq f116_5 (t := 27) (by decide) (fun _ => ?_) (fun h => absurd (by omega) h)
    refine r_bipush f116_27 (by decide) ?_
    exact r_iret f116_29 v116 ⟨zs_eq (by first | rfl | omega | ((repeat (first | rw [if_pos (by omega)] | rw [if_neg (by omega)])) <;> first | rfl | omega)), (by first | rfl | ((repeat (first | rw [if_pos (by omega)] | rw [if_neg (by omega)])); done) | ((repeat (first | rw [if_pos (by omega)] | rw [if_neg (by omega)])); rfl))⟩

theorem pr_shut {L : Nat} {T : Int} {m : zmem} (hs : Sim T m m) (x y z : Int) : zPr L 48 116 [.inl x, .inl y, .inl z] T m := by
  have s1 := hs.s1
  unfold S1 at s1
  by_cases hg : ((0 ≤ x ∧ x < m 264 0) ∧ m 264 9 < y ∧ y ≤ z ∧ z ≤ 39)
  · have hg2 : ((0 ≤ x ∧ x < m 1 1) ∧ m 0 7 < y ∧ y ≤ z ∧ z ≤ 39) := by omega
    have hs2 := sm_shut hs (h := x) (f := y) (n := z + 1) (by omega) (by omega) (by omega) (by omega)
    have e264 : zms m x y (z + 1) 264 = m 264 := zms_n (by omega)
    obtain ⟨X, M, w, i1, i2, i3, i4, i5⟩ := l_shut (L := L) (d := 2) (e := 1) (h := x) (f := y) (t := z) (N := m 264 10) (by omega) (by omega) (by omega) (m 264 10).toNat 0 _ _ hs2 (by rw [e264]) (by omega) (by omega)
    have gx := t_Xshut (L := L) (d := 2) (m := m) (x := x) (y := y) (z := z) (w := w) (N := m 264 10) (X := X) (by omega) (by omega) (by omega) (by omega) (fun _ Q hk => i4 Q 0 (by omega) (by omega) (by rw [show (0 : Int) + w = w by omega]; exact hk))
    rw [if_pos hg2, if_pos hg2] at gx
    refine zPr_of gx (zan_tr i2 (fun p _ _ _ => zcs_n (by omega))) (fun m1 ha => ?_) (Sim_T i1 (by omega))
    obtain ⟨Y, y1, y2, y3⟩ := i5 _ (zms_an (h := x) (f := y) (n := z + 1) ha)
    have gm := t_Mshut (L := L) (d := 1) ha (x := x) (y := y) (z := z) (w := w) (N := m 264 10) (Y := Y) (by omega) (by omega) (by omega) (by omega) (fun _ Q hk => y3 Q 0 (by omega) (by omega) (by rw [show (0 : Int) + w = w by omega]; exact hk))
    rw [if_pos hg, if_pos hg] at gm
    exact ⟨_, _, gm, rfl, zac_tr y1 zms_ac, y2⟩
  · have hg2 : ¬ ((0 ≤ x ∧ x < m 1 1) ∧ m 0 7 < y ∧ y ≤ z ∧ z ≤ 39) := by omega
    have gx := t_Xshut (L := L) (d := 2) (m := m) (x := x) (y := y) (z := z) (w := 0) (N := 0) (X := m) (by omega) (by omega) (by omega) (by omega) (fun h => absurd h hg2)
    rw [if_neg hg2, if_neg hg2] at gx
    refine zPr_of gx (zan_rf m) (fun m1 ha => ?_) (Sim_T hs (by omega))
    have gm := t_Mshut (L := L) (d := 1) ha (x := x) (y := y) (z := z) (w := 0) (N := 0) (Y := m) (by omega) (by omega) (by omega) (by omega) (fun h => absurd h hg)
    rw [if_neg hg, if_neg hg] at gm
    exact ⟨_, _, gm, rfl, zac_rf _, ha⟩
