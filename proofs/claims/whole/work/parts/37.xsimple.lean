abbrev Ghs (x y z u : Int) : Prop := ((0 ≤ x ∧ x ≤ 9) ∧ (0 ≤ y ∧ y ≤ 9) ∧ (0 ≤ z ∧ z ≤ 9) ∧ ¬ x + y + z = 0 ∧ 0 ≤ u ∧ u ≤ 23)
theorem t_Xhouse {L d : Nat} {m : zmem} (n0 : 0 ≤ m 1 1) (n1 : m 1 1 ≤ 12) (x y z u : Int) : zF L (d + 2) 43 [.inr (.inl (some 0)), .inl x, .inl y, .inl z, .inl u] m (some (.inl (if Ghs x y z u then (if 12 ≤ m 1 1 then -4 else m 1 1) else -2))) (if Ghs x y z u then (if 12 ≤ m 1 1 then m else XBu m x y z u) else m) := by
  refine zF_of n43 (ls := [some (.inr (.inl (some 0))), some (.inl x), some (.inl y), some (.inl z), some (.inl u), none]) rfl ?_
  refine r_iload_n f43_0 rfl ?_
  refine r_iconst f43_1 rfl ?_
  refine r_bipush f43_2 (by decide) ?_
  refine r_calls3i (m' := m) f43_4 o43 M6_50 (Or.inl rfl) p67 rfl (by simp) (t_within x 0 9) ?_
  refine r_ite (fun q1 => ?_) (fun q1 => ?_)
  · refine r_zeq f43_7 (t := 34) (by decide) (fun h => absurd h (by omega)) (fun _ => ?_)
    refine r_iload_n f43_10 rfl ?_
    refine r_iconst f43_11 rfl ?_
    refine r_bipush f43_12 (by decide) ?_
    refine r_calls3i (m' := m) f43_14 o43 M6_50 (Or.inl rfl) p67 rfl (by simp) (t_within y 0 9) ?_
    refine r_ite (fun q2 => ?_) (fun q2 => ?_)
    · refine r_zeq f43_17 (t := 34) (by decide) (fun h => absurd h (by omega)) (fun _ => ?_)
      refine r_iload_n f43_20 rfl ?_
      refine r_iconst f43_21 rfl ?_
      refine r_bipush f43_22 (by decide) ?_
      refine r_calls3i (m' := m) f43_24 o43 M6_50 (Or.inl rfl) p67 rfl (by simp) (t_within z 0 9) ?_
      refine r_ite (fun q3 => ?_) (fun q3 => ?_)
      · refine r_zeq f43_27 (t := 34) (by decide) (fun h => absurd h (by omega)) (fun _ => ?_)
        refine r_iconst f43_30 rfl ?_
        refine r_goto f43_31 (t := 35) (by decide) ?_
        refine r_istore f43_35 rfl (ls' := [some (.inr (.inl (some 0))), some (.inl x), some (.inl y), some (.inl z), some (.inl u), some (.inl 1)]) rfl ?_
        refine r_iload f43_37 rfl ?_
        refine r_zeq f43_39 (t := 61) (by decide) (fun h => absurd h (by omega)) (fun _ => ?_)
        refine r_iload_n f43_42 rfl ?_
        refine r_iload_n f43_43 rfl ?_
        refine r_iadd f43_44 (e := x + y) (by omega) (by omega) (by omega) ?_
        refine r_iload_n f43_45 rfl ?_
        refine r_iadd f43_46 (e := x + y + z) (by omega) (by omega) (by omega) ?_
        refine r_zeq f43_47 (t := 61) (by decide) (fun q4 => ?_) (fun q4 => ?_)
        · refine r_bipush f43_61 (by decide) ?_
          exact r_iret f43_63 v43 ⟨zs_eq (by first | rfl | omega | ((repeat (first | rw [if_pos (by omega)] | rw [if_neg (by omega)])) <;> first | rfl | omega)), (by first | rfl | ((repeat (first | rw [if_pos (by omega)] | rw [if_neg (by omega)])); done) | ((repeat (first | rw [if_pos (by omega)] | rw [if_neg (by omega)])); rfl))⟩
        · refine r_iload f43_50 rfl ?_
          refine r_iconst f43_52 rfl ?_
          refine r_bipush f43_53 (by decide) ?_
          refine r_calls3i (m' := m) f43_55 o43 M6_50 (Or.inl rfl) p67 rfl (by simp) (t_within u 0 23) ?_
          refine r_ite (fun q5 => ?_) (fun q5 => ?_)
          · refine r_zne f43_58 (t := 64) (by decide) (fun _ => ?_) (fun h => absurd (by omega) h)
            refine r_aload_n f43_64 rfl ?_
            refine r_getR f43_65 o43 F6_10 g0_0 rfl ?_
            refine r_iload_n f43_68 rfl ?_
            refine r_iload_n f43_69 rfl ?_
            refine r_iload_n f43_70 rfl ?_
            refine r_iload f43_71 rfl ?_
            refine r_callv4i (m' := if 12 ≤ m 1 1 then m else (XBu m x y z u)) (v := if 12 ≤ m 1 1 then -4 else m 1 1) f43_73 o43 M6_54 p31 o31 kd1 rfl (by simp) (t_build n0 n1) ?_
            by_cases q6 : 12 ≤ m 1 1
            · rw [if_pos q6, if_pos q6]
              exact r_iret f43_76 v43 ⟨zs_eq (by first | rfl | omega | ((repeat (first | rw [if_pos (by omega)] | rw [if_neg (by omega)])) <;> first | rfl | omega)), (by first | rfl | ((repeat (first | rw [if_pos (by omega)] | rw [if_neg (by omega)])); done) | ((repeat (first | rw [if_pos (by omega)] | rw [if_neg (by omega)])); rfl))⟩
            · rw [if_neg q6, if_neg q6]
              exact r_iret f43_76 v43 ⟨zs_eq (by first | rfl | omega | ((repeat (first | rw [if_pos (by omega)] | rw [if_neg (by omega)])) <;> first | rfl | omega)), (by first | rfl | ((repeat (first | rw [if_pos (by omega)] | rw [if_neg (by omega)])); done) | ((repeat (first | rw [if_pos (by omega)] | rw [if_neg (by omega)])); rfl))⟩
          · refine r_zne f43_58 (t := 64) (by decide) (fun h => absurd h (by omega)) (fun _ => ?_)
            refine r_bipush f43_61 (by decide) ?_
            exact r_iret f43_63 v43 ⟨zs_eq (by first | rfl | omega | ((repeat (first | rw [if_pos (by omega)] | rw [if_neg (by omega)])) <;> first | rfl | omega)), (by first | rfl | ((repeat (first | rw [if_pos (by omega)] | rw [if_neg (by omega)])); done) | ((repeat (first | rw [if_pos (by omega)] | rw [if_neg (by omega)])); rfl))⟩
      · refine r_zeq f43_27 (t := 34) (by decide) (fun _ => ?_) (fun h => absurd (by omega) h)
        refine r_iconst f43_34 rfl ?_
        refine r_istore f43_35 rfl (ls' := [some (.inr (.inl (some 0))), some (.inl x), some (.inl y), some (.inl z), some (.inl u), some (.inl 0)]) rfl ?_
        refine r_iload f43_37 rfl ?_
        refine r_zeq f43_39 (t := 61) (by decide) (fun _ => ?_) (fun h => absurd (by omega) h)
        refine r_bipush f43_61 (by decide) ?_
        exact r_iret f43_63 v43 ⟨zs_eq (by first | rfl | omega | ((repeat (first | rw [if_pos (by omega)] | rw [if_neg (by omega)])) <;> first | rfl | omega)), (by first | rfl | ((repeat (first | rw [if_pos (by omega)] | rw [if_neg (by omega)])); done) | ((repeat (first | rw [if_pos (by omega)] | rw [if_neg (by omega)])); rfl))⟩
    · refine r_zeq f43_17 (t := 34) (by decide) (fun _ => ?_) (fun h => absurd (by omega) h)
      refine r_iconst f43_34 rfl ?_
      refine r_istore f43_35 rfl (ls' := [some (.inr (.inl (some 0))), some (.inl x), some (.inl y), some (.inl z), some (.inl u), some (.inl 0)]) rfl ?_
      refine r_iload f43_37 rfl ?_
      refine r_zeq f43_39 (t := 61) (by decide) (fun _ => ?_) (fun h => absurd (by omega) h)
      refine r_bipush f43_61 (by decide) ?_
      exact r_iret f43_63 v43 ⟨zs_eq (by first | rfl | omega | ((repeat (first | rw [if_pos (by omega)] | rw [if_neg (by omega)])) <;> first | rfl | omega)), (by first | rfl | ((repeat (first | rw [if_pos (by omega)] | rw [if_neg (by omega)])); done) | ((repeat (first | rw [if_pos (by omega)] | rw [if_neg (by omega)])); rfl))⟩
  · refine r_zeq f43_7 (t := 34) (by decide) (fun _ => ?_) (fun h => absurd (by omega) h)
    refine r_iconst f43_34 rfl ?_
    refine r_istore f43_35 rfl (ls' := [some (.inr (.inl (some 0))), some (.inl x), some (.inl y), some (.inl z), some (.inl u), some (.inl 0)]) rfl ?_
    refine r_iload f43_37 rfl ?_
    refine r_zeq f43_39 (t := 61) (by decide) (fun _ => ?_) (fun h => absurd (by omega) h)
    refine r_bipush f43_61 (by decide) ?_
    exact r_iret f43_63 v43 ⟨zs_eq (by first | rfl | omega | ((repeat (first | rw [if_pos (by omega)] | rw [if_neg (by omega)])) <;> first | rfl | omega)), (by first | rfl | ((repeat (first | rw [if_pos (by omega)] | rw [if_neg (by omega)])); done) | ((repeat (first | rw [if_pos (by omega)] | rw [if_neg (by omega)])); rfl))⟩

abbrev Gst (n x y z e : Int) : Prop := (0 ≤ x ∧ x < n) ∧ (0 ≤ y ∧ y < n) ∧ (1 ≤ z ∧ z ≤ 40) ∧ ¬ x = y ∧ e ≤ 0
theorem t_Xstage {L d : Nat} {m : zmem} (n0 : 0 ≤ m 1 1) (n1 : m 1 1 ≤ 12) (s0 : 0 ≤ m 1 2) (s1 : m 1 2 ≤ 40) (x y z : Int) : zF L (d + 2) 44 [.inr (.inl (some 0)), .inl x, .inl y, .inl z] m (some (.inl (if Gst (m 1 1) x y z (m (6 + 4 * x) y) then (if 40 ≤ m 1 2 then -4 else m 1 2 + 1) else -2))) (if Gst (m 1 1) x y z (m (6 + 4 * x) y) then (if 40 ≤ m 1 2 then m else XJn m x y z) else m) := by
  refine zF_of n44 (ls := [some (.inr (.inl (some 0))), some (.inl x), some (.inl y), some (.inl z)]) rfl ?_
  refine r_aload_n f44_0 rfl ?_
  refine r_getR f44_1 o44 F6_10 g0_0 rfl ?_
  refine r_iload_n f44_4 rfl ?_
  refine r_callv1i (m' := m) f44_5 o44 M6_58 p30 o30 kd1 rfl (by simp) (t_hasHouse x n0 n1) ?_
  refine r_ite (fun q1 => ?_) (fun q1 => ?_)
  · refine r_zeq f44_8 (t := 32) (by decide) (fun h => absurd h (by omega)) (fun _ => ?_)
    refine r_aload_n f44_11 rfl ?_
    refine r_getR f44_12 o44 F6_10 g0_0 rfl ?_
    refine r_iload_n f44_15 rfl ?_
    refine r_callv1i (m' := m) f44_16 o44 M6_58 p30 o30 kd1 rfl (by simp) (t_hasHouse y n0 n1) ?_
    refine r_ite (fun q2 => ?_) (fun q2 => ?_)
    · refine r_zeq f44_19 (t := 32) (by decide) (fun h => absurd h (by omega)) (fun _ => ?_)
      refine r_iload_n f44_22 rfl ?_
      refine r_iconst f44_23 rfl ?_
      refine r_bipush f44_24 (by decide) ?_
      refine r_calls3i (m' := m) f44_26 o44 M6_50 (Or.inl rfl) p67 rfl (by simp) (t_within z 1 40) ?_
      refine r_ite (fun q3 => ?_) (fun q3 => ?_)
      · refine r_zne f44_29 (t := 35) (by decide) (fun _ => ?_) (fun h => absurd (by omega) h)
        refine r_aload_n f44_35 rfl ?_
        refine r_getR f44_36 o44 F6_10 g0_0 rfl ?_
        refine r_iload_n f44_39 rfl ?_
        refine r_iload_n f44_40 rfl ?_
        refine r_callv2i (m' := m) f44_41 o44 M6_62 p33 o33 kd1 rfl (by simp) (t_joined (a := x) (b := y) (by omega) (by omega) (by omega) (by omega)) ?_
        refine r_ite (fun q4 => ?_) (fun q4 => ?_)
        · refine r_zeq f44_44 (t := 50) (by decide) (fun h => absurd h (by omega)) (fun _ => ?_)
          refine r_bipush f44_47 (by decide) ?_
          exact r_iret f44_49 v44 ⟨zs_eq (by first | rfl | omega | ((repeat (first | rw [if_pos (by omega)] | rw [if_neg (by omega)])) <;> first | rfl | omega)), (by first | rfl | ((repeat (first | rw [if_pos (by omega)] | rw [if_neg (by omega)])); done) | ((repeat (first | rw [if_pos (by omega)] | rw [if_neg (by omega)])); rfl))⟩
        · refine r_zeq f44_44 (t := 50) (by decide) (fun _ => ?_) (fun h => absurd (by omega) h)
          refine r_aload_n f44_50 rfl ?_
          refine r_getR f44_51 o44 F6_10 g0_0 rfl ?_
          refine r_iload_n f44_54 rfl ?_
          refine r_iload_n f44_55 rfl ?_
          refine r_iload_n f44_56 rfl ?_
          refine r_callv3i (m' := if 40 ≤ m 1 2 then m else (XJn m x y z)) (v := if 40 ≤ m 1 2 then -4 else m 1 2 + 1) f44_57 o44 M6_66 p32 o32 kd1 rfl (by simp) (t_join (by omega) (by omega) (by omega) (by omega) s0 s1) ?_
          by_cases q5 : 40 ≤ m 1 2
          · rw [if_pos q5, if_pos q5]
            exact r_iret f44_60 v44 ⟨zs_eq (by first | rfl | omega | ((repeat (first | rw [if_pos (by omega)] | rw [if_neg (by omega)])) <;> first | rfl | omega)), (by first | rfl | ((repeat (first | rw [if_pos (by omega)] | rw [if_neg (by omega)])); done) | ((repeat (first | rw [if_pos (by omega)] | rw [if_neg (by omega)])); rfl))⟩
          · rw [if_neg q5, if_neg q5]
            exact r_iret f44_60 v44 ⟨zs_eq (by first | rfl | omega | ((repeat (first | rw [if_pos (by omega)] | rw [if_neg (by omega)])) <;> first | rfl | omega)), (by first | rfl | ((repeat (first | rw [if_pos (by omega)] | rw [if_neg (by omega)])); done) | ((repeat (first | rw [if_pos (by omega)] | rw [if_neg (by omega)])); rfl))⟩
      · refine r_zne f44_29 (t := 35) (by decide) (fun h => absurd h (by omega)) (fun _ => ?_)
        refine r_bipush f44_32 (by decide) ?_
        exact r_iret f44_34 v44 ⟨zs_eq (by first | rfl | omega | ((repeat (first | rw [if_pos (by omega)] | rw [if_neg (by omega)])) <;> first | rfl | omega)), (by first | rfl | ((repeat (first | rw [if_pos (by omega)] | rw [if_neg (by omega)])); done) | ((repeat (first | rw [if_pos (by omega)] | rw [if_neg (by omega)])); rfl))⟩
    · refine r_zeq f44_19 (t := 32) (by decide) (fun _ => ?_) (fun h => absurd (by omega) h)
      refine r_bipush f44_32 (by decide) ?_
      exact r_iret f44_34 v44 ⟨zs_eq (by first | rfl | omega | ((repeat (first | rw [if_pos (by omega)] | rw [if_neg (by omega)])) <;> first | rfl | omega)), (by first | rfl | ((repeat (first | rw [if_pos (by omega)] | rw [if_neg (by omega)])); done) | ((repeat (first | rw [if_pos (by omega)] | rw [if_neg (by omega)])); rfl))⟩
  · refine r_zeq f44_8 (t := 32) (by decide) (fun _ => ?_) (fun h => absurd (by omega) h)
    refine r_bipush f44_32 (by decide) ?_
    exact r_iret f44_34 v44 ⟨zs_eq (by first | rfl | omega | ((repeat (first | rw [if_pos (by omega)] | rw [if_neg (by omega)])) <;> first | rfl | omega)), (by first | rfl | ((repeat (first | rw [if_pos (by omega)] | rw [if_neg (by omega)])); done) | ((repeat (first | rw [if_pos (by omega)] | rw [if_neg (by omega)])); rfl))⟩

abbrev Gch (n x y : Int) : Prop := (0 ≤ x ∧ x < n) ∧ (0 ≤ y ∧ y ≤ 9)
theorem t_Xchores {L d : Nat} {m : zmem} (n0 : 0 ≤ m 1 1) (n1 : m 1 1 ≤ 12) (x y : Int) : zF L (d + 2) 45 [.inr (.inl (some 0)), .inl x, .inl y] m (some (.inl (if Gch (m 1 1) x y then m (3 + 4 * x) 4 else -2))) (if Gch (m 1 1) x y then zu m (3 + 4 * x) 4 y else m) := by
  refine zF_of n45 (ls := [some (.inr (.inl (some 0))), some (.inl x), some (.inl y), none, none]) rfl ?_
  refine r_aload_n f45_0 rfl ?_
  refine r_getR f45_1 o45 F6_10 g0_0 rfl ?_
  refine r_iload_n f45_4 rfl ?_
  refine r_callv1i (m' := m) f45_5 o45 M6_58 p30 o30 kd1 rfl (by simp) (t_hasHouse x n0 n1) ?_
  refine r_ite (fun q1 => ?_) (fun q1 => ?_)
  · refine r_zeq f45_8 (t := 21) (by decide) (fun h => absurd h (by omega)) (fun _ => ?_)
    refine r_iload_n f45_11 rfl ?_
    refine r_iconst f45_12 rfl ?_
    refine r_bipush f45_13 (by decide) ?_
    refine r_calls3i (m' := m) f45_15 o45 M6_50 (Or.inl rfl) p67 rfl (by simp) (t_within y 0 9) ?_
    refine r_ite (fun q2 => ?_) (fun q2 => ?_)
    · refine r_zne f45_18 (t := 24) (by decide) (fun _ => ?_) (fun h => absurd (by omega) h)
      refine r_aload_n f45_24 rfl ?_
      refine r_getR f45_25 o45 F6_10 g0_0 rfl ?_
      refine r_getR f45_28 o45 F6_70 g1_0 rfl ?_
      refine r_iload_n f45_31 rfl ?_
      refine r_aldH f45_32 (by omega) (by omega) ?_
      refine r_astore_n f45_33 rfl (ls' := [some (.inr (.inl (some 0))), some (.inl x), some (.inl y), some (.inr (.inl (some (3 + 4 * x)))), none]) rfl ?_
      refine r_aload_n f45_34 rfl ?_
      refine r_getI f45_35 o45 F6_74 (gH_4 (h := x) (by omega) (by omega)) rfl ?_
      refine r_istore f45_38 rfl (ls' := [some (.inr (.inl (some 0))), some (.inl x), some (.inl y), some (.inr (.inl (some (3 + 4 * x)))), some (.inl (m (3 + 4 * x) 4))]) rfl ?_
      refine r_aload_n f45_40 rfl ?_
      refine r_iload_n f45_41 rfl ?_
      refine r_put f45_42 o45 F6_74 (gH_4 (h := x) (by omega) (by omega)) rfl T1_4 U1_4 ?_
      refine r_iload f45_45 rfl ?_
      exact r_iret f45_47 v45 ⟨zs_eq (by first | rfl | omega | ((repeat (first | rw [if_pos (by omega)] | rw [if_neg (by omega)])) <;> first | rfl | omega)), (by first | rfl | ((repeat (first | rw [if_pos (by omega)] | rw [if_neg (by omega)])); done) | ((repeat (first | rw [if_pos (by omega)] | rw [if_neg (by omega)])); rfl))⟩
    · refine r_zne f45_18 (t := 24) (by decide) (fun h => absurd h (by omega)) (fun _ => ?_)
      refine r_bipush f45_21 (by decide) ?_
      exact r_iret f45_23 v45 ⟨zs_eq (by first | rfl | omega | ((repeat (first | rw [if_pos (by omega)] | rw [if_neg (by omega)])) <;> first | rfl | omega)), (by first | rfl | ((repeat (first | rw [if_pos (by omega)] | rw [if_neg (by omega)])); done) | ((repeat (first | rw [if_pos (by omega)] | rw [if_neg (by omega)])); rfl))⟩
  · refine r_zeq f45_8 (t := 21) (by decide) (fun _ => ?_) (fun h => absurd (by omega) h)
    refine r_bipush f45_21 (by decide) ?_
    exact r_iret f45_23 v45 ⟨zs_eq (by first | rfl | omega | ((repeat (first | rw [if_pos (by omega)] | rw [if_neg (by omega)])) <;> first | rfl | omega)), (by first | rfl | ((repeat (first | rw [if_pos (by omega)] | rw [if_neg (by omega)])); done) | ((repeat (first | rw [if_pos (by omega)] | rw [if_neg (by omega)])); rfl))⟩

abbrev Gfr (n x y z : Int) : Prop := (0 ≤ x ∧ x < n) ∧ (-1 ≤ y ∧ y ≤ 2) ∧ (0 ≤ z ∧ z ≤ 39)
theorem t_Xfree {L d : Nat} {m : zmem} (n0 : 0 ≤ m 1 1) (n1 : m 1 1 ≤ 12) (hf : ∀ h k, 0 ≤ h → h < 12 → 0 ≤ k → k < 120 → 0 ≤ m (4 + 4 * h) k ∧ m (4 + 4 * h) k ≤ 9) (x y z : Int) : zF L (d + 2) 46 [.inr (.inl (some 0)), .inl x, .inl y, .inl z] m (some (.inl (if Gfr (m 1 1) x y z then (if y = -1 then XF m x z else m (4 + 4 * x) (y + 3 * z)) else -2))) m := by
  refine zF_of n46 (ls := [some (.inr (.inl (some 0))), some (.inl x), some (.inl y), some (.inl z), none]) rfl ?_
  refine r_aload_n f46_0 rfl ?_
  refine r_getR f46_1 o46 F6_10 g0_0 rfl ?_
  refine r_iload_n f46_4 rfl ?_
  refine r_callv1i (m' := m) f46_5 o46 M6_58 p30 o30 kd1 rfl (by simp) (t_hasHouse x n0 n1) ?_
  refine r_ite (fun q1 => ?_) (fun q1 => ?_)
  · refine r_zeq f46_8 (t := 27) (by decide) (fun h => absurd h (by omega)) (fun _ => ?_)
    refine r_iload_n f46_11 rfl ?_
    refine r_iconst f46_12 rfl ?_
    refine r_iconst f46_13 rfl ?_
    refine r_calls3i (m' := m) f46_14 o46 M6_50 (Or.inl rfl) p67 rfl (by simp) (t_within y (-1) 2) ?_
    refine r_ite (fun q2 => ?_) (fun q2 => ?_)
    · refine r_zeq f46_17 (t := 27) (by decide) (fun h => absurd h (by omega)) (fun _ => ?_)
      refine r_iload_n f46_20 rfl ?_
      refine r_calls1i (m' := m) f46_21 o46 M6_80 (Or.inl rfl) p68 rfl (by simp) (t_isNightX z) ?_
      refine r_ite (fun q3 => ?_) (fun q3 => ?_)
      · refine r_zne f46_24 (t := 30) (by decide) (fun _ => ?_) (fun h => absurd (by omega) h)
        refine r_aload_n f46_30 rfl ?_
        refine r_getR f46_31 o46 F6_10 g0_0 rfl ?_
        refine r_getR f46_34 o46 F6_70 g1_0 rfl ?_
        refine r_iload_n f46_37 rfl ?_
        refine r_aldH f46_38 (by omega) (by omega) ?_
        refine r_astore f46_39 rfl (ls' := [some (.inr (.inl (some 0))), some (.inl x), some (.inl y), some (.inl z), some (.inr (.inl (some (3 + 4 * x))))]) rfl ?_
        refine r_iload_n f46_41 rfl ?_
        refine r_iconst f46_42 rfl ?_
        refine r_cne f46_43 (t := 55) (by decide) (fun q4 => ?_) (fun q4 => ?_)
        · refine r_aload f46_55 rfl ?_
          refine r_getR f46_57 o46 F6_87 (gH_0 (h := x) (by omega) (by omega)) rfl ?_
          refine r_iload_n f46_60 rfl ?_
          refine r_iconst f46_61 rfl ?_
          refine r_imul f46_62 (e := 3 * z) (by omega) (by omega) (by omega) ?_
          refine r_iload_n f46_63 rfl ?_
          refine r_iadd f46_64 (e := y + 3 * z) (by omega) (by omega) (by omega) ?_
          refine r_iald f46_65 (kdH1 (h := x) (by omega) (by omega)) (by omega) (by omega) ?_
          exact r_iret f46_66 v46 ⟨zs_eq (by first | rfl | omega | ((repeat (first | rw [if_pos (by omega)] | rw [if_neg (by omega)])) <;> first | rfl | omega)), (by first | rfl | ((repeat (first | rw [if_pos (by omega)] | rw [if_neg (by omega)])); done) | ((repeat (first | rw [if_pos (by omega)] | rw [if_neg (by omega)])); rfl))⟩
        · refine r_aload f46_46 rfl ?_
          refine r_iload_n f46_48 rfl ?_
          refine r_callv1i (m' := m) (v := XF m x z) f46_49 o46 M6_83 p14 o14 (kdH0 (h := x) (by omega) (by omega)) rfl (by simp) (t_freeBeds (h := x) (t := z) (by omega) (by omega) (by omega) (by omega) (fun k a b => hf x k (by omega) (by omega) a b)) ?_
          refine r_goto f46_52 (t := 66) (by decide) ?_
          exact r_iret f46_66 v46 ⟨zs_eq (by first | rfl | omega | ((repeat (first | rw [if_pos (by omega)] | rw [if_neg (by omega)])) <;> first | rfl | omega)), (by first | rfl | ((repeat (first | rw [if_pos (by omega)] | rw [if_neg (by omega)])); done) | ((repeat (first | rw [if_pos (by omega)] | rw [if_neg (by omega)])); rfl))⟩
      · refine r_zne f46_24 (t := 30) (by decide) (fun h => absurd h (by omega)) (fun _ => ?_)
        refine r_bipush f46_27 (by decide) ?_
        exact r_iret f46_29 v46 ⟨zs_eq (by first | rfl | omega | ((repeat (first | rw [if_pos (by omega)] | rw [if_neg (by omega)])) <;> first | rfl | omega)), (by first | rfl | ((repeat (first | rw [if_pos (by omega)] | rw [if_neg (by omega)])); done) | ((repeat (first | rw [if_pos (by omega)] | rw [if_neg (by omega)])); rfl))⟩
    · refine r_zeq f46_17 (t := 27) (by decide) (fun _ => ?_) (fun h => absurd (by omega) h)
      refine r_bipush f46_27 (by decide) ?_
      exact r_iret f46_29 v46 ⟨zs_eq (by first | rfl | omega | ((repeat (first | rw [if_pos (by omega)] | rw [if_neg (by omega)])) <;> first | rfl | omega)), (by first | rfl | ((repeat (first | rw [if_pos (by omega)] | rw [if_neg (by omega)])); done) | ((repeat (first | rw [if_pos (by omega)] | rw [if_neg (by omega)])); rfl))⟩
  · refine r_zeq f46_8 (t := 27) (by decide) (fun _ => ?_) (fun h => absurd (by omega) h)
    refine r_bipush f46_27 (by decide) ?_
    exact r_iret f46_29 v46 ⟨zs_eq (by first | rfl | omega | ((repeat (first | rw [if_pos (by omega)] | rw [if_neg (by omega)])) <;> first | rfl | omega)), (by first | rfl | ((repeat (first | rw [if_pos (by omega)] | rw [if_neg (by omega)])); done) | ((repeat (first | rw [if_pos (by omega)] | rw [if_neg (by omega)])); rfl))⟩

abbrev Gis (n x y : Int) : Prop := (0 ≤ x ∧ x < n) ∧ (0 ≤ y ∧ y ≤ 39)
theorem t_XisShut {L d : Nat} {m : zmem} (n0 : 0 ≤ m 1 1) (n1 : m 1 1 ≤ 12) (x y : Int) : zF L (d + 2) 47 [.inr (.inl (some 0)), .inl x, .inl y] m (some (.inl (if Gis (m 1 1) x y then (if m (5 + 4 * x) y = 0 then 0 else 1) else -2))) m := by
  refine zF_of n47 (ls := [some (.inr (.inl (some 0))), some (.inl x), some (.inl y)]) rfl ?_
  refine r_aload_n f47_0 rfl ?_
  refine r_getR f47_1 o47 F6_10 g0_0 rfl ?_
  refine r_iload_n f47_4 rfl ?_
  refine r_callv1i (m' := m) f47_5 o47 M6_58 p30 o30 kd1 rfl (by simp) (t_hasHouse x n0 n1) ?_
  refine r_ite (fun q1 => ?_) (fun q1 => ?_)
  · refine r_zeq f47_8 (t := 18) (by decide) (fun h => absurd h (by omega)) (fun _ => ?_)
    refine r_iload_n f47_11 rfl ?_
    refine r_calls1i (m' := m) f47_12 o47 M6_80 (Or.inl rfl) p68 rfl (by simp) (t_isNightX y) ?_
    refine r_ite (fun q2 => ?_) (fun q2 => ?_)
    · refine r_zne f47_15 (t := 21) (by decide) (fun _ => ?_) (fun h => absurd (by omega) h)
      refine r_aload_n f47_21 rfl ?_
      refine r_getR f47_22 o47 F6_10 g0_0 rfl ?_
      refine r_getR f47_25 o47 F6_70 g1_0 rfl ?_
      refine r_iload_n f47_28 rfl ?_
      refine r_aldH f47_29 (by omega) (by omega) ?_
      refine r_getR f47_30 o47 F6_90 (gH_1 (h := x) (by omega) (by omega)) rfl ?_
      refine r_iload_n f47_33 rfl ?_
      refine r_bald f47_34 (kdH2 (h := x) (by omega) (by omega)) (by omega) (by omega) ?_
      refine r_zeq f47_35 (t := 42) (by decide) (fun q3 => ?_) (fun q3 => ?_)
      · refine r_iconst f47_42 rfl ?_
        exact r_iret f47_43 v47 ⟨zs_eq (by first | rfl | omega | ((repeat (first | rw [if_pos (by omega)] | rw [if_neg (by omega)])) <;> first | rfl | omega)), (by first | rfl | ((repeat (first | rw [if_pos (by omega)] | rw [if_neg (by omega)])); done) | ((repeat (first | rw [if_pos (by omega)] | rw [if_neg (by omega)])); rfl))⟩
      · refine r_iconst f47_38 rfl ?_
        refine r_goto f47_39 (t := 43) (by decide) ?_
        exact r_iret f47_43 v47 ⟨zs_eq (by first | rfl | omega | ((repeat (first | rw [if_pos (by omega)] | rw [if_neg (by omega)])) <;> first | rfl | omega)), (by first | rfl | ((repeat (first | rw [if_pos (by omega)] | rw [if_neg (by omega)])); done) | ((repeat (first | rw [if_pos (by omega)] | rw [if_neg (by omega)])); rfl))⟩
    · refine r_zne f47_15 (t := 21) (by decide) (fun h => absurd h (by omega)) (fun _ => ?_)
      refine r_bipush f47_18 (by decide) ?_
      exact r_iret f47_20 v47 ⟨zs_eq (by first | rfl | omega | ((repeat (first | rw [if_pos (by omega)] | rw [if_neg (by omega)])) <;> first | rfl | omega)), (by first | rfl | ((repeat (first | rw [if_pos (by omega)] | rw [if_neg (by omega)])); done) | ((repeat (first | rw [if_pos (by omega)] | rw [if_neg (by omega)])); rfl))⟩
  · refine r_zeq f47_8 (t := 18) (by decide) (fun _ => ?_) (fun h => absurd (by omega) h)
    refine r_bipush f47_18 (by decide) ?_
    exact r_iret f47_20 v47 ⟨zs_eq (by first | rfl | omega | ((repeat (first | rw [if_pos (by omega)] | rw [if_neg (by omega)])) <;> first | rfl | omega)), (by first | rfl | ((repeat (first | rw [if_pos (by omega)] | rw [if_neg (by omega)])); done) | ((repeat (first | rw [if_pos (by omega)] | rw [if_neg (by omega)])); rfl))⟩

abbrev Gcn (n k x y z : Int) : Prop := (1 ≤ x ∧ x ≤ 12) ∧ (k ≤ y ∧ y ≤ 39) ∧ (0 ≤ z ∧ z < n)
abbrev XCh (m : zmem) (x y z : Int) : zmem := (zu (zu (zu (zu (zu m (64 + 5 * (m 0 6)) 4 x) (64 + 5 * (m 0 6)) 5 y) (65 + 5 * (m 0 6)) 0 z) (64 + 5 * (m 0 6)) 6 1) 0 6 (m 0 6 + 1))
theorem t_Xchain {L d : Nat} {m : zmem} (n0 : 0 ≤ m 1 1) (n1 : m 1 1 ≤ 12) (k0 : 0 ≤ m 0 6) (k1 : m 0 6 ≤ 40) (w0 : 0 ≤ m 0 7) (w1 : m 0 7 ≤ 39) (x y z : Int) : zF L (d + 2) 49 [.inr (.inl (some 0)), .inl x, .inl y, .inl z] m (some (.inl (if Gcn (m 1 1) (m 0 7) x y z then (if 40 ≤ m 0 6 then -4 else m 0 6) else -2))) (if Gcn (m 1 1) (m 0 7) x y z then (if 40 ≤ m 0 6 then m else XCh m x y z) else m) := by
  refine zF_of n49 (ls := [some (.inr (.inl (some 0))), some (.inl x), some (.inl y), some (.inl z)]) rfl ?_
  refine r_iload_n f49_0 rfl ?_
  refine r_iconst f49_1 rfl ?_
  refine r_bipush f49_2 (by decide) ?_
  refine r_calls3i (m' := m) f49_4 o49 M6_50 (Or.inl rfl) p67 rfl (by simp) (t_within x 1 12) ?_
  refine r_ite (fun q1 => ?_) (fun q1 => ?_)
  · refine r_zeq f49_7 (t := 34) (by decide) (fun h => absurd h (by omega)) (fun _ => ?_)
    refine r_iload_n f49_10 rfl ?_
    refine r_aload_n f49_11 rfl ?_
    refine r_getI f49_12 o49 F6_94 g0_7 rfl ?_
    refine r_bipush f49_15 (by decide) ?_
    refine r_calls3i (m' := m) f49_17 o49 M6_50 (Or.inl rfl) p67 rfl (by simp) (t_within y (m 0 7) 39) ?_
    refine r_ite (fun q2 => ?_) (fun q2 => ?_)
    · refine r_zeq f49_20 (t := 34) (by decide) (fun h => absurd h (by omega)) (fun _ => ?_)
      refine r_aload_n f49_23 rfl ?_
      refine r_getR f49_24 o49 F6_10 g0_0 rfl ?_
      refine r_iload_n f49_27 rfl ?_
      refine r_callv1i (m' := m) f49_28 o49 M6_58 p30 o30 kd1 rfl (by simp) (t_hasHouse z n0 n1) ?_
      refine r_ite (fun q3 => ?_) (fun q3 => ?_)
      · refine r_zne f49_31 (t := 37) (by decide) (fun _ => ?_) (fun h => absurd (by omega) h)
        refine r_aload_n f49_37 rfl ?_
        refine r_getI f49_38 o49 F6_101 g0_6 rfl ?_
        refine r_bipush f49_41 (by decide) ?_
        refine r_clt f49_43 (t := 49) (by decide) (fun q4 => ?_) (fun q4 => ?_)
        · refine r_aload_n f49_49 rfl ?_
          refine r_getR f49_50 o49 F6_27 g0_2 rfl ?_
          refine r_aload_n f49_53 rfl ?_
          refine r_getI f49_54 o49 F6_101 g0_6 rfl ?_
          refine r_aldC f49_57 (by omega) (by omega) ?_
          refine r_iload_n f49_58 rfl ?_
          refine r_iload_n f49_59 rfl ?_
          refine r_iload_n f49_60 rfl ?_
          refine r_callv3u (m' := (zu (zu (zu (zu m (64 + 5 * (m 0 6)) 4 x) (64 + 5 * (m 0 6)) 5 y) (65 + 5 * (m 0 6)) 0 z) (64 + 5 * (m 0 6)) 6 1)) f49_61 o49 M6_114 p1 o1 (kdC0 (c := m 0 6) (by omega) (by omega)) rfl (by simp) (t_ask (c := m 0 6) (by omega) (by omega) x y z) ?_
          refine r_aload_n f49_64 rfl ?_
          refine r_dupR f49_65 ?_
          refine r_getI f49_66 o49 F6_101 g0_6 rfl ?_
          refine r_top (e := m 0 6) (by rw [zu_if, if_neg (by omega), zu_if, if_neg (by omega), zu_if, if_neg (by omega), zu_if, if_neg (by omega)]) ?_
          refine r_iconst f49_69 rfl ?_
          refine r_iadd f49_70 (e := m 0 6 + 1) (by omega) (by omega) (by omega) ?_
          refine r_put f49_71 o49 F6_101 g0_6 rfl T6_6 U6_6 ?_
          refine r_aload_n f49_74 rfl ?_
          refine r_getI f49_75 o49 F6_101 g0_6 rfl ?_
          refine r_top (e := m 0 6 + 1) (by rw [zu_if, if_pos (by omega)]) ?_
          refine r_iconst f49_78 rfl ?_
          refine r_isub f49_79 (e := m 0 6) (by omega) (by omega) (by omega) ?_
          exact r_iret f49_80 v49 ⟨zs_eq (by first | rfl | omega | ((repeat (first | rw [if_pos (by omega)] | rw [if_neg (by omega)])) <;> first | rfl | omega)), (by first | rfl | ((repeat (first | rw [if_pos (by omega)] | rw [if_neg (by omega)])); done) | ((repeat (first | rw [if_pos (by omega)] | rw [if_neg (by omega)])); rfl))⟩
        · refine r_bipush f49_46 (by decide) ?_
          exact r_iret f49_48 v49 ⟨zs_eq (by first | rfl | omega | ((repeat (first | rw [if_pos (by omega)] | rw [if_neg (by omega)])) <;> first | rfl | omega)), (by first | rfl | ((repeat (first | rw [if_pos (by omega)] | rw [if_neg (by omega)])); done) | ((repeat (first | rw [if_pos (by omega)] | rw [if_neg (by omega)])); rfl))⟩
      · refine r_zne f49_31 (t := 37) (by decide) (fun h => absurd h (by omega)) (fun _ => ?_)
        refine r_bipush f49_34 (by decide) ?_
        exact r_iret f49_36 v49 ⟨zs_eq (by first | rfl | omega | ((repeat (first | rw [if_pos (by omega)] | rw [if_neg (by omega)])) <;> first | rfl | omega)), (by first | rfl | ((repeat (first | rw [if_pos (by omega)] | rw [if_neg (by omega)])); done) | ((repeat (first | rw [if_pos (by omega)] | rw [if_neg (by omega)])); rfl))⟩
    · refine r_zeq f49_20 (t := 34) (by decide) (fun _ => ?_) (fun h => absurd (by omega) h)
      refine r_bipush f49_34 (by decide) ?_
      exact r_iret f49_36 v49 ⟨zs_eq (by first | rfl | omega | ((repeat (first | rw [if_pos (by omega)] | rw [if_neg (by omega)])) <;> first | rfl | omega)), (by first | rfl | ((repeat (first | rw [if_pos (by omega)] | rw [if_neg (by omega)])); done) | ((repeat (first | rw [if_pos (by omega)] | rw [if_neg (by omega)])); rfl))⟩
  · refine r_zeq f49_7 (t := 34) (by decide) (fun _ => ?_) (fun h => absurd (by omega) h)
    refine r_bipush f49_34 (by decide) ?_
    exact r_iret f49_36 v49 ⟨zs_eq (by first | rfl | omega | ((repeat (first | rw [if_pos (by omega)] | rw [if_neg (by omega)])) <;> first | rfl | omega)), (by first | rfl | ((repeat (first | rw [if_pos (by omega)] | rw [if_neg (by omega)])); done) | ((repeat (first | rw [if_pos (by omega)] | rw [if_neg (by omega)])); rfl))⟩

abbrev XAd (m : zmem) (x y : Int) : zmem := (zu (zu m (65 + 5 * x) (m (64 + 5 * x) 6) y) (64 + 5 * x) 6 (m (64 + 5 * x) 6 + 1))
theorem t_Xadd {L d : Nat} {m : zmem} (n0 : 0 ≤ m 1 1) (n1 : m 1 1 ≤ 12) (k0 : 0 ≤ m 0 6) (k1 : m 0 6 ≤ 40) (hc : ∀ c, 0 ≤ c → c < 40 → (0 ≤ m (64 + 5 * c) 5 ∧ m (64 + 5 * c) 5 ≤ 39) ∧ (0 ≤ m (64 + 5 * c) 6 ∧ m (64 + 5 * c) 6 ≤ 7)) (x y : Int) : zF L (d + 2) 50 [.inr (.inl (some 0)), .inl x, .inl y] m (some (.inl (if (0 ≤ x ∧ x < m 0 6) ∧ (0 ≤ y ∧ y < m 1 1) ∧ m (64 + 5 * x) 5 + m (64 + 5 * x) 6 ≤ 39 then (if ¬ m (64 + 5 * x) 7 = 0 then -3 else if 7 ≤ m (64 + 5 * x) 6 then -4 else m (64 + 5 * x) 6 + 1) else -2))) (if (0 ≤ x ∧ x < m 0 6) ∧ (0 ≤ y ∧ y < m 1 1) ∧ m (64 + 5 * x) 5 + m (64 + 5 * x) 6 ≤ 39 then (if ¬ m (64 + 5 * x) 7 = 0 then m else if 7 ≤ m (64 + 5 * x) 6 then m else XAd m x y) else m) := by
  refine zF_of n50 (ls := [some (.inr (.inl (some 0))), some (.inl x), some (.inl y), none]) rfl ?_
  refine r_aload_n f50_0 rfl ?_
  refine r_iload_n f50_1 rfl ?_
  refine r_callv1i (m' := m) f50_2 o50 M6_118 p69 o69 kd0 rfl (by simp) (t_isChainX x k0 k1) ?_
  refine r_ite (fun q1 => ?_) (fun q1 => ?_)
  · refine r_zeq f50_5 (t := 19) (by decide) (fun h => absurd h (by omega)) (fun _ => ?_)
    refine r_aload_n f50_8 rfl ?_
    refine r_getR f50_9 o50 F6_10 g0_0 rfl ?_
    refine r_iload_n f50_12 rfl ?_
    refine r_callv1i (m' := m) f50_13 o50 M6_58 p30 o30 kd1 rfl (by simp) (t_hasHouse y n0 n1) ?_
    refine r_ite (fun q2 => ?_) (fun q2 => ?_)
    · refine r_zne f50_16 (t := 22) (by decide) (fun _ => ?_) (fun h => absurd (by omega) h)
      have hcx := hc x (by omega) (by omega)
      refine r_aload_n f50_22 rfl ?_
      refine r_getR f50_23 o50 F6_27 g0_2 rfl ?_
      refine r_iload_n f50_26 rfl ?_
      refine r_aldC f50_27 (by omega) (by omega) ?_
      refine r_astore_n f50_28 rfl (ls' := [some (.inr (.inl (some 0))), some (.inl x), some (.inl y), some (.inr (.inl (some (64 + 5 * x))))]) rfl ?_
      refine r_aload_n f50_29 rfl ?_
      refine r_getI f50_30 o50 F6_121 (gC_5 (c := x) (by omega) (by omega)) rfl ?_
      refine r_aload_n f50_33 rfl ?_
      refine r_getI f50_34 o50 F6_124 (gC_6 (c := x) (by omega) (by omega)) rfl ?_
      refine r_iadd f50_37 (e := m (64 + 5 * x) 5 + m (64 + 5 * x) 6) (by omega) (by omega) (by omega) ?_
      refine r_bipush f50_38 (by decide) ?_
      refine r_clt f50_40 (t := 46) (by decide) (fun q3 => ?_) (fun q3 => ?_)
      · refine r_aload_n f50_46 rfl ?_
        refine r_getI f50_47 o50 F6_104 (gC_7 (c := x) (by omega) (by omega)) rfl ?_
        refine r_zeq f50_50 (t := 56) (by decide) (fun q4 => ?_) (fun q4 => ?_)
        · refine r_aload_n f50_56 rfl ?_
          refine r_getI f50_57 o50 F6_124 (gC_6 (c := x) (by omega) (by omega)) rfl ?_
          refine r_bipush f50_60 (by decide) ?_
          refine r_clt f50_62 (t := 68) (by decide) (fun q5 => ?_) (fun q5 => ?_)
          · refine r_aload_n f50_68 rfl ?_
            refine r_getR f50_69 o50 F6_127 (gC_0 (c := x) (by omega) (by omega)) rfl ?_
            refine r_aload_n f50_72 rfl ?_
            refine r_getI f50_73 o50 F6_124 (gC_6 (c := x) (by omega) (by omega)) rfl ?_
            refine r_iload_n f50_76 rfl ?_
            refine r_iast f50_77 (kdC1 (c := x) (by omega) (by omega)) (by omega) (by omega) (by omega) ?_
            refine r_aload_n f50_78 rfl ?_
            refine r_dupR f50_79 ?_
            refine r_getI f50_80 o50 F6_124 (gC_6 (c := x) (by omega) (by omega)) rfl ?_
            refine r_top (e := m (64 + 5 * x) 6) (by rw [zu_if, if_neg (by omega)]) ?_
            refine r_iconst f50_83 rfl ?_
            refine r_iadd f50_84 (e := m (64 + 5 * x) 6 + 1) (by omega) (by omega) (by omega) ?_
            refine r_put f50_85 o50 F6_124 (gC_6 (c := x) (by omega) (by omega)) rfl T0_6 U0_6 ?_
            refine r_aload_n f50_88 rfl ?_
            refine r_getI f50_89 o50 F6_124 (gC_6 (c := x) (by omega) (by omega)) rfl ?_
            refine r_top (e := m (64 + 5 * x) 6 + 1) (by rw [zu_if, if_pos (by omega)]) ?_
            exact r_iret f50_92 v50 ⟨zs_eq (by first | rfl | omega | ((repeat (first | rw [if_pos (by omega)] | rw [if_neg (by omega)])) <;> first | rfl | omega)), (by first | rfl | ((repeat (first | rw [if_pos (by omega)] | rw [if_neg (by omega)])); done) | ((repeat (first | rw [if_pos (by omega)] | rw [if_neg (by omega)])); rfl))⟩
          · refine r_bipush f50_65 (by decide) ?_
            exact r_iret f50_67 v50 ⟨zs_eq (by first | rfl | omega | ((repeat (first | rw [if_pos (by omega)] | rw [if_neg (by omega)])) <;> first | rfl | omega)), (by first | rfl | ((repeat (first | rw [if_pos (by omega)] | rw [if_neg (by omega)])); done) | ((repeat (first | rw [if_pos (by omega)] | rw [if_neg (by omega)])); rfl))⟩
        · refine r_bipush f50_53 (by decide) ?_
          exact r_iret f50_55 v50 ⟨zs_eq (by first | rfl | omega | ((repeat (first | rw [if_pos (by omega)] | rw [if_neg (by omega)])) <;> first | rfl | omega)), (by first | rfl | ((repeat (first | rw [if_pos (by omega)] | rw [if_neg (by omega)])); done) | ((repeat (first | rw [if_pos (by omega)] | rw [if_neg (by omega)])); rfl))⟩
      · refine r_bipush f50_43 (by decide) ?_
        exact r_iret f50_45 v50 ⟨zs_eq (by first | rfl | omega | ((repeat (first | rw [if_pos (by omega)] | rw [if_neg (by omega)])) <;> first | rfl | omega)), (by first | rfl | ((repeat (first | rw [if_pos (by omega)] | rw [if_neg (by omega)])); done) | ((repeat (first | rw [if_pos (by omega)] | rw [if_neg (by omega)])); rfl))⟩
    · refine r_zne f50_16 (t := 22) (by decide) (fun h => absurd h (by omega)) (fun _ => ?_)
      refine r_bipush f50_19 (by decide) ?_
      exact r_iret f50_21 v50 ⟨zs_eq (by first | rfl | omega | ((repeat (first | rw [if_pos (by omega)] | rw [if_neg (by omega)])) <;> first | rfl | omega)), (by first | rfl | ((repeat (first | rw [if_pos (by omega)] | rw [if_neg (by omega)])); done) | ((repeat (first | rw [if_pos (by omega)] | rw [if_neg (by omega)])); rfl))⟩
  · refine r_zeq f50_5 (t := 19) (by decide) (fun _ => ?_) (fun h => absurd (by omega) h)
    refine r_bipush f50_19 (by decide) ?_
    exact r_iret f50_21 v50 ⟨zs_eq (by first | rfl | omega | ((repeat (first | rw [if_pos (by omega)] | rw [if_neg (by omega)])) <;> first | rfl | omega)), (by first | rfl | ((repeat (first | rw [if_pos (by omega)] | rw [if_neg (by omega)])); done) | ((repeat (first | rw [if_pos (by omega)] | rw [if_neg (by omega)])); rfl))⟩

theorem t_Xlaid {L d : Nat} {m : zmem} (k0 : 0 ≤ m 0 6) (k1 : m 0 6 ≤ 40) (hc : ∀ c, 0 ≤ c → c < 40 → (0 ≤ m (64 + 5 * c) 5 ∧ m (64 + 5 * c) 5 ≤ 39) ∧ (0 ≤ m (64 + 5 * c) 6 ∧ m (64 + 5 * c) 6 ≤ 7)) (x y z : Int) : zF L (d + 2) 57 [.inr (.inl (some 0)), .inl x, .inl y, .inl z] m (some (.inl (if (0 ≤ x ∧ x < m 0 6) ∧ (0 ≤ y ∧ y < m (64 + 5 * x) 6) ∧ (0 ≤ z ∧ z ≤ 2) then m (66 + 5 * x) (3 * y + z) else -2))) m := by
  refine zF_of n57 (ls := [some (.inr (.inl (some 0))), some (.inl x), some (.inl y), some (.inl z)]) rfl ?_
  refine r_aload_n f57_0 rfl ?_
  refine r_iload_n f57_1 rfl ?_
  refine r_callv1i (m' := m) f57_2 o57 M6_118 p69 o69 kd0 rfl (by simp) (t_isChainX x k0 k1) ?_
  refine r_ite (fun q1 => ?_) (fun q1 => ?_)
  · refine r_zeq f57_5 (t := 36) (by decide) (fun h => absurd h (by omega)) (fun _ => ?_)
    have hcx := hc x (by omega) (by omega)
    refine r_iload_n f57_8 rfl ?_
    refine r_iconst f57_9 rfl ?_
    refine r_aload_n f57_10 rfl ?_
    refine r_getR f57_11 o57 F6_27 g0_2 rfl ?_
    refine r_iload_n f57_14 rfl ?_
    refine r_aldC f57_15 (by omega) (by omega) ?_
    refine r_getI f57_16 o57 F6_124 (gC_6 (c := x) (by omega) (by omega)) rfl ?_
    refine r_iconst f57_19 rfl ?_
    refine r_isub f57_20 (e := m (64 + 5 * x) 6 - 1) (by omega) (by omega) (by omega) ?_
    refine r_calls3i (m' := m) f57_21 o57 M6_50 (Or.inl rfl) p67 rfl (by simp) (t_within y 0 (m (64 + 5 * x) 6 - 1)) ?_
    refine r_ite (fun q2 => ?_) (fun q2 => ?_)
    · refine r_zeq f57_24 (t := 36) (by decide) (fun h => absurd h (by omega)) (fun _ => ?_)
      refine r_iload_n f57_27 rfl ?_
      refine r_iconst f57_28 rfl ?_
      refine r_iconst f57_29 rfl ?_
      refine r_calls3i (m' := m) f57_30 o57 M6_50 (Or.inl rfl) p67 rfl (by simp) (t_within z 0 2) ?_
      refine r_ite (fun q3 => ?_) (fun q3 => ?_)
      · refine r_zne f57_33 (t := 39) (by decide) (fun _ => ?_) (fun h => absurd (by omega) h)
        refine r_aload_n f57_39 rfl ?_
        refine r_getR f57_40 o57 F6_27 g0_2 rfl ?_
        refine r_iload_n f57_43 rfl ?_
        refine r_aldC f57_44 (by omega) (by omega) ?_
        refine r_getR f57_45 o57 F6_174 (gC_1 (c := x) (by omega) (by omega)) rfl ?_
        refine r_iload_n f57_48 rfl ?_
        refine r_iconst f57_49 rfl ?_
        refine r_imul f57_50 (e := 3 * y) (by omega) (by omega) (by omega) ?_
        refine r_iload_n f57_51 rfl ?_
        refine r_iadd f57_52 (e := 3 * y + z) (by omega) (by omega) (by omega) ?_
        refine r_iald f57_53 (kdC2 (c := x) (by omega) (by omega)) (by omega) (by omega) ?_
        exact r_iret f57_54 v57 ⟨zs_eq (by first | rfl | omega | ((repeat (first | rw [if_pos (by omega)] | rw [if_neg (by omega)])) <;> first | rfl | omega)), (by first | rfl | ((repeat (first | rw [if_pos (by omega)] | rw [if_neg (by omega)])); done) | ((repeat (first | rw [if_pos (by omega)] | rw [if_neg (by omega)])); rfl))⟩
      · refine r_zne f57_33 (t := 39) (by decide) (fun h => absurd h (by omega)) (fun _ => ?_)
        refine r_bipush f57_36 (by decide) ?_
        exact r_iret f57_38 v57 ⟨zs_eq (by first | rfl | omega | ((repeat (first | rw [if_pos (by omega)] | rw [if_neg (by omega)])) <;> first | rfl | omega)), (by first | rfl | ((repeat (first | rw [if_pos (by omega)] | rw [if_neg (by omega)])); done) | ((repeat (first | rw [if_pos (by omega)] | rw [if_neg (by omega)])); rfl))⟩
    · refine r_zeq f57_24 (t := 36) (by decide) (fun _ => ?_) (fun h => absurd (by omega) h)
      refine r_bipush f57_36 (by decide) ?_
      exact r_iret f57_38 v57 ⟨zs_eq (by first | rfl | omega | ((repeat (first | rw [if_pos (by omega)] | rw [if_neg (by omega)])) <;> first | rfl | omega)), (by first | rfl | ((repeat (first | rw [if_pos (by omega)] | rw [if_neg (by omega)])); done) | ((repeat (first | rw [if_pos (by omega)] | rw [if_neg (by omega)])); rfl))⟩
  · refine r_zeq f57_5 (t := 36) (by decide) (fun _ => ?_) (fun h => absurd (by omega) h)
    refine r_bipush f57_36 (by decide) ?_
    exact r_iret f57_38 v57 ⟨zs_eq (by first | rfl | omega | ((repeat (first | rw [if_pos (by omega)] | rw [if_neg (by omega)])) <;> first | rfl | omega)), (by first | rfl | ((repeat (first | rw [if_pos (by omega)] | rw [if_neg (by omega)])); done) | ((repeat (first | rw [if_pos (by omega)] | rw [if_neg (by omega)])); rfl))⟩

abbrev XLe (m : zmem) (x y z : Int) : zmem := (zu (zu (zu (zu m 56 (m 55 4) x) 57 (m 55 4) y) 58 (m 55 4) z) 55 4 (m 55 4 + 1))
theorem t_Xletter {L d : Nat} {m : zmem} (k0 : 0 ≤ m 0 6) (k1 : m 0 6 ≤ 40) (l0 : 0 ≤ m 55 4) (l1 : m 55 4 ≤ 40) (x y z : Int) : zF L (d + 2) 58 [.inr (.inl (some 0)), .inl x, .inl y, .inl z] m (some (.inl (if (0 ≤ x ∧ x < m 0 6) ∧ (0 ≤ y ∧ y ≤ 999) ∧ (y ≤ z ∧ z ≤ 999) then (if ¬ m (64 + 5 * x) 7 = 0 then -3 else if 40 ≤ m 55 4 then -4 else m 55 4 + 1) else -2))) (if (0 ≤ x ∧ x < m 0 6) ∧ (0 ≤ y ∧ y ≤ 999) ∧ (y ≤ z ∧ z ≤ 999) then (if ¬ m (64 + 5 * x) 7 = 0 then m else if 40 ≤ m 55 4 then m else XLe m x y z) else m) := by
  refine zF_of n58 (ls := [some (.inr (.inl (some 0))), some (.inl x), some (.inl y), some (.inl z)]) rfl ?_
  refine r_aload_n f58_0 rfl ?_
  refine r_iload_n f58_1 rfl ?_
  refine r_callv1i (m' := m) f58_2 o58 M6_118 p69 o69 kd0 rfl (by simp) (t_isChainX x k0 k1) ?_
  refine r_ite (fun q1 => ?_) (fun q1 => ?_)
  · refine r_zeq f58_5 (t := 30) (by decide) (fun h => absurd h (by omega)) (fun _ => ?_)
    refine r_iload_n f58_8 rfl ?_
    refine r_iconst f58_9 rfl ?_
    refine r_sipush f58_10 (by decide) ?_
    refine r_calls3i (m' := m) f58_13 o58 M6_50 (Or.inl rfl) p67 rfl (by simp) (t_within y 0 999) ?_
    refine r_ite (fun q2 => ?_) (fun q2 => ?_)
    · refine r_zeq f58_16 (t := 30) (by decide) (fun h => absurd h (by omega)) (fun _ => ?_)
      refine r_iload_n f58_19 rfl ?_
      refine r_iload_n f58_20 rfl ?_
      refine r_sipush f58_21 (by decide) ?_
      refine r_calls3i (m' := m) f58_24 o58 M6_50 (Or.inl rfl) p67 rfl (by simp) (t_within z y 999) ?_
      refine r_ite (fun q3 => ?_) (fun q3 => ?_)
      · refine r_zne f58_27 (t := 33) (by decide) (fun _ => ?_) (fun h => absurd (by omega) h)
        refine r_aload_n f58_33 rfl ?_
        refine r_getR f58_34 o58 F6_27 g0_2 rfl ?_
        refine r_iload_n f58_37 rfl ?_
        refine r_aldC f58_38 (by omega) (by omega) ?_
        refine r_getI f58_39 o58 F6_104 (gC_7 (c := x) (by omega) (by omega)) rfl ?_
        refine r_zeq f58_42 (t := 48) (by decide) (fun q4 => ?_) (fun q4 => ?_)
        · refine r_aload_n f58_48 rfl ?_
          refine r_getR f58_49 o58 F6_34 g0_3 rfl ?_
          refine r_iload_n f58_52 rfl ?_
          refine r_iload_n f58_53 rfl ?_
          refine r_iload_n f58_54 rfl ?_
          refine r_callv3i (m' := if 40 ≤ m 55 4 then m else (XLe m x y z)) (v := if 40 ≤ m 55 4 then -4 else m 55 4 + 1) f58_55 o58 M6_177 p23 o23 kd55 rfl (by simp) (t_receive l0 l1) ?_
          by_cases q5 : 40 ≤ m 55 4
          · rw [if_pos q5, if_pos q5]
            exact r_iret f58_58 v58 ⟨zs_eq (by first | rfl | omega | ((repeat (first | rw [if_pos (by omega)] | rw [if_neg (by omega)])) <;> first | rfl | omega)), (by first | rfl | ((repeat (first | rw [if_pos (by omega)] | rw [if_neg (by omega)])); done) | ((repeat (first | rw [if_pos (by omega)] | rw [if_neg (by omega)])); rfl))⟩
          · rw [if_neg q5, if_neg q5]
            exact r_iret f58_58 v58 ⟨zs_eq (by first | rfl | omega | ((repeat (first | rw [if_pos (by omega)] | rw [if_neg (by omega)])) <;> first | rfl | omega)), (by first | rfl | ((repeat (first | rw [if_pos (by omega)] | rw [if_neg (by omega)])); done) | ((repeat (first | rw [if_pos (by omega)] | rw [if_neg (by omega)])); rfl))⟩
        · refine r_bipush f58_45 (by decide) ?_
          exact r_iret f58_47 v58 ⟨zs_eq (by first | rfl | omega | ((repeat (first | rw [if_pos (by omega)] | rw [if_neg (by omega)])) <;> first | rfl | omega)), (by first | rfl | ((repeat (first | rw [if_pos (by omega)] | rw [if_neg (by omega)])); done) | ((repeat (first | rw [if_pos (by omega)] | rw [if_neg (by omega)])); rfl))⟩
      · refine r_zne f58_27 (t := 33) (by decide) (fun h => absurd h (by omega)) (fun _ => ?_)
        refine r_bipush f58_30 (by decide) ?_
        exact r_iret f58_32 v58 ⟨zs_eq (by first | rfl | omega | ((repeat (first | rw [if_pos (by omega)] | rw [if_neg (by omega)])) <;> first | rfl | omega)), (by first | rfl | ((repeat (first | rw [if_pos (by omega)] | rw [if_neg (by omega)])); done) | ((repeat (first | rw [if_pos (by omega)] | rw [if_neg (by omega)])); rfl))⟩
    · refine r_zeq f58_16 (t := 30) (by decide) (fun _ => ?_) (fun h => absurd (by omega) h)
      refine r_bipush f58_30 (by decide) ?_
      exact r_iret f58_32 v58 ⟨zs_eq (by first | rfl | omega | ((repeat (first | rw [if_pos (by omega)] | rw [if_neg (by omega)])) <;> first | rfl | omega)), (by first | rfl | ((repeat (first | rw [if_pos (by omega)] | rw [if_neg (by omega)])); done) | ((repeat (first | rw [if_pos (by omega)] | rw [if_neg (by omega)])); rfl))⟩
  · refine r_zeq f58_5 (t := 30) (by decide) (fun _ => ?_) (fun h => absurd (by omega) h)
    refine r_bipush f58_30 (by decide) ?_
    exact r_iret f58_32 v58 ⟨zs_eq (by first | rfl | omega | ((repeat (first | rw [if_pos (by omega)] | rw [if_neg (by omega)])) <;> first | rfl | omega)), (by first | rfl | ((repeat (first | rw [if_pos (by omega)] | rw [if_neg (by omega)])); done) | ((repeat (first | rw [if_pos (by omega)] | rw [if_neg (by omega)])); rfl))⟩

abbrev XLi (m : zmem) (x y : Int) : zmem := (zu (zu (zu m 61 (m 60 2) x) 62 (m 60 2) y) 60 2 (m 60 2 + 1))
theorem t_Xlist {L d : Nat} {m : zmem} (p0 : 0 ≤ m 60 2) (p1 : m 60 2 ≤ 20) (x y : Int) : zF L (d + 2) 64 [.inr (.inl (some 0)), .inl x, .inl y] m (some (.inl (if (0 ≤ x ∧ x ≤ 39) ∧ (0 ≤ y ∧ y ≤ 100) then (if 20 ≤ m 60 2 then -4 else m 60 2 + 1) else -2))) (if (0 ≤ x ∧ x ≤ 39) ∧ (0 ≤ y ∧ y ≤ 100) then (if 20 ≤ m 60 2 then m else XLi m x y) else m) := by
  refine zF_of n64 (ls := [some (.inr (.inl (some 0))), some (.inl x), some (.inl y)]) rfl ?_
  refine r_iload_n f64_0 rfl ?_
  refine r_calls1i (m' := m) f64_1 o64 M6_80 (Or.inl rfl) p68 rfl (by simp) (t_isNightX x) ?_
  refine r_ite (fun q1 => ?_) (fun q1 => ?_)
  · refine r_zeq f64_4 (t := 17) (by decide) (fun h => absurd h (by omega)) (fun _ => ?_)
    refine r_iload_n f64_7 rfl ?_
    refine r_iconst f64_8 rfl ?_
    refine r_bipush f64_9 (by decide) ?_
    refine r_calls3i (m' := m) f64_11 o64 M6_50 (Or.inl rfl) p67 rfl (by simp) (t_within y 0 100) ?_
    refine r_ite (fun q2 => ?_) (fun q2 => ?_)
    · refine r_zne f64_14 (t := 20) (by decide) (fun _ => ?_) (fun h => absurd (by omega) h)
      refine r_aload_n f64_20 rfl ?_
      refine r_getR f64_21 o64 F6_41 g0_4 rfl ?_
      refine r_iload_n f64_24 rfl ?_
      refine r_iload_n f64_25 rfl ?_
      refine r_callv2i (m' := if 20 ≤ m 60 2 then m else (XLi m x y)) (v := if 20 ≤ m 60 2 then -4 else m 60 2 + 1) f64_26 o64 M6_240 p27 o27 kd60 rfl (by simp) (t_write p0 p1) ?_
      by_cases q3 : 20 ≤ m 60 2
      · rw [if_pos q3, if_pos q3]
        exact r_iret f64_29 v64 ⟨zs_eq (by first | rfl | omega | ((repeat (first | rw [if_pos (by omega)] | rw [if_neg (by omega)])) <;> first | rfl | omega)), (by first | rfl | ((repeat (first | rw [if_pos (by omega)] | rw [if_neg (by omega)])); done) | ((repeat (first | rw [if_pos (by omega)] | rw [if_neg (by omega)])); rfl))⟩
      · rw [if_neg q3, if_neg q3]
        exact r_iret f64_29 v64 ⟨zs_eq (by first | rfl | omega | ((repeat (first | rw [if_pos (by omega)] | rw [if_neg (by omega)])) <;> first | rfl | omega)), (by first | rfl | ((repeat (first | rw [if_pos (by omega)] | rw [if_neg (by omega)])); done) | ((repeat (first | rw [if_pos (by omega)] | rw [if_neg (by omega)])); rfl))⟩
    · refine r_zne f64_14 (t := 20) (by decide) (fun h => absurd h (by omega)) (fun _ => ?_)
      refine r_bipush f64_17 (by decide) ?_
      exact r_iret f64_19 v64 ⟨zs_eq (by first | rfl | omega | ((repeat (first | rw [if_pos (by omega)] | rw [if_neg (by omega)])) <;> first | rfl | omega)), (by first | rfl | ((repeat (first | rw [if_pos (by omega)] | rw [if_neg (by omega)])); done) | ((repeat (first | rw [if_pos (by omega)] | rw [if_neg (by omega)])); rfl))⟩
  · refine r_zeq f64_4 (t := 17) (by decide) (fun _ => ?_) (fun h => absurd (by omega) h)
    refine r_bipush f64_17 (by decide) ?_
    exact r_iret f64_19 v64 ⟨zs_eq (by first | rfl | omega | ((repeat (first | rw [if_pos (by omega)] | rw [if_neg (by omega)])) <;> first | rfl | omega)), (by first | rfl | ((repeat (first | rw [if_pos (by omega)] | rw [if_neg (by omega)])); done) | ((repeat (first | rw [if_pos (by omega)] | rw [if_neg (by omega)])); rfl))⟩

