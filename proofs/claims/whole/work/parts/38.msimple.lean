theorem tN_isHouse {L d : Nat} {m1 m : zmem} (ha : zan m1 m) (n0 : 0 ≤ m 264 0) (n1 : m 264 0 ≤ 12) (h : Int) : zF L (d + 1) 86 [.inr (.inl (some 264)), .inl h] m1 (some (.inl (if 0 ≤ h ∧ h < m 264 0 then 1 else 0))) m1 := by
  refine zF_of n86 (ls := [some (.inr (.inl (some 264))), some (.inl h)]) rfl ?_
  refine r_iload_n f86_0 rfl ?_
  refine r_iconst f86_1 rfl ?_
  refine r_aload_n f86_2 rfl ?_
  refine r_getI f86_3 o86 F7_86 g264_0 rfl ?_
  refine r_top (e := m 264 0) (zan_f ha (by omega) (by omega) (by omega) _) ?_
  refine r_iconst f86_6 rfl ?_
  refine r_isub f86_7 (e := m 264 0 - 1) (by omega) (by omega) (by omega) ?_
  refine r_calls3i (m' := m1) f86_8 o86 M7_90 (Or.inl rfl) p85 rfl (by simp) (t_in h 0 (m 264 0 - 1)) ?_
  refine r_ite (fun q1 => ?_) (fun q1 => ?_)
  · exact r_zret f86_11 v86 (by omega) ⟨zs_eq (by first | rfl | omega | ((repeat (first | rw [if_pos (by omega)] | rw [if_neg (by omega)])) <;> first | rfl | omega)), (by first | rfl | ((repeat (first | rw [if_pos (by omega)] | rw [if_neg (by omega)])); done) | ((repeat (first | rw [if_pos (by omega)] | rw [if_neg (by omega)])); rfl))⟩
  · exact r_zret f86_11 v86 (by omega) ⟨zs_eq (by first | rfl | omega | ((repeat (first | rw [if_pos (by omega)] | rw [if_neg (by omega)])) <;> first | rfl | omega)), (by first | rfl | ((repeat (first | rw [if_pos (by omega)] | rw [if_neg (by omega)])); done) | ((repeat (first | rw [if_pos (by omega)] | rw [if_neg (by omega)])); rfl))⟩

theorem tN_isChain {L d : Nat} {m1 m : zmem} (ha : zan m1 m) (k0 : 0 ≤ m 264 10) (k1 : m 264 10 ≤ 40) (h : Int) : zF L (d + 1) 88 [.inr (.inl (some 264)), .inl h] m1 (some (.inl (if 0 ≤ h ∧ h < m 264 10 then 1 else 0))) m1 := by
  refine zF_of n88 (ls := [some (.inr (.inl (some 264))), some (.inl h)]) rfl ?_
  refine r_iload_n f88_0 rfl ?_
  refine r_iconst f88_1 rfl ?_
  refine r_aload_n f88_2 rfl ?_
  refine r_getI f88_3 o88 F7_94 g264_10 rfl ?_
  refine r_top (e := m 264 10) (zan_f ha (by omega) (by omega) (by omega) _) ?_
  refine r_iconst f88_6 rfl ?_
  refine r_isub f88_7 (e := m 264 10 - 1) (by omega) (by omega) (by omega) ?_
  refine r_calls3i (m' := m1) f88_8 o88 M7_90 (Or.inl rfl) p85 rfl (by simp) (t_in h 0 (m 264 10 - 1)) ?_
  refine r_ite (fun q1 => ?_) (fun q1 => ?_)
  · exact r_zret f88_11 v88 (by omega) ⟨zs_eq (by first | rfl | omega | ((repeat (first | rw [if_pos (by omega)] | rw [if_neg (by omega)])) <;> first | rfl | omega)), (by first | rfl | ((repeat (first | rw [if_pos (by omega)] | rw [if_neg (by omega)])); done) | ((repeat (first | rw [if_pos (by omega)] | rw [if_neg (by omega)])); rfl))⟩
  · exact r_zret f88_11 v88 (by omega) ⟨zs_eq (by first | rfl | omega | ((repeat (first | rw [if_pos (by omega)] | rw [if_neg (by omega)])) <;> first | rfl | omega)), (by first | rfl | ((repeat (first | rw [if_pos (by omega)] | rw [if_neg (by omega)])); done) | ((repeat (first | rw [if_pos (by omega)] | rw [if_neg (by omega)])); rfl))⟩

theorem tN_placeOf {L d : Nat} {m1 m : zmem} (ha : zan m1 m) {c : Int} (c0 : 0 ≤ c) (c1 : c < 40) (f0 : 0 ≤ m 272 c) (f1 : m 272 c ≤ 39) (l0 : 0 ≤ m 273 c) (l1 : m 273 c ≤ 7) {t : Int} (t0 : 0 ≤ t) (t1 : t < 40)  : zF L (d + 1) 92 [.inr (.inl (some 264)), .inl c, .inl t] m1 (some (.inl (if MH m c t then 7 * c + t - m 272 c else -1))) m1 := by
  refine zF_of n92 (ls := [some (.inr (.inl (some 264))), some (.inl c), some (.inl t), none]) rfl ?_
  refine r_iload_n f92_0 rfl ?_
  refine r_aload_n f92_1 rfl ?_
  refine r_getR f92_2 o92 F7_32 g264_12 rfl ?_
  refine r_iload_n f92_5 rfl ?_
  refine r_iald f92_6 kd272 (by omega) (by omega) ?_
  refine r_top (e := m 272 c) (zan_f ha (by omega) (by omega) (by omega) _) ?_
  refine r_isub f92_7 (e := t - m 272 c) (by omega) (by omega) (by omega) ?_
  refine r_istore_n f92_8 rfl (ls' := [some (.inr (.inl (some 264))), some (.inl c), some (.inl t), some (.inl (t - m 272 c))]) rfl ?_
  refine r_iload_n f92_9 rfl ?_
  refine r_iconst f92_10 rfl ?_
  refine r_aload_n f92_11 rfl ?_
  refine r_getR f92_12 o92 F7_35 g264_13 rfl ?_
  refine r_iload_n f92_15 rfl ?_
  refine r_iald f92_16 kd273 (by omega) (by omega) ?_
  refine r_top (e := m 273 c) (zan_f ha (by omega) (by omega) (by omega) _) ?_
  refine r_iconst f92_17 rfl ?_
  refine r_isub f92_18 (e := m 273 c - 1) (by omega) (by omega) (by omega) ?_
  refine r_calls3i (m' := m1) f92_19 o92 M7_90 (Or.inl rfl) p85 rfl (by simp) (t_in (t - m 272 c) 0 (m 273 c - 1)) ?_
  refine r_ite (fun q1 => ?_) (fun q1 => ?_)
  · refine r_zeq f92_22 (t := 34) (by decide) (fun h => absurd h (by omega)) (fun _ => ?_)
    refine r_bipush f92_25 (by decide) ?_
    refine r_iload_n f92_27 rfl ?_
    refine r_imul f92_28 (e := 7 * c) (by omega) (by omega) (by omega) ?_
    refine r_iload_n f92_29 rfl ?_
    refine r_iadd f92_30 (e := 7 * c + t - m 272 c) (by omega) (by omega) (by omega) ?_
    refine r_goto f92_31 (t := 35) (by decide) ?_
    exact r_iret f92_35 v92 ⟨zs_eq (by first | rfl | omega | ((repeat (first | rw [if_pos (by omega)] | rw [if_neg (by omega)])) <;> first | rfl | omega)), (by first | rfl | ((repeat (first | rw [if_pos (by omega)] | rw [if_neg (by omega)])); done) | ((repeat (first | rw [if_pos (by omega)] | rw [if_neg (by omega)])); rfl))⟩
  · refine r_zeq f92_22 (t := 34) (by decide) (fun _ => ?_) (fun h => absurd (by omega) h)
    refine r_iconst f92_34 rfl ?_
    exact r_iret f92_35 v92 ⟨zs_eq (by first | rfl | omega | ((repeat (first | rw [if_pos (by omega)] | rw [if_neg (by omega)])) <;> first | rfl | omega)), (by first | rfl | ((repeat (first | rw [if_pos (by omega)] | rw [if_neg (by omega)])); done) | ((repeat (first | rw [if_pos (by omega)] | rw [if_neg (by omega)])); rfl))⟩

abbrev MBu (m1 m : zmem) (x y z u : Int) : zmem := (zu (zu (zu (zu (zu m1 265 (3 * (m 264 0)) x) 265 (3 * (m 264 0) + 1) y) 265 (3 * (m 264 0) + 2) z) 266 (m 264 0) u) 264 0 (m 264 0 + 1))
theorem t_Mhouse {L d : Nat} {m1 m : zmem} (ha : zan m1 m) (n0 : 0 ≤ m 264 0) (n1 : m 264 0 ≤ 12) (x y z u : Int) : zF L (d + 2) 89 [.inr (.inl (some 264)), .inl x, .inl y, .inl z, .inl u] m1 (some (.inl (if Ghs x y z u then (if 12 ≤ m 264 0 then -4 else m 264 0) else -2))) (if Ghs x y z u then (if 12 ≤ m 264 0 then m1 else MBu m1 m x y z u) else m1) := by
  refine zF_of n89 (ls := [some (.inr (.inl (some 264))), some (.inl x), some (.inl y), some (.inl z), some (.inl u)]) rfl ?_
  refine r_iload_n f89_0 rfl ?_
  refine r_iconst f89_1 rfl ?_
  refine r_bipush f89_2 (by decide) ?_
  refine r_calls3i (m' := m1) f89_4 o89 M7_90 (Or.inl rfl) p85 rfl (by simp) (t_in x 0 9) ?_
  refine r_ite (fun q1 => ?_) (fun q1 => ?_)
  · refine r_zeq f89_7 (t := 49) (by decide) (fun h => absurd h (by omega)) (fun _ => ?_)
    refine r_iload_n f89_10 rfl ?_
    refine r_iconst f89_11 rfl ?_
    refine r_bipush f89_12 (by decide) ?_
    refine r_calls3i (m' := m1) f89_14 o89 M7_90 (Or.inl rfl) p85 rfl (by simp) (t_in y 0 9) ?_
    refine r_ite (fun q2 => ?_) (fun q2 => ?_)
    · refine r_zeq f89_17 (t := 49) (by decide) (fun h => absurd h (by omega)) (fun _ => ?_)
      refine r_iload_n f89_20 rfl ?_
      refine r_iconst f89_21 rfl ?_
      refine r_bipush f89_22 (by decide) ?_
      refine r_calls3i (m' := m1) f89_24 o89 M7_90 (Or.inl rfl) p85 rfl (by simp) (t_in z 0 9) ?_
      refine r_ite (fun q3 => ?_) (fun q3 => ?_)
      · refine r_zeq f89_27 (t := 49) (by decide) (fun h => absurd h (by omega)) (fun _ => ?_)
        refine r_iload_n f89_30 rfl ?_
        refine r_iload_n f89_31 rfl ?_
        refine r_iadd f89_32 (e := x + y) (by omega) (by omega) (by omega) ?_
        refine r_iload_n f89_33 rfl ?_
        refine r_iadd f89_34 (e := x + y + z) (by omega) (by omega) (by omega) ?_
        refine r_zeq f89_35 (t := 49) (by decide) (fun q4 => ?_) (fun q4 => ?_)
        · refine r_bipush f89_49 (by decide) ?_
          exact r_iret f89_51 v89 ⟨zs_eq (by first | rfl | omega | ((repeat (first | rw [if_pos (by omega)] | rw [if_neg (by omega)])) <;> first | rfl | omega)), (by first | rfl | ((repeat (first | rw [if_pos (by omega)] | rw [if_neg (by omega)])); done) | ((repeat (first | rw [if_pos (by omega)] | rw [if_neg (by omega)])); rfl))⟩
        · refine r_iload f89_38 rfl ?_
          refine r_iconst f89_40 rfl ?_
          refine r_bipush f89_41 (by decide) ?_
          refine r_calls3i (m' := m1) f89_43 o89 M7_90 (Or.inl rfl) p85 rfl (by simp) (t_in u 0 23) ?_
          refine r_ite (fun q5 => ?_) (fun q5 => ?_)
          · refine r_zne f89_46 (t := 52) (by decide) (fun _ => ?_) (fun h => absurd (by omega) h)
            refine r_aload_n f89_52 rfl ?_
            refine r_getI f89_53 o89 F7_86 g264_0 rfl ?_
            refine r_top (e := m 264 0) (zan_f ha (by omega) (by omega) (by omega) _) ?_
            refine r_bipush f89_56 (by decide) ?_
            refine r_cne f89_58 (t := 64) (by decide) (fun q6 => ?_) (fun q6 => ?_)
            · refine r_aload_n f89_64 rfl ?_
              refine r_getR f89_65 o89 F7_7 g264_1 rfl ?_
              refine r_iconst f89_68 rfl ?_
              refine r_aload_n f89_69 rfl ?_
              refine r_getI f89_70 o89 F7_86 g264_0 rfl ?_
              refine r_top (e := m 264 0) (zan_f ha (by omega) (by omega) (by omega) _) ?_
              refine r_imul f89_73 (e := 3 * (m 264 0)) (by omega) (by omega) (by omega) ?_
              refine r_iload_n f89_74 rfl ?_
              refine r_iast f89_75 kd265 (by omega) (by omega) (by omega) ?_
              refine r_aload_n f89_76 rfl ?_
              refine r_getR f89_77 o89 F7_7 g264_1 rfl ?_
              refine r_iconst f89_80 rfl ?_
              refine r_aload_n f89_81 rfl ?_
              refine r_getI f89_82 o89 F7_86 g264_0 rfl ?_
              refine r_top (e := m 264 0) (by rw [zu_if, if_neg (by omega)]; exact zan_f ha (by omega) (by omega) (by omega) _) ?_
              refine r_imul f89_85 (e := 3 * (m 264 0)) (by omega) (by omega) (by omega) ?_
              refine r_iconst f89_86 rfl ?_
              refine r_iadd f89_87 (e := 3 * (m 264 0) + 1) (by omega) (by omega) (by omega) ?_
              refine r_iload_n f89_88 rfl ?_
              refine r_iast f89_89 kd265 (by omega) (by omega) (by omega) ?_
              refine r_aload_n f89_90 rfl ?_
              refine r_getR f89_91 o89 F7_7 g264_1 rfl ?_
              refine r_iconst f89_94 rfl ?_
              refine r_aload_n f89_95 rfl ?_
              refine r_getI f89_96 o89 F7_86 g264_0 rfl ?_
              refine r_top (e := m 264 0) (by rw [zu_if, if_neg (by omega), zu_if, if_neg (by omega)]; exact zan_f ha (by omega) (by omega) (by omega) _) ?_
              refine r_imul f89_99 (e := 3 * (m 264 0)) (by omega) (by omega) (by omega) ?_
              refine r_iconst f89_100 rfl ?_
              refine r_iadd f89_101 (e := 3 * (m 264 0) + 2) (by omega) (by omega) (by omega) ?_
              refine r_iload_n f89_102 rfl ?_
              refine r_iast f89_103 kd265 (by omega) (by omega) (by omega) ?_
              refine r_aload_n f89_104 rfl ?_
              refine r_getR f89_105 o89 F7_13 g264_2 rfl ?_
              refine r_aload_n f89_108 rfl ?_
              refine r_getI f89_109 o89 F7_86 g264_0 rfl ?_
              refine r_top (e := m 264 0) (by rw [zu_if, if_neg (by omega), zu_if, if_neg (by omega), zu_if, if_neg (by omega)]; exact zan_f ha (by omega) (by omega) (by omega) _) ?_
              refine r_iload f89_112 rfl ?_
              refine r_iast f89_114 kd266 (by omega) (by omega) (by omega) ?_
              refine r_aload_n f89_115 rfl ?_
              refine r_dupR f89_116 ?_
              refine r_getI f89_117 o89 F7_86 g264_0 rfl ?_
              refine r_top (e := m 264 0) (by rw [zu_if, if_neg (by omega), zu_if, if_neg (by omega), zu_if, if_neg (by omega), zu_if, if_neg (by omega)]; exact zan_f ha (by omega) (by omega) (by omega) _) ?_
              refine r_iconst f89_120 rfl ?_
              refine r_iadd f89_121 (e := m 264 0 + 1) (by omega) (by omega) (by omega) ?_
              refine r_put f89_122 o89 F7_86 g264_0 rfl T7_0 U7_0 ?_
              refine r_aload_n f89_125 rfl ?_
              refine r_getI f89_126 o89 F7_86 g264_0 rfl ?_
              refine r_top (e := m 264 0 + 1) (by rw [zu_if, if_pos (by omega)]) ?_
              refine r_iconst f89_129 rfl ?_
              refine r_isub f89_130 (e := m 264 0) (by omega) (by omega) (by omega) ?_
              exact r_iret f89_131 v89 ⟨zs_eq (by first | rfl | omega | ((repeat (first | rw [if_pos (by omega)] | rw [if_neg (by omega)])) <;> first | rfl | omega)), (by first | rfl | ((repeat (first | rw [if_pos (by omega)] | rw [if_neg (by omega)])); done) | ((repeat (first | rw [if_pos (by omega)] | rw [if_neg (by omega)])); rfl))⟩
            · refine r_bipush f89_61 (by decide) ?_
              exact r_iret f89_63 v89 ⟨zs_eq (by first | rfl | omega | ((repeat (first | rw [if_pos (by omega)] | rw [if_neg (by omega)])) <;> first | rfl | omega)), (by first | rfl | ((repeat (first | rw [if_pos (by omega)] | rw [if_neg (by omega)])); done) | ((repeat (first | rw [if_pos (by omega)] | rw [if_neg (by omega)])); rfl))⟩
          · refine r_zne f89_46 (t := 52) (by decide) (fun h => absurd h (by omega)) (fun _ => ?_)
            refine r_bipush f89_49 (by decide) ?_
            exact r_iret f89_51 v89 ⟨zs_eq (by first | rfl | omega | ((repeat (first | rw [if_pos (by omega)] | rw [if_neg (by omega)])) <;> first | rfl | omega)), (by first | rfl | ((repeat (first | rw [if_pos (by omega)] | rw [if_neg (by omega)])); done) | ((repeat (first | rw [if_pos (by omega)] | rw [if_neg (by omega)])); rfl))⟩
      · refine r_zeq f89_27 (t := 49) (by decide) (fun _ => ?_) (fun h => absurd (by omega) h)
        refine r_bipush f89_49 (by decide) ?_
        exact r_iret f89_51 v89 ⟨zs_eq (by first | rfl | omega | ((repeat (first | rw [if_pos (by omega)] | rw [if_neg (by omega)])) <;> first | rfl | omega)), (by first | rfl | ((repeat (first | rw [if_pos (by omega)] | rw [if_neg (by omega)])); done) | ((repeat (first | rw [if_pos (by omega)] | rw [if_neg (by omega)])); rfl))⟩
    · refine r_zeq f89_17 (t := 49) (by decide) (fun _ => ?_) (fun h => absurd (by omega) h)
      refine r_bipush f89_49 (by decide) ?_
      exact r_iret f89_51 v89 ⟨zs_eq (by first | rfl | omega | ((repeat (first | rw [if_pos (by omega)] | rw [if_neg (by omega)])) <;> first | rfl | omega)), (by first | rfl | ((repeat (first | rw [if_pos (by omega)] | rw [if_neg (by omega)])); done) | ((repeat (first | rw [if_pos (by omega)] | rw [if_neg (by omega)])); rfl))⟩
  · refine r_zeq f89_7 (t := 49) (by decide) (fun _ => ?_) (fun h => absurd (by omega) h)
    refine r_bipush f89_49 (by decide) ?_
    exact r_iret f89_51 v89 ⟨zs_eq (by first | rfl | omega | ((repeat (first | rw [if_pos (by omega)] | rw [if_neg (by omega)])) <;> first | rfl | omega)), (by first | rfl | ((repeat (first | rw [if_pos (by omega)] | rw [if_neg (by omega)])); done) | ((repeat (first | rw [if_pos (by omega)] | rw [if_neg (by omega)])); rfl))⟩

abbrev MJn (m1 m : zmem) (x y z : Int) : zmem := (zu (zu (zu m1 270 (12 * x + y) z) 270 (x + 12 * y) z) 264 7 (m 264 7 + 1))
theorem t_Mstage {L d : Nat} {m1 m : zmem} (ha : zan m1 m) (n0 : 0 ≤ m 264 0) (n1 : m 264 0 ≤ 12) (s0 : 0 ≤ m 264 7) (s1 : m 264 7 ≤ 40) (x y z : Int) : zF L (d + 2) 90 [.inr (.inl (some 264)), .inl x, .inl y, .inl z] m1 (some (.inl (if Gst (m 264 0) x y z (m 270 (12 * x + y)) then (if 40 ≤ m 264 7 then -4 else m 264 7 + 1) else -2))) (if Gst (m 264 0) x y z (m 270 (12 * x + y)) then (if 40 ≤ m 264 7 then m1 else MJn m1 m x y z) else m1) := by
  refine zF_of n90 (ls := [some (.inr (.inl (some 264))), some (.inl x), some (.inl y), some (.inl z)]) rfl ?_
  refine r_aload_n f90_0 rfl ?_
  refine r_iload_n f90_1 rfl ?_
  refine r_callv1i (m' := m1) f90_2 o90 M7_97 p86 o86 kd264 rfl (by simp) (tN_isHouse ha n0 n1 x) ?_
  refine r_ite (fun q1 => ?_) (fun q1 => ?_)
  · refine r_zeq f90_5 (t := 45) (by decide) (fun h => absurd h (by omega)) (fun _ => ?_)
    refine r_aload_n f90_8 rfl ?_
    refine r_iload_n f90_9 rfl ?_
    refine r_callv1i (m' := m1) f90_10 o90 M7_97 p86 o86 kd264 rfl (by simp) (tN_isHouse ha n0 n1 y) ?_
    refine r_ite (fun q2 => ?_) (fun q2 => ?_)
    · refine r_zeq f90_13 (t := 45) (by decide) (fun h => absurd h (by omega)) (fun _ => ?_)
      refine r_iload_n f90_16 rfl ?_
      refine r_iload_n f90_17 rfl ?_
      refine r_ceq f90_18 (t := 45) (by decide) (fun q3 => ?_) (fun q3 => ?_)
      · refine r_bipush f90_45 (by decide) ?_
        exact r_iret f90_47 v90 ⟨zs_eq (by first | rfl | omega | ((repeat (first | rw [if_pos (by omega)] | rw [if_neg (by omega)])) <;> first | rfl | omega)), (by first | rfl | ((repeat (first | rw [if_pos (by omega)] | rw [if_neg (by omega)])); done) | ((repeat (first | rw [if_pos (by omega)] | rw [if_neg (by omega)])); rfl))⟩
      · refine r_iload_n f90_21 rfl ?_
        refine r_iconst f90_22 rfl ?_
        refine r_bipush f90_23 (by decide) ?_
        refine r_calls3i (m' := m1) f90_25 o90 M7_90 (Or.inl rfl) p85 rfl (by simp) (t_in z 1 40) ?_
        refine r_ite (fun q4 => ?_) (fun q4 => ?_)
        · refine r_zeq f90_28 (t := 45) (by decide) (fun h => absurd h (by omega)) (fun _ => ?_)
          refine r_aload_n f90_31 rfl ?_
          refine r_getR f90_32 o90 F7_26 g264_8 rfl ?_
          refine r_bipush f90_35 (by decide) ?_
          refine r_iload_n f90_37 rfl ?_
          refine r_imul f90_38 (e := 12 * x) (by omega) (by omega) (by omega) ?_
          refine r_iload_n f90_39 rfl ?_
          refine r_iadd f90_40 (e := 12 * x + y) (by omega) (by omega) (by omega) ?_
          refine r_iald f90_41 kd270 (by omega) (by omega) ?_
          refine r_top (e := m 270 (12 * x + y)) (zan_f ha (by omega) (by omega) (by omega) _) ?_
          refine r_zle f90_42 (t := 48) (by decide) (fun q5 => ?_) (fun q5 => ?_)
          · refine r_aload_n f90_48 rfl ?_
            refine r_getI f90_49 o90 F7_101 g264_7 rfl ?_
            refine r_top (e := m 264 7) (zan_f ha (by omega) (by omega) (by omega) _) ?_
            refine r_bipush f90_52 (by decide) ?_
            refine r_cne f90_54 (t := 60) (by decide) (fun q6 => ?_) (fun q6 => ?_)
            · refine r_aload_n f90_60 rfl ?_
              refine r_getR f90_61 o90 F7_26 g264_8 rfl ?_
              refine r_bipush f90_64 (by decide) ?_
              refine r_iload_n f90_66 rfl ?_
              refine r_imul f90_67 (e := 12 * x) (by omega) (by omega) (by omega) ?_
              refine r_iload_n f90_68 rfl ?_
              refine r_iadd f90_69 (e := 12 * x + y) (by omega) (by omega) (by omega) ?_
              refine r_iload_n f90_70 rfl ?_
              refine r_iast f90_71 kd270 (by omega) (by omega) (by omega) ?_
              refine r_aload_n f90_72 rfl ?_
              refine r_getR f90_73 o90 F7_26 g264_8 rfl ?_
              refine r_bipush f90_76 (by decide) ?_
              refine r_iload_n f90_78 rfl ?_
              refine r_imul f90_79 (e := 12 * y) (by omega) (by omega) (by omega) ?_
              refine r_iload_n f90_80 rfl ?_
              refine r_iadd f90_81 (e := x + 12 * y) (by omega) (by omega) (by omega) ?_
              refine r_iload_n f90_82 rfl ?_
              refine r_iast f90_83 kd270 (by omega) (by omega) (by omega) ?_
              refine r_aload_n f90_84 rfl ?_
              refine r_dupR f90_85 ?_
              refine r_getI f90_86 o90 F7_101 g264_7 rfl ?_
              refine r_top (e := m 264 7) (by rw [zu_if, if_neg (by omega), zu_if, if_neg (by omega)]; exact zan_f ha (by omega) (by omega) (by omega) _) ?_
              refine r_iconst f90_89 rfl ?_
              refine r_iadd f90_90 (e := m 264 7 + 1) (by omega) (by omega) (by omega) ?_
              refine r_put f90_91 o90 F7_101 g264_7 rfl T7_7 U7_7 ?_
              refine r_aload_n f90_94 rfl ?_
              refine r_getI f90_95 o90 F7_101 g264_7 rfl ?_
              refine r_top (e := m 264 7 + 1) (by rw [zu_if, if_pos (by omega)]) ?_
              exact r_iret f90_98 v90 ⟨zs_eq (by first | rfl | omega | ((repeat (first | rw [if_pos (by omega)] | rw [if_neg (by omega)])) <;> first | rfl | omega)), (by first | rfl | ((repeat (first | rw [if_pos (by omega)] | rw [if_neg (by omega)])); done) | ((repeat (first | rw [if_pos (by omega)] | rw [if_neg (by omega)])); rfl))⟩
            · refine r_bipush f90_57 (by decide) ?_
              exact r_iret f90_59 v90 ⟨zs_eq (by first | rfl | omega | ((repeat (first | rw [if_pos (by omega)] | rw [if_neg (by omega)])) <;> first | rfl | omega)), (by first | rfl | ((repeat (first | rw [if_pos (by omega)] | rw [if_neg (by omega)])); done) | ((repeat (first | rw [if_pos (by omega)] | rw [if_neg (by omega)])); rfl))⟩
          · refine r_bipush f90_45 (by decide) ?_
            exact r_iret f90_47 v90 ⟨zs_eq (by first | rfl | omega | ((repeat (first | rw [if_pos (by omega)] | rw [if_neg (by omega)])) <;> first | rfl | omega)), (by first | rfl | ((repeat (first | rw [if_pos (by omega)] | rw [if_neg (by omega)])); done) | ((repeat (first | rw [if_pos (by omega)] | rw [if_neg (by omega)])); rfl))⟩
        · refine r_zeq f90_28 (t := 45) (by decide) (fun _ => ?_) (fun h => absurd (by omega) h)
          refine r_bipush f90_45 (by decide) ?_
          exact r_iret f90_47 v90 ⟨zs_eq (by first | rfl | omega | ((repeat (first | rw [if_pos (by omega)] | rw [if_neg (by omega)])) <;> first | rfl | omega)), (by first | rfl | ((repeat (first | rw [if_pos (by omega)] | rw [if_neg (by omega)])); done) | ((repeat (first | rw [if_pos (by omega)] | rw [if_neg (by omega)])); rfl))⟩
    · refine r_zeq f90_13 (t := 45) (by decide) (fun _ => ?_) (fun h => absurd (by omega) h)
      refine r_bipush f90_45 (by decide) ?_
      exact r_iret f90_47 v90 ⟨zs_eq (by first | rfl | omega | ((repeat (first | rw [if_pos (by omega)] | rw [if_neg (by omega)])) <;> first | rfl | omega)), (by first | rfl | ((repeat (first | rw [if_pos (by omega)] | rw [if_neg (by omega)])); done) | ((repeat (first | rw [if_pos (by omega)] | rw [if_neg (by omega)])); rfl))⟩
  · refine r_zeq f90_5 (t := 45) (by decide) (fun _ => ?_) (fun h => absurd (by omega) h)
    refine r_bipush f90_45 (by decide) ?_
    exact r_iret f90_47 v90 ⟨zs_eq (by first | rfl | omega | ((repeat (first | rw [if_pos (by omega)] | rw [if_neg (by omega)])) <;> first | rfl | omega)), (by first | rfl | ((repeat (first | rw [if_pos (by omega)] | rw [if_neg (by omega)])); done) | ((repeat (first | rw [if_pos (by omega)] | rw [if_neg (by omega)])); rfl))⟩

theorem t_Mchores {L d : Nat} {m1 m : zmem} (ha : zan m1 m) (n0 : 0 ≤ m 264 0) (n1 : m 264 0 ≤ 12) (x y : Int) : zF L (d + 2) 91 [.inr (.inl (some 264)), .inl x, .inl y] m1 (some (.inl (if Gch (m 264 0) x y then m 267 x else -2))) (if Gch (m 264 0) x y then zu m1 267 x y else m1) := by
  refine zF_of n91 (ls := [some (.inr (.inl (some 264))), some (.inl x), some (.inl y), none]) rfl ?_
  refine r_aload_n f91_0 rfl ?_
  refine r_iload_n f91_1 rfl ?_
  refine r_callv1i (m' := m1) f91_2 o91 M7_97 p86 o86 kd264 rfl (by simp) (tN_isHouse ha n0 n1 x) ?_
  refine r_ite (fun q1 => ?_) (fun q1 => ?_)
  · refine r_zeq f91_5 (t := 18) (by decide) (fun h => absurd h (by omega)) (fun _ => ?_)
    refine r_iload_n f91_8 rfl ?_
    refine r_iconst f91_9 rfl ?_
    refine r_bipush f91_10 (by decide) ?_
    refine r_calls3i (m' := m1) f91_12 o91 M7_90 (Or.inl rfl) p85 rfl (by simp) (t_in y 0 9) ?_
    refine r_ite (fun q2 => ?_) (fun q2 => ?_)
    · refine r_zne f91_15 (t := 21) (by decide) (fun _ => ?_) (fun h => absurd (by omega) h)
      refine r_aload_n f91_21 rfl ?_
      refine r_getR f91_22 o91 F7_16 g264_3 rfl ?_
      refine r_iload_n f91_25 rfl ?_
      refine r_iald f91_26 kd267 (by omega) (by omega) ?_
      refine r_top (e := m 267 x) (zan_f ha (by omega) (by omega) (by omega) _) ?_
      refine r_istore_n f91_27 rfl (ls' := [some (.inr (.inl (some 264))), some (.inl x), some (.inl y), some (.inl (m 267 x))]) rfl ?_
      refine r_aload_n f91_28 rfl ?_
      refine r_getR f91_29 o91 F7_16 g264_3 rfl ?_
      refine r_iload_n f91_32 rfl ?_
      refine r_iload_n f91_33 rfl ?_
      refine r_iast f91_34 kd267 (by omega) (by omega) (by omega) ?_
      refine r_iload_n f91_35 rfl ?_
      exact r_iret f91_36 v91 ⟨zs_eq (by first | rfl | omega | ((repeat (first | rw [if_pos (by omega)] | rw [if_neg (by omega)])) <;> first | rfl | omega)), (by first | rfl | ((repeat (first | rw [if_pos (by omega)] | rw [if_neg (by omega)])); done) | ((repeat (first | rw [if_pos (by omega)] | rw [if_neg (by omega)])); rfl))⟩
    · refine r_zne f91_15 (t := 21) (by decide) (fun h => absurd h (by omega)) (fun _ => ?_)
      refine r_bipush f91_18 (by decide) ?_
      exact r_iret f91_20 v91 ⟨zs_eq (by first | rfl | omega | ((repeat (first | rw [if_pos (by omega)] | rw [if_neg (by omega)])) <;> first | rfl | omega)), (by first | rfl | ((repeat (first | rw [if_pos (by omega)] | rw [if_neg (by omega)])); done) | ((repeat (first | rw [if_pos (by omega)] | rw [if_neg (by omega)])); rfl))⟩
  · refine r_zeq f91_5 (t := 18) (by decide) (fun _ => ?_) (fun h => absurd (by omega) h)
    refine r_bipush f91_18 (by decide) ?_
    exact r_iret f91_20 v91 ⟨zs_eq (by first | rfl | omega | ((repeat (first | rw [if_pos (by omega)] | rw [if_neg (by omega)])) <;> first | rfl | omega)), (by first | rfl | ((repeat (first | rw [if_pos (by omega)] | rw [if_neg (by omega)])); done) | ((repeat (first | rw [if_pos (by omega)] | rw [if_neg (by omega)])); rfl))⟩

theorem t_Mfree {L d : Nat} {m1 m : zmem} (ha : zan m1 m) (n0 : 0 ≤ m 264 0) (n1 : m 264 0 ≤ 12) (hk : MOk m) (hr : MRng m) (x y z : Int) : zF L (d + 4) 95 [.inr (.inl (some 264)), .inl x, .inl y, .inl z] m1 (some (.inl (if Gfr (m 264 0) x y z then (if y = -1 then MO m x z else MF m x y z) else -2))) m1 := by
  refine zF_of n95 (ls := [some (.inr (.inl (some 264))), some (.inl x), some (.inl y), some (.inl z)]) rfl ?_
  refine r_aload_n f95_0 rfl ?_
  refine r_iload_n f95_1 rfl ?_
  refine r_callv1i (m' := m1) f95_2 o95 M7_97 p86 o86 kd264 rfl (by simp) (tN_isHouse ha n0 n1 x) ?_
  refine r_ite (fun q1 => ?_) (fun q1 => ?_)
  · refine r_zeq f95_5 (t := 24) (by decide) (fun h => absurd h (by omega)) (fun _ => ?_)
    refine r_iload_n f95_8 rfl ?_
    refine r_iconst f95_9 rfl ?_
    refine r_iconst f95_10 rfl ?_
    refine r_calls3i (m' := m1) f95_11 o95 M7_90 (Or.inl rfl) p85 rfl (by simp) (t_in y (-1) 2) ?_
    refine r_ite (fun q2 => ?_) (fun q2 => ?_)
    · refine r_zeq f95_14 (t := 24) (by decide) (fun h => absurd h (by omega)) (fun _ => ?_)
      refine r_iload_n f95_17 rfl ?_
      refine r_calls1i (m' := m1) f95_18 o95 M7_112 (Or.inl rfl) p87 rfl (by simp) (t_isNightM z) ?_
      refine r_ite (fun q3 => ?_) (fun q3 => ?_)
      · refine r_zne f95_21 (t := 27) (by decide) (fun _ => ?_) (fun h => absurd (by omega) h)
        refine r_iload_n f95_27 rfl ?_
        refine r_iconst f95_28 rfl ?_
        refine r_cne f95_29 (t := 41) (by decide) (fun q4 => ?_) (fun q4 => ?_)
        · refine r_aload_n f95_41 rfl ?_
          refine r_iload_n f95_42 rfl ?_
          refine r_iload_n f95_43 rfl ?_
          refine r_iload_n f95_44 rfl ?_
          refine r_callv3i (m' := m1) (v := MF m x y z) f95_45 o95 M7_108 p93 o93 kd264 rfl (by simp) (t_freeIn ha hk (h := x) (e := y) (t := z) (by omega) (by omega) (by omega) (by omega) (by omega) (by omega)) ?_
          exact r_iret f95_48 v95 ⟨zs_eq (by first | rfl | omega | ((repeat (first | rw [if_pos (by omega)] | rw [if_neg (by omega)])) <;> first | rfl | omega)), (by first | rfl | ((repeat (first | rw [if_pos (by omega)] | rw [if_neg (by omega)])); done) | ((repeat (first | rw [if_pos (by omega)] | rw [if_neg (by omega)])); rfl))⟩
        · refine r_aload_n f95_32 rfl ?_
          refine r_iload_n f95_33 rfl ?_
          refine r_iload_n f95_34 rfl ?_
          have hr0 := hr x 0 z (by omega) (by omega) (by omega) (by omega) (by omega) (by omega)
          have hr1 := hr x 1 z (by omega) (by omega) (by omega) (by omega) (by omega) (by omega)
          have hr2 := hr x 2 z (by omega) (by omega) (by omega) (by omega) (by omega) (by omega)
          refine r_callv2i (m' := m1) (v := MO m x z) f95_35 o95 M7_115 p94 o94 kd264 rfl (by simp) (t_freeOf ha hk (h := x) (t := z) (by omega) (by omega) (by omega) (by omega) hr0.1 hr0.2 hr1.1 hr1.2 hr2.1 hr2.2) ?_
          refine r_goto f95_38 (t := 48) (by decide) ?_
          exact r_iret f95_48 v95 ⟨zs_eq (by first | rfl | omega | ((repeat (first | rw [if_pos (by omega)] | rw [if_neg (by omega)])) <;> first | rfl | omega)), (by first | rfl | ((repeat (first | rw [if_pos (by omega)] | rw [if_neg (by omega)])); done) | ((repeat (first | rw [if_pos (by omega)] | rw [if_neg (by omega)])); rfl))⟩
      · refine r_zne f95_21 (t := 27) (by decide) (fun h => absurd h (by omega)) (fun _ => ?_)
        refine r_bipush f95_24 (by decide) ?_
        exact r_iret f95_26 v95 ⟨zs_eq (by first | rfl | omega | ((repeat (first | rw [if_pos (by omega)] | rw [if_neg (by omega)])) <;> first | rfl | omega)), (by first | rfl | ((repeat (first | rw [if_pos (by omega)] | rw [if_neg (by omega)])); done) | ((repeat (first | rw [if_pos (by omega)] | rw [if_neg (by omega)])); rfl))⟩
    · refine r_zeq f95_14 (t := 24) (by decide) (fun _ => ?_) (fun h => absurd (by omega) h)
      refine r_bipush f95_24 (by decide) ?_
      exact r_iret f95_26 v95 ⟨zs_eq (by first | rfl | omega | ((repeat (first | rw [if_pos (by omega)] | rw [if_neg (by omega)])) <;> first | rfl | omega)), (by first | rfl | ((repeat (first | rw [if_pos (by omega)] | rw [if_neg (by omega)])); done) | ((repeat (first | rw [if_pos (by omega)] | rw [if_neg (by omega)])); rfl))⟩
  · refine r_zeq f95_5 (t := 24) (by decide) (fun _ => ?_) (fun h => absurd (by omega) h)
    refine r_bipush f95_24 (by decide) ?_
    exact r_iret f95_26 v95 ⟨zs_eq (by first | rfl | omega | ((repeat (first | rw [if_pos (by omega)] | rw [if_neg (by omega)])) <;> first | rfl | omega)), (by first | rfl | ((repeat (first | rw [if_pos (by omega)] | rw [if_neg (by omega)])); done) | ((repeat (first | rw [if_pos (by omega)] | rw [if_neg (by omega)])); rfl))⟩

theorem t_MisShut {L d : Nat} {m1 m : zmem} (ha : zan m1 m) (n0 : 0 ≤ m 264 0) (n1 : m 264 0 ≤ 12) (x y : Int) : zF L (d + 2) 96 [.inr (.inl (some 264)), .inl x, .inl y] m1 (some (.inl (if Gis (m 264 0) x y then (if m 268 (40 * x + y) = 0 then 0 else 1) else -2))) m1 := by
  refine zF_of n96 (ls := [some (.inr (.inl (some 264))), some (.inl x), some (.inl y)]) rfl ?_
  refine r_aload_n f96_0 rfl ?_
  refine r_iload_n f96_1 rfl ?_
  refine r_callv1i (m' := m1) f96_2 o96 M7_97 p86 o86 kd264 rfl (by simp) (tN_isHouse ha n0 n1 x) ?_
  refine r_ite (fun q1 => ?_) (fun q1 => ?_)
  · refine r_zeq f96_5 (t := 37) (by decide) (fun h => absurd h (by omega)) (fun _ => ?_)
    refine r_iload_n f96_8 rfl ?_
    refine r_calls1i (m' := m1) f96_9 o96 M7_112 (Or.inl rfl) p87 rfl (by simp) (t_isNightM y) ?_
    refine r_ite (fun q2 => ?_) (fun q2 => ?_)
    · refine r_zeq f96_12 (t := 37) (by decide) (fun h => absurd h (by omega)) (fun _ => ?_)
      refine r_aload_n f96_15 rfl ?_
      refine r_getR f96_16 o96 F7_19 g264_4 rfl ?_
      refine r_bipush f96_19 (by decide) ?_
      refine r_iload_n f96_21 rfl ?_
      refine r_imul f96_22 (e := 40 * x) (by omega) (by omega) (by omega) ?_
      refine r_iload_n f96_23 rfl ?_
      refine r_iadd f96_24 (e := 40 * x + y) (by omega) (by omega) (by omega) ?_
      refine r_bald f96_25 kd268 (by omega) (by omega) ?_
      refine r_top (e := m 268 (40 * x + y)) (zan_f ha (by omega) (by omega) (by omega) _) ?_
      refine r_zeq f96_26 (t := 33) (by decide) (fun q3 => ?_) (fun q3 => ?_)
      · refine r_iconst f96_33 rfl ?_
        refine r_goto f96_34 (t := 39) (by decide) ?_
        exact r_iret f96_39 v96 ⟨zs_eq (by first | rfl | omega | ((repeat (first | rw [if_pos (by omega)] | rw [if_neg (by omega)])) <;> first | rfl | omega)), (by first | rfl | ((repeat (first | rw [if_pos (by omega)] | rw [if_neg (by omega)])); done) | ((repeat (first | rw [if_pos (by omega)] | rw [if_neg (by omega)])); rfl))⟩
      · refine r_iconst f96_29 rfl ?_
        refine r_goto f96_30 (t := 39) (by decide) ?_
        exact r_iret f96_39 v96 ⟨zs_eq (by first | rfl | omega | ((repeat (first | rw [if_pos (by omega)] | rw [if_neg (by omega)])) <;> first | rfl | omega)), (by first | rfl | ((repeat (first | rw [if_pos (by omega)] | rw [if_neg (by omega)])); done) | ((repeat (first | rw [if_pos (by omega)] | rw [if_neg (by omega)])); rfl))⟩
    · refine r_zeq f96_12 (t := 37) (by decide) (fun _ => ?_) (fun h => absurd (by omega) h)
      refine r_bipush f96_37 (by decide) ?_
      exact r_iret f96_39 v96 ⟨zs_eq (by first | rfl | omega | ((repeat (first | rw [if_pos (by omega)] | rw [if_neg (by omega)])) <;> first | rfl | omega)), (by first | rfl | ((repeat (first | rw [if_pos (by omega)] | rw [if_neg (by omega)])); done) | ((repeat (first | rw [if_pos (by omega)] | rw [if_neg (by omega)])); rfl))⟩
  · refine r_zeq f96_5 (t := 37) (by decide) (fun _ => ?_) (fun h => absurd (by omega) h)
    refine r_bipush f96_37 (by decide) ?_
    exact r_iret f96_39 v96 ⟨zs_eq (by first | rfl | omega | ((repeat (first | rw [if_pos (by omega)] | rw [if_neg (by omega)])) <;> first | rfl | omega)), (by first | rfl | ((repeat (first | rw [if_pos (by omega)] | rw [if_neg (by omega)])); done) | ((repeat (first | rw [if_pos (by omega)] | rw [if_neg (by omega)])); rfl))⟩

abbrev MCh (m1 m : zmem) (x y z : Int) : zmem := (zu (zu (zu (zu (zu (zu m1 271 (m 264 10) x) 272 (m 264 10) y) 273 (m 264 10) 1) 274 (7 * (m 264 10)) z) 275 (m 264 10) 0) 264 10 (m 264 10 + 1))
theorem t_Mchain {L d : Nat} {m1 m : zmem} (ha : zan m1 m) (n0 : 0 ≤ m 264 0) (n1 : m 264 0 ≤ 12) (k0 : 0 ≤ m 264 10) (k1 : m 264 10 ≤ 40) (w0 : 0 ≤ m 264 9) (w1 : m 264 9 ≤ 39) (x y z : Int) : zF L (d + 2) 100 [.inr (.inl (some 264)), .inl x, .inl y, .inl z] m1 (some (.inl (if Gcn (m 264 0) (m 264 9) x y z then (if 40 ≤ m 264 10 then -4 else m 264 10) else -2))) (if Gcn (m 264 0) (m 264 9) x y z then (if 40 ≤ m 264 10 then m1 else MCh m1 m x y z) else m1) := by
  refine zF_of n100 (ls := [some (.inr (.inl (some 264))), some (.inl x), some (.inl y), some (.inl z)]) rfl ?_
  refine r_iload_n f100_0 rfl ?_
  refine r_iconst f100_1 rfl ?_
  refine r_bipush f100_2 (by decide) ?_
  refine r_calls3i (m' := m1) f100_4 o100 M7_90 (Or.inl rfl) p85 rfl (by simp) (t_in x 1 12) ?_
  refine r_ite (fun q1 => ?_) (fun q1 => ?_)
  · refine r_zeq f100_7 (t := 31) (by decide) (fun h => absurd h (by omega)) (fun _ => ?_)
    refine r_iload_n f100_10 rfl ?_
    refine r_aload_n f100_11 rfl ?_
    refine r_getI f100_12 o100 F7_122 g264_9 rfl ?_
    refine r_top (e := m 264 9) (zan_f ha (by omega) (by omega) (by omega) _) ?_
    refine r_bipush f100_15 (by decide) ?_
    refine r_calls3i (m' := m1) f100_17 o100 M7_90 (Or.inl rfl) p85 rfl (by simp) (t_in y (m 264 9) 39) ?_
    refine r_ite (fun q2 => ?_) (fun q2 => ?_)
    · refine r_zeq f100_20 (t := 31) (by decide) (fun h => absurd h (by omega)) (fun _ => ?_)
      refine r_aload_n f100_23 rfl ?_
      refine r_iload_n f100_24 rfl ?_
      refine r_callv1i (m' := m1) f100_25 o100 M7_97 p86 o86 kd264 rfl (by simp) (tN_isHouse ha n0 n1 z) ?_
      refine r_ite (fun q3 => ?_) (fun q3 => ?_)
      · refine r_zne f100_28 (t := 34) (by decide) (fun _ => ?_) (fun h => absurd (by omega) h)
        refine r_aload_n f100_34 rfl ?_
        refine r_getI f100_35 o100 F7_94 g264_10 rfl ?_
        refine r_top (e := m 264 10) (zan_f ha (by omega) (by omega) (by omega) _) ?_
        refine r_bipush f100_38 (by decide) ?_
        refine r_cne f100_40 (t := 46) (by decide) (fun q4 => ?_) (fun q4 => ?_)
        · refine r_aload_n f100_46 rfl ?_
          refine r_getR f100_47 o100 F7_29 g264_11 rfl ?_
          refine r_aload_n f100_50 rfl ?_
          refine r_getI f100_51 o100 F7_94 g264_10 rfl ?_
          refine r_top (e := m 264 10) (zan_f ha (by omega) (by omega) (by omega) _) ?_
          refine r_iload_n f100_54 rfl ?_
          refine r_iast f100_55 kd271 (by omega) (by omega) (by omega) ?_
          refine r_aload_n f100_56 rfl ?_
          refine r_getR f100_57 o100 F7_32 g264_12 rfl ?_
          refine r_aload_n f100_60 rfl ?_
          refine r_getI f100_61 o100 F7_94 g264_10 rfl ?_
          refine r_top (e := m 264 10) (by rw [zu_if, if_neg (by omega)]; exact zan_f ha (by omega) (by omega) (by omega) _) ?_
          refine r_iload_n f100_64 rfl ?_
          refine r_iast f100_65 kd272 (by omega) (by omega) (by omega) ?_
          refine r_aload_n f100_66 rfl ?_
          refine r_getR f100_67 o100 F7_35 g264_13 rfl ?_
          refine r_aload_n f100_70 rfl ?_
          refine r_getI f100_71 o100 F7_94 g264_10 rfl ?_
          refine r_top (e := m 264 10) (by rw [zu_if, if_neg (by omega), zu_if, if_neg (by omega)]; exact zan_f ha (by omega) (by omega) (by omega) _) ?_
          refine r_iconst f100_74 rfl ?_
          refine r_iast f100_75 kd273 (by omega) (by omega) (by omega) ?_
          refine r_aload_n f100_76 rfl ?_
          refine r_getR f100_77 o100 F7_38 g264_14 rfl ?_
          refine r_bipush f100_80 (by decide) ?_
          refine r_aload_n f100_82 rfl ?_
          refine r_getI f100_83 o100 F7_94 g264_10 rfl ?_
          refine r_top (e := m 264 10) (by rw [zu_if, if_neg (by omega), zu_if, if_neg (by omega), zu_if, if_neg (by omega)]; exact zan_f ha (by omega) (by omega) (by omega) _) ?_
          refine r_imul f100_86 (e := 7 * (m 264 10)) (by omega) (by omega) (by omega) ?_
          refine r_iload_n f100_87 rfl ?_
          refine r_iast f100_88 kd274 (by omega) (by omega) (by omega) ?_
          refine r_aload_n f100_89 rfl ?_
          refine r_getR f100_90 o100 F7_41 g264_15 rfl ?_
          refine r_aload_n f100_93 rfl ?_
          refine r_getI f100_94 o100 F7_94 g264_10 rfl ?_
          refine r_top (e := m 264 10) (by rw [zu_if, if_neg (by omega), zu_if, if_neg (by omega), zu_if, if_neg (by omega), zu_if, if_neg (by omega)]; exact zan_f ha (by omega) (by omega) (by omega) _) ?_
          refine r_iconst f100_97 rfl ?_
          refine r_iast f100_98 kd275 (by omega) (by omega) (by omega) ?_
          refine r_aload_n f100_99 rfl ?_
          refine r_dupR f100_100 ?_
          refine r_getI f100_101 o100 F7_94 g264_10 rfl ?_
          refine r_top (e := m 264 10) (by rw [zu_if, if_neg (by omega), zu_if, if_neg (by omega), zu_if, if_neg (by omega), zu_if, if_neg (by omega), zu_if, if_neg (by omega)]; exact zan_f ha (by omega) (by omega) (by omega) _) ?_
          refine r_iconst f100_104 rfl ?_
          refine r_iadd f100_105 (e := m 264 10 + 1) (by omega) (by omega) (by omega) ?_
          refine r_put f100_106 o100 F7_94 g264_10 rfl T7_10 U7_10 ?_
          refine r_aload_n f100_109 rfl ?_
          refine r_getI f100_110 o100 F7_94 g264_10 rfl ?_
          refine r_top (e := m 264 10 + 1) (by rw [zu_if, if_pos (by omega)]) ?_
          refine r_iconst f100_113 rfl ?_
          refine r_isub f100_114 (e := m 264 10) (by omega) (by omega) (by omega) ?_
          exact r_iret f100_115 v100 ⟨zs_eq (by first | rfl | omega | ((repeat (first | rw [if_pos (by omega)] | rw [if_neg (by omega)])) <;> first | rfl | omega)), (by first | rfl | ((repeat (first | rw [if_pos (by omega)] | rw [if_neg (by omega)])); done) | ((repeat (first | rw [if_pos (by omega)] | rw [if_neg (by omega)])); rfl))⟩
        · refine r_bipush f100_43 (by decide) ?_
          exact r_iret f100_45 v100 ⟨zs_eq (by first | rfl | omega | ((repeat (first | rw [if_pos (by omega)] | rw [if_neg (by omega)])) <;> first | rfl | omega)), (by first | rfl | ((repeat (first | rw [if_pos (by omega)] | rw [if_neg (by omega)])); done) | ((repeat (first | rw [if_pos (by omega)] | rw [if_neg (by omega)])); rfl))⟩
      · refine r_zne f100_28 (t := 34) (by decide) (fun h => absurd h (by omega)) (fun _ => ?_)
        refine r_bipush f100_31 (by decide) ?_
        exact r_iret f100_33 v100 ⟨zs_eq (by first | rfl | omega | ((repeat (first | rw [if_pos (by omega)] | rw [if_neg (by omega)])) <;> first | rfl | omega)), (by first | rfl | ((repeat (first | rw [if_pos (by omega)] | rw [if_neg (by omega)])); done) | ((repeat (first | rw [if_pos (by omega)] | rw [if_neg (by omega)])); rfl))⟩
    · refine r_zeq f100_20 (t := 31) (by decide) (fun _ => ?_) (fun h => absurd (by omega) h)
      refine r_bipush f100_31 (by decide) ?_
      exact r_iret f100_33 v100 ⟨zs_eq (by first | rfl | omega | ((repeat (first | rw [if_pos (by omega)] | rw [if_neg (by omega)])) <;> first | rfl | omega)), (by first | rfl | ((repeat (first | rw [if_pos (by omega)] | rw [if_neg (by omega)])); done) | ((repeat (first | rw [if_pos (by omega)] | rw [if_neg (by omega)])); rfl))⟩
  · refine r_zeq f100_7 (t := 31) (by decide) (fun _ => ?_) (fun h => absurd (by omega) h)
    refine r_bipush f100_31 (by decide) ?_
    exact r_iret f100_33 v100 ⟨zs_eq (by first | rfl | omega | ((repeat (first | rw [if_pos (by omega)] | rw [if_neg (by omega)])) <;> first | rfl | omega)), (by first | rfl | ((repeat (first | rw [if_pos (by omega)] | rw [if_neg (by omega)])); done) | ((repeat (first | rw [if_pos (by omega)] | rw [if_neg (by omega)])); rfl))⟩

abbrev MAd (m1 m : zmem) (x y : Int) : zmem := (zu (zu m1 274 (m 273 x + 7 * x) y) 273 x (m 273 x + 1))
theorem t_Madd {L d : Nat} {m1 m : zmem} (ha : zan m1 m) (n0 : 0 ≤ m 264 0) (n1 : m 264 0 ≤ 12) (k0 : 0 ≤ m 264 10) (k1 : m 264 10 ≤ 40) (hc : ∀ c, 0 ≤ c → c < 40 → (0 ≤ m 272 c ∧ m 272 c ≤ 39) ∧ (0 ≤ m 273 c ∧ m 273 c ≤ 7)) (x y : Int) : zF L (d + 2) 101 [.inr (.inl (some 264)), .inl x, .inl y] m1 (some (.inl (if (0 ≤ x ∧ x < m 264 10) ∧ (0 ≤ y ∧ y < m 264 0) ∧ m 272 x + m 273 x ≤ 39 then (if ¬ m 275 x = 0 then -3 else if 7 ≤ m 273 x then -4 else m 273 x + 1) else -2))) (if (0 ≤ x ∧ x < m 264 10) ∧ (0 ≤ y ∧ y < m 264 0) ∧ m 272 x + m 273 x ≤ 39 then (if ¬ m 275 x = 0 then m1 else if 7 ≤ m 273 x then m1 else MAd m1 m x y) else m1) := by
  have hcx := hc x
  refine zF_of n101 (ls := [some (.inr (.inl (some 264))), some (.inl x), some (.inl y)]) rfl ?_
  refine r_aload_n f101_0 rfl ?_
  refine r_iload_n f101_1 rfl ?_
  refine r_callv1i (m' := m1) f101_2 o101 M7_125 p88 o88 kd264 rfl (by simp) (tN_isChain ha k0 k1 x) ?_
  refine r_ite (fun q1 => ?_) (fun q1 => ?_)
  · refine r_zeq f101_5 (t := 34) (by decide) (fun h => absurd h (by omega)) (fun _ => ?_)
    refine r_aload_n f101_8 rfl ?_
    refine r_iload_n f101_9 rfl ?_
    refine r_callv1i (m' := m1) f101_10 o101 M7_97 p86 o86 kd264 rfl (by simp) (tN_isHouse ha n0 n1 y) ?_
    refine r_ite (fun q2 => ?_) (fun q2 => ?_)
    · refine r_zeq f101_13 (t := 34) (by decide) (fun h => absurd h (by omega)) (fun _ => ?_)
      refine r_aload_n f101_16 rfl ?_
      refine r_getR f101_17 o101 F7_32 g264_12 rfl ?_
      refine r_iload_n f101_20 rfl ?_
      refine r_iald f101_21 kd272 (by omega) (by omega) ?_
      refine r_top (e := m 272 x) (zan_f ha (by omega) (by omega) (by omega) _) ?_
      refine r_aload_n f101_22 rfl ?_
      refine r_getR f101_23 o101 F7_35 g264_13 rfl ?_
      refine r_iload_n f101_26 rfl ?_
      refine r_iald f101_27 kd273 (by omega) (by omega) ?_
      refine r_top (e := m 273 x) (zan_f ha (by omega) (by omega) (by omega) _) ?_
      refine r_iadd f101_28 (e := m 272 x + m 273 x) (by omega) (by omega) (by omega) ?_
      refine r_bipush f101_29 (by decide) ?_
      refine r_cle f101_31 (t := 37) (by decide) (fun q3 => ?_) (fun q3 => ?_)
      · refine r_aload_n f101_37 rfl ?_
        refine r_getR f101_38 o101 F7_41 g264_15 rfl ?_
        refine r_iload_n f101_41 rfl ?_
        refine r_iald f101_42 kd275 (by omega) (by omega) ?_
        refine r_top (e := m 275 x) (zan_f ha (by omega) (by omega) (by omega) _) ?_
        refine r_zeq f101_43 (t := 49) (by decide) (fun q4 => ?_) (fun q4 => ?_)
        · refine r_aload_n f101_49 rfl ?_
          refine r_getR f101_50 o101 F7_35 g264_13 rfl ?_
          refine r_iload_n f101_53 rfl ?_
          refine r_iald f101_54 kd273 (by omega) (by omega) ?_
          refine r_top (e := m 273 x) (zan_f ha (by omega) (by omega) (by omega) _) ?_
          refine r_bipush f101_55 (by decide) ?_
          refine r_cne f101_57 (t := 63) (by decide) (fun q5 => ?_) (fun q5 => ?_)
          · refine r_aload_n f101_63 rfl ?_
            refine r_getR f101_64 o101 F7_38 g264_14 rfl ?_
            refine r_bipush f101_67 (by decide) ?_
            refine r_iload_n f101_69 rfl ?_
            refine r_imul f101_70 (e := 7 * x) (by omega) (by omega) (by omega) ?_
            refine r_aload_n f101_71 rfl ?_
            refine r_getR f101_72 o101 F7_35 g264_13 rfl ?_
            refine r_iload_n f101_75 rfl ?_
            refine r_iald f101_76 kd273 (by omega) (by omega) ?_
            refine r_top (e := m 273 x) (zan_f ha (by omega) (by omega) (by omega) _) ?_
            refine r_iadd f101_77 (e := m 273 x + 7 * x) (by omega) (by omega) (by omega) ?_
            refine r_iload_n f101_78 rfl ?_
            refine r_iast f101_79 kd274 (by omega) (by omega) (by omega) ?_
            refine r_aload_n f101_80 rfl ?_
            refine r_getR f101_81 o101 F7_35 g264_13 rfl ?_
            refine r_iload_n f101_84 rfl ?_
            refine r_dup2 f101_85 ?_
            refine r_iald f101_86 kd273 (by omega) (by omega) ?_
            refine r_top (e := m 273 x) (by rw [zu_if, if_neg (by omega)]; exact zan_f ha (by omega) (by omega) (by omega) _) ?_
            refine r_iconst f101_87 rfl ?_
            refine r_iadd f101_88 (e := m 273 x + 1) (by omega) (by omega) (by omega) ?_
            refine r_iast f101_89 kd273 (by omega) (by omega) (by omega) ?_
            refine r_aload_n f101_90 rfl ?_
            refine r_getR f101_91 o101 F7_35 g264_13 rfl ?_
            refine r_iload_n f101_94 rfl ?_
            refine r_iald f101_95 kd273 (by omega) (by omega) ?_
            refine r_top (e := m 273 x + 1) (by rw [zu_if, if_pos (by omega)]) ?_
            exact r_iret f101_96 v101 ⟨zs_eq (by first | rfl | omega | ((repeat (first | rw [if_pos (by omega)] | rw [if_neg (by omega)])) <;> first | rfl | omega)), (by first | rfl | ((repeat (first | rw [if_pos (by omega)] | rw [if_neg (by omega)])); done) | ((repeat (first | rw [if_pos (by omega)] | rw [if_neg (by omega)])); rfl))⟩
          · refine r_bipush f101_60 (by decide) ?_
            exact r_iret f101_62 v101 ⟨zs_eq (by first | rfl | omega | ((repeat (first | rw [if_pos (by omega)] | rw [if_neg (by omega)])) <;> first | rfl | omega)), (by first | rfl | ((repeat (first | rw [if_pos (by omega)] | rw [if_neg (by omega)])); done) | ((repeat (first | rw [if_pos (by omega)] | rw [if_neg (by omega)])); rfl))⟩
        · refine r_bipush f101_46 (by decide) ?_
          exact r_iret f101_48 v101 ⟨zs_eq (by first | rfl | omega | ((repeat (first | rw [if_pos (by omega)] | rw [if_neg (by omega)])) <;> first | rfl | omega)), (by first | rfl | ((repeat (first | rw [if_pos (by omega)] | rw [if_neg (by omega)])); done) | ((repeat (first | rw [if_pos (by omega)] | rw [if_neg (by omega)])); rfl))⟩
      · refine r_bipush f101_34 (by decide) ?_
        exact r_iret f101_36 v101 ⟨zs_eq (by first | rfl | omega | ((repeat (first | rw [if_pos (by omega)] | rw [if_neg (by omega)])) <;> first | rfl | omega)), (by first | rfl | ((repeat (first | rw [if_pos (by omega)] | rw [if_neg (by omega)])); done) | ((repeat (first | rw [if_pos (by omega)] | rw [if_neg (by omega)])); rfl))⟩
    · refine r_zeq f101_13 (t := 34) (by decide) (fun _ => ?_) (fun h => absurd (by omega) h)
      refine r_bipush f101_34 (by decide) ?_
      exact r_iret f101_36 v101 ⟨zs_eq (by first | rfl | omega | ((repeat (first | rw [if_pos (by omega)] | rw [if_neg (by omega)])) <;> first | rfl | omega)), (by first | rfl | ((repeat (first | rw [if_pos (by omega)] | rw [if_neg (by omega)])); done) | ((repeat (first | rw [if_pos (by omega)] | rw [if_neg (by omega)])); rfl))⟩
  · refine r_zeq f101_5 (t := 34) (by decide) (fun _ => ?_) (fun h => absurd (by omega) h)
    refine r_bipush f101_34 (by decide) ?_
    exact r_iret f101_36 v101 ⟨zs_eq (by first | rfl | omega | ((repeat (first | rw [if_pos (by omega)] | rw [if_neg (by omega)])) <;> first | rfl | omega)), (by first | rfl | ((repeat (first | rw [if_pos (by omega)] | rw [if_neg (by omega)])); done) | ((repeat (first | rw [if_pos (by omega)] | rw [if_neg (by omega)])); rfl))⟩

theorem t_Mlaid {L d : Nat} {m1 m : zmem} (ha : zan m1 m) (k0 : 0 ≤ m 264 10) (k1 : m 264 10 ≤ 40) (hc : ∀ c, 0 ≤ c → c < 40 → (0 ≤ m 272 c ∧ m 272 c ≤ 39) ∧ (0 ≤ m 273 c ∧ m 273 c ≤ 7)) (x y z : Int) : zF L (d + 2) 120 [.inr (.inl (some 264)), .inl x, .inl y, .inl z] m1 (some (.inl (if (0 ≤ x ∧ x < m 264 10) ∧ (0 ≤ y ∧ y < m 273 x) ∧ (0 ≤ z ∧ z ≤ 2) then (if m 276 (7 * x + y) = 0 then 0 else m 277 (21 * x + 3 * y + z)) else -2))) m1 := by
  have hcx := hc x
  refine zF_of n120 (ls := [some (.inr (.inl (some 264))), some (.inl x), some (.inl y), some (.inl z), none]) rfl ?_
  refine r_aload_n f120_0 rfl ?_
  refine r_iload_n f120_1 rfl ?_
  refine r_callv1i (m' := m1) f120_2 o120 M7_125 p88 o88 kd264 rfl (by simp) (tN_isChain ha k0 k1 x) ?_
  refine r_ite (fun q1 => ?_) (fun q1 => ?_)
  · refine r_zeq f120_5 (t := 33) (by decide) (fun h => absurd h (by omega)) (fun _ => ?_)
    refine r_iload_n f120_8 rfl ?_
    refine r_iconst f120_9 rfl ?_
    refine r_aload_n f120_10 rfl ?_
    refine r_getR f120_11 o120 F7_35 g264_13 rfl ?_
    refine r_iload_n f120_14 rfl ?_
    refine r_iald f120_15 kd273 (by omega) (by omega) ?_
    refine r_top (e := m 273 x) (zan_f ha (by omega) (by omega) (by omega) _) ?_
    refine r_iconst f120_16 rfl ?_
    refine r_isub f120_17 (e := m 273 x - 1) (by omega) (by omega) (by omega) ?_
    refine r_calls3i (m' := m1) f120_18 o120 M7_90 (Or.inl rfl) p85 rfl (by simp) (t_in y 0 (m 273 x - 1)) ?_
    refine r_ite (fun q2 => ?_) (fun q2 => ?_)
    · refine r_zeq f120_21 (t := 33) (by decide) (fun h => absurd h (by omega)) (fun _ => ?_)
      refine r_iload_n f120_24 rfl ?_
      refine r_iconst f120_25 rfl ?_
      refine r_iconst f120_26 rfl ?_
      refine r_calls3i (m' := m1) f120_27 o120 M7_90 (Or.inl rfl) p85 rfl (by simp) (t_in z 0 2) ?_
      refine r_ite (fun q3 => ?_) (fun q3 => ?_)
      · refine r_zne f120_30 (t := 36) (by decide) (fun _ => ?_) (fun h => absurd (by omega) h)
        refine r_bipush f120_36 (by decide) ?_
        refine r_iload_n f120_38 rfl ?_
        refine r_imul f120_39 (e := 7 * x) (by omega) (by omega) (by omega) ?_
        refine r_iload_n f120_40 rfl ?_
        refine r_iadd f120_41 (e := 7 * x + y) (by omega) (by omega) (by omega) ?_
        refine r_istore f120_42 rfl (ls' := [some (.inr (.inl (some 264))), some (.inl x), some (.inl y), some (.inl z), some (.inl (7 * x + y))]) rfl ?_
        refine r_aload_n f120_44 rfl ?_
        refine r_getR f120_45 o120 F7_44 g264_16 rfl ?_
        refine r_iload f120_48 rfl ?_
        refine r_bald f120_50 kd276 (by omega) (by omega) ?_
        refine r_top (e := m 276 (7 * x + y)) (zan_f ha (by omega) (by omega) (by omega) _) ?_
        refine r_zeq f120_51 (t := 68) (by decide) (fun q4 => ?_) (fun q4 => ?_)
        · refine r_iconst f120_68 rfl ?_
          exact r_iret f120_69 v120 ⟨zs_eq (by first | rfl | omega | ((repeat (first | rw [if_pos (by omega)] | rw [if_neg (by omega)])) <;> first | rfl | omega)), (by first | rfl | ((repeat (first | rw [if_pos (by omega)] | rw [if_neg (by omega)])); done) | ((repeat (first | rw [if_pos (by omega)] | rw [if_neg (by omega)])); rfl))⟩
        · refine r_aload_n f120_54 rfl ?_
          refine r_getR f120_55 o120 F7_47 g264_17 rfl ?_
          refine r_iconst f120_58 rfl ?_
          refine r_iload f120_59 rfl ?_
          refine r_imul f120_61 (e := 21 * x + 3 * y) (by omega) (by omega) (by omega) ?_
          refine r_iload_n f120_62 rfl ?_
          refine r_iadd f120_63 (e := 21 * x + 3 * y + z) (by omega) (by omega) (by omega) ?_
          refine r_iald f120_64 kd277 (by omega) (by omega) ?_
          refine r_top (e := m 277 (21 * x + 3 * y + z)) (zan_f ha (by omega) (by omega) (by omega) _) ?_
          refine r_goto f120_65 (t := 69) (by decide) ?_
          exact r_iret f120_69 v120 ⟨zs_eq (by first | rfl | omega | ((repeat (first | rw [if_pos (by omega)] | rw [if_neg (by omega)])) <;> first | rfl | omega)), (by first | rfl | ((repeat (first | rw [if_pos (by omega)] | rw [if_neg (by omega)])); done) | ((repeat (first | rw [if_pos (by omega)] | rw [if_neg (by omega)])); rfl))⟩
      · refine r_zne f120_30 (t := 36) (by decide) (fun h => absurd h (by omega)) (fun _ => ?_)
        refine r_bipush f120_33 (by decide) ?_
        exact r_iret f120_35 v120 ⟨zs_eq (by first | rfl | omega | ((repeat (first | rw [if_pos (by omega)] | rw [if_neg (by omega)])) <;> first | rfl | omega)), (by first | rfl | ((repeat (first | rw [if_pos (by omega)] | rw [if_neg (by omega)])); done) | ((repeat (first | rw [if_pos (by omega)] | rw [if_neg (by omega)])); rfl))⟩
    · refine r_zeq f120_21 (t := 33) (by decide) (fun _ => ?_) (fun h => absurd (by omega) h)
      refine r_bipush f120_33 (by decide) ?_
      exact r_iret f120_35 v120 ⟨zs_eq (by first | rfl | omega | ((repeat (first | rw [if_pos (by omega)] | rw [if_neg (by omega)])) <;> first | rfl | omega)), (by first | rfl | ((repeat (first | rw [if_pos (by omega)] | rw [if_neg (by omega)])); done) | ((repeat (first | rw [if_pos (by omega)] | rw [if_neg (by omega)])); rfl))⟩
  · refine r_zeq f120_5 (t := 33) (by decide) (fun _ => ?_) (fun h => absurd (by omega) h)
    refine r_bipush f120_33 (by decide) ?_
    exact r_iret f120_35 v120 ⟨zs_eq (by first | rfl | omega | ((repeat (first | rw [if_pos (by omega)] | rw [if_neg (by omega)])) <;> first | rfl | omega)), (by first | rfl | ((repeat (first | rw [if_pos (by omega)] | rw [if_neg (by omega)])); done) | ((repeat (first | rw [if_pos (by omega)] | rw [if_neg (by omega)])); rfl))⟩

abbrev MLe (m1 m : zmem) (x y z : Int) : zmem := (zu (zu (zu (zu m1 286 (m 264 27) x) 287 (m 264 27) y) 288 (m 264 27) z) 264 27 (m 264 27 + 1))
theorem t_Mletter {L d : Nat} {m1 m : zmem} (ha : zan m1 m) (k0 : 0 ≤ m 264 10) (k1 : m 264 10 ≤ 40) (l0 : 0 ≤ m 264 27) (l1 : m 264 27 ≤ 40) (x y z : Int) : zF L (d + 2) 121 [.inr (.inl (some 264)), .inl x, .inl y, .inl z] m1 (some (.inl (if (0 ≤ x ∧ x < m 264 10) ∧ (0 ≤ y ∧ y ≤ 999) ∧ (y ≤ z ∧ z ≤ 999) then (if ¬ m 275 x = 0 then -3 else if 40 ≤ m 264 27 then -4 else m 264 27 + 1) else -2))) (if (0 ≤ x ∧ x < m 264 10) ∧ (0 ≤ y ∧ y ≤ 999) ∧ (y ≤ z ∧ z ≤ 999) then (if ¬ m 275 x = 0 then m1 else if 40 ≤ m 264 27 then m1 else MLe m1 m x y z) else m1) := by
  refine zF_of n121 (ls := [some (.inr (.inl (some 264))), some (.inl x), some (.inl y), some (.inl z)]) rfl ?_
  refine r_aload_n f121_0 rfl ?_
  refine r_iload_n f121_1 rfl ?_
  refine r_callv1i (m' := m1) f121_2 o121 M7_125 p88 o88 kd264 rfl (by simp) (tN_isChain ha k0 k1 x) ?_
  refine r_ite (fun q1 => ?_) (fun q1 => ?_)
  · refine r_zeq f121_5 (t := 30) (by decide) (fun h => absurd h (by omega)) (fun _ => ?_)
    refine r_iload_n f121_8 rfl ?_
    refine r_iconst f121_9 rfl ?_
    refine r_sipush f121_10 (by decide) ?_
    refine r_calls3i (m' := m1) f121_13 o121 M7_90 (Or.inl rfl) p85 rfl (by simp) (t_in y 0 999) ?_
    refine r_ite (fun q2 => ?_) (fun q2 => ?_)
    · refine r_zeq f121_16 (t := 30) (by decide) (fun h => absurd h (by omega)) (fun _ => ?_)
      refine r_iload_n f121_19 rfl ?_
      refine r_iload_n f121_20 rfl ?_
      refine r_sipush f121_21 (by decide) ?_
      refine r_calls3i (m' := m1) f121_24 o121 M7_90 (Or.inl rfl) p85 rfl (by simp) (t_in z y 999) ?_
      refine r_ite (fun q3 => ?_) (fun q3 => ?_)
      · refine r_zne f121_27 (t := 33) (by decide) (fun _ => ?_) (fun h => absurd (by omega) h)
        refine r_aload_n f121_33 rfl ?_
        refine r_getR f121_34 o121 F7_41 g264_15 rfl ?_
        refine r_iload_n f121_37 rfl ?_
        refine r_iald f121_38 kd275 (by omega) (by omega) ?_
        refine r_top (e := m 275 x) (zan_f ha (by omega) (by omega) (by omega) _) ?_
        refine r_zeq f121_39 (t := 45) (by decide) (fun q4 => ?_) (fun q4 => ?_)
        · refine r_aload_n f121_45 rfl ?_
          refine r_getI f121_46 o121 F7_173 g264_27 rfl ?_
          refine r_top (e := m 264 27) (zan_f ha (by omega) (by omega) (by omega) _) ?_
          refine r_bipush f121_49 (by decide) ?_
          refine r_cne f121_51 (t := 57) (by decide) (fun q5 => ?_) (fun q5 => ?_)
          · refine r_aload_n f121_57 rfl ?_
            refine r_getR f121_58 o121 F7_74 g264_28 rfl ?_
            refine r_aload_n f121_61 rfl ?_
            refine r_getI f121_62 o121 F7_173 g264_27 rfl ?_
            refine r_top (e := m 264 27) (zan_f ha (by omega) (by omega) (by omega) _) ?_
            refine r_iload_n f121_65 rfl ?_
            refine r_iast f121_66 kd286 (by omega) (by omega) (by omega) ?_
            refine r_aload_n f121_67 rfl ?_
            refine r_getR f121_68 o121 F7_77 g264_29 rfl ?_
            refine r_aload_n f121_71 rfl ?_
            refine r_getI f121_72 o121 F7_173 g264_27 rfl ?_
            refine r_top (e := m 264 27) (by rw [zu_if, if_neg (by omega)]; exact zan_f ha (by omega) (by omega) (by omega) _) ?_
            refine r_iload_n f121_75 rfl ?_
            refine r_iast f121_76 kd287 (by omega) (by omega) (by omega) ?_
            refine r_aload_n f121_77 rfl ?_
            refine r_getR f121_78 o121 F7_80 g264_30 rfl ?_
            refine r_aload_n f121_81 rfl ?_
            refine r_getI f121_82 o121 F7_173 g264_27 rfl ?_
            refine r_top (e := m 264 27) (by rw [zu_if, if_neg (by omega), zu_if, if_neg (by omega)]; exact zan_f ha (by omega) (by omega) (by omega) _) ?_
            refine r_iload_n f121_85 rfl ?_
            refine r_iast f121_86 kd288 (by omega) (by omega) (by omega) ?_
            refine r_aload_n f121_87 rfl ?_
            refine r_dupR f121_88 ?_
            refine r_getI f121_89 o121 F7_173 g264_27 rfl ?_
            refine r_top (e := m 264 27) (by rw [zu_if, if_neg (by omega), zu_if, if_neg (by omega), zu_if, if_neg (by omega)]; exact zan_f ha (by omega) (by omega) (by omega) _) ?_
            refine r_iconst f121_92 rfl ?_
            refine r_iadd f121_93 (e := m 264 27 + 1) (by omega) (by omega) (by omega) ?_
            refine r_put f121_94 o121 F7_173 g264_27 rfl T7_27 U7_27 ?_
            refine r_aload_n f121_97 rfl ?_
            refine r_getI f121_98 o121 F7_173 g264_27 rfl ?_
            refine r_top (e := m 264 27 + 1) (by rw [zu_if, if_pos (by omega)]) ?_
            exact r_iret f121_101 v121 ⟨zs_eq (by first | rfl | omega | ((repeat (first | rw [if_pos (by omega)] | rw [if_neg (by omega)])) <;> first | rfl | omega)), (by first | rfl | ((repeat (first | rw [if_pos (by omega)] | rw [if_neg (by omega)])); done) | ((repeat (first | rw [if_pos (by omega)] | rw [if_neg (by omega)])); rfl))⟩
          · refine r_bipush f121_54 (by decide) ?_
            exact r_iret f121_56 v121 ⟨zs_eq (by first | rfl | omega | ((repeat (first | rw [if_pos (by omega)] | rw [if_neg (by omega)])) <;> first | rfl | omega)), (by first | rfl | ((repeat (first | rw [if_pos (by omega)] | rw [if_neg (by omega)])); done) | ((repeat (first | rw [if_pos (by omega)] | rw [if_neg (by omega)])); rfl))⟩
        · refine r_bipush f121_42 (by decide) ?_
          exact r_iret f121_44 v121 ⟨zs_eq (by first | rfl | omega | ((repeat (first | rw [if_pos (by omega)] | rw [if_neg (by omega)])) <;> first | rfl | omega)), (by first | rfl | ((repeat (first | rw [if_pos (by omega)] | rw [if_neg (by omega)])); done) | ((repeat (first | rw [if_pos (by omega)] | rw [if_neg (by omega)])); rfl))⟩
      · refine r_zne f121_27 (t := 33) (by decide) (fun h => absurd h (by omega)) (fun _ => ?_)
        refine r_bipush f121_30 (by decide) ?_
        exact r_iret f121_32 v121 ⟨zs_eq (by first | rfl | omega | ((repeat (first | rw [if_pos (by omega)] | rw [if_neg (by omega)])) <;> first | rfl | omega)), (by first | rfl | ((repeat (first | rw [if_pos (by omega)] | rw [if_neg (by omega)])); done) | ((repeat (first | rw [if_pos (by omega)] | rw [if_neg (by omega)])); rfl))⟩
    · refine r_zeq f121_16 (t := 30) (by decide) (fun _ => ?_) (fun h => absurd (by omega) h)
      refine r_bipush f121_30 (by decide) ?_
      exact r_iret f121_32 v121 ⟨zs_eq (by first | rfl | omega | ((repeat (first | rw [if_pos (by omega)] | rw [if_neg (by omega)])) <;> first | rfl | omega)), (by first | rfl | ((repeat (first | rw [if_pos (by omega)] | rw [if_neg (by omega)])); done) | ((repeat (first | rw [if_pos (by omega)] | rw [if_neg (by omega)])); rfl))⟩
  · refine r_zeq f121_5 (t := 30) (by decide) (fun _ => ?_) (fun h => absurd (by omega) h)
    refine r_bipush f121_30 (by decide) ?_
    exact r_iret f121_32 v121 ⟨zs_eq (by first | rfl | omega | ((repeat (first | rw [if_pos (by omega)] | rw [if_neg (by omega)])) <;> first | rfl | omega)), (by first | rfl | ((repeat (first | rw [if_pos (by omega)] | rw [if_neg (by omega)])); done) | ((repeat (first | rw [if_pos (by omega)] | rw [if_neg (by omega)])); rfl))⟩

abbrev MLi (m1 m : zmem) (x y : Int) : zmem := (zu (zu (zu m1 284 (m 264 24) x) 285 (m 264 24) y) 264 24 (m 264 24 + 1))
theorem t_Mlist {L d : Nat} {m1 m : zmem} (ha : zan m1 m) (p0 : 0 ≤ m 264 24) (p1 : m 264 24 ≤ 20) (x y : Int) : zF L (d + 2) 112 [.inr (.inl (some 264)), .inl x, .inl y] m1 (some (.inl (if (0 ≤ x ∧ x ≤ 39) ∧ (0 ≤ y ∧ y ≤ 100) then (if 20 ≤ m 264 24 then -4 else m 264 24 + 1) else -2))) (if (0 ≤ x ∧ x ≤ 39) ∧ (0 ≤ y ∧ y ≤ 100) then (if 20 ≤ m 264 24 then m1 else MLi m1 m x y) else m1) := by
  refine zF_of n112 (ls := [some (.inr (.inl (some 264))), some (.inl x), some (.inl y)]) rfl ?_
  refine r_iload_n f112_0 rfl ?_
  refine r_iconst f112_1 rfl ?_
  refine r_bipush f112_2 (by decide) ?_
  refine r_calls3i (m' := m1) f112_4 o112 M7_90 (Or.inl rfl) p85 rfl (by simp) (t_in x 0 39) ?_
  refine r_ite (fun q1 => ?_) (fun q1 => ?_)
  · refine r_zeq f112_7 (t := 20) (by decide) (fun h => absurd h (by omega)) (fun _ => ?_)
    refine r_iload_n f112_10 rfl ?_
    refine r_iconst f112_11 rfl ?_
    refine r_bipush f112_12 (by decide) ?_
    refine r_calls3i (m' := m1) f112_14 o112 M7_90 (Or.inl rfl) p85 rfl (by simp) (t_in y 0 100) ?_
    refine r_ite (fun q2 => ?_) (fun q2 => ?_)
    · refine r_zne f112_17 (t := 23) (by decide) (fun _ => ?_) (fun h => absurd (by omega) h)
      refine r_aload_n f112_23 rfl ?_
      refine r_getI f112_24 o112 F7_154 g264_24 rfl ?_
      refine r_top (e := m 264 24) (zan_f ha (by omega) (by omega) (by omega) _) ?_
      refine r_bipush f112_27 (by decide) ?_
      refine r_cne f112_29 (t := 35) (by decide) (fun q3 => ?_) (fun q3 => ?_)
      · refine r_aload_n f112_35 rfl ?_
        refine r_getR f112_36 o112 F7_68 g264_25 rfl ?_
        refine r_aload_n f112_39 rfl ?_
        refine r_getI f112_40 o112 F7_154 g264_24 rfl ?_
        refine r_top (e := m 264 24) (zan_f ha (by omega) (by omega) (by omega) _) ?_
        refine r_iload_n f112_43 rfl ?_
        refine r_iast f112_44 kd284 (by omega) (by omega) (by omega) ?_
        refine r_aload_n f112_45 rfl ?_
        refine r_getR f112_46 o112 F7_71 g264_26 rfl ?_
        refine r_aload_n f112_49 rfl ?_
        refine r_getI f112_50 o112 F7_154 g264_24 rfl ?_
        refine r_top (e := m 264 24) (by rw [zu_if, if_neg (by omega)]; exact zan_f ha (by omega) (by omega) (by omega) _) ?_
        refine r_iload_n f112_53 rfl ?_
        refine r_iast f112_54 kd285 (by omega) (by omega) (by omega) ?_
        refine r_aload_n f112_55 rfl ?_
        refine r_dupR f112_56 ?_
        refine r_getI f112_57 o112 F7_154 g264_24 rfl ?_
        refine r_top (e := m 264 24) (by rw [zu_if, if_neg (by omega), zu_if, if_neg (by omega)]; exact zan_f ha (by omega) (by omega) (by omega) _) ?_
        refine r_iconst f112_60 rfl ?_
        refine r_iadd f112_61 (e := m 264 24 + 1) (by omega) (by omega) (by omega) ?_
        refine r_put f112_62 o112 F7_154 g264_24 rfl T7_24 U7_24 ?_
        refine r_aload_n f112_65 rfl ?_
        refine r_getI f112_66 o112 F7_154 g264_24 rfl ?_
        refine r_top (e := m 264 24 + 1) (by rw [zu_if, if_pos (by omega)]) ?_
        exact r_iret f112_69 v112 ⟨zs_eq (by first | rfl | omega | ((repeat (first | rw [if_pos (by omega)] | rw [if_neg (by omega)])) <;> first | rfl | omega)), (by first | rfl | ((repeat (first | rw [if_pos (by omega)] | rw [if_neg (by omega)])); done) | ((repeat (first | rw [if_pos (by omega)] | rw [if_neg (by omega)])); rfl))⟩
      · refine r_bipush f112_32 (by decide) ?_
        exact r_iret f112_34 v112 ⟨zs_eq (by first | rfl | omega | ((repeat (first | rw [if_pos (by omega)] | rw [if_neg (by omega)])) <;> first | rfl | omega)), (by first | rfl | ((repeat (first | rw [if_pos (by omega)] | rw [if_neg (by omega)])); done) | ((repeat (first | rw [if_pos (by omega)] | rw [if_neg (by omega)])); rfl))⟩
    · refine r_zne f112_17 (t := 23) (by decide) (fun h => absurd h (by omega)) (fun _ => ?_)
      refine r_bipush f112_20 (by decide) ?_
      exact r_iret f112_22 v112 ⟨zs_eq (by first | rfl | omega | ((repeat (first | rw [if_pos (by omega)] | rw [if_neg (by omega)])) <;> first | rfl | omega)), (by first | rfl | ((repeat (first | rw [if_pos (by omega)] | rw [if_neg (by omega)])); done) | ((repeat (first | rw [if_pos (by omega)] | rw [if_neg (by omega)])); rfl))⟩
  · refine r_zeq f112_7 (t := 20) (by decide) (fun _ => ?_) (fun h => absurd (by omega) h)
    refine r_bipush f112_20 (by decide) ?_
    exact r_iret f112_22 v112 ⟨zs_eq (by first | rfl | omega | ((repeat (first | rw [if_pos (by omega)] | rw [if_neg (by omega)])) <;> first | rfl | omega)), (by first | rfl | ((repeat (first | rw [if_pos (by omega)] | rw [if_neg (by omega)])); done) | ((repeat (first | rw [if_pos (by omega)] | rw [if_neg (by omega)])); rfl))⟩

