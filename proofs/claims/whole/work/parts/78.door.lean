theorem t_clearLate {L d : Nat} {m : zmem} (k0 : 0 ≤ m 0 6) (k1 : m 0 6 ≤ 40) {x y w : Int} {X : zmem} (x0 : 0 ≤ x) (x1 : x < 12) (hT : ∀ Q : Option zV → zM → Prop, zR (d + 5) 79 97 [some (.inr (.inl (some 0))), some (.inl x), some (.inl y), some (.inr (.inl (some (3 + 4 * x)))), some (.inl w), none] [] (zem L X) Q → zR (d + 5) 79 21 [some (.inr (.inl (some 0))), some (.inl x), some (.inl y), some (.inr (.inl (some (3 + 4 * x)))), some (.inl 0), some (.inl (m 0 6 - 1))] [] (zem L m) Q) : zF L (d + 5) 79 [.inr (.inl (some 0)), .inl x, .inl y] m (some (.inl w)) X := by
  refine zF_of n79 (ls := [some (.inr (.inl (some 0))), some (.inl x), some (.inl y), none, none, none]) rfl ?_
  refine r_aload_n f79_0 rfl ?_
  refine r_getR f79_1 o79 F6_10 g0_0 rfl ?_
  refine r_getR f79_4 o79 F6_70 g1_0 rfl ?_
  refine r_iload_n f79_7 rfl ?_
  refine r_aldH f79_8 (by omega) (by omega) ?_
  refine r_astore_n f79_9 rfl (ls' := [some (.inr (.inl (some 0))), some (.inl x), some (.inl y), some (.inr (.inl (some (3 + 4 * x)))), none, none]) rfl ?_
  refine r_iconst f79_10 rfl ?_
  refine r_istore f79_11 rfl (ls' := [some (.inr (.inl (some 0))), some (.inl x), some (.inl y), some (.inr (.inl (some (3 + 4 * x)))), some (.inl 0), none]) rfl ?_
  refine r_aload_n f79_13 rfl ?_
  refine r_getI f79_14 o79 F6_101 g0_6 rfl ?_
  refine r_iconst f79_17 rfl ?_
  refine r_isub f79_18 (e := m 0 6 - 1) (by omega) (by omega) (by omega) ?_
  refine r_istore f79_19 rfl (ls' := [some (.inr (.inl (some 0))), some (.inl x), some (.inl y), some (.inr (.inl (some (3 + 4 * x)))), some (.inl 0), some (.inl (m 0 6 - 1))]) rfl ?_
  refine hT _ ?_
  refine r_iload f79_97 rfl ?_
  exact r_iret f79_99 v79 ⟨rfl, rfl⟩

theorem t_Xdoor {L d : Nat} {m : zmem} (n0 : 0 ≤ m 1 1) (n1 : m 1 1 ≤ 12) (w0 : 0 ≤ m 0 7) (w1 : m 0 7 ≤ 39) {x y z w bl : Int} {X W W0 : zmem} (hf : ∀ h k, 0 ≤ h → h < 12 → 0 ≤ k → k < 120 → 0 ≤ m (4 + 4 * h) k ∧ m (4 + 4 * h) k ≤ 9) (hFB : ((0 ≤ x ∧ x < m 1 1) ∧ (1 ≤ y ∧ y ≤ 9) ∧ (0 ≤ z ∧ z ≤ 23)) → (0 ≤ XF m x (m 0 7) ∧ XF m x (m 0 7) ≤ 27) ∧ (0 ≤ bl ∧ bl ≤ 480)) (hBL : ((0 ≤ x ∧ x < m 1 1) ∧ (1 ≤ y ∧ y ≤ 9) ∧ (0 ≤ z ∧ z ≤ 23)) → zF L (d + 5) 78 [.inr (.inl (some 0)), .inl x] m (some (.inl bl)) m) (hF0 : ((0 ≤ x ∧ x < m 1 1) ∧ (1 ≤ y ∧ y ≤ 9) ∧ (0 ≤ z ∧ z ≤ 23)) → m (5 + 4 * x) (m 0 7) = 0 → y ≤ XF m x (m 0 7) → zF L (d + 5) 19 [.inr (.inl (some (3 + 4 * x))), .inl (m 0 7), .inl y, .inr (.inl (some 63)), .inl 0] m none W0) (hR0 : ((0 ≤ x ∧ x < m 1 1) ∧ (1 ≤ y ∧ y ≤ 9) ∧ (0 ≤ z ∧ z ≤ 23)) → m (5 + 4 * x) (m 0 7) = 0 → y ≤ XF m x (m 0 7) → (0 ≤ W0 (3 + 4 * x) 5 ∧ W0 (3 + 4 * x) 5 ≤ 1000) ∧ (0 ≤ W0 0 8 ∧ W0 0 8 ≤ 1000000)) (hC : ((0 ≤ x ∧ x < m 1 1) ∧ (1 ≤ y ∧ y ≤ 9) ∧ (0 ≤ z ∧ z ≤ 23)) → m (5 + 4 * x) (m 0 7) = 0 → ¬ y ≤ XF m x (m 0 7) → ¬ (z < m (3 + 4 * x) 3 ∨ XF m x (m 0 7) + bl < y) → zF L (d + 5) 79 [.inr (.inl (some 0)), .inl x, .inl y] m (some (.inl w)) X) (hF : ((0 ≤ x ∧ x < m 1 1) ∧ (1 ≤ y ∧ y ≤ 9) ∧ (0 ≤ z ∧ z ≤ 23)) → m (5 + 4 * x) (m 0 7) = 0 → ¬ y ≤ XF m x (m 0 7) → ¬ (z < m (3 + 4 * x) 3 ∨ XF m x (m 0 7) + bl < y) → zF L (d + 5) 19 [.inr (.inl (some (3 + 4 * x))), .inl (X 0 7), .inl y, .inr (.inl (some 63)), .inl 0] X none W) (hR : ((0 ≤ x ∧ x < m 1 1) ∧ (1 ≤ y ∧ y ≤ 9) ∧ (0 ≤ z ∧ z ≤ 23)) → m (5 + 4 * x) (m 0 7) = 0 → ¬ y ≤ XF m x (m 0 7) → ¬ (z < m (3 + 4 * x) 3 ∨ XF m x (m 0 7) + bl < y) → (0 ≤ W (3 + 4 * x) 5 ∧ W (3 + 4 * x) 5 ≤ 1000) ∧ (0 ≤ W 0 8 ∧ W 0 8 ≤ 1000000)) : zF L (d + 6) 61 [.inr (.inl (some 0)), .inl x, .inl y, .inl z] m (some (.inl (if ((0 ≤ x ∧ x < m 1 1) ∧ (1 ≤ y ∧ y ≤ 9) ∧ (0 ≤ z ∧ z ≤ 23)) then (if m (5 + 4 * x) (m 0 7) = 0 then (if y ≤ XF m x (m 0 7) then 0 else if (z < m (3 + 4 * x) 3 ∨ XF m x (m 0 7) + bl < y) then -1 else w) else -3) else -2))) (if ((0 ≤ x ∧ x < m 1 1) ∧ (1 ≤ y ∧ y ≤ 9) ∧ (0 ≤ z ∧ z ≤ 23)) then (if m (5 + 4 * x) (m 0 7) = 0 then (if y ≤ XF m x (m 0 7) then zu (zu W0 (3 + 4 * x) 5 (y + W0 (3 + 4 * x) 5)) 0 8 (W0 0 8 + y) else if (z < m (3 + 4 * x) 3 ∨ XF m x (m 0 7) + bl < y) then m else zu (zu W (3 + 4 * x) 5 (y + W (3 + 4 * x) 5)) 0 8 (W 0 8 + y)) else m) else m) := by
  refine zF_of n61 (ls := [some (.inr (.inl (some 0))), some (.inl x), some (.inl y), some (.inl z), none, none]) rfl ?_
  refine r_aload_n f61_0 rfl ?_
  refine r_getR f61_1 o61 F6_10 g0_0 rfl ?_
  refine r_iload_n f61_4 rfl ?_
  refine r_callv1i (m' := m) f61_5 o61 M6_58 p30 o30 kd1 rfl (by simp) (t_hasHouse x n0 n1) ?_
  refine r_ite (fun q1 => ?_) (fun q1 => ?_)
  · refine r_zeq f61_8 (t := 31) (by decide) (fun h => absurd h (by omega)) (fun _ => ?_)
    refine r_iload_n f61_11 rfl ?_
    refine r_iconst f61_12 rfl ?_
    refine r_bipush f61_13 (by decide) ?_
    refine r_calls3i (m' := m) f61_15 o61 M6_50 (Or.inl rfl) p67 rfl (by simp) (t_within y 1 9) ?_
    refine r_ite (fun q2 => ?_) (fun q2 => ?_)
    · refine r_zeq f61_18 (t := 31) (by decide) (fun h => absurd h (by omega)) (fun _ => ?_)
      refine r_iload_n f61_21 rfl ?_
      refine r_iconst f61_22 rfl ?_
      refine r_bipush f61_23 (by decide) ?_
      refine r_calls3i (m' := m) f61_25 o61 M6_50 (Or.inl rfl) p67 rfl (by simp) (t_within z 0 23) ?_
      refine r_ite (fun q3 => ?_) (fun q3 => ?_)
      · refine r_zne f61_28 (t := 34) (by decide) (fun _ => ?_) (fun h => absurd (by omega) h)
        refine r_aload_n f61_34 rfl ?_
        refine r_getR f61_35 o61 F6_10 g0_0 rfl ?_
        refine r_getR f61_38 o61 F6_70 g1_0 rfl ?_
        refine r_iload_n f61_41 rfl ?_
        refine r_aldH f61_42 (by omega) (by omega) ?_
        refine r_astore f61_43 rfl (ls' := [some (.inr (.inl (some 0))), some (.inl x), some (.inl y), some (.inl z), some (.inr (.inl (some (3 + 4 * x)))), none]) rfl ?_
        refine r_aload f61_45 rfl ?_
        refine r_getR f61_47 o61 F6_90 (gH_1 (h := x) (by omega) (by omega)) rfl ?_
        refine r_aload_n f61_50 rfl ?_
        refine r_getI f61_51 o61 F6_94 g0_7 rfl ?_
        refine r_bald f61_54 (kdH2 (h := x) (by omega) (by omega)) (by omega) (by omega) ?_
        refine r_zeq f61_55 (t := 61) (by decide) (fun q4 => ?_) (fun q4 => ?_)
        · refine r_iconst f61_61 rfl ?_
          refine r_istore f61_62 rfl (ls' := [some (.inr (.inl (some 0))), some (.inl x), some (.inl y), some (.inl z), some (.inr (.inl (some (3 + 4 * x)))), some (.inl 0)]) rfl ?_
          refine r_aload f61_64 rfl ?_
          refine r_aload_n f61_66 rfl ?_
          refine r_getI f61_67 o61 F6_94 g0_7 rfl ?_
          refine r_callv1i (m' := m) (v := XF m x (m 0 7)) f61_70 o61 M6_83 p14 o14 (kdH0 (h := x) (by omega) (by omega)) rfl (by simp) (t_freeBeds (h := x) (t := m 0 7) (by omega) (by omega) (by omega) (by omega) (fun k u v => hf x k (by omega) (by omega) u v)) ?_
          refine r_iload_n f61_73 rfl ?_
          refine r_cge f61_74 (t := 115) (by decide) (fun q5 => ?_) (fun q5 => ?_)
          · refine r_aload f61_115 rfl ?_
            refine r_aload_n f61_117 rfl ?_
            refine r_getI f61_118 o61 F6_94 g0_7 rfl ?_
            refine r_iload_n f61_121 rfl ?_
            refine r_aload_n f61_122 rfl ?_
            refine r_getR f61_123 o61 F6_45 g0_5 rfl ?_
            refine r_iconst f61_126 rfl ?_
            refine r_callv4u (m' := W0) f61_127 o61 M6_208 p19 o19 (kdH0 (h := x) (by omega) (by omega)) rfl (by simp) (hF0 (by omega) (by omega) (by omega)) ?_
            have hr := hR0 (by omega) (by omega) (by omega)
            refine r_aload f61_130 rfl ?_
            refine r_dupR f61_132 ?_
            refine r_getI f61_133 o61 F6_212 (gH_5 (h := x) (by omega) (by omega)) rfl ?_
            refine r_iload_n f61_136 rfl ?_
            refine r_iadd f61_137 (e := y + W0 (3 + 4 * x) 5) (by omega) (by omega) (by omega) ?_
            refine r_put f61_138 o61 F6_212 (gH_5 (h := x) (by omega) (by omega)) rfl T1_5 U1_5 ?_
            refine r_aload_n f61_141 rfl ?_
            refine r_dupR f61_142 ?_
            refine r_getI f61_143 o61 F6_215 g0_8 rfl ?_
            refine r_top (e := W0 0 8) (by rw [zu_if, if_neg (by omega)]) ?_
            refine r_iload_n f61_146 rfl ?_
            refine r_iadd f61_147 (e := W0 0 8 + y) (by omega) (by omega) (by omega) ?_
            refine r_put f61_148 o61 F6_215 g0_8 rfl T6_8 U6_8 ?_
            refine r_iload f61_151 rfl ?_
            exact r_iret f61_153 v61 ⟨zs_eq (by first | rfl | omega | ((repeat (first | rw [if_pos (by omega)] | rw [if_neg (by omega)])) <;> first | rfl | omega)), (by first | rfl | ((repeat (first | rw [if_pos (by omega)] | rw [if_neg (by omega)])); done) | ((repeat (first | rw [if_pos (by omega)] | rw [if_neg (by omega)])); rfl))⟩
          · refine r_iload_n f61_77 rfl ?_
            refine r_aload f61_78 rfl ?_
            refine r_getI f61_80 o61 F6_198 (gH_3 (h := x) (by omega) (by omega)) rfl ?_
            refine r_clt f61_83 (t := 105) (by decide) (fun q6 => ?_) (fun q6 => ?_)
            · refine r_iconst f61_105 rfl ?_
              exact r_iret f61_106 v61 ⟨zs_eq (by first | rfl | omega | ((repeat (first | rw [if_pos (by omega)] | rw [if_neg (by omega)])) <;> first | rfl | omega)), (by first | rfl | ((repeat (first | rw [if_pos (by omega)] | rw [if_neg (by omega)])); done) | ((repeat (first | rw [if_pos (by omega)] | rw [if_neg (by omega)])); rfl))⟩
            · have hfb := hFB (by omega)
              refine r_aload f61_86 rfl ?_
              refine r_aload_n f61_88 rfl ?_
              refine r_getI f61_89 o61 F6_94 g0_7 rfl ?_
              refine r_callv1i (m' := m) (v := XF m x (m 0 7)) f61_92 o61 M6_83 p14 o14 (kdH0 (h := x) (by omega) (by omega)) rfl (by simp) (t_freeBeds (h := x) (t := m 0 7) (by omega) (by omega) (by omega) (by omega) (fun k u v => hf x k (by omega) (by omega) u v)) ?_
              refine r_aload_n f61_95 rfl ?_
              refine r_iload_n f61_96 rfl ?_
              refine r_callv1i (m' := m) (v := bl) f61_97 o61 M6_201 p78 o78 kd0 rfl (by simp) (hBL (by omega)) ?_
              refine r_iadd f61_100 (e := XF m x (m 0 7) + bl) (by omega) (by omega) (by omega) ?_
              refine r_iload_n f61_101 rfl ?_
              refine r_cge f61_102 (t := 107) (by decide) (fun q7 => ?_) (fun q7 => ?_)
              · refine r_aload_n f61_107 rfl ?_
                refine r_iload_n f61_108 rfl ?_
                refine r_iload_n f61_109 rfl ?_
                refine r_callv2i (m' := X) (v := w) f61_110 o61 M6_204 p79 o79 kd0 rfl (by simp) (hC (by omega) (by omega) (by omega) (by omega)) ?_
                refine r_istore f61_113 rfl (ls' := [some (.inr (.inl (some 0))), some (.inl x), some (.inl y), some (.inl z), some (.inr (.inl (some (3 + 4 * x)))), some (.inl w)]) rfl ?_
                refine r_aload f61_115 rfl ?_
                refine r_aload_n f61_117 rfl ?_
                refine r_getI f61_118 o61 F6_94 g0_7 rfl ?_
                refine r_iload_n f61_121 rfl ?_
                refine r_aload_n f61_122 rfl ?_
                refine r_getR f61_123 o61 F6_45 g0_5 rfl ?_
                refine r_iconst f61_126 rfl ?_
                refine r_callv4u (m' := W) f61_127 o61 M6_208 p19 o19 (kdH0 (h := x) (by omega) (by omega)) rfl (by simp) (hF (by omega) (by omega) (by omega) (by omega)) ?_
                have hr := hR (by omega) (by omega) (by omega) (by omega)
                refine r_aload f61_130 rfl ?_
                refine r_dupR f61_132 ?_
                refine r_getI f61_133 o61 F6_212 (gH_5 (h := x) (by omega) (by omega)) rfl ?_
                refine r_iload_n f61_136 rfl ?_
                refine r_iadd f61_137 (e := y + W (3 + 4 * x) 5) (by omega) (by omega) (by omega) ?_
                refine r_put f61_138 o61 F6_212 (gH_5 (h := x) (by omega) (by omega)) rfl T1_5 U1_5 ?_
                refine r_aload_n f61_141 rfl ?_
                refine r_dupR f61_142 ?_
                refine r_getI f61_143 o61 F6_215 g0_8 rfl ?_
                refine r_top (e := W 0 8) (by rw [zu_if, if_neg (by omega)]) ?_
                refine r_iload_n f61_146 rfl ?_
                refine r_iadd f61_147 (e := W 0 8 + y) (by omega) (by omega) (by omega) ?_
                refine r_put f61_148 o61 F6_215 g0_8 rfl T6_8 U6_8 ?_
                refine r_iload f61_151 rfl ?_
                exact r_iret f61_153 v61 ⟨zs_eq (by first | rfl | omega | ((repeat (first | rw [if_pos (by omega)] | rw [if_neg (by omega)])) <;> first | rfl | omega)), (by first | rfl | ((repeat (first | rw [if_pos (by omega)] | rw [if_neg (by omega)])); done) | ((repeat (first | rw [if_pos (by omega)] | rw [if_neg (by omega)])); rfl))⟩
              · refine r_iconst f61_105 rfl ?_
                exact r_iret f61_106 v61 ⟨zs_eq (by first | rfl | omega | ((repeat (first | rw [if_pos (by omega)] | rw [if_neg (by omega)])) <;> first | rfl | omega)), (by first | rfl | ((repeat (first | rw [if_pos (by omega)] | rw [if_neg (by omega)])); done) | ((repeat (first | rw [if_pos (by omega)] | rw [if_neg (by omega)])); rfl))⟩
        · refine r_bipush f61_58 (by decide) ?_
          exact r_iret f61_60 v61 ⟨zs_eq (by first | rfl | omega | ((repeat (first | rw [if_pos (by omega)] | rw [if_neg (by omega)])) <;> first | rfl | omega)), (by first | rfl | ((repeat (first | rw [if_pos (by omega)] | rw [if_neg (by omega)])); done) | ((repeat (first | rw [if_pos (by omega)] | rw [if_neg (by omega)])); rfl))⟩
      · refine r_zne f61_28 (t := 34) (by decide) (fun h => absurd h (by omega)) (fun _ => ?_)
        refine r_bipush f61_31 (by decide) ?_
        exact r_iret f61_33 v61 ⟨zs_eq (by first | rfl | omega | ((repeat (first | rw [if_pos (by omega)] | rw [if_neg (by omega)])) <;> first | rfl | omega)), (by first | rfl | ((repeat (first | rw [if_pos (by omega)] | rw [if_neg (by omega)])); done) | ((repeat (first | rw [if_pos (by omega)] | rw [if_neg (by omega)])); rfl))⟩
    · refine r_zeq f61_18 (t := 31) (by decide) (fun _ => ?_) (fun h => absurd (by omega) h)
      refine r_bipush f61_31 (by decide) ?_
      exact r_iret f61_33 v61 ⟨zs_eq (by first | rfl | omega | ((repeat (first | rw [if_pos (by omega)] | rw [if_neg (by omega)])) <;> first | rfl | omega)), (by first | rfl | ((repeat (first | rw [if_pos (by omega)] | rw [if_neg (by omega)])); done) | ((repeat (first | rw [if_pos (by omega)] | rw [if_neg (by omega)])); rfl))⟩
  · refine r_zeq f61_8 (t := 31) (by decide) (fun _ => ?_) (fun h => absurd (by omega) h)
    refine r_bipush f61_31 (by decide) ?_
    exact r_iret f61_33 v61 ⟨zs_eq (by first | rfl | omega | ((repeat (first | rw [if_pos (by omega)] | rw [if_neg (by omega)])) <;> first | rfl | omega)), (by first | rfl | ((repeat (first | rw [if_pos (by omega)] | rw [if_neg (by omega)])); done) | ((repeat (first | rw [if_pos (by omega)] | rw [if_neg (by omega)])); rfl))⟩

abbrev MDf (Y M : zmem) (h t y : Int) : zmem := (zu (zu (zu (zu (MPt Y M h t y) 269 (120 * h + 3 * t) (M 269 (120 * h + 3 * t) + zsh0 (MF M h 0 t) (MF M h 1 t) (MF M h 2 t) y)) 269 (120 * h + 3 * t + 1) (M 269 (120 * h + 3 * t + 1) + zsh1 (MF M h 0 t) (MF M h 1 t) (MF M h 2 t) y)) 269 (120 * h + 3 * t + 2) (M 269 (120 * h + 3 * t + 2) + zsh2 (MF M h 0 t) (MF M h 1 t) (MF M h 2 t) y)) 264 6 (M 264 6 + y))
theorem t_Mdoor {L d : Nat} {m1 m : zmem} (ha : zan m1 m) (n0 : 0 ≤ m 264 0) (n1 : m 264 0 ≤ 12) (hk : MOk m) (hr : MRng m) (w0 : 0 ≤ m 264 9) (w1 : m 264 9 ≤ 39) (c0 : 0 ≤ m 264 10) (c1 : m 264 10 ≤ 40) {T t : Int} {a : zmem} (hs : Sim T a m) {h y z w : Int} {Y M : zmem} (hC : ((0 ≤ h ∧ h < m 264 0) ∧ (1 ≤ y ∧ y ≤ 9) ∧ (0 ≤ z ∧ z ≤ 23)) → m 268 (40 * h + m 264 9) = 0 → ¬ (MO m h (m 264 9) < y ∧ (z < m 266 h ∨ MO m h (m 264 9) + zsum (MZf m h) (m 264 10) < y)) → ∀ Q : Option zV → zM → Prop, zR (d + 4) 125 205 [some (.inr (.inl (some 264))), some (.inl h), some (.inl y), some (.inl z), none, none, some (.inl w), none] [] (zem L Y) Q → zR (d + 4) 125 145 [some (.inr (.inl (some 264))), some (.inl h), some (.inl y), some (.inl z), some (.inl (MO m h (m 264 9))), some (.inl (MO m h (m 264 9) + zsum (MZf m h) (m 264 10))), some (.inl 0), some (.inl (m 264 10 - 1))] [] (zem L m1) Q) (hY : ((0 ≤ h ∧ h < m 264 0) ∧ (1 ≤ y ∧ y ≤ 9) ∧ (0 ≤ z ∧ z ≤ 23)) → m 268 (40 * h + m 264 9) = 0 → ¬ (MO m h (m 264 9) < y ∧ (z < m 266 h ∨ MO m h (m 264 9) + zsum (MZf m h) (m 264 10) < y)) → zan Y M ∧ M 264 9 = t ∧ (0 ≤ t ∧ t < 40) ∧ MOk M ∧ MRng M ∧ (h < M 264 0 ∧ (0 ≤ M 264 6 ∧ M 264 6 ≤ 1000000)) ∧ y ≤ MF M h 0 t + MF M h 1 t + MF M h 2 t) : zF L (d + 4) 125 [.inr (.inl (some 264)), .inl h, .inl y, .inl z] m1 (some (.inl (if ((0 ≤ h ∧ h < m 264 0) ∧ (1 ≤ y ∧ y ≤ 9) ∧ (0 ≤ z ∧ z ≤ 23)) then (if m 268 (40 * h + m 264 9) = 0 then (if (MO m h (m 264 9) < y ∧ (z < m 266 h ∨ MO m h (m 264 9) + zsum (MZf m h) (m 264 10) < y)) then -1 else w) else -3) else -2))) (if ((0 ≤ h ∧ h < m 264 0) ∧ (1 ≤ y ∧ y ≤ 9) ∧ (0 ≤ z ∧ z ≤ 23)) then (if m 268 (40 * h + m 264 9) = 0 then (if (MO m h (m 264 9) < y ∧ (z < m 266 h ∨ MO m h (m 264 9) + zsum (MZf m h) (m 264 10) < y)) then m1 else MDf Y M h t y) else m1) else m1) := by
  refine zF_of n125 (ls := [some (.inr (.inl (some 264))), some (.inl h), some (.inl y), some (.inl z), none, none, none, none]) rfl ?_
  refine r_aload_n f125_0 rfl ?_
  refine r_iload_n f125_1 rfl ?_
  refine r_callv1i (m' := m1) f125_2 o125 M7_97 p86 o86 kd264 rfl (by simp) (tN_isHouse ha n0 n1 h) ?_
  refine r_ite (fun q1 => ?_) (fun q1 => ?_)
  · refine r_zeq f125_5 (t := 28) (by decide) (fun h => absurd h (by omega)) (fun _ => ?_)
    refine r_iload_n f125_8 rfl ?_
    refine r_iconst f125_9 rfl ?_
    refine r_bipush f125_10 (by decide) ?_
    refine r_calls3i (m' := m1) f125_12 o125 M7_90 (Or.inl rfl) p85 rfl (by simp) (t_in y 1 9) ?_
    refine r_ite (fun q2 => ?_) (fun q2 => ?_)
    · refine r_zeq f125_15 (t := 28) (by decide) (fun h => absurd h (by omega)) (fun _ => ?_)
      refine r_iload_n f125_18 rfl ?_
      refine r_iconst f125_19 rfl ?_
      refine r_bipush f125_20 (by decide) ?_
      refine r_calls3i (m' := m1) f125_22 o125 M7_90 (Or.inl rfl) p85 rfl (by simp) (t_in z 0 23) ?_
      refine r_ite (fun q3 => ?_) (fun q3 => ?_)
      · refine r_zne f125_25 (t := 31) (by decide) (fun _ => ?_) (fun h => absurd (by omega) h)
        refine r_aload_n f125_31 rfl ?_
        refine r_getR f125_32 o125 F7_19 g264_4 rfl ?_
        refine r_bipush f125_35 (by decide) ?_
        refine r_iload_n f125_37 rfl ?_
        refine r_imul f125_38 (e := 40 * h) (by omega) (by omega) (by omega) ?_
        refine r_aload_n f125_39 rfl ?_
        refine r_getI f125_40 o125 F7_122 g264_9 rfl ?_
        refine r_top (e := m 264 9) (zan_f ha (by omega) (by omega) (by omega) _) ?_
        refine r_iadd f125_43 (e := 40 * h + m 264 9) (by omega) (by omega) (by omega) ?_
        refine r_bald f125_44 kd268 (by omega) (by omega) ?_
        refine r_top (e := m 268 (40 * h + m 264 9)) (zan_f ha (by omega) (by omega) (by omega) _) ?_
        refine r_zeq f125_45 (t := 51) (by decide) (fun q4 => ?_) (fun q4 => ?_)
        · refine r_aload_n f125_51 rfl ?_
          refine r_iload_n f125_52 rfl ?_
          refine r_aload_n f125_53 rfl ?_
          refine r_getI f125_54 o125 F7_122 g264_9 rfl ?_
          refine r_top (e := m 264 9) (zan_f ha (by omega) (by omega) (by omega) _) ?_
          have hr0 := hr h 0 (m 264 9) (by omega) (by omega) (by omega) (by omega) (by omega) (by omega)
          have hr1 := hr h 1 (m 264 9) (by omega) (by omega) (by omega) (by omega) (by omega) (by omega)
          have hr2 := hr h 2 (m 264 9) (by omega) (by omega) (by omega) (by omega) (by omega) (by omega)
          refine r_callv2i (m' := m1) (v := MO m h (m 264 9)) f125_57 o125 M7_115 p94 o94 kd264 rfl (by simp) (t_freeOf ha hk (h := h) (t := m 264 9) (by omega) (by omega) (by omega) (by omega) hr0.1 hr0.2 hr1.1 hr1.2 hr2.1 hr2.2) ?_
          refine r_istore f125_60 rfl (ls' := [some (.inr (.inl (some 264))), some (.inl h), some (.inl y), some (.inl z), some (.inl (MO m h (m 264 9))), none, none, none]) rfl ?_
          refine r_iload f125_62 rfl ?_
          refine r_istore f125_64 rfl (ls' := [some (.inr (.inl (some 264))), some (.inl h), some (.inl y), some (.inl z), some (.inl (MO m h (m 264 9))), some (.inl (MO m h (m 264 9))), none, none]) rfl ?_
          refine r_iconst f125_66 rfl ?_
          refine r_istore f125_67 rfl (ls' := [some (.inr (.inl (some 264))), some (.inl h), some (.inl y), some (.inl z), some (.inl (MO m h (m 264 9))), some (.inl (MO m h (m 264 9))), some (.inl 0), none]) rfl ?_
          have rb : 0 ≤ MO m h (m 264 9) ∧ MO m h (m 264 9) ≤ 27 := by unfold MO; omega
          refine r_setI (k := 5) (a := MO m h (m 264 9)) (e := MO m h (m 264 9) + zsum (MZf m h) 0) (by rw [zsum_0]; omega) rfl (ls' := [some (.inr (.inl (some 264))), some (.inl h), some (.inl y), some (.inl z), some (.inl (MO m h (m 264 9))), some (.inl (MO m h (m 264 9) + zsum (MZf m h) 0)), some (.inl 0), none]) rfl ?_
          refine l_could (m := a) (b := m) hs ha (by omega) (by omega) ?_ (m 264 10).toNat 0 (by omega) (by omega)
          have zb := zsum_b (f := MZf m h) (A := 0) (B := 12) (n := m 264 10) (by omega) (fun k k0 k1 => MZf_b hs (by omega) (by omega))
          refine r_iload f125_110 rfl ?_
          refine r_iload_n f125_112 rfl ?_
          refine r_cge f125_113 (t := 134) (by decide) (fun q5 => ?_) (fun q5 => ?_)
          · refine r_iconst f125_134 rfl ?_
            refine r_istore f125_135 rfl (ls' := [some (.inr (.inl (some 264))), some (.inl h), some (.inl y), some (.inl z), some (.inl (MO m h (m 264 9))), some (.inl (MO m h (m 264 9) + zsum (MZf m h) (m 264 10))), some (.inl 0), none]) rfl ?_
            refine r_aload_n f125_137 rfl ?_
            refine r_getI f125_138 o125 F7_94 g264_10 rfl ?_
            refine r_top (e := m 264 10) (zan_f ha (by omega) (by omega) (by omega) _) ?_
            refine r_iconst f125_141 rfl ?_
            refine r_isub f125_142 (e := m 264 10 - 1) (by omega) (by omega) (by omega) ?_
            refine r_istore f125_143 rfl (ls' := [some (.inr (.inl (some 264))), some (.inl h), some (.inl y), some (.inl z), some (.inl (MO m h (m 264 9))), some (.inl (MO m h (m 264 9) + zsum (MZf m h) (m 264 10))), some (.inl 0), some (.inl (m 264 10 - 1))]) rfl ?_
            refine hC (by omega) (by omega) (by omega) _ ?_
            obtain ⟨hy, ht, htr, mok, mrg, h264, myb⟩ := hY (by omega) (by omega) (by omega)
            have mr0 := mrg h 0 t (by omega) (by omega) (by omega) (by omega) (by omega) (by omega)
            have mr1 := mrg h 1 t (by omega) (by omega) (by omega) (by omega) (by omega) (by omega)
            have mr2 := mrg h 2 t (by omega) (by omega) (by omega) (by omega) (by omega) (by omega)
            have hyp : zan (MPt Y M h t y) M := zan_u (zan_u (zan_u hy (by omega)) (by omega)) (by omega)
            have md0 := MF_d mok (h := h) (e := 0) (t := t) (by omega) (by omega) (by omega) (by omega) (by omega) (by omega)
            have md1 := MF_d mok (h := h) (e := 1) (t := t) (by omega) (by omega) (by omega) (by omega) (by omega) (by omega)
            have md2 := MF_d mok (h := h) (e := 2) (t := t) (by omega) (by omega) (by omega) (by omega) (by omega) (by omega)
            rw [show 120 * h + 3 * t + 0 = 120 * h + 3 * t by omega] at md0
            have mk0 := mok.2.2.2.2.2 (120 * h + 3 * t) (by omega) (by omega)
            have mk1 := mok.2.2.2.2.2 (120 * h + 3 * t + 1) (by omega) (by omega)
            have mk2 := mok.2.2.2.2.2 (120 * h + 3 * t + 2) (by omega) (by omega)
            have zz := zsh_ok mr0.1 mr1.1 mr2.1 (n := y) (by omega) myb
            refine r_aload_n f125_205 rfl ?_
            refine r_iload_n f125_206 rfl ?_
            refine r_aload_n f125_207 rfl ?_
            refine r_getI f125_208 o125 F7_122 g264_9 rfl ?_
            refine r_top (e := t) (by (repeat (first | rw [zu_ne (by omega)])); exact (zan_f hy (by omega) (by omega) (by omega) _).trans ht) ?_
            refine r_iload_n f125_211 rfl ?_
            refine r_callv3u (m' := MPt Y M h t y) f125_212 o125 M7_118 p97 o97 kd264 rfl (by simp) (t_parts hy mok (h := h) (t := t) (n := y) (by omega) (by omega) (by omega) (by omega) mr0.1 mr0.2 mr1.1 mr1.2 mr2.1 mr2.2 (by omega) myb) ?_
            refine r_iconst f125_215 rfl ?_
            refine r_istore f125_216 rfl (ls' := [some (.inr (.inl (some 264))), some (.inl h), some (.inl y), some (.inl z), none, none, some (.inl w), some (.inl 0)]) rfl ?_
            refine r_iload f125_218 rfl ?_
            refine r_iconst f125_220 rfl ?_
            refine r_cge f125_221 (t := 259) (by decide) (fun h => absurd h (by omega)) (fun _ => ?_)
            refine r_aload_n f125_224 rfl ?_
            refine r_getR f125_225 o125 F7_23 g264_5 rfl ?_
            refine r_bipush f125_228 (by decide) ?_
            refine r_iload_n f125_230 rfl ?_
            refine r_imul f125_231 (e := 120 * h) (by omega) (by omega) (by omega) ?_
            refine r_iconst f125_232 rfl ?_
            refine r_aload_n f125_233 rfl ?_
            refine r_getI f125_234 o125 F7_122 g264_9 rfl ?_
            refine r_top (e := t) (by (repeat (first | rw [zu_ne (by omega)])); exact (zan_f hyp (by omega) (by omega) (by omega) _).trans ht) ?_
            refine r_imul f125_237 (e := 3 * t) (by omega) (by omega) (by omega) ?_
            refine r_iadd f125_238 (e := 120 * h + 3 * t) (by omega) (by omega) (by omega) ?_
            refine r_iload f125_239 rfl ?_
            refine r_iadd f125_241 (e := 120 * h + 3 * t) (by omega) (by omega) (by omega) ?_
            refine r_dup2 f125_242 ?_
            refine r_iald f125_243 kd269 (by omega) (by omega) ?_
            refine r_top (e := M 269 (120 * h + 3 * t)) (by exact zan_f hyp (by omega) (by omega) (by omega) _) ?_
            refine r_aload_n f125_244 rfl ?_
            refine r_getR f125_245 o125 F7_59 g264_21 rfl ?_
            refine r_iload f125_248 rfl ?_
            refine r_iald f125_250 kd281 (by omega) (by omega) ?_
            refine r_top (e := zsh0 (MF M h 0 t) (MF M h 1 t) (MF M h 2 t) y) (by unfold MPt; (repeat (first | rw [zu_ne (by omega)] | rw [zu_ne2 (by omega)] | rw [zu_if, if_pos (by omega)]))) ?_
            refine r_iadd f125_251 (e := M 269 (120 * h + 3 * t) + zsh0 (MF M h 0 t) (MF M h 1 t) (MF M h 2 t) y) (by omega) (by omega) (by omega) ?_
            refine r_iast f125_252 kd269 (by omega) (by omega) (by omega) ?_
            refine r_iinc f125_253 rfl rfl rfl (e := 1) (by omega) (by omega) (by omega) (ls' := [some (.inr (.inl (some 264))), some (.inl h), some (.inl y), some (.inl z), none, none, some (.inl w), some (.inl 1)]) rfl ?_
            refine r_goto f125_256 (t := 218) (by decide) ?_
            refine r_iload f125_218 rfl ?_
            refine r_iconst f125_220 rfl ?_
            refine r_cge f125_221 (t := 259) (by decide) (fun h => absurd h (by omega)) (fun _ => ?_)
            refine r_aload_n f125_224 rfl ?_
            refine r_getR f125_225 o125 F7_23 g264_5 rfl ?_
            refine r_bipush f125_228 (by decide) ?_
            refine r_iload_n f125_230 rfl ?_
            refine r_imul f125_231 (e := 120 * h) (by omega) (by omega) (by omega) ?_
            refine r_iconst f125_232 rfl ?_
            refine r_aload_n f125_233 rfl ?_
            refine r_getI f125_234 o125 F7_122 g264_9 rfl ?_
            refine r_top (e := t) (by (repeat (first | rw [zu_ne (by omega)])); exact (zan_f hyp (by omega) (by omega) (by omega) _).trans ht) ?_
            refine r_imul f125_237 (e := 3 * t) (by omega) (by omega) (by omega) ?_
            refine r_iadd f125_238 (e := 120 * h + 3 * t) (by omega) (by omega) (by omega) ?_
            refine r_iload f125_239 rfl ?_
            refine r_iadd f125_241 (e := 120 * h + 3 * t + 1) (by omega) (by omega) (by omega) ?_
            refine r_dup2 f125_242 ?_
            refine r_iald f125_243 kd269 (by omega) (by omega) ?_
            refine r_top (e := M 269 (120 * h + 3 * t + 1)) (by rw [zu_if, if_neg (by omega)]; exact zan_f hyp (by omega) (by omega) (by omega) _) ?_
            refine r_aload_n f125_244 rfl ?_
            refine r_getR f125_245 o125 F7_59 g264_21 rfl ?_
            refine r_iload f125_248 rfl ?_
            refine r_iald f125_250 kd281 (by omega) (by omega) ?_
            refine r_top (e := zsh1 (MF M h 0 t) (MF M h 1 t) (MF M h 2 t) y) (by rw [zu_ne (by omega)]; unfold MPt; (repeat (first | rw [zu_ne (by omega)] | rw [zu_ne2 (by omega)] | rw [zu_if, if_pos (by omega)]))) ?_
            refine r_iadd f125_251 (e := M 269 (120 * h + 3 * t + 1) + zsh1 (MF M h 0 t) (MF M h 1 t) (MF M h 2 t) y) (by omega) (by omega) (by omega) ?_
            refine r_iast f125_252 kd269 (by omega) (by omega) (by omega) ?_
            refine r_iinc f125_253 rfl rfl rfl (e := 2) (by omega) (by omega) (by omega) (ls' := [some (.inr (.inl (some 264))), some (.inl h), some (.inl y), some (.inl z), none, none, some (.inl w), some (.inl 2)]) rfl ?_
            refine r_goto f125_256 (t := 218) (by decide) ?_
            refine r_iload f125_218 rfl ?_
            refine r_iconst f125_220 rfl ?_
            refine r_cge f125_221 (t := 259) (by decide) (fun h => absurd h (by omega)) (fun _ => ?_)
            refine r_aload_n f125_224 rfl ?_
            refine r_getR f125_225 o125 F7_23 g264_5 rfl ?_
            refine r_bipush f125_228 (by decide) ?_
            refine r_iload_n f125_230 rfl ?_
            refine r_imul f125_231 (e := 120 * h) (by omega) (by omega) (by omega) ?_
            refine r_iconst f125_232 rfl ?_
            refine r_aload_n f125_233 rfl ?_
            refine r_getI f125_234 o125 F7_122 g264_9 rfl ?_
            refine r_top (e := t) (by (repeat (first | rw [zu_ne (by omega)])); exact (zan_f hyp (by omega) (by omega) (by omega) _).trans ht) ?_
            refine r_imul f125_237 (e := 3 * t) (by omega) (by omega) (by omega) ?_
            refine r_iadd f125_238 (e := 120 * h + 3 * t) (by omega) (by omega) (by omega) ?_
            refine r_iload f125_239 rfl ?_
            refine r_iadd f125_241 (e := 120 * h + 3 * t + 2) (by omega) (by omega) (by omega) ?_
            refine r_dup2 f125_242 ?_
            refine r_iald f125_243 kd269 (by omega) (by omega) ?_
            refine r_top (e := M 269 (120 * h + 3 * t + 2)) (by rw [zu_if, if_neg (by omega), zu_if, if_neg (by omega)]; exact zan_f hyp (by omega) (by omega) (by omega) _) ?_
            refine r_aload_n f125_244 rfl ?_
            refine r_getR f125_245 o125 F7_59 g264_21 rfl ?_
            refine r_iload f125_248 rfl ?_
            refine r_iald f125_250 kd281 (by omega) (by omega) ?_
            refine r_top (e := zsh2 (MF M h 0 t) (MF M h 1 t) (MF M h 2 t) y) (by rw [zu_ne (by omega), zu_ne (by omega)]; unfold MPt; (repeat (first | rw [zu_ne (by omega)] | rw [zu_ne2 (by omega)] | rw [zu_if, if_pos (by omega)]))) ?_
            refine r_iadd f125_251 (e := M 269 (120 * h + 3 * t + 2) + zsh2 (MF M h 0 t) (MF M h 1 t) (MF M h 2 t) y) (by omega) (by omega) (by omega) ?_
            refine r_iast f125_252 kd269 (by omega) (by omega) (by omega) ?_
            refine r_iinc f125_253 rfl rfl rfl (e := 3) (by omega) (by omega) (by omega) (ls' := [some (.inr (.inl (some 264))), some (.inl h), some (.inl y), some (.inl z), none, none, some (.inl w), some (.inl 3)]) rfl ?_
            refine r_goto f125_256 (t := 218) (by decide) ?_
            refine r_iload f125_218 rfl ?_
            refine r_iconst f125_220 rfl ?_
            refine r_cge f125_221 (t := 259) (by decide) (fun _ => ?_) (fun h => absurd (by omega) h)
            refine r_aload_n f125_259 rfl ?_
            refine r_dupR f125_260 ?_
            refine r_getI f125_261 o125 F7_179 g264_6 rfl ?_
            refine r_top (e := M 264 6) (by rw [zu_if, if_neg (by omega), zu_if, if_neg (by omega), zu_if, if_neg (by omega)]; exact zan_f hyp (by omega) (by omega) (by omega) _) ?_
            refine r_iload_n f125_264 rfl ?_
            refine r_iadd f125_265 (e := M 264 6 + y) (by omega) (by omega) (by omega) ?_
            refine r_put f125_266 o125 F7_179 g264_6 rfl T7_6 U7_6 ?_
            refine r_iload f125_269 rfl ?_
            exact r_iret f125_271 v125 ⟨zs_eq (by first | rfl | omega | ((repeat (first | rw [if_pos (by omega)] | rw [if_neg (by omega)])) <;> first | rfl | omega)), (by first | rfl | ((repeat (first | rw [if_pos (by omega)] | rw [if_neg (by omega)])); done) | ((repeat (first | rw [if_pos (by omega)] | rw [if_neg (by omega)])); rfl))⟩
          · refine r_iload_n f125_116 rfl ?_
            refine r_aload_n f125_117 rfl ?_
            refine r_getR f125_118 o125 F7_13 g264_2 rfl ?_
            refine r_iload_n f125_121 rfl ?_
            refine r_iald f125_122 kd266 (by omega) (by omega) ?_
            refine r_top (e := m 266 h) (zan_f ha (by omega) (by omega) (by omega) _) ?_
            refine r_clt f125_123 (t := 132) (by decide) (fun q6 => ?_) (fun q6 => ?_)
            · refine r_iconst f125_132 rfl ?_
              exact r_iret f125_133 v125 ⟨zs_eq (by first | rfl | omega | ((repeat (first | rw [if_pos (by omega)] | rw [if_neg (by omega)])) <;> first | rfl | omega)), (by first | rfl | ((repeat (first | rw [if_pos (by omega)] | rw [if_neg (by omega)])); done) | ((repeat (first | rw [if_pos (by omega)] | rw [if_neg (by omega)])); rfl))⟩
            · refine r_iload f125_126 rfl ?_
              refine r_iload_n f125_128 rfl ?_
              refine r_cge f125_129 (t := 134) (by decide) (fun q7 => ?_) (fun q7 => ?_)
              · refine r_iconst f125_134 rfl ?_
                refine r_istore f125_135 rfl (ls' := [some (.inr (.inl (some 264))), some (.inl h), some (.inl y), some (.inl z), some (.inl (MO m h (m 264 9))), some (.inl (MO m h (m 264 9) + zsum (MZf m h) (m 264 10))), some (.inl 0), none]) rfl ?_
                refine r_aload_n f125_137 rfl ?_
                refine r_getI f125_138 o125 F7_94 g264_10 rfl ?_
                refine r_top (e := m 264 10) (zan_f ha (by omega) (by omega) (by omega) _) ?_
                refine r_iconst f125_141 rfl ?_
                refine r_isub f125_142 (e := m 264 10 - 1) (by omega) (by omega) (by omega) ?_
                refine r_istore f125_143 rfl (ls' := [some (.inr (.inl (some 264))), some (.inl h), some (.inl y), some (.inl z), some (.inl (MO m h (m 264 9))), some (.inl (MO m h (m 264 9) + zsum (MZf m h) (m 264 10))), some (.inl 0), some (.inl (m 264 10 - 1))]) rfl ?_
                refine hC (by omega) (by omega) (by omega) _ ?_
                obtain ⟨hy, ht, htr, mok, mrg, h264, myb⟩ := hY (by omega) (by omega) (by omega)
                have mr0 := mrg h 0 t (by omega) (by omega) (by omega) (by omega) (by omega) (by omega)
                have mr1 := mrg h 1 t (by omega) (by omega) (by omega) (by omega) (by omega) (by omega)
                have mr2 := mrg h 2 t (by omega) (by omega) (by omega) (by omega) (by omega) (by omega)
                have hyp : zan (MPt Y M h t y) M := zan_u (zan_u (zan_u hy (by omega)) (by omega)) (by omega)
                have md0 := MF_d mok (h := h) (e := 0) (t := t) (by omega) (by omega) (by omega) (by omega) (by omega) (by omega)
                have md1 := MF_d mok (h := h) (e := 1) (t := t) (by omega) (by omega) (by omega) (by omega) (by omega) (by omega)
                have md2 := MF_d mok (h := h) (e := 2) (t := t) (by omega) (by omega) (by omega) (by omega) (by omega) (by omega)
                rw [show 120 * h + 3 * t + 0 = 120 * h + 3 * t by omega] at md0
                have mk0 := mok.2.2.2.2.2 (120 * h + 3 * t) (by omega) (by omega)
                have mk1 := mok.2.2.2.2.2 (120 * h + 3 * t + 1) (by omega) (by omega)
                have mk2 := mok.2.2.2.2.2 (120 * h + 3 * t + 2) (by omega) (by omega)
                have zz := zsh_ok mr0.1 mr1.1 mr2.1 (n := y) (by omega) myb
                refine r_aload_n f125_205 rfl ?_
                refine r_iload_n f125_206 rfl ?_
                refine r_aload_n f125_207 rfl ?_
                refine r_getI f125_208 o125 F7_122 g264_9 rfl ?_
                refine r_top (e := t) (by (repeat (first | rw [zu_ne (by omega)])); exact (zan_f hy (by omega) (by omega) (by omega) _).trans ht) ?_
                refine r_iload_n f125_211 rfl ?_
                refine r_callv3u (m' := MPt Y M h t y) f125_212 o125 M7_118 p97 o97 kd264 rfl (by simp) (t_parts hy mok (h := h) (t := t) (n := y) (by omega) (by omega) (by omega) (by omega) mr0.1 mr0.2 mr1.1 mr1.2 mr2.1 mr2.2 (by omega) myb) ?_
                refine r_iconst f125_215 rfl ?_
                refine r_istore f125_216 rfl (ls' := [some (.inr (.inl (some 264))), some (.inl h), some (.inl y), some (.inl z), none, none, some (.inl w), some (.inl 0)]) rfl ?_
                refine r_iload f125_218 rfl ?_
                refine r_iconst f125_220 rfl ?_
                refine r_cge f125_221 (t := 259) (by decide) (fun h => absurd h (by omega)) (fun _ => ?_)
                refine r_aload_n f125_224 rfl ?_
                refine r_getR f125_225 o125 F7_23 g264_5 rfl ?_
                refine r_bipush f125_228 (by decide) ?_
                refine r_iload_n f125_230 rfl ?_
                refine r_imul f125_231 (e := 120 * h) (by omega) (by omega) (by omega) ?_
                refine r_iconst f125_232 rfl ?_
                refine r_aload_n f125_233 rfl ?_
                refine r_getI f125_234 o125 F7_122 g264_9 rfl ?_
                refine r_top (e := t) (by (repeat (first | rw [zu_ne (by omega)])); exact (zan_f hyp (by omega) (by omega) (by omega) _).trans ht) ?_
                refine r_imul f125_237 (e := 3 * t) (by omega) (by omega) (by omega) ?_
                refine r_iadd f125_238 (e := 120 * h + 3 * t) (by omega) (by omega) (by omega) ?_
                refine r_iload f125_239 rfl ?_
                refine r_iadd f125_241 (e := 120 * h + 3 * t) (by omega) (by omega) (by omega) ?_
                refine r_dup2 f125_242 ?_
                refine r_iald f125_243 kd269 (by omega) (by omega) ?_
                refine r_top (e := M 269 (120 * h + 3 * t)) (by exact zan_f hyp (by omega) (by omega) (by omega) _) ?_
                refine r_aload_n f125_244 rfl ?_
                refine r_getR f125_245 o125 F7_59 g264_21 rfl ?_
                refine r_iload f125_248 rfl ?_
                refine r_iald f125_250 kd281 (by omega) (by omega) ?_
                refine r_top (e := zsh0 (MF M h 0 t) (MF M h 1 t) (MF M h 2 t) y) (by unfold MPt; (repeat (first | rw [zu_ne (by omega)] | rw [zu_ne2 (by omega)] | rw [zu_if, if_pos (by omega)]))) ?_
                refine r_iadd f125_251 (e := M 269 (120 * h + 3 * t) + zsh0 (MF M h 0 t) (MF M h 1 t) (MF M h 2 t) y) (by omega) (by omega) (by omega) ?_
                refine r_iast f125_252 kd269 (by omega) (by omega) (by omega) ?_
                refine r_iinc f125_253 rfl rfl rfl (e := 1) (by omega) (by omega) (by omega) (ls' := [some (.inr (.inl (some 264))), some (.inl h), some (.inl y), some (.inl z), none, none, some (.inl w), some (.inl 1)]) rfl ?_
                refine r_goto f125_256 (t := 218) (by decide) ?_
                refine r_iload f125_218 rfl ?_
                refine r_iconst f125_220 rfl ?_
                refine r_cge f125_221 (t := 259) (by decide) (fun h => absurd h (by omega)) (fun _ => ?_)
                refine r_aload_n f125_224 rfl ?_
                refine r_getR f125_225 o125 F7_23 g264_5 rfl ?_
                refine r_bipush f125_228 (by decide) ?_
                refine r_iload_n f125_230 rfl ?_
                refine r_imul f125_231 (e := 120 * h) (by omega) (by omega) (by omega) ?_
                refine r_iconst f125_232 rfl ?_
                refine r_aload_n f125_233 rfl ?_
                refine r_getI f125_234 o125 F7_122 g264_9 rfl ?_
                refine r_top (e := t) (by (repeat (first | rw [zu_ne (by omega)])); exact (zan_f hyp (by omega) (by omega) (by omega) _).trans ht) ?_
                refine r_imul f125_237 (e := 3 * t) (by omega) (by omega) (by omega) ?_
                refine r_iadd f125_238 (e := 120 * h + 3 * t) (by omega) (by omega) (by omega) ?_
                refine r_iload f125_239 rfl ?_
                refine r_iadd f125_241 (e := 120 * h + 3 * t + 1) (by omega) (by omega) (by omega) ?_
                refine r_dup2 f125_242 ?_
                refine r_iald f125_243 kd269 (by omega) (by omega) ?_
                refine r_top (e := M 269 (120 * h + 3 * t + 1)) (by rw [zu_if, if_neg (by omega)]; exact zan_f hyp (by omega) (by omega) (by omega) _) ?_
                refine r_aload_n f125_244 rfl ?_
                refine r_getR f125_245 o125 F7_59 g264_21 rfl ?_
                refine r_iload f125_248 rfl ?_
                refine r_iald f125_250 kd281 (by omega) (by omega) ?_
                refine r_top (e := zsh1 (MF M h 0 t) (MF M h 1 t) (MF M h 2 t) y) (by rw [zu_ne (by omega)]; unfold MPt; (repeat (first | rw [zu_ne (by omega)] | rw [zu_ne2 (by omega)] | rw [zu_if, if_pos (by omega)]))) ?_
                refine r_iadd f125_251 (e := M 269 (120 * h + 3 * t + 1) + zsh1 (MF M h 0 t) (MF M h 1 t) (MF M h 2 t) y) (by omega) (by omega) (by omega) ?_
                refine r_iast f125_252 kd269 (by omega) (by omega) (by omega) ?_
                refine r_iinc f125_253 rfl rfl rfl (e := 2) (by omega) (by omega) (by omega) (ls' := [some (.inr (.inl (some 264))), some (.inl h), some (.inl y), some (.inl z), none, none, some (.inl w), some (.inl 2)]) rfl ?_
                refine r_goto f125_256 (t := 218) (by decide) ?_
                refine r_iload f125_218 rfl ?_
                refine r_iconst f125_220 rfl ?_
                refine r_cge f125_221 (t := 259) (by decide) (fun h => absurd h (by omega)) (fun _ => ?_)
                refine r_aload_n f125_224 rfl ?_
                refine r_getR f125_225 o125 F7_23 g264_5 rfl ?_
                refine r_bipush f125_228 (by decide) ?_
                refine r_iload_n f125_230 rfl ?_
                refine r_imul f125_231 (e := 120 * h) (by omega) (by omega) (by omega) ?_
                refine r_iconst f125_232 rfl ?_
                refine r_aload_n f125_233 rfl ?_
                refine r_getI f125_234 o125 F7_122 g264_9 rfl ?_
                refine r_top (e := t) (by (repeat (first | rw [zu_ne (by omega)])); exact (zan_f hyp (by omega) (by omega) (by omega) _).trans ht) ?_
                refine r_imul f125_237 (e := 3 * t) (by omega) (by omega) (by omega) ?_
                refine r_iadd f125_238 (e := 120 * h + 3 * t) (by omega) (by omega) (by omega) ?_
                refine r_iload f125_239 rfl ?_
                refine r_iadd f125_241 (e := 120 * h + 3 * t + 2) (by omega) (by omega) (by omega) ?_
                refine r_dup2 f125_242 ?_
                refine r_iald f125_243 kd269 (by omega) (by omega) ?_
                refine r_top (e := M 269 (120 * h + 3 * t + 2)) (by rw [zu_if, if_neg (by omega), zu_if, if_neg (by omega)]; exact zan_f hyp (by omega) (by omega) (by omega) _) ?_
                refine r_aload_n f125_244 rfl ?_
                refine r_getR f125_245 o125 F7_59 g264_21 rfl ?_
                refine r_iload f125_248 rfl ?_
                refine r_iald f125_250 kd281 (by omega) (by omega) ?_
                refine r_top (e := zsh2 (MF M h 0 t) (MF M h 1 t) (MF M h 2 t) y) (by rw [zu_ne (by omega), zu_ne (by omega)]; unfold MPt; (repeat (first | rw [zu_ne (by omega)] | rw [zu_ne2 (by omega)] | rw [zu_if, if_pos (by omega)]))) ?_
                refine r_iadd f125_251 (e := M 269 (120 * h + 3 * t + 2) + zsh2 (MF M h 0 t) (MF M h 1 t) (MF M h 2 t) y) (by omega) (by omega) (by omega) ?_
                refine r_iast f125_252 kd269 (by omega) (by omega) (by omega) ?_
                refine r_iinc f125_253 rfl rfl rfl (e := 3) (by omega) (by omega) (by omega) (ls' := [some (.inr (.inl (some 264))), some (.inl h), some (.inl y), some (.inl z), none, none, some (.inl w), some (.inl 3)]) rfl ?_
                refine r_goto f125_256 (t := 218) (by decide) ?_
                refine r_iload f125_218 rfl ?_
                refine r_iconst f125_220 rfl ?_
                refine r_cge f125_221 (t := 259) (by decide) (fun _ => ?_) (fun h => absurd (by omega) h)
                refine r_aload_n f125_259 rfl ?_
                refine r_dupR f125_260 ?_
                refine r_getI f125_261 o125 F7_179 g264_6 rfl ?_
                refine r_top (e := M 264 6) (by rw [zu_if, if_neg (by omega), zu_if, if_neg (by omega), zu_if, if_neg (by omega)]; exact zan_f hyp (by omega) (by omega) (by omega) _) ?_
                refine r_iload_n f125_264 rfl ?_
                refine r_iadd f125_265 (e := M 264 6 + y) (by omega) (by omega) (by omega) ?_
                refine r_put f125_266 o125 F7_179 g264_6 rfl T7_6 U7_6 ?_
                refine r_iload f125_269 rfl ?_
                exact r_iret f125_271 v125 ⟨zs_eq (by first | rfl | omega | ((repeat (first | rw [if_pos (by omega)] | rw [if_neg (by omega)])) <;> first | rfl | omega)), (by first | rfl | ((repeat (first | rw [if_pos (by omega)] | rw [if_neg (by omega)])); done) | ((repeat (first | rw [if_pos (by omega)] | rw [if_neg (by omega)])); rfl))⟩
              · refine r_iconst f125_132 rfl ?_
                exact r_iret f125_133 v125 ⟨zs_eq (by first | rfl | omega | ((repeat (first | rw [if_pos (by omega)] | rw [if_neg (by omega)])) <;> first | rfl | omega)), (by first | rfl | ((repeat (first | rw [if_pos (by omega)] | rw [if_neg (by omega)])); done) | ((repeat (first | rw [if_pos (by omega)] | rw [if_neg (by omega)])); rfl))⟩
        · refine r_bipush f125_48 (by decide) ?_
          exact r_iret f125_50 v125 ⟨zs_eq (by first | rfl | omega | ((repeat (first | rw [if_pos (by omega)] | rw [if_neg (by omega)])) <;> first | rfl | omega)), (by first | rfl | ((repeat (first | rw [if_pos (by omega)] | rw [if_neg (by omega)])); done) | ((repeat (first | rw [if_pos (by omega)] | rw [if_neg (by omega)])); rfl))⟩
      · refine r_zne f125_25 (t := 31) (by decide) (fun h => absurd h (by omega)) (fun _ => ?_)
        refine r_bipush f125_28 (by decide) ?_
        exact r_iret f125_30 v125 ⟨zs_eq (by first | rfl | omega | ((repeat (first | rw [if_pos (by omega)] | rw [if_neg (by omega)])) <;> first | rfl | omega)), (by first | rfl | ((repeat (first | rw [if_pos (by omega)] | rw [if_neg (by omega)])); done) | ((repeat (first | rw [if_pos (by omega)] | rw [if_neg (by omega)])); rfl))⟩
    · refine r_zeq f125_15 (t := 28) (by decide) (fun _ => ?_) (fun h => absurd (by omega) h)
      refine r_bipush f125_28 (by decide) ?_
      exact r_iret f125_30 v125 ⟨zs_eq (by first | rfl | omega | ((repeat (first | rw [if_pos (by omega)] | rw [if_neg (by omega)])) <;> first | rfl | omega)), (by first | rfl | ((repeat (first | rw [if_pos (by omega)] | rw [if_neg (by omega)])); done) | ((repeat (first | rw [if_pos (by omega)] | rw [if_neg (by omega)])); rfl))⟩
  · refine r_zeq f125_5 (t := 28) (by decide) (fun _ => ?_) (fun h => absurd (by omega) h)
    refine r_bipush f125_28 (by decide) ?_
    exact r_iret f125_30 v125 ⟨zs_eq (by first | rfl | omega | ((repeat (first | rw [if_pos (by omega)] | rw [if_neg (by omega)])) <;> first | rfl | omega)), (by first | rfl | ((repeat (first | rw [if_pos (by omega)] | rw [if_neg (by omega)])); done) | ((repeat (first | rw [if_pos (by omega)] | rw [if_neg (by omega)])); rfl))⟩

