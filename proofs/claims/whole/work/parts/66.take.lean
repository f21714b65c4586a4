theorem l_take {L d : Nat} {m : zmem} {Y : zmem} {c v N : Int} {P : Int → Int} (c0 : 0 ≤ c) (c1 : c < 40) (h273 : Y 273 c = N) (n1 : N ≤ 7) (hP : ∀ k, 0 ≤ k → k < N → Y 283 k = P k) {Q : Option zV → zM → Prop} (hx : zR (d) 111 64 [some (.inr (.inl (some 264))), some (.inl c), some (.inl 0), some (.inl v), some (.inl N)] [] (zem L (zWw Y c 0 N P)) Q) : ∀ (n : Nat) (i : Int), 0 ≤ i → i + n = N → zR (d) 111 28 [some (.inr (.inl (some 264))), some (.inl c), some (.inl 0), some (.inl v), some (.inl i)] [] (zem L (zWw Y c 0 i P)) Q := by
  intro n
  induction n with
  | zero =>
    intro i hi hn
    have ei : i = N := by omega
    rw [ei]
    refine r_iload f111_28 rfl ?_
    refine r_aload_n f111_30 rfl ?_
    refine r_getR f111_31 o111 F7_35 g264_13 rfl ?_
    refine r_iload_n f111_34 rfl ?_
    refine r_iald f111_35 kd273 (by omega) (by omega) ?_
    refine r_top (e := N) (by rw [zWw_n (by omega)]; exact h273) ?_
    refine r_cge f111_36 (t := 64) (by decide) (fun _ => ?_) (fun h => absurd (by omega) h)
    exact hx
  | succ n ih =>
    intro i hi hn
    refine r_iload f111_28 rfl ?_
    refine r_aload_n f111_30 rfl ?_
    refine r_getR f111_31 o111 F7_35 g264_13 rfl ?_
    refine r_iload_n f111_34 rfl ?_
    refine r_iald f111_35 kd273 (by omega) (by omega) ?_
    refine r_top (e := N) (by rw [zWw_n (by omega)]; exact h273) ?_
    refine r_cge f111_36 (t := 64) (by decide) (fun h => absurd h (by omega)) (fun _ => ?_)
    refine r_aload_n f111_39 rfl ?_
    refine r_getR f111_40 o111 F7_38 g264_14 rfl ?_
    refine r_bipush f111_43 (by decide) ?_
    refine r_iload_n f111_45 rfl ?_
    refine r_imul f111_46 (e := 7 * c) (by omega) (by omega) (by omega) ?_
    refine r_iload f111_47 rfl ?_
    refine r_iadd f111_49 (e := 7 * c + i) (by omega) (by omega) (by omega) ?_
    refine r_aload_n f111_50 rfl ?_
    refine r_getR f111_51 o111 F7_65 g264_23 rfl ?_
    refine r_iload f111_54 rfl ?_
    refine r_iald f111_56 kd283 (by omega) (by omega) ?_
    refine r_top (e := P i) (by rw [zWw_n (by omega)]; exact hP i (by omega) (by omega)) ?_
    refine r_iast f111_57 kd274 (by omega) (by omega) (by omega) ?_
    refine r_iinc f111_58 rfl rfl rfl (e := i + 1) (by omega) (by omega) (by omega) (ls' := [some (.inr (.inl (some 264))), some (.inl c), some (.inl 0), some (.inl v), some (.inl (i + 1))]) rfl ?_
    refine r_goto f111_61 (t := 28) (by decide) ?_
    refine r_mem (m1 := (zWw Y c 0 (i + 1) P)) (Eq.symm (by exact zWw_s (by omega) rfl)) ?_
    exact ih (i + 1) (by omega) (by omega)

theorem t_Xtake {L d : Nat} {m : zmem} (k0 : 0 ≤ m 0 6) (k1 : m 0 6 ≤ 40) {c : Int} {v : Int} {X : zmem} (hX : (0 ≤ c ∧ c < m 0 6) → (m (64 + 5 * c) 7 = 0 ∧ m 0 7 ≤ m (64 + 5 * c) 5) → zF L (d + 4) 37 [.inr (.inl (some 51)), .inr (.inl (some (64 + 5 * c))), .inl (-1)] m (some (.inl v)) X) {W Z : zmem} (hF : (0 ≤ c ∧ c < m 0 6) → (m (64 + 5 * c) 7 = 0 ∧ m 0 7 ≤ m (64 + 5 * c) 5) → ¬ v = -1 → zF L (d + 4) 2 [.inr (.inl (some (64 + 5 * c))), .inr (.inl (some 53)), .inl 0] X none W) (hY : (0 ≤ c ∧ c < m 0 6) → (m (64 + 5 * c) 7 = 0 ∧ m 0 7 ≤ m (64 + 5 * c) 5) → ¬ v = -1 → zF L (d + 4) 74 [.inr (.inl (some 0)), .inr (.inl (some (64 + 5 * c))), .inl 0] W none Z)  : zF L (d + 5) 54 [.inr (.inl (some 0)), .inl c] m (some (.inl (if (0 ≤ c ∧ c < m 0 6) then (if (m (64 + 5 * c) 7 = 0 ∧ m 0 7 ≤ m (64 + 5 * c) 5) then v else -3) else -2))) (if (0 ≤ c ∧ c < m 0 6) then (if (m (64 + 5 * c) 7 = 0 ∧ m 0 7 ≤ m (64 + 5 * c) 5) then (if v = -1 then X else zu Z (64 + 5 * c) 7 1) else m) else m) := by
  refine zF_of n54 (ls := [some (.inr (.inl (some 0))), some (.inl c), none, none]) rfl ?_
  refine r_aload_n f54_0 rfl ?_
  refine r_iload_n f54_1 rfl ?_
  refine r_callv1i (m' := m) f54_2 o54 M6_118 p69 o69 kd0 rfl (by simp) (t_isChainX c k0 k1) ?_
  refine r_ite (fun q1 => ?_) (fun q1 => ?_)
  · refine r_zne f54_5 (t := 11) (by decide) (fun _ => ?_) (fun h => absurd (by omega) h)
    refine r_aload_n f54_11 rfl ?_
    refine r_getR f54_12 o54 F6_27 g0_2 rfl ?_
    refine r_iload_n f54_15 rfl ?_
    refine r_aldC f54_16 (by omega) (by omega) ?_
    refine r_astore_n f54_17 rfl (ls' := [some (.inr (.inl (some 0))), some (.inl c), some (.inr (.inl (some (64 + 5 * c)))), none]) rfl ?_
    refine r_aload_n f54_18 rfl ?_
    refine r_aload_n f54_19 rfl ?_
    refine r_callv1i (m' := m) f54_20 o54 M6_130 p70 o70 kd0 rfl (by simp) (t_canBeGiven (c := c) (by omega) (by omega)) ?_
    refine r_ite (fun q2 => ?_) (fun q2 => ?_)
    · refine r_zne f54_23 (t := 29) (by decide) (fun _ => ?_) (fun h => absurd (by omega) h)
      refine r_aload_n f54_29 rfl ?_
      refine r_getR f54_30 o54 F6_21 g0_1 rfl ?_
      refine r_aload_n f54_33 rfl ?_
      refine r_iconst f54_34 rfl ?_
      refine r_callv2i (m' := X) (v := v) f54_35 o54 M6_137 p37 o37 kd51 rfl (by simp) (hX (by omega) (by omega)) ?_
      refine r_istore_n f54_38 rfl (ls' := [some (.inr (.inl (some 0))), some (.inl c), some (.inr (.inl (some (64 + 5 * c)))), some (.inl v)]) rfl ?_
      refine r_iload_n f54_39 rfl ?_
      refine r_iconst f54_40 rfl ?_
      refine r_ceq f54_41 (t := 67) (by decide) (fun q3 => ?_) (fun q3 => ?_)
      · refine r_iload_n f54_67 rfl ?_
        exact r_iret f54_68 v54 ⟨zs_eq (by first | rfl | omega | ((repeat (first | rw [if_pos (by omega)] | rw [if_neg (by omega)])) <;> first | rfl | omega)), (by first | rfl | ((repeat (first | rw [if_pos (by omega)] | rw [if_neg (by omega)])); done) | ((repeat (first | rw [if_pos (by omega)] | rw [if_neg (by omega)])); rfl))⟩
      · refine r_aload_n f54_44 rfl ?_
        refine r_aload_n f54_45 rfl ?_
        refine r_getR f54_46 o54 F6_21 g0_1 rfl ?_
        refine r_getR f54_49 o54 F6_141 g51_2 rfl ?_
        refine r_iconst f54_52 rfl ?_
        refine r_callv2u (m' := W) f54_53 o54 M6_144 p2 o2 (kdC0 (c := c) (by omega) (by omega)) rfl (by simp) (hF (by omega) (by omega) (by omega)) ?_
        refine r_aload_n f54_56 rfl ?_
        refine r_aload_n f54_57 rfl ?_
        refine r_iconst f54_58 rfl ?_
        refine r_callv2u (m' := Z) f54_59 o54 M6_148 p74 o74 kd0 rfl (by simp) (hY (by omega) (by omega) (by omega)) ?_
        refine r_aload_n f54_62 rfl ?_
        refine r_iconst f54_63 rfl ?_
        refine r_put f54_64 o54 F6_104 (gC_7 (c := c) (by omega) (by omega)) rfl T0_7 U0_7 ?_
        refine r_iload_n f54_67 rfl ?_
        exact r_iret f54_68 v54 ⟨zs_eq (by first | rfl | omega | ((repeat (first | rw [if_pos (by omega)] | rw [if_neg (by omega)])) <;> first | rfl | omega)), (by first | rfl | ((repeat (first | rw [if_pos (by omega)] | rw [if_neg (by omega)])); done) | ((repeat (first | rw [if_pos (by omega)] | rw [if_neg (by omega)])); rfl))⟩
    · refine r_zne f54_23 (t := 29) (by decide) (fun h => absurd h (by omega)) (fun _ => ?_)
      refine r_bipush f54_26 (by decide) ?_
      exact r_iret f54_28 v54 ⟨zs_eq (by first | rfl | omega | ((repeat (first | rw [if_pos (by omega)] | rw [if_neg (by omega)])) <;> first | rfl | omega)), (by first | rfl | ((repeat (first | rw [if_pos (by omega)] | rw [if_neg (by omega)])); done) | ((repeat (first | rw [if_pos (by omega)] | rw [if_neg (by omega)])); rfl))⟩
  · refine r_zne f54_5 (t := 11) (by decide) (fun h => absurd h (by omega)) (fun _ => ?_)
    refine r_bipush f54_8 (by decide) ?_
    exact r_iret f54_10 v54 ⟨zs_eq (by first | rfl | omega | ((repeat (first | rw [if_pos (by omega)] | rw [if_neg (by omega)])) <;> first | rfl | omega)), (by first | rfl | ((repeat (first | rw [if_pos (by omega)] | rw [if_neg (by omega)])); done) | ((repeat (first | rw [if_pos (by omega)] | rw [if_neg (by omega)])); rfl))⟩

theorem t_Mtake {L d : Nat} {m1 m : zmem} (ha : zan m1 m) (k0 : 0 ≤ m 264 10) (k1 : m 264 10 ≤ 40) {c : Int} {v : Int} {Y Z : zmem} {P : Int → Int} {N : Int} (hX : (0 ≤ c ∧ c < m 264 10) → (m 275 c = 0 ∧ m 264 9 ≤ m 272 c) → zF L (d + 5) 108 [.inr (.inl (some 264)), .inl c, .inl 0, .inl 1] m1 (some (.inl v)) Y) (hW : (0 ≤ c ∧ c < m 264 10) → (m 275 c = 0 ∧ m 264 9 ≤ m 272 c) → ¬ v = -1 → Y 273 c = N ∧ N ≤ 7 ∧ 0 ≤ N ∧ ∀ k, 0 ≤ k → k < N → Y 283 k = P k) (hZ : (0 ≤ c ∧ c < m 264 10) → (m 275 c = 0 ∧ m 264 9 ≤ m 272 c) → ¬ v = -1 → zF L (d + 5) 105 [.inr (.inl (some 264)), .inl c] (zWw Y c 0 N P) none Z)  : zF L (d + 6) 111 [.inr (.inl (some 264)), .inl c] m1 (some (.inl (if (0 ≤ c ∧ c < m 264 10) then (if (m 275 c = 0 ∧ m 264 9 ≤ m 272 c) then v else -3) else -2))) (if (0 ≤ c ∧ c < m 264 10) then (if (m 275 c = 0 ∧ m 264 9 ≤ m 272 c) then (if v = -1 then Y else Z) else m1) else m1) := by
  refine zF_of n111 (ls := [some (.inr (.inl (some 264))), some (.inl c), none, none, none]) rfl ?_
  refine r_aload_n f111_0 rfl ?_
  refine r_iload_n f111_1 rfl ?_
  refine r_callv1i (m' := m1) (v := if (0 ≤ c ∧ c < m 264 10) then (if (m 275 c = 0 ∧ m 264 9 ≤ m 272 c) then 0 else -3) else -2) f111_2 o111 M7_139 p106 o106 kd264 rfl (by simp) (tN_refuses ha k0 k1 c) ?_
  by_cases q1 : (0 ≤ c ∧ c < m 264 10)
  · by_cases q2 : (m 275 c = 0 ∧ m 264 9 ≤ m 272 c)
    · refine r_top (e := 0) (by rw [if_pos q1, if_pos q2]) ?_
      refine r_istore_n f111_5 rfl (ls' := [some (.inr (.inl (some 264))), some (.inl c), some (.inl 0), none, none]) rfl ?_
      refine r_iload_n f111_6 rfl ?_
      refine r_zeq f111_7 (t := 12) (by decide) (fun _ => ?_) (fun h => absurd (by omega) h)
      refine r_aload_n f111_12 rfl ?_
      refine r_iload_n f111_13 rfl ?_
      refine r_iconst f111_14 rfl ?_
      refine r_iconst f111_15 rfl ?_
      refine r_callv3i (m' := Y) (v := v) f111_16 o111 M7_150 p108 o108 kd264 rfl (by simp) (hX (by omega) (by omega)) ?_
      refine r_istore_n f111_19 rfl (ls' := [some (.inr (.inl (some 264))), some (.inl c), some (.inl 0), some (.inl v), none]) rfl ?_
      refine r_iload_n f111_20 rfl ?_
      refine r_iconst f111_21 rfl ?_
      refine r_ceq f111_22 (t := 69) (by decide) (fun q3 => ?_) (fun q3 => ?_)
      · refine r_iload_n f111_69 rfl ?_
        exact r_iret f111_70 v111 ⟨zs_eq (by first | rfl | omega | ((repeat (first | rw [if_pos (by omega)] | rw [if_neg (by omega)])) <;> first | rfl | omega)), (by first | rfl | ((repeat (first | rw [if_pos (by omega)] | rw [if_neg (by omega)])); done) | ((repeat (first | rw [if_pos (by omega)] | rw [if_neg (by omega)])); rfl))⟩
      · refine r_iconst f111_25 rfl ?_
        refine r_istore f111_26 rfl (ls' := [some (.inr (.inl (some 264))), some (.inl c), some (.inl 0), some (.inl v), some (.inl 0)]) rfl ?_
        obtain ⟨w1, w2, w3, w4⟩ := hW (by omega) (by omega) (by omega)
        refine r_mem (m1 := zWw Y c 0 0 P) zWw_0 ?_
        refine l_take (m := m) (by omega) (by omega) w1 w2 w4 ?_ N.toNat 0 (by omega) (by omega)
        refine r_aload_n f111_64 rfl ?_
        refine r_iload_n f111_65 rfl ?_
        refine r_callv1u (m' := Z) f111_66 o111 M7_146 p105 o105 kd264 rfl (by simp) (hZ (by omega) (by omega) (by omega)) ?_
        refine r_iload_n f111_69 rfl ?_
        exact r_iret f111_70 v111 ⟨zs_eq (by first | rfl | omega | ((repeat (first | rw [if_pos (by omega)] | rw [if_neg (by omega)])) <;> first | rfl | omega)), (by first | rfl | ((repeat (first | rw [if_pos (by omega)] | rw [if_neg (by omega)])); done) | ((repeat (first | rw [if_pos (by omega)] | rw [if_neg (by omega)])); rfl))⟩
    · refine r_top (e := -3) (by rw [if_pos q1, if_neg q2]) ?_
      refine r_istore_n f111_5 rfl (ls' := [some (.inr (.inl (some 264))), some (.inl c), some (.inl (-3)), none, none]) rfl ?_
      refine r_iload_n f111_6 rfl ?_
      refine r_zeq f111_7 (t := 12) (by decide) (fun h => absurd h (by omega)) (fun _ => ?_)
      refine r_iload_n f111_10 rfl ?_
      exact r_iret f111_11 v111 ⟨zs_eq (by first | rfl | omega | ((repeat (first | rw [if_pos (by omega)] | rw [if_neg (by omega)])) <;> first | rfl | omega)), (by first | rfl | ((repeat (first | rw [if_pos (by omega)] | rw [if_neg (by omega)])); done) | ((repeat (first | rw [if_pos (by omega)] | rw [if_neg (by omega)])); rfl))⟩
  · refine r_top (e := -2) (by rw [if_neg q1]) ?_
    refine r_istore_n f111_5 rfl (ls' := [some (.inr (.inl (some 264))), some (.inl c), some (.inl (-2)), none, none]) rfl ?_
    refine r_iload_n f111_6 rfl ?_
    refine r_zeq f111_7 (t := 12) (by decide) (fun h => absurd h (by omega)) (fun _ => ?_)
    refine r_iload_n f111_10 rfl ?_
    exact r_iret f111_11 v111 ⟨zs_eq (by first | rfl | omega | ((repeat (first | rw [if_pos (by omega)] | rw [if_neg (by omega)])) <;> first | rfl | omega)), (by first | rfl | ((repeat (first | rw [if_pos (by omega)] | rw [if_neg (by omega)])); done) | ((repeat (first | rw [if_pos (by omega)] | rw [if_neg (by omega)])); rfl))⟩

theorem pr_take {L : Nat} {T : Int} {m : zmem} (hs : Sim T m m) (c : Int) : zPr L 54 111 [.inl c] T m := by
  have s1 := hs.s1
  unfold S1 at s1
  by_cases hg : (0 ≤ c ∧ c < m 264 10)
  · have k5 := hs.s5 c (by omega) (by omega)
    have hg2 : (0 ≤ c ∧ c < m 0 6) := by omega
    by_cases hc : (m 275 c = 0 ∧ m 264 9 ≤ m 272 c)
    · have hc2 : (m (64 + 5 * c) 7 = 0 ∧ m 0 7 ≤ m (64 + 5 * c) 5) := by omega
      have hq : zsq (-1) 0 1 := Or.inl ⟨rfl, rfl, rfl⟩
      have hw : ∀ k, 0 ≤ k → k < m 273 c → 0 ≤ m 274 (7 * c + k) ∧ m 274 (7 * c + k) < m 264 0 := fun k x y => (hs.s6 c hg.1 (by omega) k x (by omega)).2 y
      obtain ⟨X, f1, f2, f3⟩ := t_findS (L := L) (d := 3) hs (c := c) (by omega) (by omega) hq (by omega) (by omega)
      by_cases hv : MGa m c 0 1 0 (m 274 (7 * c + 0)) = -1
      · have gx := t_Xtake (L := L) (d := 3) (m := m) (c := c) (W := m) (Z := m) (by omega) (by omega) (fun _ _ => f1) (fun _ _ h => absurd hv h) (fun _ _ h => absurd hv h)
        rw [if_pos hg2, if_pos hg2, if_pos hc2, if_pos hc2, if_pos hv] at gx
        refine zPr_of gx (zag_an f2) (fun m1 ha => ?_) (Sim_g (Sim_T hs (by omega)) (zag_ac f2) (zan_rf m))
        obtain ⟨Y, w1, w2, w3⟩ := t_waysS (L := L) (d := 2) hs ha (c := c) (by omega) (by omega) hq (by omega) (by omega)
        have gm := t_Mtake (L := L) (d := 2) ha (c := c) (Z := m) (P := fun _ => 0) (N := 0) (by omega) (by omega) (fun _ _ => w1) (fun _ _ h => absurd hv h) (fun _ _ h => absurd hv h)
        rw [if_pos hg, if_pos hg, if_pos hc, if_pos hc, if_pos hv] at gm
        exact ⟨_, _, gm, rfl, zaw_ac w2, zaw_an w2 ha⟩
      · have lw := Lay_way (b := m) (c := c) (f := 0) (q := 1) (by omega) hw (by omega) (by omega) hv
        have hu : ∀ k, 0 ≤ k → k < m 273 c → m 276 (7 * c + k) = 0 := fun k x y => (((hs.s15 c hg.1 (by omega)).2 k x (by omega)).1 hc.1).1
        have hsX : Sim T X m := Sim_g hs (zag_ac f2) (zan_rf m)
        have n6 : X (64 + 5 * c) 6 = m 273 c := by rw [zag_f f2 (by omega) (by omega)]; omega
        have fw := t_follow (L := L) (d := 7) (m := X) (c := c) (a := 0) hg.1 (by omega) (by omega) (by omega) (by omega) (by omega)
        rw [n6, zWp_q (P := fun k => MPh m c 0 1 (k - 0).toNat) (fun k x y => f3 hv k x y)] at fw
        have sw := sm_way hsX (P := fun k => MPh m c 0 1 (k - 0).toNat) hg.1 hg.2 (f := 0) (by omega) rfl hu (fun k x y => (lw k x y).1)
        have b264 : zWw m c 0 (m 273 c) (fun k => MPh m c 0 1 (k - 0).toNat) 264 = m 264 := zWw_n (by omega)
        have b273 : zWw m c 0 (m 273 c) (fun k => MPh m c 0 1 (k - 0).toNat) 273 = m 273 := zWw_n (by omega)
        have b272 : zWw m c 0 (m 273 c) (fun k => MPh m c 0 1 (k - 0).toNat) 272 = m 272 := zWw_n (by omega)
        have b271 : zWw m c 0 (m 273 c) (fun k => MPh m c 0 1 (k - 0).toNat) 271 = m 271 := zWw_n (by omega)
        have b276 : zWw m c 0 (m 273 c) (fun k => MPh m c 0 1 (k - 0).toNat) 276 = m 276 := zWw_n (by omega)
        have sh := sm_given sw hg.1 (by rw [b264]; exact hg.2) (by rw [b264, b272]; exact hc.2)
        have e3 : zu (zWw m c 0 (m 273 c) (fun k => MPh m c 0 1 (k - 0).toNat)) 275 c 1 273 = m 273 := by rw [zu_ne (by omega), b273]
        have e4 : zu (zWw m c 0 (m 273 c) (fun k => MPh m c 0 1 (k - 0).toNat)) 275 c 1 264 = m 264 := by rw [zu_ne (by omega), b264]
        have lay : Lay (zu (zWw m c 0 (m 273 c) (fun k => MPh m c 0 1 (k - 0).toNat)) 275 c 1) c 0 := by
          intro k x y
          rw [e3] at y
          refine ⟨by rw [zu_ne (by omega), b276]; exact hu k x y, ?_⟩
          unfold MO
          rw [MF_st, MF_w hu, zu_ne (a := 271) (by omega), b271, zu_ne (a := 274) (by omega), zu_ne (a := 272) (by omega), b272, zWw_i x y]
          exact (lw k x y).2 (by omega)
        have lf := t_layFrom (L := L) (d := 4) (f := 0) sh hg.1 (by rw [e4]; exact hg.2) (by omega) (by rw [e3]; omega) (by rw [zu_at]; omega) lay
        rw [e3, show m 273 c - 0 = m 273 c by omega] at lf
        have gx := t_Xtake (L := L) (d := 3) (m := m) (c := c) (by omega) (by omega) (fun _ _ => f1) (fun _ _ _ => fw) (fun _ _ _ => lf)
        rw [if_pos hg2, if_pos hg2, if_pos hc2, if_pos hc2, if_neg hv] at gx
        have fin := sm_lays (m 273 c).toNat 0 _ _ sh hg.1 (by rw [e4]; exact hg.2) (by omega) (by rw [e3]; omega) (by rw [zu_at]; omega) lay
        have hww : ∀ k, (0 : Int) ≤ k → k < 0 + ((m 273 c).toNat : Int) → 0 ≤ zWq X c 0 (m 273 c) (fun k => MPh m c 0 1 (k - 0).toNat) (65 + 5 * c) k ∧ zWq X c 0 (m 273 c) (fun k => MPh m c 0 1 (k - 0).toNat) (65 + 5 * c) k < 12 := fun k x y => by
          have g1 := (sw.s6 c hg.1 (by omega) k x (by omega))
          rw [b273, b264] at g1
          omega
        rw [XLy_sh hg.1 (by omega) _ _ _ hww] at fin
        refine zPr_of gx (zan_x (zan_tr (XLy_an hg.1 (by omega) _ _ _ hww) (zan_tr (zWq_an (by omega)) (zag_an f2))) (by omega)) (fun m1 ha => ?_) (Sim_T fin (by omega))
        obtain ⟨Y, w1, w2, w3⟩ := t_waysS (L := L) (d := 2) hs ha (c := c) (by omega) (by omega) hq (by omega) (by omega)
        obtain ⟨Z, y1, y2, y3⟩ := t_gives (L := L) (d := 2) sh (zan_w (zWw_an (zaw_an w2 ha))) hg.1 (by rw [e4]; exact hg.2) (by rw [zu_at]; omega) lay
        rw [e3] at y3
        have gm := t_Mtake (L := L) (d := 2) ha (c := c) (P := fun k => MPh m c 0 1 (k - 0).toNat) (N := m 273 c) (by omega) (by omega) (fun _ _ => w1) (fun _ _ _ => ⟨congrFun (zaw_an w2 ha 273 (by omega) (by omega) (by omega)) c, by omega, by omega, fun k x y => w3 hv k x y⟩) (fun _ _ _ => y1)
        rw [if_pos hg, if_pos hg, if_pos hc, if_pos hc, if_neg hv] at gm
        exact ⟨_, _, gm, rfl, zac_tr y2 (zac_tr zWw_ac (zaw_ac w2)), y3⟩
    · have hc2 : ¬ (m (64 + 5 * c) 7 = 0 ∧ m 0 7 ≤ m (64 + 5 * c) 5) := by omega
      have gx := t_Xtake (L := L) (d := 3) (m := m) (c := c) (v := 0) (X := m) (W := m) (Z := m) (by omega) (by omega) (fun _ h => absurd h hc2) (fun _ h => absurd h hc2) (fun _ h => absurd h hc2)
      rw [if_pos hg2, if_pos hg2, if_neg hc2, if_neg hc2] at gx
      refine zPr_of gx (zan_rf m) (fun m1 ha => ?_) (Sim_T hs (by omega))
      have gm := t_Mtake (L := L) (d := 2) ha (c := c) (v := 0) (Y := m) (Z := m) (P := fun _ => 0) (N := 0) (by omega) (by omega) (fun _ h => absurd h hc) (fun _ h => absurd h hc) (fun _ h => absurd h hc)
      rw [if_pos hg, if_pos hg, if_neg hc, if_neg hc] at gm
      exact ⟨_, _, gm, rfl, zac_rf _, ha⟩
  · have hg2 : ¬ (0 ≤ c ∧ c < m 0 6) := by omega
    have gx := t_Xtake (L := L) (d := 3) (m := m) (c := c) (v := 0) (X := m) (W := m) (Z := m) (by omega) (by omega) (fun h => absurd h hg2) (fun h => absurd h hg2) (fun h => absurd h hg2)
    rw [if_neg hg2, if_neg hg2] at gx
    refine zPr_of gx (zan_rf m) (fun m1 ha => ?_) (Sim_T hs (by omega))
    have gm := t_Mtake (L := L) (d := 2) ha (c := c) (v := 0) (Y := m) (Z := m) (P := fun _ => 0) (N := 0) (by omega) (by omega) (fun h => absurd h hg) (fun h => absurd h hg) (fun h => absurd h hg)
    rw [if_neg hg, if_neg hg] at gm
    exact ⟨_, _, gm, rfl, zac_rf _, ha⟩
