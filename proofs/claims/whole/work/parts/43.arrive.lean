theorem pr_arrive {L : Nat} {T : Int} {m : zmem} (hs : Sim T m m) (c : Int) : zPr L 60 123 [.inl c] T m := by
  have s1 := hs.s1
  unfold S1 at s1
  have gx := t_Xarrive (L := L) (d := 5) (m := m) (by omega) (by omega) (by omega) (by omega) c (fun a b => by have g := Sim_ch hs c a b; omega) (fun a b k k0 k1 => Sim_hl hs c a b k k0 k1)
  have gm := fun (m1 : zmem) (ha : zan m1 m) => t_Marrive (L := L) (d := 6) ha (by omega) (by omega) (by omega) (by omega) c (fun a b => by have g := Sim_ch hs c a b; omega)
  by_cases hg : 0 ≤ c ∧ c < m 264 10
  · have k5 := Sim_ch hs c (by omega) (by omega)
    have k8 := hs.s8 c (by omega) (by omega)
    have k9 := hs.s9 c (by omega) (by omega) (m 264 9 - m 272 c)
    have hg2 : 0 ≤ c ∧ c < m 0 6 := by omega
    have e07 : m 0 7 = m 264 9 := by omega
    have e5 : m (64 + 5 * c) 5 = m 272 c := by omega
    have e6 : m (64 + 5 * c) 6 = m 273 c := by omega
    have ei : 7 * c + m 264 9 - m 272 c = 7 * c + (m 264 9 - m 272 c) := by omega
    by_cases hq : (0 ≤ m 264 9 - m 272 c ∧ m 264 9 - m 272 c < m 273 c) ∧ ¬ m 276 (7 * c + (m 264 9 - m 272 c)) = 0 ∧ m 280 c = 0
    · have hx : XO m c (m 0 7) ∧ m (67 + 5 * c) (m 0 7 - m (64 + 5 * c) 5) = 0 := by
        unfold XO XH
        rw [e07, e5, e6]
        have l := (Sim_la hs c hg.1 hg.2 (m 264 9 - m 272 c) (by omega) (by omega)).2 hq.2.1
        have k := k8.2.1 hq.1
        exact ⟨⟨hq.1, l⟩, by omega⟩
      rw [if_pos hg2, if_pos hg2, if_neg (fun h => h hx), if_neg (fun h => h hx), e07, e5] at gx
      refine zPr_of gx (zan_x (zan_rf _) (by omega)) (fun m1 ha => ?_) (sm_arrive hs hg.1 hg.2 hq.1 (by have := (k9 (by omega) (by omega)).1; omega))
      have g2 := gm m1 ha
      have hm : MH m c (m 264 9) ∧ ¬ m 276 (7 * c + m 264 9 - m 272 c) = 0 ∧ m 280 c = 0 := ⟨hq.1, by rw [ei]; exact hq.2.1, hq.2.2⟩
      rw [if_pos hg, if_pos hg, if_neg (fun h => h hm), if_neg (fun h => h hm)] at g2
      exact ⟨_, _, g2, rfl, zac_u (zac_rf _) (by omega), zan_w ha⟩
    · have hx : ¬ (XO m c (m 0 7) ∧ m (67 + 5 * c) (m 0 7 - m (64 + 5 * c) 5) = 0) := by
        unfold XO XH
        rw [e07, e5, e6]
        intro h
        have l := (Sim_la hs c hg.1 hg.2 (m 264 9 - m 272 c) (by omega) (by omega)).1 h.1.2
        have k := k8.2.1 h.1.1
        exact hq ⟨h.1.1, l, by omega⟩
      rw [if_pos hg2, if_pos hg2, if_pos hx, if_pos hx] at gx
      refine zPr_of gx (zan_rf _) (fun m1 ha => ?_) (Sim_T hs (by omega))
      have g2 := gm m1 ha
      have hm : ¬ (MH m c (m 264 9) ∧ ¬ m 276 (7 * c + m 264 9 - m 272 c) = 0 ∧ m 280 c = 0) := by
        rw [ei]; exact hq
      rw [if_pos hg, if_pos hg, if_pos hm, if_pos hm] at g2
      exact ⟨_, _, g2, rfl, zac_rf _, ha⟩
  · rw [if_neg (by omega), if_neg (by omega)] at gx
    refine zPr_of gx (zan_rf _) (fun m1 ha => ?_) (Sim_T hs (by omega))
    have g2 := gm m1 ha
    rw [if_neg hg, if_neg hg] at g2
    exact ⟨_, _, g2, rfl, zac_rf _, ha⟩
def XCf (m : zmem) (v k : Int) : Int := if m (64 + 5 * k) 7 = v then 1 else 0
def MSf (m : zmem) (v k : Int) : Int := if m 275 k = v then 1 else 0
def MUf (m : zmem) (k : Int) : Int := if m 289 k = 0 then 1 else 0
theorem l_chainsThatAre {L d : Nat} {m : zmem} (k0 : 0 ≤ m 0 6) (k1 : m 0 6 ≤ 40) {v : Int} {Q : Option zV → zM → Prop} (hx : zR (d) 71 34 [some (.inr (.inl (some 0))), some (.inl v), some (.inl (zsum (XCf m v) (m 0 6))), some (.inl (m 0 6))] [] (zem L m) Q) : ∀ (n : Nat) (i : Int), 0 ≤ i → i + n = m 0 6 → zR (d) 71 4 [some (.inr (.inl (some 0))), some (.inl v), some (.inl (zsum (XCf m v) i)), some (.inl i)] [] (zem L m) Q := by
  intro n
  induction n with
  | zero =>
    intro i hi hn
    have ei : i = m 0 6 := by omega
    rw [ei]
    refine r_iload_n f71_4 rfl ?_
    refine r_aload_n f71_5 rfl ?_
    refine r_getI f71_6 o71 F6_101 g0_6 rfl ?_
    refine r_cge f71_9 (t := 34) (by decide) (fun _ => ?_) (fun h => absurd (by omega) h)
    exact hx
  | succ n ih =>
    intro i hi hn
    have hb := zsum_b (f := XCf m v) (A := 0) (B := 1) hi (fun k _ _ => by unfold XCf; split <;> omega)
    refine r_iload_n f71_4 rfl ?_
    refine r_aload_n f71_5 rfl ?_
    refine r_getI f71_6 o71 F6_101 g0_6 rfl ?_
    refine r_cge f71_9 (t := 34) (by decide) (fun h => absurd h (by omega)) (fun _ => ?_)
    refine r_aload_n f71_12 rfl ?_
    refine r_getR f71_13 o71 F6_27 g0_2 rfl ?_
    refine r_iload_n f71_16 rfl ?_
    refine r_aldC f71_17 (by omega) (by omega) ?_
    refine r_getI f71_18 o71 F6_104 (gC_7 (c := i) (by omega) (by omega)) rfl ?_
    refine r_iload_n f71_21 rfl ?_
    refine r_cne f71_22 (t := 28) (by decide) (fun q1 => ?_) (fun q1 => ?_)
    · refine r_iinc f71_28 rfl rfl rfl (e := i + 1) (by omega) (by omega) (by omega) (ls' := [some (.inr (.inl (some 0))), some (.inl v), some (.inl (zsum (XCf m v) i)), some (.inl (i + 1))]) rfl ?_
      refine r_goto f71_31 (t := 4) (by decide) ?_
      refine r_setI (k := 2) (a := zsum (XCf m v) i) (e := zsum (XCf m v) (i + 1)) (by rw [zsum_s (by omega)]; unfold XCf; split <;> omega) rfl (ls' := [some (.inr (.inl (some 0))), some (.inl v), some (.inl (zsum (XCf m v) (i + 1))), some (.inl (i + 1))]) rfl ?_
      exact ih (i + 1) (by omega) (by omega)
    · refine r_iinc f71_25 rfl rfl rfl (e := zsum (XCf m v) i + 1) (by omega) (by omega) (by omega) (ls' := [some (.inr (.inl (some 0))), some (.inl v), some (.inl (zsum (XCf m v) i + 1)), some (.inl i)]) rfl ?_
      refine r_iinc f71_28 rfl rfl rfl (e := i + 1) (by omega) (by omega) (by omega) (ls' := [some (.inr (.inl (some 0))), some (.inl v), some (.inl (zsum (XCf m v) i + 1)), some (.inl (i + 1))]) rfl ?_
      refine r_goto f71_31 (t := 4) (by decide) ?_
      refine r_setI (k := 2) (a := zsum (XCf m v) i + 1) (e := zsum (XCf m v) (i + 1)) (by rw [zsum_s (by omega)]; unfold XCf; split <;> omega) rfl (ls' := [some (.inr (.inl (some 0))), some (.inl v), some (.inl (zsum (XCf m v) (i + 1))), some (.inl (i + 1))]) rfl ?_
      exact ih (i + 1) (by omega) (by omega)

theorem t_chainsThatAre {L d : Nat} {m : zmem} (k0 : 0 ≤ m 0 6) (k1 : m 0 6 ≤ 40) (v : Int) : zF L (d) 71 [.inr (.inl (some 0)), .inl v] m (some (.inl (zsum (XCf m v) (m 0 6)))) m := by
  refine zF_of n71 (ls := [some (.inr (.inl (some 0))), some (.inl v), none, none]) rfl ?_
  refine r_iconst f71_0 rfl ?_
  refine r_istore_n f71_1 rfl (ls' := [some (.inr (.inl (some 0))), some (.inl v), some (.inl 0), none]) rfl ?_
  refine r_iconst f71_2 rfl ?_
  refine r_istore_n f71_3 rfl (ls' := [some (.inr (.inl (some 0))), some (.inl v), some (.inl 0), some (.inl 0)]) rfl ?_
  refine l_chainsThatAre k0 k1 ?_ (m 0 6).toNat 0 (by omega) (by omega)
  refine r_iload_n f71_34 rfl ?_
  exact r_iret f71_35 v71 ⟨zs_eq (by first | rfl | omega | (repeat (first | rw [if_pos (by omega)] | rw [if_neg (by omega)]))), rfl⟩

theorem l_inStatus {L d : Nat} {m : zmem} (k0 : 0 ≤ m 264 10) (k1 : m 264 10 ≤ 40) {v : Int} {Q : Option zV → zM → Prop} (hx : zR (d) 129 36 [some (.inr (.inl (some 264))), some (.inl v), some (.inl (zsum (MSf m v) (m 264 10))), some (.inl (m 264 10))] [] (zem L m) Q) : ∀ (n : Nat) (i : Int), 0 ≤ i → i + n = m 264 10 → zR (d) 129 4 [some (.inr (.inl (some 264))), some (.inl v), some (.inl (zsum (MSf m v) i)), some (.inl i)] [] (zem L m) Q := by
  intro n
  induction n with
  | zero =>
    intro i hi hn
    have ei : i = m 264 10 := by omega
    rw [ei]
    refine r_iload_n f129_4 rfl ?_
    refine r_aload_n f129_5 rfl ?_
    refine r_getI f129_6 o129 F7_94 g264_10 rfl ?_
    refine r_cge f129_9 (t := 36) (by decide) (fun _ => ?_) (fun h => absurd (by omega) h)
    exact hx
  | succ n ih =>
    intro i hi hn
    have hb := zsum_b (f := MSf m v) (A := 0) (B := 1) hi (fun k _ _ => by unfold MSf; split <;> omega)
    refine r_iload_n f129_4 rfl ?_
    refine r_aload_n f129_5 rfl ?_
    refine r_getI f129_6 o129 F7_94 g264_10 rfl ?_
    refine r_cge f129_9 (t := 36) (by decide) (fun h => absurd h (by omega)) (fun _ => ?_)
    refine r_iload_n f129_12 rfl ?_
    refine r_aload_n f129_13 rfl ?_
    refine r_getR f129_14 o129 F7_41 g264_15 rfl ?_
    refine r_iload_n f129_17 rfl ?_
    refine r_iald f129_18 kd275 (by omega) (by omega) ?_
    refine r_iload_n f129_19 rfl ?_
    refine r_cne f129_20 (t := 27) (by decide) (fun q1 => ?_) (fun q1 => ?_)
    · refine r_iconst f129_27 rfl ?_
      refine r_iadd f129_28 (e := zsum (MSf m v) i) (by omega) (by omega) (by omega) ?_
      refine r_istore_n f129_29 rfl (ls' := [some (.inr (.inl (some 264))), some (.inl v), some (.inl (zsum (MSf m v) i)), some (.inl i)]) rfl ?_
      refine r_iinc f129_30 rfl rfl rfl (e := i + 1) (by omega) (by omega) (by omega) (ls' := [some (.inr (.inl (some 264))), some (.inl v), some (.inl (zsum (MSf m v) i)), some (.inl (i + 1))]) rfl ?_
      refine r_goto f129_33 (t := 4) (by decide) ?_
      refine r_setI (k := 2) (a := zsum (MSf m v) i) (e := zsum (MSf m v) (i + 1)) (by rw [zsum_s (by omega)]; unfold MSf; split <;> omega) rfl (ls' := [some (.inr (.inl (some 264))), some (.inl v), some (.inl (zsum (MSf m v) (i + 1))), some (.inl (i + 1))]) rfl ?_
      exact ih (i + 1) (by omega) (by omega)
    · refine r_iconst f129_23 rfl ?_
      refine r_goto f129_24 (t := 28) (by decide) ?_
      refine r_iadd f129_28 (e := zsum (MSf m v) i + 1) (by omega) (by omega) (by omega) ?_
      refine r_istore_n f129_29 rfl (ls' := [some (.inr (.inl (some 264))), some (.inl v), some (.inl (zsum (MSf m v) i + 1)), some (.inl i)]) rfl ?_
      refine r_iinc f129_30 rfl rfl rfl (e := i + 1) (by omega) (by omega) (by omega) (ls' := [some (.inr (.inl (some 264))), some (.inl v), some (.inl (zsum (MSf m v) i + 1)), some (.inl (i + 1))]) rfl ?_
      refine r_goto f129_33 (t := 4) (by decide) ?_
      refine r_setI (k := 2) (a := zsum (MSf m v) i + 1) (e := zsum (MSf m v) (i + 1)) (by rw [zsum_s (by omega)]; unfold MSf; split <;> omega) rfl (ls' := [some (.inr (.inl (some 264))), some (.inl v), some (.inl (zsum (MSf m v) (i + 1))), some (.inl (i + 1))]) rfl ?_
      exact ih (i + 1) (by omega) (by omega)

theorem t_inStatus {L d : Nat} {m : zmem} (k0 : 0 ≤ m 264 10) (k1 : m 264 10 ≤ 40) (v : Int) : zF L (d) 129 [.inr (.inl (some 264)), .inl v] m (some (.inl (zsum (MSf m v) (m 264 10)))) m := by
  refine zF_of n129 (ls := [some (.inr (.inl (some 264))), some (.inl v), none, none]) rfl ?_
  refine r_iconst f129_0 rfl ?_
  refine r_istore_n f129_1 rfl (ls' := [some (.inr (.inl (some 264))), some (.inl v), some (.inl 0), none]) rfl ?_
  refine r_iconst f129_2 rfl ?_
  refine r_istore_n f129_3 rfl (ls' := [some (.inr (.inl (some 264))), some (.inl v), some (.inl 0), some (.inl 0)]) rfl ?_
  refine l_inStatus k0 k1 ?_ (m 264 10).toNat 0 (by omega) (by omega)
  refine r_iload_n f129_36 rfl ?_
  exact r_iret f129_37 v129 ⟨zs_eq (by first | rfl | omega | (repeat (first | rw [if_pos (by omega)] | rw [if_neg (by omega)]))), rfl⟩

def XCt (m : zmem) (x : Int) : Int := if x = 0 then m 1 1 else if x = 1 then m 1 2 else if x = 2 then m 0 6 else if x = 3 then m 0 7 else if x = 4 then zsum (XUf m) (m 55 4) else if x = 5 then zsum (XCf m 1) (m 0 6) else if x = 6 then zsum (XCf m 2) (m 0 6) else if x = 7 then zsum (XCf m 3) (m 0 6) else if x = 8 then m 60 2 else if x = 9 then m 0 8 else -2
def MCt (m : zmem) (x : Int) : Int := if x = 0 then m 264 0 else if x = 1 then m 264 7 else if x = 2 then m 264 10 else if x = 3 then m 264 9 else if x = 4 then zsum (MUf m) (m 264 27) else if x = 5 then zsum (MSf m 1) (m 264 10) else if x = 6 then zsum (MSf m 2) (m 264 10) else if x = 7 then zsum (MSf m 3) (m 264 10) else if x = 8 then m 264 24 else if x = 9 then m 264 6 else -2
theorem t_Xcount {L d : Nat} {m : zmem} (k0 : 0 ≤ m 0 6) (k1 : m 0 6 ≤ 40) (l0 : 0 ≤ m 55 4) (l1 : m 55 4 ≤ 40) (x : Int) : zF L (d + 1) 65 [.inr (.inl (some 0)), .inl x] m (some (.inl (XCt m x))) m := by
  refine zF_of n65 (ls := [some (.inr (.inl (some 0))), some (.inl x)]) rfl ?_
  refine r_iload_n f65_0 rfl ?_
  rcases (show (x < 0 ∨ 9 < x) ∨ x = 0 ∨ x = 1 ∨ x = 2 ∨ x = 3 ∨ x = 4 ∨ x = 5 ∨ x = 6 ∨ x = 7 ∨ x = 8 ∨ x = 9 by omega) with q1 | q1 | q1 | q1 | q1 | q1 | q1 | q1 | q1 | q1 | q1
  · refine r_swout f65_1 q1 (t := 121) (by decide) ?_
    refine r_bipush f65_121 (by decide) ?_
    exact r_iret f65_123 v65 ⟨zs_eq (by unfold XCt; (repeat (first | rw [if_pos (by omega)] | rw [if_neg (by omega)]))), rfl⟩
  · refine r_swin f65_1 (by omega) (by omega) (o := 55) (by rw [q1]; rfl) (t := 56) (by decide) ?_
    refine r_aload_n f65_56 rfl ?_
    refine r_getR f65_57 o65 F6_10 g0_0 rfl ?_
    refine r_getI f65_60 o65 F6_221 g1_1 rfl ?_
    exact r_iret f65_63 v65 ⟨zs_eq (by unfold XCt; (repeat (first | rw [if_pos (by omega)] | rw [if_neg (by omega)]))), rfl⟩
  · refine r_swin f65_1 (by omega) (by omega) (o := 63) (by rw [q1]; rfl) (t := 64) (by decide) ?_
    refine r_aload_n f65_64 rfl ?_
    refine r_getR f65_65 o65 F6_10 g0_0 rfl ?_
    refine r_getI f65_68 o65 F6_243 g1_2 rfl ?_
    exact r_iret f65_71 v65 ⟨zs_eq (by unfold XCt; (repeat (first | rw [if_pos (by omega)] | rw [if_neg (by omega)]))), rfl⟩
  · refine r_swin f65_1 (by omega) (by omega) (o := 71) (by rw [q1]; rfl) (t := 72) (by decide) ?_
    refine r_aload_n f65_72 rfl ?_
    refine r_getI f65_73 o65 F6_101 g0_6 rfl ?_
    exact r_iret f65_76 v65 ⟨zs_eq (by unfold XCt; (repeat (first | rw [if_pos (by omega)] | rw [if_neg (by omega)]))), rfl⟩
  · refine r_swin f65_1 (by omega) (by omega) (o := 76) (by rw [q1]; rfl) (t := 77) (by decide) ?_
    refine r_aload_n f65_77 rfl ?_
    refine r_getI f65_78 o65 F6_94 g0_7 rfl ?_
    exact r_iret f65_81 v65 ⟨zs_eq (by unfold XCt; (repeat (first | rw [if_pos (by omega)] | rw [if_neg (by omega)]))), rfl⟩
  · refine r_swin f65_1 (by omega) (by omega) (o := 81) (by rw [q1]; rfl) (t := 82) (by decide) ?_
    refine r_aload_n f65_82 rfl ?_
    refine r_getR f65_83 o65 F6_34 g0_3 rfl ?_
    refine r_callv0i (m' := m) (v := zsum (XUf m) (m 55 4)) f65_86 o65 M6_246 p25 o25 kd55 rfl (by simp) (t_unopened l0 l1) ?_
    exact r_iret f65_89 v65 ⟨zs_eq (by unfold XCt; (repeat (first | rw [if_pos (by omega)] | rw [if_neg (by omega)]))), rfl⟩
  · refine r_swin f65_1 (by omega) (by omega) (o := 89) (by rw [q1]; rfl) (t := 90) (by decide) ?_
    refine r_aload_n f65_90 rfl ?_
    refine r_iconst f65_91 rfl ?_
    refine r_callv1i (m' := m) (v := zsum (XCf m 1) (m 0 6)) f65_92 o65 M6_249 p71 o71 kd0 rfl (by simp) (t_chainsThatAre k0 k1 1) ?_
    exact r_iret f65_95 v65 ⟨zs_eq (by unfold XCt; (repeat (first | rw [if_pos (by omega)] | rw [if_neg (by omega)]))), rfl⟩
  · refine r_swin f65_1 (by omega) (by omega) (o := 95) (by rw [q1]; rfl) (t := 96) (by decide) ?_
    refine r_aload_n f65_96 rfl ?_
    refine r_iconst f65_97 rfl ?_
    refine r_callv1i (m' := m) (v := zsum (XCf m 2) (m 0 6)) f65_98 o65 M6_249 p71 o71 kd0 rfl (by simp) (t_chainsThatAre k0 k1 2) ?_
    exact r_iret f65_101 v65 ⟨zs_eq (by unfold XCt; (repeat (first | rw [if_pos (by omega)] | rw [if_neg (by omega)]))), rfl⟩
  · refine r_swin f65_1 (by omega) (by omega) (o := 101) (by rw [q1]; rfl) (t := 102) (by decide) ?_
    refine r_aload_n f65_102 rfl ?_
    refine r_iconst f65_103 rfl ?_
    refine r_callv1i (m' := m) (v := zsum (XCf m 3) (m 0 6)) f65_104 o65 M6_249 p71 o71 kd0 rfl (by simp) (t_chainsThatAre k0 k1 3) ?_
    exact r_iret f65_107 v65 ⟨zs_eq (by unfold XCt; (repeat (first | rw [if_pos (by omega)] | rw [if_neg (by omega)]))), rfl⟩
  · refine r_swin f65_1 (by omega) (by omega) (o := 107) (by rw [q1]; rfl) (t := 108) (by decide) ?_
    refine r_aload_n f65_108 rfl ?_
    refine r_getR f65_109 o65 F6_41 g0_4 rfl ?_
    refine r_getI f65_112 o65 F6_252 g60_2 rfl ?_
    exact r_iret f65_115 v65 ⟨zs_eq (by unfold XCt; (repeat (first | rw [if_pos (by omega)] | rw [if_neg (by omega)]))), rfl⟩
  · refine r_swin f65_1 (by omega) (by omega) (o := 115) (by rw [q1]; rfl) (t := 116) (by decide) ?_
    refine r_aload_n f65_116 rfl ?_
    refine r_getI f65_117 o65 F6_215 g0_8 rfl ?_
    exact r_iret f65_120 v65 ⟨zs_eq (by unfold XCt; (repeat (first | rw [if_pos (by omega)] | rw [if_neg (by omega)]))), rfl⟩

theorem l_closed {L d : Nat} {m : zmem} (l0 : 0 ≤ m 264 27) (l1 : m 264 27 ≤ 40) {x : Int} {Q : Option zV → zM → Prop} (hx : zR (d + 1) 130 111 [some (.inr (.inl (some 264))), some (.inl x), some (.inl (zsum (MUf m) (m 264 27))), some (.inl (m 264 27))] [] (zem L m) Q) : ∀ (n : Nat) (i : Int), 0 ≤ i → i + n = m 264 27 → zR (d + 1) 130 80 [some (.inr (.inl (some 264))), some (.inl x), some (.inl (zsum (MUf m) i)), some (.inl i)] [] (zem L m) Q := by
  intro n
  induction n with
  | zero =>
    intro i hi hn
    have ei : i = m 264 27 := by omega
    rw [ei]
    refine r_iload_n f130_80 rfl ?_
    refine r_aload_n f130_81 rfl ?_
    refine r_getI f130_82 o130 F7_173 g264_27 rfl ?_
    refine r_cge f130_85 (t := 111) (by decide) (fun _ => ?_) (fun h => absurd (by omega) h)
    exact hx
  | succ n ih =>
    intro i hi hn
    have hb := zsum_b (f := MUf m) (A := 0) (B := 1) hi (fun k _ _ => by unfold MUf; split <;> omega)
    refine r_iload_n f130_80 rfl ?_
    refine r_aload_n f130_81 rfl ?_
    refine r_getI f130_82 o130 F7_173 g264_27 rfl ?_
    refine r_cge f130_85 (t := 111) (by decide) (fun h => absurd h (by omega)) (fun _ => ?_)
    refine r_iload_n f130_88 rfl ?_
    refine r_aload_n f130_89 rfl ?_
    refine r_getR f130_90 o130 F7_83 g264_31 rfl ?_
    refine r_iload_n f130_93 rfl ?_
    refine r_bald f130_94 kd289 (by omega) (by omega) ?_
    refine r_zeq f130_95 (t := 102) (by decide) (fun q1 => ?_) (fun q1 => ?_)
    · refine r_iconst f130_102 rfl ?_
      refine r_iadd f130_103 (e := zsum (MUf m) i + 1) (by omega) (by omega) (by omega) ?_
      refine r_istore_n f130_104 rfl (ls' := [some (.inr (.inl (some 264))), some (.inl x), some (.inl (zsum (MUf m) i + 1)), some (.inl i)]) rfl ?_
      refine r_iinc f130_105 rfl rfl rfl (e := i + 1) (by omega) (by omega) (by omega) (ls' := [some (.inr (.inl (some 264))), some (.inl x), some (.inl (zsum (MUf m) i + 1)), some (.inl (i + 1))]) rfl ?_
      refine r_goto f130_108 (t := 80) (by decide) ?_
      refine r_setI (k := 2) (a := zsum (MUf m) i + 1) (e := zsum (MUf m) (i + 1)) (by rw [zsum_s (by omega)]; unfold MUf; split <;> omega) rfl (ls' := [some (.inr (.inl (some 264))), some (.inl x), some (.inl (zsum (MUf m) (i + 1))), some (.inl (i + 1))]) rfl ?_
      exact ih (i + 1) (by omega) (by omega)
    · refine r_iconst f130_98 rfl ?_
      refine r_goto f130_99 (t := 103) (by decide) ?_
      refine r_iadd f130_103 (e := zsum (MUf m) i) (by omega) (by omega) (by omega) ?_
      refine r_istore_n f130_104 rfl (ls' := [some (.inr (.inl (some 264))), some (.inl x), some (.inl (zsum (MUf m) i)), some (.inl i)]) rfl ?_
      refine r_iinc f130_105 rfl rfl rfl (e := i + 1) (by omega) (by omega) (by omega) (ls' := [some (.inr (.inl (some 264))), some (.inl x), some (.inl (zsum (MUf m) i)), some (.inl (i + 1))]) rfl ?_
      refine r_goto f130_108 (t := 80) (by decide) ?_
      refine r_setI (k := 2) (a := zsum (MUf m) i) (e := zsum (MUf m) (i + 1)) (by rw [zsum_s (by omega)]; unfold MUf; split <;> omega) rfl (ls' := [some (.inr (.inl (some 264))), some (.inl x), some (.inl (zsum (MUf m) (i + 1))), some (.inl (i + 1))]) rfl ?_
      exact ih (i + 1) (by omega) (by omega)

theorem t_Mcount {L d : Nat} {m : zmem} (k0 : 0 ≤ m 264 10) (k1 : m 264 10 ≤ 40) (l0 : 0 ≤ m 264 27) (l1 : m 264 27 ≤ 40) (x : Int) : zF L (d + 1) 130 [.inr (.inl (some 264)), .inl x] m (some (.inl (MCt m x))) m := by
  refine zF_of n130 (ls := [some (.inr (.inl (some 264))), some (.inl x), none, none]) rfl ?_
  refine r_iload_n f130_0 rfl ?_
  rcases (show (x < 0 ∨ 9 < x) ∨ x = 0 ∨ x = 1 ∨ x = 2 ∨ x = 3 ∨ x = 4 ∨ x = 5 ∨ x = 6 ∨ x = 7 ∨ x = 8 ∨ x = 9 by omega) with q1 | q1 | q1 | q1 | q1 | q1 | q1 | q1 | q1 | q1 | q1
  · refine r_swout f130_1 q1 (t := 141) (by decide) ?_
    refine r_bipush f130_141 (by decide) ?_
    exact r_iret f130_143 v130 ⟨zs_eq (by unfold MCt; (repeat (first | rw [if_pos (by omega)] | rw [if_neg (by omega)]))), rfl⟩
  · refine r_swin f130_1 (by omega) (by omega) (o := 55) (by rw [q1]; rfl) (t := 56) (by decide) ?_
    refine r_aload_n f130_56 rfl ?_
    refine r_getI f130_57 o130 F7_86 g264_0 rfl ?_
    exact r_iret f130_60 v130 ⟨zs_eq (by unfold MCt; (repeat (first | rw [if_pos (by omega)] | rw [if_neg (by omega)]))), rfl⟩
  · refine r_swin f130_1 (by omega) (by omega) (o := 60) (by rw [q1]; rfl) (t := 61) (by decide) ?_
    refine r_aload_n f130_61 rfl ?_
    refine r_getI f130_62 o130 F7_101 g264_7 rfl ?_
    exact r_iret f130_65 v130 ⟨zs_eq (by unfold MCt; (repeat (first | rw [if_pos (by omega)] | rw [if_neg (by omega)]))), rfl⟩
  · refine r_swin f130_1 (by omega) (by omega) (o := 65) (by rw [q1]; rfl) (t := 66) (by decide) ?_
    refine r_aload_n f130_66 rfl ?_
    refine r_getI f130_67 o130 F7_94 g264_10 rfl ?_
    exact r_iret f130_70 v130 ⟨zs_eq (by unfold MCt; (repeat (first | rw [if_pos (by omega)] | rw [if_neg (by omega)]))), rfl⟩
  · refine r_swin f130_1 (by omega) (by omega) (o := 70) (by rw [q1]; rfl) (t := 71) (by decide) ?_
    refine r_aload_n f130_71 rfl ?_
    refine r_getI f130_72 o130 F7_122 g264_9 rfl ?_
    exact r_iret f130_75 v130 ⟨zs_eq (by unfold MCt; (repeat (first | rw [if_pos (by omega)] | rw [if_neg (by omega)]))), rfl⟩
  · refine r_swin f130_1 (by omega) (by omega) (o := 75) (by rw [q1]; rfl) (t := 76) (by decide) ?_
    refine r_iconst f130_76 rfl ?_
    refine r_istore_n f130_77 rfl (ls' := [some (.inr (.inl (some 264))), some (.inl x), some (.inl 0), none]) rfl ?_
    refine r_iconst f130_78 rfl ?_
    refine r_istore_n f130_79 rfl (ls' := [some (.inr (.inl (some 264))), some (.inl x), some (.inl 0), some (.inl 0)]) rfl ?_
    refine l_closed l0 l1 ?_ (m 264 27).toNat 0 (by omega) (by omega)
    refine r_iload_n f130_111 rfl ?_
    exact r_iret f130_112 v130 ⟨zs_eq (by unfold MCt; (repeat (first | rw [if_pos (by omega)] | rw [if_neg (by omega)]))), rfl⟩
  · refine r_swin f130_1 (by omega) (by omega) (o := 112) (by rw [q1]; rfl) (t := 113) (by decide) ?_
    refine r_aload_n f130_113 rfl ?_
    refine r_iconst f130_114 rfl ?_
    refine r_callv1i (m' := m) (v := zsum (MSf m 1) (m 264 10)) f130_115 o130 M7_185 p129 o129 kd264 rfl (by simp) (t_inStatus k0 k1 1) ?_
    exact r_iret f130_118 v130 ⟨zs_eq (by unfold MCt; (repeat (first | rw [if_pos (by omega)] | rw [if_neg (by omega)]))), rfl⟩
  · refine r_swin f130_1 (by omega) (by omega) (o := 118) (by rw [q1]; rfl) (t := 119) (by decide) ?_
    refine r_aload_n f130_119 rfl ?_
    refine r_iconst f130_120 rfl ?_
    refine r_callv1i (m' := m) (v := zsum (MSf m 2) (m 264 10)) f130_121 o130 M7_185 p129 o129 kd264 rfl (by simp) (t_inStatus k0 k1 2) ?_
    exact r_iret f130_124 v130 ⟨zs_eq (by unfold MCt; (repeat (first | rw [if_pos (by omega)] | rw [if_neg (by omega)]))), rfl⟩
  · refine r_swin f130_1 (by omega) (by omega) (o := 124) (by rw [q1]; rfl) (t := 125) (by decide) ?_
    refine r_aload_n f130_125 rfl ?_
    refine r_iconst f130_126 rfl ?_
    refine r_callv1i (m' := m) (v := zsum (MSf m 3) (m 264 10)) f130_127 o130 M7_185 p129 o129 kd264 rfl (by simp) (t_inStatus k0 k1 3) ?_
    exact r_iret f130_130 v130 ⟨zs_eq (by unfold MCt; (repeat (first | rw [if_pos (by omega)] | rw [if_neg (by omega)]))), rfl⟩
  · refine r_swin f130_1 (by omega) (by omega) (o := 130) (by rw [q1]; rfl) (t := 131) (by decide) ?_
    refine r_aload_n f130_131 rfl ?_
    refine r_getI f130_132 o130 F7_154 g264_24 rfl ?_
    exact r_iret f130_135 v130 ⟨zs_eq (by unfold MCt; (repeat (first | rw [if_pos (by omega)] | rw [if_neg (by omega)]))), rfl⟩
  · refine r_swin f130_1 (by omega) (by omega) (o := 135) (by rw [q1]; rfl) (t := 136) (by decide) ?_
    refine r_aload_n f130_136 rfl ?_
    refine r_getI f130_137 o130 F7_179 g264_6 rfl ?_
    exact r_iret f130_140 v130 ⟨zs_eq (by unfold MCt; (repeat (first | rw [if_pos (by omega)] | rw [if_neg (by omega)]))), rfl⟩

theorem ct_eq {T : Int} {m : zmem} (hs : Sim T m m) (x : Int) : XCt m x = MCt m x := by
  have s1 := hs.s1
  unfold S1 at s1
  have e1 : zsum (XUf m) (m 55 4) = zsum (MUf m) (m 264 27) := by
    rw [show m 55 4 = m 264 27 by omega]
    refine zsum_c (fun k k0 k1 => ?_)
    have g := hs.s12 k k0 (by omega)
    unfold XUf MUf
    rw [g.2.2.2.1]
  have e2 : ∀ v, zsum (XCf m v) (m 0 6) = zsum (MSf m v) (m 264 10) := fun v => by
    rw [show m 0 6 = m 264 10 by omega]
    refine zsum_c (fun k k0 k1 => ?_)
    have g := hs.s5 k k0 (by omega)
    unfold XCf MSf
    rw [g.1.2.2.2.1]
  unfold XCt MCt
  rw [e1, e2, e2, e2]
  repeat (split; first | omega | rfl)
  rfl
theorem zPr_rd {L jx jm : Nat} {as : List zV} {T : Int} {m : zmem} {v w : zV} (hs : Sim T m m) (hx : zF L 8 jx (.inr (.inl (some 0)) :: as) m (some v) m) (hm : zF L 8 jm (.inr (.inl (some 264)) :: as) m (some w) m) (e : w = v) : zPr L jx jm as T m := by
  subst e
  exact ⟨_, _, _, hx, hm, Sim_T hs (by omega)⟩
theorem pr_count {L : Nat} {T : Int} {m : zmem} (hs : Sim T m m) (x : Int) : zPr L 65 130 [.inl x] T m := by
  have s1 := hs.s1
  unfold S1 at s1
  exact zPr_rd hs (t_Xcount (d := 7) (by omega) (by omega) (by omega) (by omega) x) (t_Mcount (d := 7) (by omega) (by omega) (by omega) (by omega) x) (by rw [ct_eq hs x])
