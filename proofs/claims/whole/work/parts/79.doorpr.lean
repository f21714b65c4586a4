theorem pr_door {L : Nat} {T : Int} {m : zmem} (hs : Sim T m m) (hT : T ≤ 100000) (x y z : Int) : zPr L 61 125 [.inl x, .inl y, .inl z] T m := by
  have s1 := hs.s1
  unfold S1 at s1
  have hf : ∀ h k, 0 ≤ h → h < 12 → 0 ≤ k → k < 120 → 0 ≤ m (4 + 4 * h) k ∧ m (4 + 4 * h) k ≤ 9 := fun h k a b c d => (hs.s10 h a b).1 k c d
  by_cases hg : ((0 ≤ x ∧ x < m 264 0) ∧ (1 ≤ y ∧ y ≤ 9) ∧ (0 ≤ z ∧ z ≤ 23))
  · have hg2 : ((0 ≤ x ∧ x < m 1 1) ∧ (1 ≤ y ∧ y ≤ 9) ∧ (0 ≤ z ∧ z ≤ 23)) := by omega
    have e07 : m 0 7 = m 264 9 := by omega
    have g3 := hs.s3 x hg.1.1 (by omega) (m 264 9) (by omega) (by omega)
    have g2 := hs.s2 x hg.1.1 (by omega)
    have fe : XF m x (m 0 7) = MO m x (m 264 9) := by rw [e07]; exact Sim_F hs hg.1.1 hg.1.2 (by omega) (by omega)
    have r0 := Sim_rng hs x 0 (m 264 9) hg.1.1 hg.1.2 (by omega) (by omega) (by omega) (by omega)
    have r1 := Sim_rng hs x 1 (m 264 9) hg.1.1 hg.1.2 (by omega) (by omega) (by omega) (by omega)
    have r2 := Sim_rng hs x 2 (m 264 9) hg.1.1 hg.1.2 (by omega) (by omega) (by omega) (by omega)
    have rb : 0 ≤ MO m x (m 264 9) ∧ MO m x (m 264 9) ≤ 27 := by unfold MO; omega
    have zb := zsum_b (f := MZf m x) (A := 0) (B := 12) (n := m 264 10) (by omega) (fun k k0 k1 => MZf_b hs (by omega) (by omega))
    have hbl := t_beds (L := L) (d := 2) hs (x := x)
    by_cases ho : m 268 (40 * x + m 264 9) = 0
    · have ho2 : m (5 + 4 * x) (m 0 7) = 0 := by rw [e07]; omega
      by_cases hr : (MO m x (m 264 9) < y ∧ (z < m 266 x ∨ MO m x (m 264 9) + zsum (MZf m x) (m 264 10) < y))
      · have hn : ¬ y ≤ XF m x (m 0 7) := by omega
        have hr2 : (z < m (3 + 4 * x) 3 ∨ XF m x (m 0 7) + zsum (MZf m x) (m 264 10) < y) := by omega
        have gx := t_Xdoor (L := L) (d := 2) (m := m) (x := x) (y := y) (z := z) (w := 0) (bl := zsum (MZf m x) (m 264 10)) (X := m) (W := m) (W0 := m) (by omega) (by omega) (by omega) (by omega) hf (fun _ => by omega) (fun _ => hbl) (fun _ _ h => absurd h hn) (fun _ _ h => absurd h hn) (fun _ _ _ h => absurd hr2 h) (fun _ _ _ h => absurd hr2 h) (fun _ _ _ h => absurd hr2 h)
        rw [if_pos hg2, if_pos hg2, if_pos ho2, if_pos ho2, if_neg hn, if_neg hn, if_pos hr2, if_pos hr2] at gx
        refine zPr_of gx (zan_rf m) (fun m1 ha => ?_) (Sim_T hs (by omega))
        have gm := t_Mdoor (L := L) (d := 4) ha (h := x) (y := y) (z := z) (w := 0) (t := 0) (Y := m) (M := m) (by omega) (by omega) (Sim_ok hs) (Sim_rng hs) (by omega) (by omega) (by omega) (by omega) hs (fun _ _ h => absurd hr h) (fun _ _ h => absurd hr h)
        rw [if_pos hg, if_pos hg, if_pos ho, if_pos ho, if_pos hr, if_pos hr] at gm
        exact ⟨_, _, gm, rfl, zac_rf _, ha⟩
      · obtain ⟨X, M, w, i1, i2, i3, i4, ⟨i5, i5b⟩, i6, i7⟩ := l_clear (L := L) (d := 2) (e := 5) (x := x) (y := y) (h := z) (by omega) (by omega) (m 264 10).toNat (m 264 10 - 1) m m hs (by omega) (by omega) hg.1.1 hg.1.2 (by rw [show m 264 10 - 1 + 1 = m 264 10 by omega]; omega)
        have s2 := i1.s1
        unfold S1 at s2
        rw [i4] at s2
        have x07 : X 0 7 = m 264 9 := by omega
        have gs := (i1.s10 x hg.1.1 (by omega)).2 (by rw [i4]; exact hg.1.2)
        have q0 := gs 0 (m 264 9) (by omega) (by omega) (by omega) (by omega)
        have q1 := gs 1 (m 264 9) (by omega) (by omega) (by omega) (by omega)
        have q2 := gs 2 (m 264 9) (by omega) (by omega) (by omega) (by omega)
        rw [show 3 * m 264 9 + 0 = 3 * m 264 9 by omega] at q0
        have mr0 := Sim_rng i1 x 0 (m 264 9) hg.1.1 (by rw [i4]; exact hg.1.2) (by omega) (by omega) (by omega) (by omega)
        have mr1 := Sim_rng i1 x 1 (m 264 9) hg.1.1 (by rw [i4]; exact hg.1.2) (by omega) (by omega) (by omega) (by omega)
        have mr2 := Sim_rng i1 x 2 (m 264 9) hg.1.1 (by rw [i4]; exact hg.1.2) (by omega) (by omega) (by omega) (by omega)
        have i5c : y ≤ MF M x 0 (m 264 9) + MF M x 1 (m 264 9) + MF M x 2 (m 264 9) := i5
        have zk := zsh_ok mr0.1 mr1.1 mr2.1 (n := y) (by omega) i5c
        have hW := t_fillB (L := L) (d := 5) (m := X) (h := x) (t := X 0 7) (n := y) hg.1.1 (by omega) (by omega) (by omega) (fun k u v => (i1.s10 x hg.1.1 (by omega)).1 k u v) i1.s14.1 (by omega) (by rw [x07, q0, q1, q2]; exact i5c)
        have eW : XWB X x (X 0 7) y = XDw X x (m 264 9) (zsh0 (MF M x 0 (m 264 9)) (MF M x 1 (m 264 9)) (MF M x 2 (m 264 9)) y) (zsh1 (MF M x 0 (m 264 9)) (MF M x 1 (m 264 9)) (MF M x 2 (m 264 9)) y) (zsh2 (MF M x 0 (m 264 9)) (MF M x 1 (m 264 9)) (MF M x 2 (m 264 9)) y) := by rw [XWB_D, x07, q0, q1, q2]
        rw [eW] at hW
        have w5 : XDw X x (m 264 9) (zsh0 (MF M x 0 (m 264 9)) (MF M x 1 (m 264 9)) (MF M x 2 (m 264 9)) y) (zsh1 (MF M x 0 (m 264 9)) (MF M x 1 (m 264 9)) (MF M x 2 (m 264 9)) y) (zsh2 (MF M x 0 (m 264 9)) (MF M x 1 (m 264 9)) (MF M x 2 (m 264 9)) y) (3 + 4 * x) 5 = X (3 + 4 * x) 5 := by unfold XDw; rw [zu_ne (by omega), zu_ne (by omega), zu_ne (by omega), zu_ne (by omega), zu_ne (by omega), zu_ne (by omega)]
        have w8 : XDw X x (m 264 9) (zsh0 (MF M x 0 (m 264 9)) (MF M x 1 (m 264 9)) (MF M x 2 (m 264 9)) y) (zsh1 (MF M x 0 (m 264 9)) (MF M x 1 (m 264 9)) (MF M x 2 (m 264 9)) y) (zsh2 (MF M x 0 (m 264 9)) (MF M x 1 (m 264 9)) (MF M x 2 (m 264 9)) y) 0 8 = X 0 8 := by unfold XDw; rw [zu_ne (by omega), zu_ne (by omega), zu_ne (by omega), zu_ne (by omega), zu_ne (by omega), zu_ne (by omega)]
        have g11 := i1.s11 x hg.1.1 (by omega)
        rw [i4] at g11
        have d0 := g11.1 (3 * m 264 9) (by omega) (by omega)
        have d1 := g11.1 (3 * m 264 9 + 1) (by omega) (by omega)
        have d2 := g11.1 (3 * m 264 9 + 2) (by omega) (by omega)
        rw [show 120 * x + (3 * m 264 9 + 1) = 120 * x + 3 * m 264 9 + 1 by omega] at d1
        rw [show 120 * x + (3 * m 264 9 + 2) = 120 * x + 3 * m 264 9 + 2 by omega] at d2
        have fin := sm_door i1 (x := x) (t := m 264 9) (y := y) hg.1.1 (by rw [i4]; exact hg.1.2) (by rw [i4]) (by omega) (by omega) zk.1 zk.2.1 zk.2.2.1 zk.2.2.2
        have gx : zF L 8 61 [.inr (.inl (some 0)), .inl x, .inl y, .inl z] m (some (.inl w)) (XDo X x (m 264 9) y (zsh0 (MF M x 0 (m 264 9)) (MF M x 1 (m 264 9)) (MF M x 2 (m 264 9)) y) (zsh1 (MF M x 0 (m 264 9)) (MF M x 1 (m 264 9)) (MF M x 2 (m 264 9)) y) (zsh2 (MF M x 0 (m 264 9)) (MF M x 1 (m 264 9)) (MF M x 2 (m 264 9)) y)) := by
          by_cases hA : y ≤ MO m x (m 264 9)
          · obtain ⟨ex, em, ew⟩ := i5b hA
            have hA2 : y ≤ XF m x (m 0 7) := by omega
            have hW0 := hW
            rw [show zF L (5 + 2) 19 [.inr (.inl (some (3 + 4 * x))), .inl (X 0 7), .inl y, .inr (.inl (some 63)), .inl 0] X = zF L (5 + 2) 19 [.inr (.inl (some (3 + 4 * x))), .inl (m 0 7), .inl y, .inr (.inl (some 63)), .inl 0] m by rw [ex]] at hW0
            have gx := t_Xdoor (L := L) (d := 2) (m := m) (x := x) (y := y) (z := z) (w := 0) (bl := zsum (MZf m x) (m 264 10)) (X := m) (W := m) (by omega) (by omega) (by omega) (by omega) hf (fun _ => by omega) (fun _ => hbl) (fun _ _ _ => hW0) (fun _ _ _ => by rw [w5, w8]; omega) (fun _ _ h => absurd hA2 h) (fun _ _ h => absurd hA2 h) (fun _ _ h => absurd hA2 h)
            rw [if_pos hg2, if_pos hg2, if_pos ho2, if_pos ho2, if_pos hA2, if_pos hA2, w5, w8, Int.add_comm (X 0 8) y] at gx
            rw [ew]
            exact gx
          · have hA2 : ¬ y ≤ XF m x (m 0 7) := by omega
            have hr2 : ¬ (z < m (3 + 4 * x) 3 ∨ XF m x (m 0 7) + zsum (MZf m x) (m 264 10) < y) := by omega
            have cl := t_clearLate (L := L) (d := 2) (m := m) (x := x) (y := y) (w := w) (X := X) (by omega) (by omega) hg.1.1 (by omega) (fun Q hk => by
              rw [show m 0 6 - 1 = m 264 10 - 1 by omega]
              exact i6 Q 0 (by omega) (by omega) (by rw [show (0 : Int) + w = w by omega]; exact hk))
            have gx := t_Xdoor (L := L) (d := 2) (m := m) (x := x) (y := y) (z := z) (w := w) (bl := zsum (MZf m x) (m 264 10)) (X := X) (W0 := m) (by omega) (by omega) (by omega) (by omega) hf (fun _ => by omega) (fun _ => hbl) (fun _ _ h => absurd h hA2) (fun _ _ h => absurd h hA2) (fun _ _ _ _ => cl) (fun _ _ _ _ => hW) (fun _ _ _ _ => by rw [w5, w8]; omega)
            rw [if_pos hg2, if_pos hg2, if_pos ho2, if_pos ho2, if_neg hA2, if_neg hA2, if_neg hr2, if_neg hr2, w5, w8, Int.add_comm (X 0 8) y] at gx
            exact gx
        refine zPr_of gx (zan_tr (by unfold XDo; exact zan_x (zan_x (zan_x (zan_x (zan_x (zan_x (zan_x (zan_x (zan_rf X) (by omega)) (by omega)) (by omega)) (by omega)) (by omega)) (by omega)) (by omega)) (by omega)) i2) (fun m1 ha => ?_) fin
        obtain ⟨Y, y1, y2, y3⟩ := i7 m1 ha
        have gm := t_Mdoor (L := L) (d := 4) ha (h := x) (y := y) (z := z) (w := w) (t := m 264 9) (Y := Y) (M := M) (by omega) (by omega) (Sim_ok hs) (Sim_rng hs) (by omega) (by omega) (by omega) (by omega) hs (fun _ _ _ Q hk => y3 Q 0 _ _ (by omega) (by omega) rfl (by rw [show (0 : Int) + w = w by omega]; exact hk)) (fun _ _ _ => ⟨y2, by rw [i4], by omega, Sim_ok i1, Sim_rng i1, by rw [i4]; omega, i5c⟩)
        rw [if_pos hg, if_pos hg, if_pos ho, if_pos ho, if_neg hr, if_neg hr] at gm
        refine ⟨_, _, gm, rfl, zac_tr (by unfold MDf MPt; exact zac_u (zac_u (zac_u (zac_u (zac_u (zac_u (zac_u (zac_rf Y) (by omega)) (by omega)) (by omega)) (by omega)) (by omega)) (by omega)) (by omega)) y1, ?_⟩
        unfold MDf MDo
        rw [Int.add_comm (M 264 6) y]
        exact zan_w (zan_w (zan_w (zan_w (zan_u (zan_u (zan_u y2 (by omega)) (by omega)) (by omega)))))
    · have ho2 : ¬ m (5 + 4 * x) (m 0 7) = 0 := by rw [e07]; omega
      have gx := t_Xdoor (L := L) (d := 2) (m := m) (x := x) (y := y) (z := z) (w := 0) (bl := zsum (MZf m x) (m 264 10)) (X := m) (W := m) (W0 := m) (by omega) (by omega) (by omega) (by omega) hf (fun _ => by omega) (fun _ => hbl) (fun _ h => absurd h ho2) (fun _ h => absurd h ho2) (fun _ h => absurd h ho2) (fun _ h => absurd h ho2) (fun _ h => absurd h ho2)
      rw [if_pos hg2, if_pos hg2, if_neg ho2, if_neg ho2] at gx
      refine zPr_of gx (zan_rf m) (fun m1 ha => ?_) (Sim_T hs (by omega))
      have gm := t_Mdoor (L := L) (d := 4) ha (h := x) (y := y) (z := z) (w := 0) (t := 0) (Y := m) (M := m) (by omega) (by omega) (Sim_ok hs) (Sim_rng hs) (by omega) (by omega) (by omega) (by omega) hs (fun _ h => absurd h ho) (fun _ h => absurd h ho)
      rw [if_pos hg, if_pos hg, if_neg ho, if_neg ho] at gm
      exact ⟨_, _, gm, rfl, zac_rf _, ha⟩
  · have hg2 : ¬ ((0 ≤ x ∧ x < m 1 1) ∧ (1 ≤ y ∧ y ≤ 9) ∧ (0 ≤ z ∧ z ≤ 23)) := by omega
    have gx := t_Xdoor (L := L) (d := 2) (m := m) (x := x) (y := y) (z := z) (w := 0) (bl := 0) (X := m) (W := m) (W0 := m) (by omega) (by omega) (by omega) (by omega) hf (fun h => absurd h hg2) (fun h => absurd h hg2) (fun h => absurd h hg2) (fun h => absurd h hg2) (fun h => absurd h hg2) (fun h => absurd h hg2) (fun h => absurd h hg2)
    rw [if_neg hg2, if_neg hg2] at gx
    refine zPr_of gx (zan_rf m) (fun m1 ha => ?_) (Sim_T hs (by omega))
    have gm := t_Mdoor (L := L) (d := 4) ha (h := x) (y := y) (z := z) (w := 0) (t := 0) (Y := m) (M := m) (by omega) (by omega) (Sim_ok hs) (Sim_rng hs) (by omega) (by omega) (by omega) (by omega) hs (fun h => absurd h hg) (fun h => absurd h hg)
    rw [if_neg hg, if_neg hg] at gm
    exact ⟨_, _, gm, rfl, zac_rf _, ha⟩
