theorem t_Xopen {L d : Nat} {m : zmem} {u w : Int} {X : zmem} (hC : (0 ≤ u ∧ u ≤ 999) → ∀ Q : Option zV → zM → Prop, zR (d + 6) 59 85 [some (.inr (.inl (some 0))), some (.inl u), some (.inl w), none, none] [] (zem L X) Q → zR (d + 6) 59 18 [some (.inr (.inl (some 0))), some (.inl u), some (.inl 0), some (.inl 0), none] [] (zem L m) Q) : zF L (d + 6) 59 [.inr (.inl (some 0)), .inl u] m (some (.inl (if (0 ≤ u ∧ u ≤ 999) then w else -2))) (if (0 ≤ u ∧ u ≤ 999) then X else m) := by
  refine zF_of n59 (ls := [some (.inr (.inl (some 0))), some (.inl u), none, none, none]) rfl ?_
  refine r_iload_n f59_0 rfl ?_
  refine r_iconst f59_1 rfl ?_
  refine r_sipush f59_2 (by decide) ?_
  refine r_calls3i (m' := m) f59_5 o59 M6_50 (Or.inl rfl) p67 rfl (by simp) (t_within u 0 999) ?_
  refine r_ite (fun q1 => ?_) (fun q1 => ?_)
  · refine r_zne f59_8 (t := 14) (by decide) (fun _ => ?_) (fun h => absurd (by omega) h)
    refine r_iconst f59_14 rfl ?_
    refine r_istore_n f59_15 rfl (ls' := [some (.inr (.inl (some 0))), some (.inl u), some (.inl 0), none, none]) rfl ?_
    refine r_iconst f59_16 rfl ?_
    refine r_istore_n f59_17 rfl (ls' := [some (.inr (.inl (some 0))), some (.inl u), some (.inl 0), some (.inl 0), none]) rfl ?_
    refine hC (by omega) _ ?_
    refine r_iload_n f59_85 rfl ?_
    exact r_iret f59_86 v59 ⟨zs_eq (by first | rfl | omega | ((repeat (first | rw [if_pos (by omega)] | rw [if_neg (by omega)])) <;> first | rfl | omega)), (by first | rfl | ((repeat (first | rw [if_pos (by omega)] | rw [if_neg (by omega)])); done) | ((repeat (first | rw [if_pos (by omega)] | rw [if_neg (by omega)])); rfl))⟩
  · refine r_zne f59_8 (t := 14) (by decide) (fun h => absurd h (by omega)) (fun _ => ?_)
    refine r_bipush f59_11 (by decide) ?_
    exact r_iret f59_13 v59 ⟨zs_eq (by first | rfl | omega | ((repeat (first | rw [if_pos (by omega)] | rw [if_neg (by omega)])) <;> first | rfl | omega)), (by first | rfl | ((repeat (first | rw [if_pos (by omega)] | rw [if_neg (by omega)])); done) | ((repeat (first | rw [if_pos (by omega)] | rw [if_neg (by omega)])); rfl))⟩

theorem t_Mopen {L d : Nat} {m : zmem} {u w : Int} {Y : zmem} (hC : (0 ≤ u ∧ u ≤ 999) → ∀ Q : Option zV → zM → Prop, zR (d + 6) 122 165 [some (.inr (.inl (some 264))), some (.inl u), some (.inl w), none, none] [] (zem L Y) Q → zR (d + 6) 122 18 [some (.inr (.inl (some 264))), some (.inl u), some (.inl 0), some (.inl 0), none] [] (zem L m) Q) : zF L (d + 6) 122 [.inr (.inl (some 264)), .inl u] m (some (.inl (if (0 ≤ u ∧ u ≤ 999) then w else -2))) (if (0 ≤ u ∧ u ≤ 999) then Y else m) := by
  refine zF_of n122 (ls := [some (.inr (.inl (some 264))), some (.inl u), none, none, none]) rfl ?_
  refine r_iload_n f122_0 rfl ?_
  refine r_iconst f122_1 rfl ?_
  refine r_sipush f122_2 (by decide) ?_
  refine r_calls3i (m' := m) f122_5 o122 M7_90 (Or.inl rfl) p85 rfl (by simp) (t_in u 0 999) ?_
  refine r_ite (fun q1 => ?_) (fun q1 => ?_)
  · refine r_zne f122_8 (t := 14) (by decide) (fun _ => ?_) (fun h => absurd (by omega) h)
    refine r_iconst f122_14 rfl ?_
    refine r_istore_n f122_15 rfl (ls' := [some (.inr (.inl (some 264))), some (.inl u), some (.inl 0), none, none]) rfl ?_
    refine r_iconst f122_16 rfl ?_
    refine r_istore_n f122_17 rfl (ls' := [some (.inr (.inl (some 264))), some (.inl u), some (.inl 0), some (.inl 0), none]) rfl ?_
    refine hC (by omega) _ ?_
    refine r_iload_n f122_165 rfl ?_
    exact r_iret f122_166 v122 ⟨zs_eq (by first | rfl | omega | ((repeat (first | rw [if_pos (by omega)] | rw [if_neg (by omega)])) <;> first | rfl | omega)), (by first | rfl | ((repeat (first | rw [if_pos (by omega)] | rw [if_neg (by omega)])); done) | ((repeat (first | rw [if_pos (by omega)] | rw [if_neg (by omega)])); rfl))⟩
  · refine r_zne f122_8 (t := 14) (by decide) (fun h => absurd h (by omega)) (fun _ => ?_)
    refine r_bipush f122_11 (by decide) ?_
    exact r_iret f122_13 v122 ⟨zs_eq (by first | rfl | omega | ((repeat (first | rw [if_pos (by omega)] | rw [if_neg (by omega)])) <;> first | rfl | omega)), (by first | rfl | ((repeat (first | rw [if_pos (by omega)] | rw [if_neg (by omega)])); done) | ((repeat (first | rw [if_pos (by omega)] | rw [if_neg (by omega)])); rfl))⟩

theorem pr_open {L : Nat} {T : Int} {m : zmem} (hs : Sim T m m) (u : Int) : zPr L 59 122 [.inl u] T m := by
  have s1 := hs.s1
  unfold S1 at s1
  by_cases hg : (0 ≤ u ∧ u ≤ 999)
  · have hb := zsum_b (f := MUf m) (A := 0) (B := 1) (n := m 264 27) (by omega) (fun k _ _ => by unfold MUf; split <;> omega)
    obtain ⟨X, M, w, i1, i2, i3, i4, i5⟩ := l_open (L := L) (d := 2) (e := 2) (u := u) 40 m m hs (by omega)
    have gx := t_Xopen (L := L) (d := 2) (m := m) (u := u) (w := w) (X := X) (fun _ Q hk => i4 Q 0 0 (by omega) (by omega) (by omega) (by omega) (by rw [show (0 : Int) + w = w by omega]; exact hk))
    rw [if_pos hg, if_pos hg] at gx
    refine zPr_of gx i2 (fun m1 ha => ?_) (Sim_T i1 (by omega))
    obtain ⟨Y, y1, y2, y3⟩ := i5 m1 ha
    have gm := t_Mopen (L := L) (d := 2) (m := m1) (u := u) (w := w) (Y := Y) (fun _ Q hk => y3 Q 0 0 (by omega) (by omega) (by omega) (by rw [show (0 : Int) + w = w by omega]; exact hk))
    rw [if_pos hg, if_pos hg] at gm
    exact ⟨_, _, gm, rfl, y1, y2⟩
  · have gx := t_Xopen (L := L) (d := 2) (m := m) (u := u) (w := 0) (X := m) (fun h => absurd h hg)
    rw [if_neg hg, if_neg hg] at gx
    refine zPr_of gx (zan_rf m) (fun m1 ha => ?_) (Sim_T hs (by omega))
    have gm := t_Mopen (L := L) (d := 2) (m := m1) (u := u) (w := 0) (Y := m) (fun h => absurd h hg)
    rw [if_neg hg, if_neg hg] at gm
    exact ⟨_, _, gm, rfl, zac_rf _, ha⟩
