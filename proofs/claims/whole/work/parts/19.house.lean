def zfu (m : zmem) (h e v i : Int) : zmem := fun p b => if p = 4 + 4 * h ∧ 0 ≤ b ∧ b < 3 * i ∧ b % 3 = e then v else m p b
theorem zfu_s {m : zmem} {h e v i : Int} (h0 : 0 ≤ i) (h1 : 0 ≤ e) (h2 : e < 3) : zu (zfu m h e v i) (4 + 4 * h) (e + 3 * i) v = zfu m h e v (i + 1) := by
  funext p b
  rw [zu_if]
  unfold zfu
  by_cases g : p = 4 + 4 * h ∧ b = e + 3 * i
  · rw [if_pos g, if_pos (by omega)]
  · rw [if_neg g]
    by_cases g2 : p = 4 + 4 * h ∧ 0 ≤ b ∧ b < 3 * i ∧ b % 3 = e
    · rw [if_pos g2, if_pos (by omega)]
    · rw [if_neg g2, if_neg (by omega)]
theorem zfu_0 {m : zmem} {h e v : Int} : zfu m h e v 0 = m := by
  funext p b
  unfold zfu
  rw [if_neg (by omega)]
theorem l_furnish {L d : Nat} {m : zmem} {h : Int} (h0 : 0 ≤ h) (h1 : h < 12) {e v : Int} (e0 : 0 ≤ e) (e1 : e < 3) {Q : Option zV → zM → Prop} (hx : zR (d) 13 25 [some (.inr (.inl (some (3 + 4 * h)))), some (.inl e), some (.inl v), some (.inl 40)] [] (zem L (zfu m h e v 40)) Q) : ∀ (n : Nat) (i : Int), 0 ≤ i → i + n = 40 → zR (d) 13 2 [some (.inr (.inl (some (3 + 4 * h)))), some (.inl e), some (.inl v), some (.inl i)] [] (zem L (zfu m h e v i)) Q := by
  intro n
  induction n with
  | zero =>
    intro i hi hn
    have ei : i = 40 := by omega
    rw [ei]
    refine r_iload_n f13_2 rfl ?_
    refine r_bipush f13_3 (by decide) ?_
    refine r_cge f13_5 (t := 25) (by decide) (fun _ => ?_) (fun h => absurd (by omega) h)
    exact hx
  | succ n ih =>
    intro i hi hn
    refine r_iload_n f13_2 rfl ?_
    refine r_bipush f13_3 (by decide) ?_
    refine r_cge f13_5 (t := 25) (by decide) (fun h => absurd h (by omega)) (fun _ => ?_)
    refine r_aload_n f13_8 rfl ?_
    refine r_getR f13_9 o13 F1_9 (gH_0 (h := h) (by omega) (by omega)) rfl ?_
    refine r_iload_n f13_12 rfl ?_
    refine r_iconst f13_13 rfl ?_
    refine r_imul f13_14 (e := 3 * i) (by omega) (by omega) (by omega) ?_
    refine r_iload_n f13_15 rfl ?_
    refine r_iadd f13_16 (e := e + 3 * i) (by omega) (by omega) (by omega) ?_
    refine r_iload_n f13_17 rfl ?_
    refine r_iast f13_18 (kdH1 (h := h) (by omega) (by omega)) (by omega) (by omega) (by omega) ?_
    refine r_iinc f13_19 rfl rfl rfl (e := i + 1) (by omega) (by omega) (by omega) (ls' := [some (.inr (.inl (some (3 + 4 * h)))), some (.inl e), some (.inl v), some (.inl (i + 1))]) rfl ?_
    refine r_goto f13_22 (t := 2) (by decide) ?_
    refine r_mem (m1 := (zfu m h e v (i + 1))) (Eq.symm (by exact zfu_s hi e0 e1)) ?_
    exact ih (i + 1) (by omega) (by omega)

theorem t_furnish {L d : Nat} {m : zmem} {h : Int} (h0 : 0 ≤ h) (h1 : h < 12) {e v : Int} (e0 : 0 ≤ e) (e1 : e < 3) : zF L (d) 13 [.inr (.inl (some (3 + 4 * h))), .inl e, .inl v] m none (zfu m h e v 40) := by
  refine zF_of n13 (ls := [some (.inr (.inl (some (3 + 4 * h)))), some (.inl e), some (.inl v), none]) rfl ?_
  refine r_iconst f13_0 rfl ?_
  refine r_istore_n f13_1 rfl (ls' := [some (.inr (.inl (some (3 + 4 * h)))), some (.inl e), some (.inl v), some (.inl 0)]) rfl ?_
  refine r_mem (m1 := zfu m h e v 0) zfu_0 ?_
  refine l_furnish h0 h1 e0 e1 ?_ 40 0 (by omega) (by omega)
  exact r_vret f13_25 v13 ⟨rfl, rfl⟩

def zcs (m : zmem) (h a i : Int) : zmem := fun p b => if p = 5 + 4 * h ∧ a ≤ b ∧ b < i then 1 else m p b
theorem zcs_s {m : zmem} {h a i : Int} (h0 : a ≤ i) : zu (zcs m h a i) (5 + 4 * h) i 1 = zcs m h a (i + 1) := by
  funext p b
  rw [zu_if]
  unfold zcs
  by_cases g : p = 5 + 4 * h ∧ b = i
  · rw [if_pos g, if_pos (by omega)]
  · rw [if_neg g]
    by_cases g2 : p = 5 + 4 * h ∧ a ≤ b ∧ b < i
    · rw [if_pos g2, if_pos (by omega)]
    · rw [if_neg g2, if_neg (by omega)]
theorem zcs_0 {m : zmem} {h a : Int} : zcs m h a a = m := by
  funext p b
  unfold zcs
  rw [if_neg (by omega)]
theorem l_close {L d : Nat} {m : zmem} {h : Int} (h0 : 0 ≤ h) (h1 : h < 12) {a b : Int} (a0 : 0 ≤ a) (b1 : b < 40) {Q : Option zV → zM → Prop} (hx : zR (d) 16 20 [some (.inr (.inl (some (3 + 4 * h)))), some (.inl a), some (.inl b), some (.inl (b + 1))] [] (zem L (zcs m h a (b + 1))) Q) : ∀ (n : Nat) (i : Int), a ≤ i → i + n = b + 1 → zR (d) 16 2 [some (.inr (.inl (some (3 + 4 * h)))), some (.inl a), some (.inl b), some (.inl i)] [] (zem L (zcs m h a i)) Q := by
  intro n
  induction n with
  | zero =>
    intro i hi hn
    have ei : i = b + 1 := by omega
    rw [ei]
    refine r_iload_n f16_2 rfl ?_
    refine r_iload_n f16_3 rfl ?_
    refine r_cgt f16_4 (t := 20) (by decide) (fun _ => ?_) (fun h => absurd (by omega) h)
    exact hx
  | succ n ih =>
    intro i hi hn
    refine r_iload_n f16_2 rfl ?_
    refine r_iload_n f16_3 rfl ?_
    refine r_cgt f16_4 (t := 20) (by decide) (fun h => absurd h (by omega)) (fun _ => ?_)
    refine r_aload_n f16_7 rfl ?_
    refine r_getR f16_8 o16 F1_15 (gH_1 (h := h) (by omega) (by omega)) rfl ?_
    refine r_iload_n f16_11 rfl ?_
    refine r_iconst f16_12 rfl ?_
    refine r_bast f16_13 (kdH2 (h := h) (by omega) (by omega)) (by omega) (by omega) (by omega) (by omega) ?_
    refine r_iinc f16_14 rfl rfl rfl (e := i + 1) (by omega) (by omega) (by omega) (ls' := [some (.inr (.inl (some (3 + 4 * h)))), some (.inl a), some (.inl b), some (.inl (i + 1))]) rfl ?_
    refine r_goto f16_17 (t := 2) (by decide) ?_
    refine r_mem (m1 := (zcs m h a (i + 1))) (Eq.symm (by exact zcs_s hi)) ?_
    exact ih (i + 1) (by omega) (by omega)

theorem t_close {L d : Nat} {m : zmem} {h : Int} (h0 : 0 ≤ h) (h1 : h < 12) {a b : Int} (a0 : 0 ≤ a) (a1 : a ≤ b) (b1 : b < 40) : zF L (d) 16 [.inr (.inl (some (3 + 4 * h))), .inl a, .inl b] m none (zcs m h a (b + 1)) := by
  refine zF_of n16 (ls := [some (.inr (.inl (some (3 + 4 * h)))), some (.inl a), some (.inl b), none]) rfl ?_
  refine r_iload_n f16_0 rfl ?_
  refine r_istore_n f16_1 rfl (ls' := [some (.inr (.inl (some (3 + 4 * h)))), some (.inl a), some (.inl b), some (.inl a)]) rfl ?_
  refine r_mem (m1 := zcs m h a a) zcs_0 ?_
  refine l_close h0 h1 a0 b1 ?_ (b + 1 - a).toNat a (by omega) (by omega)
  exact r_vret f16_20 v16 ⟨rfl, rfl⟩

abbrev XF (m : zmem) (h t : Int) : Int := m (4 + 4 * h) (3 * t) + m (4 + 4 * h) (3 * t + 1) + m (4 + 4 * h) (3 * t + 2)
abbrev XR (m : zmem) (h t n : Int) : Prop := m (5 + 4 * h) t = 0 ∧ n ≤ XF m h t
theorem t_hasRoom {L d : Nat} {m : zmem} {h : Int} (h0 : 0 ≤ h) (h1 : h < 12) {t : Int} (t0 : 0 ≤ t) (t1 : t < 40) (hf : ∀ k, 0 ≤ k → k < 120 → 0 ≤ m (4 + 4 * h) k ∧ m (4 + 4 * h) k ≤ 9) {n : Int} : zF L (d + 1) 15 [.inr (.inl (some (3 + 4 * h))), .inl t, .inl n] m (some (.inl (if XR m h t n then 1 else 0))) m := by
  have r0 := hf (3 * t) (by omega) (by omega)
  have r1 := hf (3 * t + 1) (by omega) (by omega)
  have r2 := hf (3 * t + 2) (by omega) (by omega)
  refine zF_of n15 (ls := [some (.inr (.inl (some (3 + 4 * h)))), some (.inl t), some (.inl n)]) rfl ?_
  refine r_aload_n f15_0 rfl ?_
  refine r_getR f15_1 o15 F1_15 (gH_1 (h := h) (by omega) (by omega)) rfl ?_
  refine r_iload_n f15_4 rfl ?_
  refine r_bald f15_5 (kdH2 (h := h) (by omega) (by omega)) (by omega) (by omega) ?_
  refine r_zne f15_6 (t := 22) (by decide) (fun q1 => ?_) (fun q1 => ?_)
  · refine r_iconst f15_22 rfl ?_
    exact r_zret f15_23 v15 (by omega) ⟨zs_eq (by first | rfl | (rw [if_pos (by unfold XR XF; omega)]) | (rw [if_neg (by unfold XR XF; omega)])), rfl⟩
  · refine r_aload_n f15_9 rfl ?_
    refine r_iload_n f15_10 rfl ?_
    refine r_callv1i f15_11 o15 M1_22 p14 o14 (kdH0 (h := h) (by omega) (by omega)) rfl (by simp) (t_freeBeds (t := t) h0 h1 t0 t1 hf) ?_
    refine r_iload_n f15_14 rfl ?_
    refine r_clt f15_15 (t := 22) (by decide) (fun q2 => ?_) (fun q2 => ?_)
    · refine r_iconst f15_22 rfl ?_
      exact r_zret f15_23 v15 (by omega) ⟨zs_eq (by first | rfl | (rw [if_pos (by unfold XR XF; omega)]) | (rw [if_neg (by unfold XR XF; omega)])), rfl⟩
    · refine r_iconst f15_18 rfl ?_
      refine r_goto f15_19 (t := 23) (by decide) ?_
      exact r_zret f15_23 v15 (by omega) ⟨zs_eq (by first | rfl | (rw [if_pos (by unfold XR XF; omega)]) | (rw [if_neg (by unfold XR XF; omega)])), rfl⟩

theorem t_fis1 {L d : Nat} {m : zmem} {h : Int} (h0 : 0 ≤ h) (h1 : h < 12) {t : Int} (t0 : 0 ≤ t) (t1 : t < 40) (hf : ∀ k, 0 ≤ k → k < 120 → 0 ≤ m (4 + 4 * h) k ∧ m (4 + 4 * h) k ≤ 9)  : zF L (d) 17 [.inr (.inl (some (3 + 4 * h))), .inl 1, .inl t] m (some (.inl (m (4 + 4 * h) (3 * t)))) m := by
  have r0 := hf (3 * t) (by omega) (by omega)
  have r1 := hf (3 * t + 1) (by omega) (by omega)
  have r2 := hf (3 * t + 2) (by omega) (by omega)
  refine zF_of n17 (ls := [some (.inr (.inl (some (3 + 4 * h)))), some (.inl 1), some (.inl t), none, none]) rfl ?_
  refine r_iconst f17_0 rfl ?_
  refine r_istore_n f17_1 rfl (ls' := [some (.inr (.inl (some (3 + 4 * h)))), some (.inl 1), some (.inl t), some (.inl 0), none]) rfl ?_
  refine r_iconst f17_2 rfl ?_
  refine r_istore f17_3 rfl (ls' := [some (.inr (.inl (some (3 + 4 * h)))), some (.inl 1), some (.inl t), some (.inl 0), some (.inl 0)]) rfl ?_
  refine r_iload f17_5 rfl ?_
  refine r_iconst f17_7 rfl ?_
  refine r_cge f17_8 (t := 41) (by decide) (fun h => absurd h (by omega)) (fun _ => ?_)
  refine r_iload_n f17_11 rfl ?_
  refine r_iload f17_12 rfl ?_
  refine r_ishr f17_14 (e := 1) (by decide) ?_
  refine r_iconst f17_15 rfl ?_
  refine r_iand f17_16 (e := 1) (by decide) ?_
  refine r_iconst f17_17 rfl ?_
  refine r_cne f17_18 (t := 35) (by decide) (fun h => absurd h (by omega)) (fun _ => ?_)
  refine r_iload_n f17_21 rfl ?_
  refine r_aload_n f17_22 rfl ?_
  refine r_getR f17_23 o17 F1_9 (gH_0 (h := h) (by omega) (by omega)) rfl ?_
  refine r_iload_n f17_26 rfl ?_
  refine r_iconst f17_27 rfl ?_
  refine r_imul f17_28 (e := 3 * t) (by omega) (by omega) (by omega) ?_
  refine r_iload f17_29 rfl ?_
  refine r_iadd f17_31 (e := 3 * t) (by omega) (by omega) (by omega) ?_
  refine r_iald f17_32 (kdH1 (h := h) (by omega) (by omega)) (by omega) (by omega) ?_
  refine r_iadd f17_33 (e := m (4 + 4 * h) (3 * t)) (by omega) (by omega) (by omega) ?_
  refine r_istore_n f17_34 rfl (ls' := [some (.inr (.inl (some (3 + 4 * h)))), some (.inl 1), some (.inl t), some (.inl (m (4 + 4 * h) (3 * t))), some (.inl 0)]) rfl ?_
  refine r_iinc f17_35 rfl rfl rfl (e := 1) (by omega) (by omega) (by omega) (ls' := [some (.inr (.inl (some (3 + 4 * h)))), some (.inl 1), some (.inl t), some (.inl (m (4 + 4 * h) (3 * t))), some (.inl 1)]) rfl ?_
  refine r_goto f17_38 (t := 5) (by decide) ?_
  refine r_iload f17_5 rfl ?_
  refine r_iconst f17_7 rfl ?_
  refine r_cge f17_8 (t := 41) (by decide) (fun h => absurd h (by omega)) (fun _ => ?_)
  refine r_iload_n f17_11 rfl ?_
  refine r_iload f17_12 rfl ?_
  refine r_ishr f17_14 (e := 0) (by decide) ?_
  refine r_iconst f17_15 rfl ?_
  refine r_iand f17_16 (e := 0) (by decide) ?_
  refine r_iconst f17_17 rfl ?_
  refine r_cne f17_18 (t := 35) (by decide) (fun _ => ?_) (fun h => absurd (by omega) h)
  refine r_iinc f17_35 rfl rfl rfl (e := 2) (by omega) (by omega) (by omega) (ls' := [some (.inr (.inl (some (3 + 4 * h)))), some (.inl 1), some (.inl t), some (.inl (m (4 + 4 * h) (3 * t))), some (.inl 2)]) rfl ?_
  refine r_goto f17_38 (t := 5) (by decide) ?_
  refine r_iload f17_5 rfl ?_
  refine r_iconst f17_7 rfl ?_
  refine r_cge f17_8 (t := 41) (by decide) (fun h => absurd h (by omega)) (fun _ => ?_)
  refine r_iload_n f17_11 rfl ?_
  refine r_iload f17_12 rfl ?_
  refine r_ishr f17_14 (e := 0) (by decide) ?_
  refine r_iconst f17_15 rfl ?_
  refine r_iand f17_16 (e := 0) (by decide) ?_
  refine r_iconst f17_17 rfl ?_
  refine r_cne f17_18 (t := 35) (by decide) (fun _ => ?_) (fun h => absurd (by omega) h)
  refine r_iinc f17_35 rfl rfl rfl (e := 3) (by omega) (by omega) (by omega) (ls' := [some (.inr (.inl (some (3 + 4 * h)))), some (.inl 1), some (.inl t), some (.inl (m (4 + 4 * h) (3 * t))), some (.inl 3)]) rfl ?_
  refine r_goto f17_38 (t := 5) (by decide) ?_
  refine r_iload f17_5 rfl ?_
  refine r_iconst f17_7 rfl ?_
  refine r_cge f17_8 (t := 41) (by decide) (fun _ => ?_) (fun h => absurd (by omega) h)
  refine r_iload_n f17_41 rfl ?_
  exact r_iret f17_42 v17 ⟨zs_eq (by first | rfl | omega | (repeat (first | rw [if_pos (by omega)] | rw [if_neg (by omega)]))), rfl⟩

theorem t_fis2 {L d : Nat} {m : zmem} {h : Int} (h0 : 0 ≤ h) (h1 : h < 12) {t : Int} (t0 : 0 ≤ t) (t1 : t < 40) (hf : ∀ k, 0 ≤ k → k < 120 → 0 ≤ m (4 + 4 * h) k ∧ m (4 + 4 * h) k ≤ 9)  : zF L (d) 17 [.inr (.inl (some (3 + 4 * h))), .inl 2, .inl t] m (some (.inl (m (4 + 4 * h) (3 * t + 1)))) m := by
  have r0 := hf (3 * t) (by omega) (by omega)
  have r1 := hf (3 * t + 1) (by omega) (by omega)
  have r2 := hf (3 * t + 2) (by omega) (by omega)
  refine zF_of n17 (ls := [some (.inr (.inl (some (3 + 4 * h)))), some (.inl 2), some (.inl t), none, none]) rfl ?_
  refine r_iconst f17_0 rfl ?_
  refine r_istore_n f17_1 rfl (ls' := [some (.inr (.inl (some (3 + 4 * h)))), some (.inl 2), some (.inl t), some (.inl 0), none]) rfl ?_
  refine r_iconst f17_2 rfl ?_
  refine r_istore f17_3 rfl (ls' := [some (.inr (.inl (some (3 + 4 * h)))), some (.inl 2), some (.inl t), some (.inl 0), some (.inl 0)]) rfl ?_
  refine r_iload f17_5 rfl ?_
  refine r_iconst f17_7 rfl ?_
  refine r_cge f17_8 (t := 41) (by decide) (fun h => absurd h (by omega)) (fun _ => ?_)
  refine r_iload_n f17_11 rfl ?_
  refine r_iload f17_12 rfl ?_
  refine r_ishr f17_14 (e := 2) (by decide) ?_
  refine r_iconst f17_15 rfl ?_
  refine r_iand f17_16 (e := 0) (by decide) ?_
  refine r_iconst f17_17 rfl ?_
  refine r_cne f17_18 (t := 35) (by decide) (fun _ => ?_) (fun h => absurd (by omega) h)
  refine r_iinc f17_35 rfl rfl rfl (e := 1) (by omega) (by omega) (by omega) (ls' := [some (.inr (.inl (some (3 + 4 * h)))), some (.inl 2), some (.inl t), some (.inl 0), some (.inl 1)]) rfl ?_
  refine r_goto f17_38 (t := 5) (by decide) ?_
  refine r_iload f17_5 rfl ?_
  refine r_iconst f17_7 rfl ?_
  refine r_cge f17_8 (t := 41) (by decide) (fun h => absurd h (by omega)) (fun _ => ?_)
  refine r_iload_n f17_11 rfl ?_
  refine r_iload f17_12 rfl ?_
  refine r_ishr f17_14 (e := 1) (by decide) ?_
  refine r_iconst f17_15 rfl ?_
  refine r_iand f17_16 (e := 1) (by decide) ?_
  refine r_iconst f17_17 rfl ?_
  refine r_cne f17_18 (t := 35) (by decide) (fun h => absurd h (by omega)) (fun _ => ?_)
  refine r_iload_n f17_21 rfl ?_
  refine r_aload_n f17_22 rfl ?_
  refine r_getR f17_23 o17 F1_9 (gH_0 (h := h) (by omega) (by omega)) rfl ?_
  refine r_iload_n f17_26 rfl ?_
  refine r_iconst f17_27 rfl ?_
  refine r_imul f17_28 (e := 3 * t) (by omega) (by omega) (by omega) ?_
  refine r_iload f17_29 rfl ?_
  refine r_iadd f17_31 (e := 3 * t + 1) (by omega) (by omega) (by omega) ?_
  refine r_iald f17_32 (kdH1 (h := h) (by omega) (by omega)) (by omega) (by omega) ?_
  refine r_iadd f17_33 (e := m (4 + 4 * h) (3 * t + 1)) (by omega) (by omega) (by omega) ?_
  refine r_istore_n f17_34 rfl (ls' := [some (.inr (.inl (some (3 + 4 * h)))), some (.inl 2), some (.inl t), some (.inl (m (4 + 4 * h) (3 * t + 1))), some (.inl 1)]) rfl ?_
  refine r_iinc f17_35 rfl rfl rfl (e := 2) (by omega) (by omega) (by omega) (ls' := [some (.inr (.inl (some (3 + 4 * h)))), some (.inl 2), some (.inl t), some (.inl (m (4 + 4 * h) (3 * t + 1))), some (.inl 2)]) rfl ?_
  refine r_goto f17_38 (t := 5) (by decide) ?_
  refine r_iload f17_5 rfl ?_
  refine r_iconst f17_7 rfl ?_
  refine r_cge f17_8 (t := 41) (by decide) (fun h => absurd h (by omega)) (fun _ => ?_)
  refine r_iload_n f17_11 rfl ?_
  refine r_iload f17_12 rfl ?_
  refine r_ishr f17_14 (e := 0) (by decide) ?_
  refine r_iconst f17_15 rfl ?_
  refine r_iand f17_16 (e := 0) (by decide) ?_
  refine r_iconst f17_17 rfl ?_
  refine r_cne f17_18 (t := 35) (by decide) (fun _ => ?_) (fun h => absurd (by omega) h)
  refine r_iinc f17_35 rfl rfl rfl (e := 3) (by omega) (by omega) (by omega) (ls' := [some (.inr (.inl (some (3 + 4 * h)))), some (.inl 2), some (.inl t), some (.inl (m (4 + 4 * h) (3 * t + 1))), some (.inl 3)]) rfl ?_
  refine r_goto f17_38 (t := 5) (by decide) ?_
  refine r_iload f17_5 rfl ?_
  refine r_iconst f17_7 rfl ?_
  refine r_cge f17_8 (t := 41) (by decide) (fun _ => ?_) (fun h => absurd (by omega) h)
  refine r_iload_n f17_41 rfl ?_
  exact r_iret f17_42 v17 ⟨zs_eq (by first | rfl | omega | (repeat (first | rw [if_pos (by omega)] | rw [if_neg (by omega)]))), rfl⟩

theorem t_fis3 {L d : Nat} {m : zmem} {h : Int} (h0 : 0 ≤ h) (h1 : h < 12) {t : Int} (t0 : 0 ≤ t) (t1 : t < 40) (hf : ∀ k, 0 ≤ k → k < 120 → 0 ≤ m (4 + 4 * h) k ∧ m (4 + 4 * h) k ≤ 9)  : zF L (d) 17 [.inr (.inl (some (3 + 4 * h))), .inl 3, .inl t] m (some (.inl (m (4 + 4 * h) (3 * t) + m (4 + 4 * h) (3 * t + 1)))) m := by
  have r0 := hf (3 * t) (by omega) (by omega)
  have r1 := hf (3 * t + 1) (by omega) (by omega)
  have r2 := hf (3 * t + 2) (by omega) (by omega)
  refine zF_of n17 (ls := [some (.inr (.inl (some (3 + 4 * h)))), some (.inl 3), some (.inl t), none, none]) rfl ?_
  refine r_iconst f17_0 rfl ?_
  refine r_istore_n f17_1 rfl (ls' := [some (.inr (.inl (some (3 + 4 * h)))), some (.inl 3), some (.inl t), some (.inl 0), none]) rfl ?_
  refine r_iconst f17_2 rfl ?_
  refine r_istore f17_3 rfl (ls' := [some (.inr (.inl (some (3 + 4 * h)))), some (.inl 3), some (.inl t), some (.inl 0), some (.inl 0)]) rfl ?_
  refine r_iload f17_5 rfl ?_
  refine r_iconst f17_7 rfl ?_
  refine r_cge f17_8 (t := 41) (by decide) (fun h => absurd h (by omega)) (fun _ => ?_)
  refine r_iload_n f17_11 rfl ?_
  refine r_iload f17_12 rfl ?_
  refine r_ishr f17_14 (e := 3) (by decide) ?_
  refine r_iconst f17_15 rfl ?_
  refine r_iand f17_16 (e := 1) (by decide) ?_
  refine r_iconst f17_17 rfl ?_
  refine r_cne f17_18 (t := 35) (by decide) (fun h => absurd h (by omega)) (fun _ => ?_)
  refine r_iload_n f17_21 rfl ?_
  refine r_aload_n f17_22 rfl ?_
  refine r_getR f17_23 o17 F1_9 (gH_0 (h := h) (by omega) (by omega)) rfl ?_
  refine r_iload_n f17_26 rfl ?_
  refine r_iconst f17_27 rfl ?_
  refine r_imul f17_28 (e := 3 * t) (by omega) (by omega) (by omega) ?_
  refine r_iload f17_29 rfl ?_
  refine r_iadd f17_31 (e := 3 * t) (by omega) (by omega) (by omega) ?_
  refine r_iald f17_32 (kdH1 (h := h) (by omega) (by omega)) (by omega) (by omega) ?_
  refine r_iadd f17_33 (e := m (4 + 4 * h) (3 * t)) (by omega) (by omega) (by omega) ?_
  refine r_istore_n f17_34 rfl (ls' := [some (.inr (.inl (some (3 + 4 * h)))), some (.inl 3), some (.inl t), some (.inl (m (4 + 4 * h) (3 * t))), some (.inl 0)]) rfl ?_
  refine r_iinc f17_35 rfl rfl rfl (e := 1) (by omega) (by omega) (by omega) (ls' := [some (.inr (.inl (some (3 + 4 * h)))), some (.inl 3), some (.inl t), some (.inl (m (4 + 4 * h) (3 * t))), some (.inl 1)]) rfl ?_
  refine r_goto f17_38 (t := 5) (by decide) ?_
  refine r_iload f17_5 rfl ?_
  refine r_iconst f17_7 rfl ?_
  refine r_cge f17_8 (t := 41) (by decide) (fun h => absurd h (by omega)) (fun _ => ?_)
  refine r_iload_n f17_11 rfl ?_
  refine r_iload f17_12 rfl ?_
  refine r_ishr f17_14 (e := 1) (by decide) ?_
  refine r_iconst f17_15 rfl ?_
  refine r_iand f17_16 (e := 1) (by decide) ?_
  refine r_iconst f17_17 rfl ?_
  refine r_cne f17_18 (t := 35) (by decide) (fun h => absurd h (by omega)) (fun _ => ?_)
  refine r_iload_n f17_21 rfl ?_
  refine r_aload_n f17_22 rfl ?_
  refine r_getR f17_23 o17 F1_9 (gH_0 (h := h) (by omega) (by omega)) rfl ?_
  refine r_iload_n f17_26 rfl ?_
  refine r_iconst f17_27 rfl ?_
  refine r_imul f17_28 (e := 3 * t) (by omega) (by omega) (by omega) ?_
  refine r_iload f17_29 rfl ?_
  refine r_iadd f17_31 (e := 3 * t + 1) (by omega) (by omega) (by omega) ?_
  refine r_iald f17_32 (kdH1 (h := h) (by omega) (by omega)) (by omega) (by omega) ?_
  refine r_iadd f17_33 (e := m (4 + 4 * h) (3 * t + 1) + m (4 + 4 * h) (3 * t)) (by omega) (by omega) (by omega) ?_
  refine r_istore_n f17_34 rfl (ls' := [some (.inr (.inl (some (3 + 4 * h)))), some (.inl 3), some (.inl t), some (.inl (m (4 + 4 * h) (3 * t + 1) + m (4 + 4 * h) (3 * t))), some (.inl 1)]) rfl ?_
  refine r_iinc f17_35 rfl rfl rfl (e := 2) (by omega) (by omega) (by omega) (ls' := [some (.inr (.inl (some (3 + 4 * h)))), some (.inl 3), some (.inl t), some (.inl (m (4 + 4 * h) (3 * t + 1) + m (4 + 4 * h) (3 * t))), some (.inl 2)]) rfl ?_
  refine r_goto f17_38 (t := 5) (by decide) ?_
  refine r_iload f17_5 rfl ?_
  refine r_iconst f17_7 rfl ?_
  refine r_cge f17_8 (t := 41) (by decide) (fun h => absurd h (by omega)) (fun _ => ?_)
  refine r_iload_n f17_11 rfl ?_
  refine r_iload f17_12 rfl ?_
  refine r_ishr f17_14 (e := 0) (by decide) ?_
  refine r_iconst f17_15 rfl ?_
  refine r_iand f17_16 (e := 0) (by decide) ?_
  refine r_iconst f17_17 rfl ?_
  refine r_cne f17_18 (t := 35) (by decide) (fun _ => ?_) (fun h => absurd (by omega) h)
  refine r_iinc f17_35 rfl rfl rfl (e := 3) (by omega) (by omega) (by omega) (ls' := [some (.inr (.inl (some (3 + 4 * h)))), some (.inl 3), some (.inl t), some (.inl (m (4 + 4 * h) (3 * t + 1) + m (4 + 4 * h) (3 * t))), some (.inl 3)]) rfl ?_
  refine r_goto f17_38 (t := 5) (by decide) ?_
  refine r_iload f17_5 rfl ?_
  refine r_iconst f17_7 rfl ?_
  refine r_cge f17_8 (t := 41) (by decide) (fun _ => ?_) (fun h => absurd (by omega) h)
  refine r_iload_n f17_41 rfl ?_
  exact r_iret f17_42 v17 ⟨zs_eq (by first | rfl | omega | (repeat (first | rw [if_pos (by omega)] | rw [if_neg (by omega)]))), rfl⟩

theorem t_fis4 {L d : Nat} {m : zmem} {h : Int} (h0 : 0 ≤ h) (h1 : h < 12) {t : Int} (t0 : 0 ≤ t) (t1 : t < 40) (hf : ∀ k, 0 ≤ k → k < 120 → 0 ≤ m (4 + 4 * h) k ∧ m (4 + 4 * h) k ≤ 9)  : zF L (d) 17 [.inr (.inl (some (3 + 4 * h))), .inl 4, .inl t] m (some (.inl (m (4 + 4 * h) (3 * t + 2)))) m := by
  have r0 := hf (3 * t) (by omega) (by omega)
  have r1 := hf (3 * t + 1) (by omega) (by omega)
  have r2 := hf (3 * t + 2) (by omega) (by omega)
  refine zF_of n17 (ls := [some (.inr (.inl (some (3 + 4 * h)))), some (.inl 4), some (.inl t), none, none]) rfl ?_
  refine r_iconst f17_0 rfl ?_
  refine r_istore_n f17_1 rfl (ls' := [some (.inr (.inl (some (3 + 4 * h)))), some (.inl 4), some (.inl t), some (.inl 0), none]) rfl ?_
  refine r_iconst f17_2 rfl ?_
  refine r_istore f17_3 rfl (ls' := [some (.inr (.inl (some (3 + 4 * h)))), some (.inl 4), some (.inl t), some (.inl 0), some (.inl 0)]) rfl ?_
  refine r_iload f17_5 rfl ?_
  refine r_iconst f17_7 rfl ?_
  refine r_cge f17_8 (t := 41) (by decide) (fun h => absurd h (by omega)) (fun _ => ?_)
  refine r_iload_n f17_11 rfl ?_
  refine r_iload f17_12 rfl ?_
  refine r_ishr f17_14 (e := 4) (by decide) ?_
  refine r_iconst f17_15 rfl ?_
  refine r_iand f17_16 (e := 0) (by decide) ?_
  refine r_iconst f17_17 rfl ?_
  refine r_cne f17_18 (t := 35) (by decide) (fun _ => ?_) (fun h => absurd (by omega) h)
  refine r_iinc f17_35 rfl rfl rfl (e := 1) (by omega) (by omega) (by omega) (ls' := [some (.inr (.inl (some (3 + 4 * h)))), some (.inl 4), some (.inl t), some (.inl 0), some (.inl 1)]) rfl ?_
  refine r_goto f17_38 (t := 5) (by decide) ?_
  refine r_iload f17_5 rfl ?_
  refine r_iconst f17_7 rfl ?_
  refine r_cge f17_8 (t := 41) (by decide) (fun h => absurd h (by omega)) (fun _ => ?_)
  refine r_iload_n f17_11 rfl ?_
  refine r_iload f17_12 rfl ?_
  refine r_ishr f17_14 (e := 2) (by decide) ?_
  refine r_iconst f17_15 rfl ?_
  refine r_iand f17_16 (e := 0) (by decide) ?_
  refine r_iconst f17_17 rfl ?_
  refine r_cne f17_18 (t := 35) (by decide) (fun _ => ?_) (fun h => absurd (by omega) h)
  refine r_iinc f17_35 rfl rfl rfl (e := 2) (by omega) (by omega) (by omega) (ls' := [some (.inr (.inl (some (3 + 4 * h)))), some (.inl 4), some (.inl t), some (.inl 0), some (.inl 2)]) rfl ?_
  refine r_goto f17_38 (t := 5) (by decide) ?_
  refine r_iload f17_5 rfl ?_
  refine r_iconst f17_7 rfl ?_
  refine r_cge f17_8 (t := 41) (by decide) (fun h => absurd h (by omega)) (fun _ => ?_)
  refine r_iload_n f17_11 rfl ?_
  refine r_iload f17_12 rfl ?_
  refine r_ishr f17_14 (e := 1) (by decide) ?_
  refine r_iconst f17_15 rfl ?_
  refine r_iand f17_16 (e := 1) (by decide) ?_
  refine r_iconst f17_17 rfl ?_
  refine r_cne f17_18 (t := 35) (by decide) (fun h => absurd h (by omega)) (fun _ => ?_)
  refine r_iload_n f17_21 rfl ?_
  refine r_aload_n f17_22 rfl ?_
  refine r_getR f17_23 o17 F1_9 (gH_0 (h := h) (by omega) (by omega)) rfl ?_
  refine r_iload_n f17_26 rfl ?_
  refine r_iconst f17_27 rfl ?_
  refine r_imul f17_28 (e := 3 * t) (by omega) (by omega) (by omega) ?_
  refine r_iload f17_29 rfl ?_
  refine r_iadd f17_31 (e := 3 * t + 2) (by omega) (by omega) (by omega) ?_
  refine r_iald f17_32 (kdH1 (h := h) (by omega) (by omega)) (by omega) (by omega) ?_
  refine r_iadd f17_33 (e := m (4 + 4 * h) (3 * t + 2)) (by omega) (by omega) (by omega) ?_
  refine r_istore_n f17_34 rfl (ls' := [some (.inr (.inl (some (3 + 4 * h)))), some (.inl 4), some (.inl t), some (.inl (m (4 + 4 * h) (3 * t + 2))), some (.inl 2)]) rfl ?_
  refine r_iinc f17_35 rfl rfl rfl (e := 3) (by omega) (by omega) (by omega) (ls' := [some (.inr (.inl (some (3 + 4 * h)))), some (.inl 4), some (.inl t), some (.inl (m (4 + 4 * h) (3 * t + 2))), some (.inl 3)]) rfl ?_
  refine r_goto f17_38 (t := 5) (by decide) ?_
  refine r_iload f17_5 rfl ?_
  refine r_iconst f17_7 rfl ?_
  refine r_cge f17_8 (t := 41) (by decide) (fun _ => ?_) (fun h => absurd (by omega) h)
  refine r_iload_n f17_41 rfl ?_
  exact r_iret f17_42 v17 ⟨zs_eq (by first | rfl | omega | (repeat (first | rw [if_pos (by omega)] | rw [if_neg (by omega)]))), rfl⟩

theorem t_fis5 {L d : Nat} {m : zmem} {h : Int} (h0 : 0 ≤ h) (h1 : h < 12) {t : Int} (t0 : 0 ≤ t) (t1 : t < 40) (hf : ∀ k, 0 ≤ k → k < 120 → 0 ≤ m (4 + 4 * h) k ∧ m (4 + 4 * h) k ≤ 9)  : zF L (d) 17 [.inr (.inl (some (3 + 4 * h))), .inl 5, .inl t] m (some (.inl (m (4 + 4 * h) (3 * t) + m (4 + 4 * h) (3 * t + 2)))) m := by
  have r0 := hf (3 * t) (by omega) (by omega)
  have r1 := hf (3 * t + 1) (by omega) (by omega)
  have r2 := hf (3 * t + 2) (by omega) (by omega)
  refine zF_of n17 (ls := [some (.inr (.inl (some (3 + 4 * h)))), some (.inl 5), some (.inl t), none, none]) rfl ?_
  refine r_iconst f17_0 rfl ?_
  refine r_istore_n f17_1 rfl (ls' := [some (.inr (.inl (some (3 + 4 * h)))), some (.inl 5), some (.inl t), some (.inl 0), none]) rfl ?_
  refine r_iconst f17_2 rfl ?_
  refine r_istore f17_3 rfl (ls' := [some (.inr (.inl (some (3 + 4 * h)))), some (.inl 5), some (.inl t), some (.inl 0), some (.inl 0)]) rfl ?_
  refine r_iload f17_5 rfl ?_
  refine r_iconst f17_7 rfl ?_
  refine r_cge f17_8 (t := 41) (by decide) (fun h => absurd h (by omega)) (fun _ => ?_)
  refine r_iload_n f17_11 rfl ?_
  refine r_iload f17_12 rfl ?_
  refine r_ishr f17_14 (e := 5) (by decide) ?_
  refine r_iconst f17_15 rfl ?_
  refine r_iand f17_16 (e := 1) (by decide) ?_
  refine r_iconst f17_17 rfl ?_
  refine r_cne f17_18 (t := 35) (by decide) (fun h => absurd h (by omega)) (fun _ => ?_)
  refine r_iload_n f17_21 rfl ?_
  refine r_aload_n f17_22 rfl ?_
  refine r_getR f17_23 o17 F1_9 (gH_0 (h := h) (by omega) (by omega)) rfl ?_
  refine r_iload_n f17_26 rfl ?_
  refine r_iconst f17_27 rfl ?_
  refine r_imul f17_28 (e := 3 * t) (by omega) (by omega) (by omega) ?_
  refine r_iload f17_29 rfl ?_
  refine r_iadd f17_31 (e := 3 * t) (by omega) (by omega) (by omega) ?_
  refine r_iald f17_32 (kdH1 (h := h) (by omega) (by omega)) (by omega) (by omega) ?_
  refine r_iadd f17_33 (e := m (4 + 4 * h) (3 * t)) (by omega) (by omega) (by omega) ?_
  refine r_istore_n f17_34 rfl (ls' := [some (.inr (.inl (some (3 + 4 * h)))), some (.inl 5), some (.inl t), some (.inl (m (4 + 4 * h) (3 * t))), some (.inl 0)]) rfl ?_
  refine r_iinc f17_35 rfl rfl rfl (e := 1) (by omega) (by omega) (by omega) (ls' := [some (.inr (.inl (some (3 + 4 * h)))), some (.inl 5), some (.inl t), some (.inl (m (4 + 4 * h) (3 * t))), some (.inl 1)]) rfl ?_
  refine r_goto f17_38 (t := 5) (by decide) ?_
  refine r_iload f17_5 rfl ?_
  refine r_iconst f17_7 rfl ?_
  refine r_cge f17_8 (t := 41) (by decide) (fun h => absurd h (by omega)) (fun _ => ?_)
  refine r_iload_n f17_11 rfl ?_
  refine r_iload f17_12 rfl ?_
  refine r_ishr f17_14 (e := 2) (by decide) ?_
  refine r_iconst f17_15 rfl ?_
  refine r_iand f17_16 (e := 0) (by decide) ?_
  refine r_iconst f17_17 rfl ?_
  refine r_cne f17_18 (t := 35) (by decide) (fun _ => ?_) (fun h => absurd (by omega) h)
  refine r_iinc f17_35 rfl rfl rfl (e := 2) (by omega) (by omega) (by omega) (ls' := [some (.inr (.inl (some (3 + 4 * h)))), some (.inl 5), some (.inl t), some (.inl (m (4 + 4 * h) (3 * t))), some (.inl 2)]) rfl ?_
  refine r_goto f17_38 (t := 5) (by decide) ?_
  refine r_iload f17_5 rfl ?_
  refine r_iconst f17_7 rfl ?_
  refine r_cge f17_8 (t := 41) (by decide) (fun h => absurd h (by omega)) (fun _ => ?_)
  refine r_iload_n f17_11 rfl ?_
  refine r_iload f17_12 rfl ?_
  refine r_ishr f17_14 (e := 1) (by decide) ?_
  refine r_iconst f17_15 rfl ?_
  refine r_iand f17_16 (e := 1) (by decide) ?_
  refine r_iconst f17_17 rfl ?_
  refine r_cne f17_18 (t := 35) (by decide) (fun h => absurd h (by omega)) (fun _ => ?_)
  refine r_iload_n f17_21 rfl ?_
  refine r_aload_n f17_22 rfl ?_
  refine r_getR f17_23 o17 F1_9 (gH_0 (h := h) (by omega) (by omega)) rfl ?_
  refine r_iload_n f17_26 rfl ?_
  refine r_iconst f17_27 rfl ?_
  refine r_imul f17_28 (e := 3 * t) (by omega) (by omega) (by omega) ?_
  refine r_iload f17_29 rfl ?_
  refine r_iadd f17_31 (e := 3 * t + 2) (by omega) (by omega) (by omega) ?_
  refine r_iald f17_32 (kdH1 (h := h) (by omega) (by omega)) (by omega) (by omega) ?_
  refine r_iadd f17_33 (e := m (4 + 4 * h) (3 * t + 2) + m (4 + 4 * h) (3 * t)) (by omega) (by omega) (by omega) ?_
  refine r_istore_n f17_34 rfl (ls' := [some (.inr (.inl (some (3 + 4 * h)))), some (.inl 5), some (.inl t), some (.inl (m (4 + 4 * h) (3 * t + 2) + m (4 + 4 * h) (3 * t))), some (.inl 2)]) rfl ?_
  refine r_iinc f17_35 rfl rfl rfl (e := 3) (by omega) (by omega) (by omega) (ls' := [some (.inr (.inl (some (3 + 4 * h)))), some (.inl 5), some (.inl t), some (.inl (m (4 + 4 * h) (3 * t + 2) + m (4 + 4 * h) (3 * t))), some (.inl 3)]) rfl ?_
  refine r_goto f17_38 (t := 5) (by decide) ?_
  refine r_iload f17_5 rfl ?_
  refine r_iconst f17_7 rfl ?_
  refine r_cge f17_8 (t := 41) (by decide) (fun _ => ?_) (fun h => absurd (by omega) h)
  refine r_iload_n f17_41 rfl ?_
  exact r_iret f17_42 v17 ⟨zs_eq (by first | rfl | omega | (repeat (first | rw [if_pos (by omega)] | rw [if_neg (by omega)]))), rfl⟩

theorem t_fis6 {L d : Nat} {m : zmem} {h : Int} (h0 : 0 ≤ h) (h1 : h < 12) {t : Int} (t0 : 0 ≤ t) (t1 : t < 40) (hf : ∀ k, 0 ≤ k → k < 120 → 0 ≤ m (4 + 4 * h) k ∧ m (4 + 4 * h) k ≤ 9)  : zF L (d) 17 [.inr (.inl (some (3 + 4 * h))), .inl 6, .inl t] m (some (.inl (m (4 + 4 * h) (3 * t + 1) + m (4 + 4 * h) (3 * t + 2)))) m := by
  have r0 := hf (3 * t) (by omega) (by omega)
  have r1 := hf (3 * t + 1) (by omega) (by omega)
  have r2 := hf (3 * t + 2) (by omega) (by omega)
  refine zF_of n17 (ls := [some (.inr (.inl (some (3 + 4 * h)))), some (.inl 6), some (.inl t), none, none]) rfl ?_
  refine r_iconst f17_0 rfl ?_
  refine r_istore_n f17_1 rfl (ls' := [some (.inr (.inl (some (3 + 4 * h)))), some (.inl 6), some (.inl t), some (.inl 0), none]) rfl ?_
  refine r_iconst f17_2 rfl ?_
  refine r_istore f17_3 rfl (ls' := [some (.inr (.inl (some (3 + 4 * h)))), some (.inl 6), some (.inl t), some (.inl 0), some (.inl 0)]) rfl ?_
  refine r_iload f17_5 rfl ?_
  refine r_iconst f17_7 rfl ?_
  refine r_cge f17_8 (t := 41) (by decide) (fun h => absurd h (by omega)) (fun _ => ?_)
  refine r_iload_n f17_11 rfl ?_
  refine r_iload f17_12 rfl ?_
  refine r_ishr f17_14 (e := 6) (by decide) ?_
  refine r_iconst f17_15 rfl ?_
  refine r_iand f17_16 (e := 0) (by decide) ?_
  refine r_iconst f17_17 rfl ?_
  refine r_cne f17_18 (t := 35) (by decide) (fun _ => ?_) (fun h => absurd (by omega) h)
  refine r_iinc f17_35 rfl rfl rfl (e := 1) (by omega) (by omega) (by omega) (ls' := [some (.inr (.inl (some (3 + 4 * h)))), some (.inl 6), some (.inl t), some (.inl 0), some (.inl 1)]) rfl ?_
  refine r_goto f17_38 (t := 5) (by decide) ?_
  refine r_iload f17_5 rfl ?_
  refine r_iconst f17_7 rfl ?_
  refine r_cge f17_8 (t := 41) (by decide) (fun h => absurd h (by omega)) (fun _ => ?_)
  refine r_iload_n f17_11 rfl ?_
  refine r_iload f17_12 rfl ?_
  refine r_ishr f17_14 (e := 3) (by decide) ?_
  refine r_iconst f17_15 rfl ?_
  refine r_iand f17_16 (e := 1) (by decide) ?_
  refine r_iconst f17_17 rfl ?_
  refine r_cne f17_18 (t := 35) (by decide) (fun h => absurd h (by omega)) (fun _ => ?_)
  refine r_iload_n f17_21 rfl ?_
  refine r_aload_n f17_22 rfl ?_
  refine r_getR f17_23 o17 F1_9 (gH_0 (h := h) (by omega) (by omega)) rfl ?_
  refine r_iload_n f17_26 rfl ?_
  refine r_iconst f17_27 rfl ?_
  refine r_imul f17_28 (e := 3 * t) (by omega) (by omega) (by omega) ?_
  refine r_iload f17_29 rfl ?_
  refine r_iadd f17_31 (e := 3 * t + 1) (by omega) (by omega) (by omega) ?_
  refine r_iald f17_32 (kdH1 (h := h) (by omega) (by omega)) (by omega) (by omega) ?_
  refine r_iadd f17_33 (e := m (4 + 4 * h) (3 * t + 1)) (by omega) (by omega) (by omega) ?_
  refine r_istore_n f17_34 rfl (ls' := [some (.inr (.inl (some (3 + 4 * h)))), some (.inl 6), some (.inl t), some (.inl (m (4 + 4 * h) (3 * t + 1))), some (.inl 1)]) rfl ?_
  refine r_iinc f17_35 rfl rfl rfl (e := 2) (by omega) (by omega) (by omega) (ls' := [some (.inr (.inl (some (3 + 4 * h)))), some (.inl 6), some (.inl t), some (.inl (m (4 + 4 * h) (3 * t + 1))), some (.inl 2)]) rfl ?_
  refine r_goto f17_38 (t := 5) (by decide) ?_
  refine r_iload f17_5 rfl ?_
  refine r_iconst f17_7 rfl ?_
  refine r_cge f17_8 (t := 41) (by decide) (fun h => absurd h (by omega)) (fun _ => ?_)
  refine r_iload_n f17_11 rfl ?_
  refine r_iload f17_12 rfl ?_
  refine r_ishr f17_14 (e := 1) (by decide) ?_
  refine r_iconst f17_15 rfl ?_
  refine r_iand f17_16 (e := 1) (by decide) ?_
  refine r_iconst f17_17 rfl ?_
  refine r_cne f17_18 (t := 35) (by decide) (fun h => absurd h (by omega)) (fun _ => ?_)
  refine r_iload_n f17_21 rfl ?_
  refine r_aload_n f17_22 rfl ?_
  refine r_getR f17_23 o17 F1_9 (gH_0 (h := h) (by omega) (by omega)) rfl ?_
  refine r_iload_n f17_26 rfl ?_
  refine r_iconst f17_27 rfl ?_
  refine r_imul f17_28 (e := 3 * t) (by omega) (by omega) (by omega) ?_
  refine r_iload f17_29 rfl ?_
  refine r_iadd f17_31 (e := 3 * t + 2) (by omega) (by omega) (by omega) ?_
  refine r_iald f17_32 (kdH1 (h := h) (by omega) (by omega)) (by omega) (by omega) ?_
  refine r_iadd f17_33 (e := m (4 + 4 * h) (3 * t + 1) + m (4 + 4 * h) (3 * t + 2)) (by omega) (by omega) (by omega) ?_
  refine r_istore_n f17_34 rfl (ls' := [some (.inr (.inl (some (3 + 4 * h)))), some (.inl 6), some (.inl t), some (.inl (m (4 + 4 * h) (3 * t + 1) + m (4 + 4 * h) (3 * t + 2))), some (.inl 2)]) rfl ?_
  refine r_iinc f17_35 rfl rfl rfl (e := 3) (by omega) (by omega) (by omega) (ls' := [some (.inr (.inl (some (3 + 4 * h)))), some (.inl 6), some (.inl t), some (.inl (m (4 + 4 * h) (3 * t + 1) + m (4 + 4 * h) (3 * t + 2))), some (.inl 3)]) rfl ?_
  refine r_goto f17_38 (t := 5) (by decide) ?_
  refine r_iload f17_5 rfl ?_
  refine r_iconst f17_7 rfl ?_
  refine r_cge f17_8 (t := 41) (by decide) (fun _ => ?_) (fun h => absurd (by omega) h)
  refine r_iload_n f17_41 rfl ?_
  exact r_iret f17_42 v17 ⟨zs_eq (by first | rfl | omega | (repeat (first | rw [if_pos (by omega)] | rw [if_neg (by omega)]))), rfl⟩

theorem t_fis7 {L d : Nat} {m : zmem} {h : Int} (h0 : 0 ≤ h) (h1 : h < 12) {t : Int} (t0 : 0 ≤ t) (t1 : t < 40) (hf : ∀ k, 0 ≤ k → k < 120 → 0 ≤ m (4 + 4 * h) k ∧ m (4 + 4 * h) k ≤ 9)  : zF L (d) 17 [.inr (.inl (some (3 + 4 * h))), .inl 7, .inl t] m (some (.inl (m (4 + 4 * h) (3 * t) + m (4 + 4 * h) (3 * t + 1) + m (4 + 4 * h) (3 * t + 2)))) m := by
  have r0 := hf (3 * t) (by omega) (by omega)
  have r1 := hf (3 * t + 1) (by omega) (by omega)
  have r2 := hf (3 * t + 2) (by omega) (by omega)
  refine zF_of n17 (ls := [some (.inr (.inl (some (3 + 4 * h)))), some (.inl 7), some (.inl t), none, none]) rfl ?_
  refine r_iconst f17_0 rfl ?_
  refine r_istore_n f17_1 rfl (ls' := [some (.inr (.inl (some (3 + 4 * h)))), some (.inl 7), some (.inl t), some (.inl 0), none]) rfl ?_
  refine r_iconst f17_2 rfl ?_
  refine r_istore f17_3 rfl (ls' := [some (.inr (.inl (some (3 + 4 * h)))), some (.inl 7), some (.inl t), some (.inl 0), some (.inl 0)]) rfl ?_
  refine r_iload f17_5 rfl ?_
  refine r_iconst f17_7 rfl ?_
  refine r_cge f17_8 (t := 41) (by decide) (fun h => absurd h (by omega)) (fun _ => ?_)
  refine r_iload_n f17_11 rfl ?_
  refine r_iload f17_12 rfl ?_
  refine r_ishr f17_14 (e := 7) (by decide) ?_
  refine r_iconst f17_15 rfl ?_
  refine r_iand f17_16 (e := 1) (by decide) ?_
  refine r_iconst f17_17 rfl ?_
  refine r_cne f17_18 (t := 35) (by decide) (fun h => absurd h (by omega)) (fun _ => ?_)
  refine r_iload_n f17_21 rfl ?_
  refine r_aload_n f17_22 rfl ?_
  refine r_getR f17_23 o17 F1_9 (gH_0 (h := h) (by omega) (by omega)) rfl ?_
  refine r_iload_n f17_26 rfl ?_
  refine r_iconst f17_27 rfl ?_
  refine r_imul f17_28 (e := 3 * t) (by omega) (by omega) (by omega) ?_
  refine r_iload f17_29 rfl ?_
  refine r_iadd f17_31 (e := 3 * t) (by omega) (by omega) (by omega) ?_
  refine r_iald f17_32 (kdH1 (h := h) (by omega) (by omega)) (by omega) (by omega) ?_
  refine r_iadd f17_33 (e := m (4 + 4 * h) (3 * t)) (by omega) (by omega) (by omega) ?_
  refine r_istore_n f17_34 rfl (ls' := [some (.inr (.inl (some (3 + 4 * h)))), some (.inl 7), some (.inl t), some (.inl (m (4 + 4 * h) (3 * t))), some (.inl 0)]) rfl ?_
  refine r_iinc f17_35 rfl rfl rfl (e := 1) (by omega) (by omega) (by omega) (ls' := [some (.inr (.inl (some (3 + 4 * h)))), some (.inl 7), some (.inl t), some (.inl (m (4 + 4 * h) (3 * t))), some (.inl 1)]) rfl ?_
  refine r_goto f17_38 (t := 5) (by decide) ?_
  refine r_iload f17_5 rfl ?_
  refine r_iconst f17_7 rfl ?_
  refine r_cge f17_8 (t := 41) (by decide) (fun h => absurd h (by omega)) (fun _ => ?_)
  refine r_iload_n f17_11 rfl ?_
  refine r_iload f17_12 rfl ?_
  refine r_ishr f17_14 (e := 3) (by decide) ?_
  refine r_iconst f17_15 rfl ?_
  refine r_iand f17_16 (e := 1) (by decide) ?_
  refine r_iconst f17_17 rfl ?_
  refine r_cne f17_18 (t := 35) (by decide) (fun h => absurd h (by omega)) (fun _ => ?_)
  refine r_iload_n f17_21 rfl ?_
  refine r_aload_n f17_22 rfl ?_
  refine r_getR f17_23 o17 F1_9 (gH_0 (h := h) (by omega) (by omega)) rfl ?_
  refine r_iload_n f17_26 rfl ?_
  refine r_iconst f17_27 rfl ?_
  refine r_imul f17_28 (e := 3 * t) (by omega) (by omega) (by omega) ?_
  refine r_iload f17_29 rfl ?_
  refine r_iadd f17_31 (e := 3 * t + 1) (by omega) (by omega) (by omega) ?_
  refine r_iald f17_32 (kdH1 (h := h) (by omega) (by omega)) (by omega) (by omega) ?_
  refine r_iadd f17_33 (e := m (4 + 4 * h) (3 * t + 1) + m (4 + 4 * h) (3 * t)) (by omega) (by omega) (by omega) ?_
  refine r_istore_n f17_34 rfl (ls' := [some (.inr (.inl (some (3 + 4 * h)))), some (.inl 7), some (.inl t), some (.inl (m (4 + 4 * h) (3 * t + 1) + m (4 + 4 * h) (3 * t))), some (.inl 1)]) rfl ?_
  refine r_iinc f17_35 rfl rfl rfl (e := 2) (by omega) (by omega) (by omega) (ls' := [some (.inr (.inl (some (3 + 4 * h)))), some (.inl 7), some (.inl t), some (.inl (m (4 + 4 * h) (3 * t + 1) + m (4 + 4 * h) (3 * t))), some (.inl 2)]) rfl ?_
  refine r_goto f17_38 (t := 5) (by decide) ?_
  refine r_iload f17_5 rfl ?_
  refine r_iconst f17_7 rfl ?_
  refine r_cge f17_8 (t := 41) (by decide) (fun h => absurd h (by omega)) (fun _ => ?_)
  refine r_iload_n f17_11 rfl ?_
  refine r_iload f17_12 rfl ?_
  refine r_ishr f17_14 (e := 1) (by decide) ?_
  refine r_iconst f17_15 rfl ?_
  refine r_iand f17_16 (e := 1) (by decide) ?_
  refine r_iconst f17_17 rfl ?_
  refine r_cne f17_18 (t := 35) (by decide) (fun h => absurd h (by omega)) (fun _ => ?_)
  refine r_iload_n f17_21 rfl ?_
  refine r_aload_n f17_22 rfl ?_
  refine r_getR f17_23 o17 F1_9 (gH_0 (h := h) (by omega) (by omega)) rfl ?_
  refine r_iload_n f17_26 rfl ?_
  refine r_iconst f17_27 rfl ?_
  refine r_imul f17_28 (e := 3 * t) (by omega) (by omega) (by omega) ?_
  refine r_iload f17_29 rfl ?_
  refine r_iadd f17_31 (e := 3 * t + 2) (by omega) (by omega) (by omega) ?_
  refine r_iald f17_32 (kdH1 (h := h) (by omega) (by omega)) (by omega) (by omega) ?_
  refine r_iadd f17_33 (e := m (4 + 4 * h) (3 * t + 1) + m (4 + 4 * h) (3 * t + 2) + m (4 + 4 * h) (3 * t)) (by omega) (by omega) (by omega) ?_
  refine r_istore_n f17_34 rfl (ls' := [some (.inr (.inl (some (3 + 4 * h)))), some (.inl 7), some (.inl t), some (.inl (m (4 + 4 * h) (3 * t + 1) + m (4 + 4 * h) (3 * t + 2) + m (4 + 4 * h) (3 * t))), some (.inl 2)]) rfl ?_
  refine r_iinc f17_35 rfl rfl rfl (e := 3) (by omega) (by omega) (by omega) (ls' := [some (.inr (.inl (some (3 + 4 * h)))), some (.inl 7), some (.inl t), some (.inl (m (4 + 4 * h) (3 * t + 1) + m (4 + 4 * h) (3 * t + 2) + m (4 + 4 * h) (3 * t))), some (.inl 3)]) rfl ?_
  refine r_goto f17_38 (t := 5) (by decide) ?_
  refine r_iload f17_5 rfl ?_
  refine r_iconst f17_7 rfl ?_
  refine r_cge f17_8 (t := 41) (by decide) (fun _ => ?_) (fun h => absurd (by omega) h)
  refine r_iload_n f17_41 rfl ?_
  exact r_iret f17_42 v17 ⟨zs_eq (by first | rfl | omega | (repeat (first | rw [if_pos (by omega)] | rw [if_neg (by omega)]))), rfl⟩

def zsel (a b c n : Int) : Int := if n ≤ a then 1 else if n ≤ b then 2 else if n ≤ c then 4 else if n ≤ a + b then 3 else if n ≤ a + c then 5 else if n ≤ b + c then 6 else if n ≤ a + b + c then 7 else 0
def zsh0 (a b c n : Int) : Int := if n ≤ a then n else if n ≤ b then 0 else if n ≤ c then 0 else if n ≤ a + b then a else if n ≤ a + c then a else if n ≤ b + c then 0 else a
def zsh1 (a b c n : Int) : Int := if n ≤ a then 0 else if n ≤ b then n else if n ≤ c then 0 else if n ≤ a + b then n - a else if n ≤ a + c then 0 else if n ≤ b + c then b else b
def zsh2 (a b c n : Int) : Int := if n ≤ a then 0 else if n ≤ b then 0 else if n ≤ c then n else if n ≤ a + b then 0 else if n ≤ a + c then n - a else if n ≤ b + c then n - b else n - a - b
theorem t_dormsFor {L d : Nat} {m : zmem} {h : Int} (h0 : 0 ≤ h) (h1 : h < 12) {t : Int} (t0 : 0 ≤ t) (t1 : t < 40) (hf : ∀ k, 0 ≤ k → k < 120 → 0 ≤ m (4 + 4 * h) k ∧ m (4 + 4 * h) k ≤ 9) {n : Int} (hd : ∀ k, m (-2) k = zdv k) : zF L (d + 1) 18 [.inr (.inl (some (3 + 4 * h))), .inl t, .inl n] m (some (.inl (zsel (m (4 + 4 * h) (3 * t)) (m (4 + 4 * h) (3 * t + 1)) (m (4 + 4 * h) (3 * t + 2)) n))) m := by
  have r0 := hf (3 * t) (by omega) (by omega)
  have r1 := hf (3 * t + 1) (by omega) (by omega)
  have r2 := hf (3 * t + 2) (by omega) (by omega)
  refine zF_of n18 (ls := [some (.inr (.inl (some (3 + 4 * h)))), some (.inl t), some (.inl n), none]) rfl ?_
  refine r_iconst f18_0 rfl ?_
  refine r_istore_n f18_1 rfl (ls' := [some (.inr (.inl (some (3 + 4 * h)))), some (.inl t), some (.inl n), some (.inl 0)]) rfl ?_
  refine r_iload_n f18_2 rfl ?_
  refine r_gets (o := 0) f18_3 o18 ?_
  refine r_alen f18_6 kdm2 ?_
  refine r_cge f18_7 (t := 36) (by decide) (fun h => absurd h (by omega)) (fun _ => ?_)
  refine r_aload_n f18_10 rfl ?_
  refine r_gets (o := 0) f18_11 o18 ?_
  refine r_iload_n f18_14 rfl ?_
  refine r_iald f18_15 kdm2 (by omega) (by omega) ?_
  refine r_top (e := 1) (by rw [hd]; rfl) ?_
  refine r_iload_n f18_16 rfl ?_
  refine r_callv2i f18_17 o18 M1_29 p17 o17 (kdH0 (h := h) (by omega) (by omega)) rfl (by simp) (t_fis1 h0 h1 t0 t1 hf) ?_
  refine r_iload_n f18_20 rfl ?_
  refine r_clt f18_21 (t := 30) (by decide) (fun q1 => ?_) (fun q1 => ?_)
  · refine r_iinc f18_30 rfl rfl rfl (e := 1) (by omega) (by omega) (by omega) (ls' := [some (.inr (.inl (some (3 + 4 * h)))), some (.inl t), some (.inl n), some (.inl 1)]) rfl ?_
    refine r_goto f18_33 (t := 2) (by decide) ?_
    refine r_iload_n f18_2 rfl ?_
    refine r_gets (o := 0) f18_3 o18 ?_
    refine r_alen f18_6 kdm2 ?_
    refine r_cge f18_7 (t := 36) (by decide) (fun h => absurd h (by omega)) (fun _ => ?_)
    refine r_aload_n f18_10 rfl ?_
    refine r_gets (o := 0) f18_11 o18 ?_
    refine r_iload_n f18_14 rfl ?_
    refine r_iald f18_15 kdm2 (by omega) (by omega) ?_
    refine r_top (e := 2) (by rw [hd]; rfl) ?_
    refine r_iload_n f18_16 rfl ?_
    refine r_callv2i f18_17 o18 M1_29 p17 o17 (kdH0 (h := h) (by omega) (by omega)) rfl (by simp) (t_fis2 h0 h1 t0 t1 hf) ?_
    refine r_iload_n f18_20 rfl ?_
    refine r_clt f18_21 (t := 30) (by decide) (fun q2 => ?_) (fun q2 => ?_)
    · refine r_iinc f18_30 rfl rfl rfl (e := 2) (by omega) (by omega) (by omega) (ls' := [some (.inr (.inl (some (3 + 4 * h)))), some (.inl t), some (.inl n), some (.inl 2)]) rfl ?_
      refine r_goto f18_33 (t := 2) (by decide) ?_
      refine r_iload_n f18_2 rfl ?_
      refine r_gets (o := 0) f18_3 o18 ?_
      refine r_alen f18_6 kdm2 ?_
      refine r_cge f18_7 (t := 36) (by decide) (fun h => absurd h (by omega)) (fun _ => ?_)
      refine r_aload_n f18_10 rfl ?_
      refine r_gets (o := 0) f18_11 o18 ?_
      refine r_iload_n f18_14 rfl ?_
      refine r_iald f18_15 kdm2 (by omega) (by omega) ?_
      refine r_top (e := 4) (by rw [hd]; rfl) ?_
      refine r_iload_n f18_16 rfl ?_
      refine r_callv2i f18_17 o18 M1_29 p17 o17 (kdH0 (h := h) (by omega) (by omega)) rfl (by simp) (t_fis4 h0 h1 t0 t1 hf) ?_
      refine r_iload_n f18_20 rfl ?_
      refine r_clt f18_21 (t := 30) (by decide) (fun q3 => ?_) (fun q3 => ?_)
      · refine r_iinc f18_30 rfl rfl rfl (e := 3) (by omega) (by omega) (by omega) (ls' := [some (.inr (.inl (some (3 + 4 * h)))), some (.inl t), some (.inl n), some (.inl 3)]) rfl ?_
        refine r_goto f18_33 (t := 2) (by decide) ?_
        refine r_iload_n f18_2 rfl ?_
        refine r_gets (o := 0) f18_3 o18 ?_
        refine r_alen f18_6 kdm2 ?_
        refine r_cge f18_7 (t := 36) (by decide) (fun h => absurd h (by omega)) (fun _ => ?_)
        refine r_aload_n f18_10 rfl ?_
        refine r_gets (o := 0) f18_11 o18 ?_
        refine r_iload_n f18_14 rfl ?_
        refine r_iald f18_15 kdm2 (by omega) (by omega) ?_
        refine r_top (e := 3) (by rw [hd]; rfl) ?_
        refine r_iload_n f18_16 rfl ?_
        refine r_callv2i f18_17 o18 M1_29 p17 o17 (kdH0 (h := h) (by omega) (by omega)) rfl (by simp) (t_fis3 h0 h1 t0 t1 hf) ?_
        refine r_iload_n f18_20 rfl ?_
        refine r_clt f18_21 (t := 30) (by decide) (fun q4 => ?_) (fun q4 => ?_)
        · refine r_iinc f18_30 rfl rfl rfl (e := 4) (by omega) (by omega) (by omega) (ls' := [some (.inr (.inl (some (3 + 4 * h)))), some (.inl t), some (.inl n), some (.inl 4)]) rfl ?_
          refine r_goto f18_33 (t := 2) (by decide) ?_
          refine r_iload_n f18_2 rfl ?_
          refine r_gets (o := 0) f18_3 o18 ?_
          refine r_alen f18_6 kdm2 ?_
          refine r_cge f18_7 (t := 36) (by decide) (fun h => absurd h (by omega)) (fun _ => ?_)
          refine r_aload_n f18_10 rfl ?_
          refine r_gets (o := 0) f18_11 o18 ?_
          refine r_iload_n f18_14 rfl ?_
          refine r_iald f18_15 kdm2 (by omega) (by omega) ?_
          refine r_top (e := 5) (by rw [hd]; rfl) ?_
          refine r_iload_n f18_16 rfl ?_
          refine r_callv2i f18_17 o18 M1_29 p17 o17 (kdH0 (h := h) (by omega) (by omega)) rfl (by simp) (t_fis5 h0 h1 t0 t1 hf) ?_
          refine r_iload_n f18_20 rfl ?_
          refine r_clt f18_21 (t := 30) (by decide) (fun q5 => ?_) (fun q5 => ?_)
          · refine r_iinc f18_30 rfl rfl rfl (e := 5) (by omega) (by omega) (by omega) (ls' := [some (.inr (.inl (some (3 + 4 * h)))), some (.inl t), some (.inl n), some (.inl 5)]) rfl ?_
            refine r_goto f18_33 (t := 2) (by decide) ?_
            refine r_iload_n f18_2 rfl ?_
            refine r_gets (o := 0) f18_3 o18 ?_
            refine r_alen f18_6 kdm2 ?_
            refine r_cge f18_7 (t := 36) (by decide) (fun h => absurd h (by omega)) (fun _ => ?_)
            refine r_aload_n f18_10 rfl ?_
            refine r_gets (o := 0) f18_11 o18 ?_
            refine r_iload_n f18_14 rfl ?_
            refine r_iald f18_15 kdm2 (by omega) (by omega) ?_
            refine r_top (e := 6) (by rw [hd]; rfl) ?_
            refine r_iload_n f18_16 rfl ?_
            refine r_callv2i f18_17 o18 M1_29 p17 o17 (kdH0 (h := h) (by omega) (by omega)) rfl (by simp) (t_fis6 h0 h1 t0 t1 hf) ?_
            refine r_iload_n f18_20 rfl ?_
            refine r_clt f18_21 (t := 30) (by decide) (fun q6 => ?_) (fun q6 => ?_)
            · refine r_iinc f18_30 rfl rfl rfl (e := 6) (by omega) (by omega) (by omega) (ls' := [some (.inr (.inl (some (3 + 4 * h)))), some (.inl t), some (.inl n), some (.inl 6)]) rfl ?_
              refine r_goto f18_33 (t := 2) (by decide) ?_
              refine r_iload_n f18_2 rfl ?_
              refine r_gets (o := 0) f18_3 o18 ?_
              refine r_alen f18_6 kdm2 ?_
              refine r_cge f18_7 (t := 36) (by decide) (fun h => absurd h (by omega)) (fun _ => ?_)
              refine r_aload_n f18_10 rfl ?_
              refine r_gets (o := 0) f18_11 o18 ?_
              refine r_iload_n f18_14 rfl ?_
              refine r_iald f18_15 kdm2 (by omega) (by omega) ?_
              refine r_top (e := 7) (by rw [hd]; rfl) ?_
              refine r_iload_n f18_16 rfl ?_
              refine r_callv2i f18_17 o18 M1_29 p17 o17 (kdH0 (h := h) (by omega) (by omega)) rfl (by simp) (t_fis7 h0 h1 t0 t1 hf) ?_
              refine r_iload_n f18_20 rfl ?_
              refine r_clt f18_21 (t := 30) (by decide) (fun q7 => ?_) (fun q7 => ?_)
              · refine r_iinc f18_30 rfl rfl rfl (e := 7) (by omega) (by omega) (by omega) (ls' := [some (.inr (.inl (some (3 + 4 * h)))), some (.inl t), some (.inl n), some (.inl 7)]) rfl ?_
                refine r_goto f18_33 (t := 2) (by decide) ?_
                refine r_iload_n f18_2 rfl ?_
                refine r_gets (o := 0) f18_3 o18 ?_
                refine r_alen f18_6 kdm2 ?_
                refine r_cge f18_7 (t := 36) (by decide) (fun _ => ?_) (fun h => absurd (by omega) h)
                refine r_iconst f18_36 rfl ?_
                exact r_iret f18_37 v18 ⟨zs_eq (by unfold zsel; (repeat (first | rw [if_pos (by omega)] | rw [if_neg (by omega)]))), rfl⟩
              · refine r_gets (o := 0) f18_24 o18 ?_
                refine r_iload_n f18_27 rfl ?_
                refine r_iald f18_28 kdm2 (by omega) (by omega) ?_
                refine r_top (e := 7) (by rw [hd]; rfl) ?_
                exact r_iret f18_29 v18 ⟨zs_eq (by unfold zsel; (repeat (first | rw [if_pos (by omega)] | rw [if_neg (by omega)]))), rfl⟩
            · refine r_gets (o := 0) f18_24 o18 ?_
              refine r_iload_n f18_27 rfl ?_
              refine r_iald f18_28 kdm2 (by omega) (by omega) ?_
              refine r_top (e := 6) (by rw [hd]; rfl) ?_
              exact r_iret f18_29 v18 ⟨zs_eq (by unfold zsel; (repeat (first | rw [if_pos (by omega)] | rw [if_neg (by omega)]))), rfl⟩
          · refine r_gets (o := 0) f18_24 o18 ?_
            refine r_iload_n f18_27 rfl ?_
            refine r_iald f18_28 kdm2 (by omega) (by omega) ?_
            refine r_top (e := 5) (by rw [hd]; rfl) ?_
            exact r_iret f18_29 v18 ⟨zs_eq (by unfold zsel; (repeat (first | rw [if_pos (by omega)] | rw [if_neg (by omega)]))), rfl⟩
        · refine r_gets (o := 0) f18_24 o18 ?_
          refine r_iload_n f18_27 rfl ?_
          refine r_iald f18_28 kdm2 (by omega) (by omega) ?_
          refine r_top (e := 3) (by rw [hd]; rfl) ?_
          exact r_iret f18_29 v18 ⟨zs_eq (by unfold zsel; (repeat (first | rw [if_pos (by omega)] | rw [if_neg (by omega)]))), rfl⟩
      · refine r_gets (o := 0) f18_24 o18 ?_
        refine r_iload_n f18_27 rfl ?_
        refine r_iald f18_28 kdm2 (by omega) (by omega) ?_
        refine r_top (e := 4) (by rw [hd]; rfl) ?_
        exact r_iret f18_29 v18 ⟨zs_eq (by unfold zsel; (repeat (first | rw [if_pos (by omega)] | rw [if_neg (by omega)]))), rfl⟩
    · refine r_gets (o := 0) f18_24 o18 ?_
      refine r_iload_n f18_27 rfl ?_
      refine r_iald f18_28 kdm2 (by omega) (by omega) ?_
      refine r_top (e := 2) (by rw [hd]; rfl) ?_
      exact r_iret f18_29 v18 ⟨zs_eq (by unfold zsel; (repeat (first | rw [if_pos (by omega)] | rw [if_neg (by omega)]))), rfl⟩
  · refine r_gets (o := 0) f18_24 o18 ?_
    refine r_iload_n f18_27 rfl ?_
    refine r_iald f18_28 kdm2 (by omega) (by omega) ?_
    refine r_top (e := 1) (by rw [hd]; rfl) ?_
    exact r_iret f18_29 v18 ⟨zs_eq (by unfold zsel; (repeat (first | rw [if_pos (by omega)] | rw [if_neg (by omega)]))), rfl⟩

abbrev XWC (m : zmem) (h t n c i : Int) : zmem := (zu (zu (zu (zu (zu (zu m (4 + 4 * h) (3 * t) (m (4 + 4 * h) (3 * t) - zsh0 (m (4 + 4 * h) (3 * t)) (m (4 + 4 * h) (3 * t + 1)) (m (4 + 4 * h) (3 * t + 2)) n)) (66 + 5 * c) (3 * i) (zsh0 (m (4 + 4 * h) (3 * t)) (m (4 + 4 * h) (3 * t + 1)) (m (4 + 4 * h) (3 * t + 2)) n)) (4 + 4 * h) (3 * t + 1) (m (4 + 4 * h) (3 * t + 1) - zsh1 (m (4 + 4 * h) (3 * t)) (m (4 + 4 * h) (3 * t + 1)) (m (4 + 4 * h) (3 * t + 2)) n)) (66 + 5 * c) (3 * i + 1) (zsh1 (m (4 + 4 * h) (3 * t)) (m (4 + 4 * h) (3 * t + 1)) (m (4 + 4 * h) (3 * t + 2)) n)) (4 + 4 * h) (3 * t + 2) (m (4 + 4 * h) (3 * t + 2) - zsh2 (m (4 + 4 * h) (3 * t)) (m (4 + 4 * h) (3 * t + 1)) (m (4 + 4 * h) (3 * t + 2)) n)) (66 + 5 * c) (3 * i + 2) (zsh2 (m (4 + 4 * h) (3 * t)) (m (4 + 4 * h) (3 * t + 1)) (m (4 + 4 * h) (3 * t + 2)) n))
theorem t_fillC {L d : Nat} {m : zmem} {h : Int} (h0 : 0 ≤ h) (h1 : h < 12) {t : Int} (t0 : 0 ≤ t) (t1 : t < 40) (hf : ∀ k, 0 ≤ k → k < 120 → 0 ≤ m (4 + 4 * h) k ∧ m (4 + 4 * h) k ≤ 9) {c i : Int} (c0 : 0 ≤ c) (c1 : c < 40) (i0 : 0 ≤ i) (i1 : i < 7) {n : Int} (hd : ∀ k, m (-2) k = zdv k) (n0 : 0 ≤ n) (n1 : n ≤ m (4 + 4 * h) (3 * t) + m (4 + 4 * h) (3 * t + 1) + m (4 + 4 * h) (3 * t + 2)) : zF L (d + 2) 19 [.inr (.inl (some (3 + 4 * h))), .inl t, .inl n, .inr (.inl (some (66 + 5 * c))), .inl (3 * i)] m none (XWC m h t n c i) := by
  have r0 := hf (3 * t) (by omega) (by omega)
  have r1 := hf (3 * t + 1) (by omega) (by omega)
  have r2 := hf (3 * t + 2) (by omega) (by omega)
  refine zF_of n19 (ls := [some (.inr (.inl (some (3 + 4 * h)))), some (.inl t), some (.inl n), some (.inr (.inl (some (66 + 5 * c)))), some (.inl (3 * i)), none, none, none, none]) rfl ?_
  refine r_aload_n f19_0 rfl ?_
  refine r_iload_n f19_1 rfl ?_
  refine r_iload_n f19_2 rfl ?_
  refine r_callv2i f19_3 o19 M1_33 p18 o18 (kdH0 (h := h) (by omega) (by omega)) rfl (by simp) (t_dormsFor (n := n) h0 h1 t0 t1 hf hd) ?_
  refine r_top (e := if n ≤ m (4 + 4 * h) (3 * t) then 1 else if n ≤ m (4 + 4 * h) (3 * t + 1) then 2 else if n ≤ m (4 + 4 * h) (3 * t + 2) then 4 else if n ≤ m (4 + 4 * h) (3 * t) + m (4 + 4 * h) (3 * t + 1) then 3 else if n ≤ m (4 + 4 * h) (3 * t) + m (4 + 4 * h) (3 * t + 2) then 5 else if n ≤ m (4 + 4 * h) (3 * t + 1) + m (4 + 4 * h) (3 * t + 2) then 6 else if n ≤ m (4 + 4 * h) (3 * t) + m (4 + 4 * h) (3 * t + 1) + m (4 + 4 * h) (3 * t + 2) then 7 else 0) rfl ?_
  refine r_ite (fun q1 => ?_) (fun q1 => ?_)
  · refine r_istore f19_6 rfl (ls' := [some (.inr (.inl (some (3 + 4 * h)))), some (.inl t), some (.inl n), some (.inr (.inl (some (66 + 5 * c)))), some (.inl (3 * i)), some (.inl 1), none, none, none]) rfl ?_
    refine r_iload_n f19_8 rfl ?_
    refine r_istore f19_9 rfl (ls' := [some (.inr (.inl (some (3 + 4 * h)))), some (.inl t), some (.inl n), some (.inr (.inl (some (66 + 5 * c)))), some (.inl (3 * i)), some (.inl 1), some (.inl n), none, none]) rfl ?_
    refine r_iconst f19_11 rfl ?_
    refine r_istore f19_12 rfl (ls' := [some (.inr (.inl (some (3 + 4 * h)))), some (.inl t), some (.inl n), some (.inr (.inl (some (66 + 5 * c)))), some (.inl (3 * i)), some (.inl 1), some (.inl n), some (.inl 0), none]) rfl ?_
    refine r_iload f19_14 rfl ?_
    refine r_iconst f19_16 rfl ?_
    refine r_cge f19_17 (t := 91) (by decide) (fun h => absurd h (by omega)) (fun _ => ?_)
    refine r_iload f19_20 rfl ?_
    refine r_iload f19_22 rfl ?_
    refine r_ishr f19_24 (e := 1) (by decide) ?_
    refine r_iconst f19_25 rfl ?_
    refine r_iand f19_26 (e := 1) (by decide) ?_
    refine r_iconst f19_27 rfl ?_
    refine r_cne f19_28 (t := 50) (by decide) (fun h => absurd h (by omega)) (fun _ => ?_)
    refine r_iload f19_31 rfl ?_
    refine r_aload_n f19_33 rfl ?_
    refine r_getR f19_34 o19 F1_9 (gH_0 (h := h) (by omega) (by omega)) rfl ?_
    refine r_iload_n f19_37 rfl ?_
    refine r_iconst f19_38 rfl ?_
    refine r_imul f19_39 (e := 3 * t) (by omega) (by omega) (by omega) ?_
    refine r_iload f19_40 rfl ?_
    refine r_iadd f19_42 (e := 3 * t) (by omega) (by omega) (by omega) ?_
    refine r_iald f19_43 (kdH1 (h := h) (by omega) (by omega)) (by omega) (by omega) ?_
    refine r_min f19_44 o19 M1_36 (by simp) ?_
    refine r_top (e := n) (by rw [if_neg (by omega)]) ?_
    refine r_goto f19_47 (t := 51) (by decide) ?_
    refine r_istore f19_51 rfl (ls' := [some (.inr (.inl (some (3 + 4 * h)))), some (.inl t), some (.inl n), some (.inr (.inl (some (66 + 5 * c)))), some (.inl (3 * i)), some (.inl 1), some (.inl n), some (.inl 0), some (.inl n)]) rfl ?_
    refine r_aload_n f19_53 rfl ?_
    refine r_getR f19_54 o19 F1_9 (gH_0 (h := h) (by omega) (by omega)) rfl ?_
    refine r_iload_n f19_57 rfl ?_
    refine r_iconst f19_58 rfl ?_
    refine r_imul f19_59 (e := 3 * t) (by omega) (by omega) (by omega) ?_
    refine r_iload f19_60 rfl ?_
    refine r_iadd f19_62 (e := 3 * t) (by omega) (by omega) (by omega) ?_
    refine r_dup2 f19_63 ?_
    refine r_iald f19_64 (kdH1 (h := h) (by omega) (by omega)) (by omega) (by omega) ?_
    refine r_iload f19_65 rfl ?_
    refine r_isub f19_67 (e := m (4 + 4 * h) (3 * t) - n) (by omega) (by omega) (by omega) ?_
    refine r_iast f19_68 (kdH1 (h := h) (by omega) (by omega)) (by omega) (by omega) (by omega) ?_
    refine r_aload_n f19_69 rfl ?_
    refine r_iload f19_70 rfl ?_
    refine r_iload f19_72 rfl ?_
    refine r_iadd f19_74 (e := 3 * i) (by omega) (by omega) (by omega) ?_
    refine r_iload f19_75 rfl ?_
    refine r_iast f19_77 (kdC2 (c := c) (by omega) (by omega)) (by omega) (by omega) (by omega) ?_
    refine r_iload f19_78 rfl ?_
    refine r_iload f19_80 rfl ?_
    refine r_isub f19_82 (e := 0) (by omega) (by omega) (by omega) ?_
    refine r_istore f19_83 rfl (ls' := [some (.inr (.inl (some (3 + 4 * h)))), some (.inl t), some (.inl n), some (.inr (.inl (some (66 + 5 * c)))), some (.inl (3 * i)), some (.inl 1), some (.inl 0), some (.inl 0), some (.inl n)]) rfl ?_
    refine r_iinc f19_85 rfl rfl rfl (e := 1) (by omega) (by omega) (by omega) (ls' := [some (.inr (.inl (some (3 + 4 * h)))), some (.inl t), some (.inl n), some (.inr (.inl (some (66 + 5 * c)))), some (.inl (3 * i)), some (.inl 1), some (.inl 0), some (.inl 1), some (.inl n)]) rfl ?_
    refine r_goto f19_88 (t := 14) (by decide) ?_
    refine r_iload f19_14 rfl ?_
    refine r_iconst f19_16 rfl ?_
    refine r_cge f19_17 (t := 91) (by decide) (fun h => absurd h (by omega)) (fun _ => ?_)
    refine r_iload f19_20 rfl ?_
    refine r_iload f19_22 rfl ?_
    refine r_ishr f19_24 (e := 0) (by decide) ?_
    refine r_iconst f19_25 rfl ?_
    refine r_iand f19_26 (e := 0) (by decide) ?_
    refine r_iconst f19_27 rfl ?_
    refine r_cne f19_28 (t := 50) (by decide) (fun _ => ?_) (fun h => absurd (by omega) h)
    refine r_iconst f19_50 rfl ?_
    refine r_istore f19_51 rfl (ls' := [some (.inr (.inl (some (3 + 4 * h)))), some (.inl t), some (.inl n), some (.inr (.inl (some (66 + 5 * c)))), some (.inl (3 * i)), some (.inl 1), some (.inl 0), some (.inl 1), some (.inl 0)]) rfl ?_
    refine r_aload_n f19_53 rfl ?_
    refine r_getR f19_54 o19 F1_9 (gH_0 (h := h) (by omega) (by omega)) rfl ?_
    refine r_iload_n f19_57 rfl ?_
    refine r_iconst f19_58 rfl ?_
    refine r_imul f19_59 (e := 3 * t) (by omega) (by omega) (by omega) ?_
    refine r_iload f19_60 rfl ?_
    refine r_iadd f19_62 (e := 3 * t + 1) (by omega) (by omega) (by omega) ?_
    refine r_dup2 f19_63 ?_
    refine r_iald f19_64 (kdH1 (h := h) (by omega) (by omega)) (by omega) (by omega) ?_
    refine r_top (e := m (4 + 4 * h) (3 * t + 1)) (by rw [zu_if, if_neg (by omega), zu_if, if_neg (by omega)]) ?_
    refine r_iload f19_65 rfl ?_
    refine r_isub f19_67 (e := m (4 + 4 * h) (3 * t + 1)) (by omega) (by omega) (by omega) ?_
    refine r_iast f19_68 (kdH1 (h := h) (by omega) (by omega)) (by omega) (by omega) (by omega) ?_
    refine r_aload_n f19_69 rfl ?_
    refine r_iload f19_70 rfl ?_
    refine r_iload f19_72 rfl ?_
    refine r_iadd f19_74 (e := 3 * i + 1) (by omega) (by omega) (by omega) ?_
    refine r_iload f19_75 rfl ?_
    refine r_iast f19_77 (kdC2 (c := c) (by omega) (by omega)) (by omega) (by omega) (by omega) ?_
    refine r_iload f19_78 rfl ?_
    refine r_iload f19_80 rfl ?_
    refine r_isub f19_82 (e := 0) (by omega) (by omega) (by omega) ?_
    refine r_istore f19_83 rfl (ls' := [some (.inr (.inl (some (3 + 4 * h)))), some (.inl t), some (.inl n), some (.inr (.inl (some (66 + 5 * c)))), some (.inl (3 * i)), some (.inl 1), some (.inl 0), some (.inl 1), some (.inl 0)]) rfl ?_
    refine r_iinc f19_85 rfl rfl rfl (e := 2) (by omega) (by omega) (by omega) (ls' := [some (.inr (.inl (some (3 + 4 * h)))), some (.inl t), some (.inl n), some (.inr (.inl (some (66 + 5 * c)))), some (.inl (3 * i)), some (.inl 1), some (.inl 0), some (.inl 2), some (.inl 0)]) rfl ?_
    refine r_goto f19_88 (t := 14) (by decide) ?_
    refine r_iload f19_14 rfl ?_
    refine r_iconst f19_16 rfl ?_
    refine r_cge f19_17 (t := 91) (by decide) (fun h => absurd h (by omega)) (fun _ => ?_)
    refine r_iload f19_20 rfl ?_
    refine r_iload f19_22 rfl ?_
    refine r_ishr f19_24 (e := 0) (by decide) ?_
    refine r_iconst f19_25 rfl ?_
    refine r_iand f19_26 (e := 0) (by decide) ?_
    refine r_iconst f19_27 rfl ?_
    refine r_cne f19_28 (t := 50) (by decide) (fun _ => ?_) (fun h => absurd (by omega) h)
    refine r_iconst f19_50 rfl ?_
    refine r_istore f19_51 rfl (ls' := [some (.inr (.inl (some (3 + 4 * h)))), some (.inl t), some (.inl n), some (.inr (.inl (some (66 + 5 * c)))), some (.inl (3 * i)), some (.inl 1), some (.inl 0), some (.inl 2), some (.inl 0)]) rfl ?_
    refine r_aload_n f19_53 rfl ?_
    refine r_getR f19_54 o19 F1_9 (gH_0 (h := h) (by omega) (by omega)) rfl ?_
    refine r_iload_n f19_57 rfl ?_
    refine r_iconst f19_58 rfl ?_
    refine r_imul f19_59 (e := 3 * t) (by omega) (by omega) (by omega) ?_
    refine r_iload f19_60 rfl ?_
    refine r_iadd f19_62 (e := 3 * t + 2) (by omega) (by omega) (by omega) ?_
    refine r_dup2 f19_63 ?_
    refine r_iald f19_64 (kdH1 (h := h) (by omega) (by omega)) (by omega) (by omega) ?_
    refine r_top (e := m (4 + 4 * h) (3 * t + 2)) (by rw [zu_if, if_neg (by omega), zu_if, if_neg (by omega), zu_if, if_neg (by omega), zu_if, if_neg (by omega)]) ?_
    refine r_iload f19_65 rfl ?_
    refine r_isub f19_67 (e := m (4 + 4 * h) (3 * t + 2)) (by omega) (by omega) (by omega) ?_
    refine r_iast f19_68 (kdH1 (h := h) (by omega) (by omega)) (by omega) (by omega) (by omega) ?_
    refine r_aload_n f19_69 rfl ?_
    refine r_iload f19_70 rfl ?_
    refine r_iload f19_72 rfl ?_
    refine r_iadd f19_74 (e := 3 * i + 2) (by omega) (by omega) (by omega) ?_
    refine r_iload f19_75 rfl ?_
    refine r_iast f19_77 (kdC2 (c := c) (by omega) (by omega)) (by omega) (by omega) (by omega) ?_
    refine r_iload f19_78 rfl ?_
    refine r_iload f19_80 rfl ?_
    refine r_isub f19_82 (e := 0) (by omega) (by omega) (by omega) ?_
    refine r_istore f19_83 rfl (ls' := [some (.inr (.inl (some (3 + 4 * h)))), some (.inl t), some (.inl n), some (.inr (.inl (some (66 + 5 * c)))), some (.inl (3 * i)), some (.inl 1), some (.inl 0), some (.inl 2), some (.inl 0)]) rfl ?_
    refine r_iinc f19_85 rfl rfl rfl (e := 3) (by omega) (by omega) (by omega) (ls' := [some (.inr (.inl (some (3 + 4 * h)))), some (.inl t), some (.inl n), some (.inr (.inl (some (66 + 5 * c)))), some (.inl (3 * i)), some (.inl 1), some (.inl 0), some (.inl 3), some (.inl 0)]) rfl ?_
    refine r_goto f19_88 (t := 14) (by decide) ?_
    refine r_iload f19_14 rfl ?_
    refine r_iconst f19_16 rfl ?_
    refine r_cge f19_17 (t := 91) (by decide) (fun _ => ?_) (fun h => absurd (by omega) h)
    exact r_vret f19_91 v19 ⟨rfl, by unfold XWC; rw [show m (4 + 4 * h) (3 * t) - zsh0 (m (4 + 4 * h) (3 * t)) (m (4 + 4 * h) (3 * t + 1)) (m (4 + 4 * h) (3 * t + 2)) n = m (4 + 4 * h) (3 * t) - n from by unfold zsh0; (repeat (first | rw [if_pos (by omega)] | rw [if_neg (by omega)])); try omega, show zsh0 (m (4 + 4 * h) (3 * t)) (m (4 + 4 * h) (3 * t + 1)) (m (4 + 4 * h) (3 * t + 2)) n = n from by unfold zsh0; (repeat (first | rw [if_pos (by omega)] | rw [if_neg (by omega)])); try omega, show m (4 + 4 * h) (3 * t + 1) - zsh1 (m (4 + 4 * h) (3 * t)) (m (4 + 4 * h) (3 * t + 1)) (m (4 + 4 * h) (3 * t + 2)) n = m (4 + 4 * h) (3 * t + 1) from by unfold zsh1; (repeat (first | rw [if_pos (by omega)] | rw [if_neg (by omega)])); try omega, show zsh1 (m (4 + 4 * h) (3 * t)) (m (4 + 4 * h) (3 * t + 1)) (m (4 + 4 * h) (3 * t + 2)) n = 0 from by unfold zsh1; (repeat (first | rw [if_pos (by omega)] | rw [if_neg (by omega)])); try omega, show m (4 + 4 * h) (3 * t + 2) - zsh2 (m (4 + 4 * h) (3 * t)) (m (4 + 4 * h) (3 * t + 1)) (m (4 + 4 * h) (3 * t + 2)) n = m (4 + 4 * h) (3 * t + 2) from by unfold zsh2; (repeat (first | rw [if_pos (by omega)] | rw [if_neg (by omega)])); try omega, show zsh2 (m (4 + 4 * h) (3 * t)) (m (4 + 4 * h) (3 * t + 1)) (m (4 + 4 * h) (3 * t + 2)) n = 0 from by unfold zsh2; (repeat (first | rw [if_pos (by omega)] | rw [if_neg (by omega)])); try omega]⟩
  · refine r_ite (fun q2 => ?_) (fun q2 => ?_)
    · refine r_istore f19_6 rfl (ls' := [some (.inr (.inl (some (3 + 4 * h)))), some (.inl t), some (.inl n), some (.inr (.inl (some (66 + 5 * c)))), some (.inl (3 * i)), some (.inl 2), none, none, none]) rfl ?_
      refine r_iload_n f19_8 rfl ?_
      refine r_istore f19_9 rfl (ls' := [some (.inr (.inl (some (3 + 4 * h)))), some (.inl t), some (.inl n), some (.inr (.inl (some (66 + 5 * c)))), some (.inl (3 * i)), some (.inl 2), some (.inl n), none, none]) rfl ?_
      refine r_iconst f19_11 rfl ?_
      refine r_istore f19_12 rfl (ls' := [some (.inr (.inl (some (3 + 4 * h)))), some (.inl t), some (.inl n), some (.inr (.inl (some (66 + 5 * c)))), some (.inl (3 * i)), some (.inl 2), some (.inl n), some (.inl 0), none]) rfl ?_
      refine r_iload f19_14 rfl ?_
      refine r_iconst f19_16 rfl ?_
      refine r_cge f19_17 (t := 91) (by decide) (fun h => absurd h (by omega)) (fun _ => ?_)
      refine r_iload f19_20 rfl ?_
      refine r_iload f19_22 rfl ?_
      refine r_ishr f19_24 (e := 2) (by decide) ?_
      refine r_iconst f19_25 rfl ?_
      refine r_iand f19_26 (e := 0) (by decide) ?_
      refine r_iconst f19_27 rfl ?_
      refine r_cne f19_28 (t := 50) (by decide) (fun _ => ?_) (fun h => absurd (by omega) h)
      refine r_iconst f19_50 rfl ?_
      refine r_istore f19_51 rfl (ls' := [some (.inr (.inl (some (3 + 4 * h)))), some (.inl t), some (.inl n), some (.inr (.inl (some (66 + 5 * c)))), some (.inl (3 * i)), some (.inl 2), some (.inl n), some (.inl 0), some (.inl 0)]) rfl ?_
      refine r_aload_n f19_53 rfl ?_
      refine r_getR f19_54 o19 F1_9 (gH_0 (h := h) (by omega) (by omega)) rfl ?_
      refine r_iload_n f19_57 rfl ?_
      refine r_iconst f19_58 rfl ?_
      refine r_imul f19_59 (e := 3 * t) (by omega) (by omega) (by omega) ?_
      refine r_iload f19_60 rfl ?_
      refine r_iadd f19_62 (e := 3 * t) (by omega) (by omega) (by omega) ?_
      refine r_dup2 f19_63 ?_
      refine r_iald f19_64 (kdH1 (h := h) (by omega) (by omega)) (by omega) (by omega) ?_
      refine r_iload f19_65 rfl ?_
      refine r_isub f19_67 (e := m (4 + 4 * h) (3 * t)) (by omega) (by omega) (by omega) ?_
      refine r_iast f19_68 (kdH1 (h := h) (by omega) (by omega)) (by omega) (by omega) (by omega) ?_
      refine r_aload_n f19_69 rfl ?_
      refine r_iload f19_70 rfl ?_
      refine r_iload f19_72 rfl ?_
      refine r_iadd f19_74 (e := 3 * i) (by omega) (by omega) (by omega) ?_
      refine r_iload f19_75 rfl ?_
      refine r_iast f19_77 (kdC2 (c := c) (by omega) (by omega)) (by omega) (by omega) (by omega) ?_
      refine r_iload f19_78 rfl ?_
      refine r_iload f19_80 rfl ?_
      refine r_isub f19_82 (e := n) (by omega) (by omega) (by omega) ?_
      refine r_istore f19_83 rfl (ls' := [some (.inr (.inl (some (3 + 4 * h)))), some (.inl t), some (.inl n), some (.inr (.inl (some (66 + 5 * c)))), some (.inl (3 * i)), some (.inl 2), some (.inl n), some (.inl 0), some (.inl 0)]) rfl ?_
      refine r_iinc f19_85 rfl rfl rfl (e := 1) (by omega) (by omega) (by omega) (ls' := [some (.inr (.inl (some (3 + 4 * h)))), some (.inl t), some (.inl n), some (.inr (.inl (some (66 + 5 * c)))), some (.inl (3 * i)), some (.inl 2), some (.inl n), some (.inl 1), some (.inl 0)]) rfl ?_
      refine r_goto f19_88 (t := 14) (by decide) ?_
      refine r_iload f19_14 rfl ?_
      refine r_iconst f19_16 rfl ?_
      refine r_cge f19_17 (t := 91) (by decide) (fun h => absurd h (by omega)) (fun _ => ?_)
      refine r_iload f19_20 rfl ?_
      refine r_iload f19_22 rfl ?_
      refine r_ishr f19_24 (e := 1) (by decide) ?_
      refine r_iconst f19_25 rfl ?_
      refine r_iand f19_26 (e := 1) (by decide) ?_
      refine r_iconst f19_27 rfl ?_
      refine r_cne f19_28 (t := 50) (by decide) (fun h => absurd h (by omega)) (fun _ => ?_)
      refine r_iload f19_31 rfl ?_
      refine r_aload_n f19_33 rfl ?_
      refine r_getR f19_34 o19 F1_9 (gH_0 (h := h) (by omega) (by omega)) rfl ?_
      refine r_iload_n f19_37 rfl ?_
      refine r_iconst f19_38 rfl ?_
      refine r_imul f19_39 (e := 3 * t) (by omega) (by omega) (by omega) ?_
      refine r_iload f19_40 rfl ?_
      refine r_iadd f19_42 (e := 3 * t + 1) (by omega) (by omega) (by omega) ?_
      refine r_iald f19_43 (kdH1 (h := h) (by omega) (by omega)) (by omega) (by omega) ?_
      refine r_top (e := m (4 + 4 * h) (3 * t + 1)) (by rw [zu_if, if_neg (by omega), zu_if, if_neg (by omega)]) ?_
      refine r_min f19_44 o19 M1_36 (by simp) ?_
      refine r_top (e := n) (by rw [if_neg (by omega)]) ?_
      refine r_goto f19_47 (t := 51) (by decide) ?_
      refine r_istore f19_51 rfl (ls' := [some (.inr (.inl (some (3 + 4 * h)))), some (.inl t), some (.inl n), some (.inr (.inl (some (66 + 5 * c)))), some (.inl (3 * i)), some (.inl 2), some (.inl n), some (.inl 1), some (.inl n)]) rfl ?_
      refine r_aload_n f19_53 rfl ?_
      refine r_getR f19_54 o19 F1_9 (gH_0 (h := h) (by omega) (by omega)) rfl ?_
      refine r_iload_n f19_57 rfl ?_
      refine r_iconst f19_58 rfl ?_
      refine r_imul f19_59 (e := 3 * t) (by omega) (by omega) (by omega) ?_
      refine r_iload f19_60 rfl ?_
      refine r_iadd f19_62 (e := 3 * t + 1) (by omega) (by omega) (by omega) ?_
      refine r_dup2 f19_63 ?_
      refine r_iald f19_64 (kdH1 (h := h) (by omega) (by omega)) (by omega) (by omega) ?_
      refine r_top (e := m (4 + 4 * h) (3 * t + 1)) (by rw [zu_if, if_neg (by omega), zu_if, if_neg (by omega)]) ?_
      refine r_iload f19_65 rfl ?_
      refine r_isub f19_67 (e := m (4 + 4 * h) (3 * t + 1) - n) (by omega) (by omega) (by omega) ?_
      refine r_iast f19_68 (kdH1 (h := h) (by omega) (by omega)) (by omega) (by omega) (by omega) ?_
      refine r_aload_n f19_69 rfl ?_
      refine r_iload f19_70 rfl ?_
      refine r_iload f19_72 rfl ?_
      refine r_iadd f19_74 (e := 3 * i + 1) (by omega) (by omega) (by omega) ?_
      refine r_iload f19_75 rfl ?_
      refine r_iast f19_77 (kdC2 (c := c) (by omega) (by omega)) (by omega) (by omega) (by omega) ?_
      refine r_iload f19_78 rfl ?_
      refine r_iload f19_80 rfl ?_
      refine r_isub f19_82 (e := 0) (by omega) (by omega) (by omega) ?_
      refine r_istore f19_83 rfl (ls' := [some (.inr (.inl (some (3 + 4 * h)))), some (.inl t), some (.inl n), some (.inr (.inl (some (66 + 5 * c)))), some (.inl (3 * i)), some (.inl 2), some (.inl 0), some (.inl 1), some (.inl n)]) rfl ?_
      refine r_iinc f19_85 rfl rfl rfl (e := 2) (by omega) (by omega) (by omega) (ls' := [some (.inr (.inl (some (3 + 4 * h)))), some (.inl t), some (.inl n), some (.inr (.inl (some (66 + 5 * c)))), some (.inl (3 * i)), some (.inl 2), some (.inl 0), some (.inl 2), some (.inl n)]) rfl ?_
      refine r_goto f19_88 (t := 14) (by decide) ?_
      refine r_iload f19_14 rfl ?_
      refine r_iconst f19_16 rfl ?_
      refine r_cge f19_17 (t := 91) (by decide) (fun h => absurd h (by omega)) (fun _ => ?_)
      refine r_iload f19_20 rfl ?_
      refine r_iload f19_22 rfl ?_
      refine r_ishr f19_24 (e := 0) (by decide) ?_
      refine r_iconst f19_25 rfl ?_
      refine r_iand f19_26 (e := 0) (by decide) ?_
      refine r_iconst f19_27 rfl ?_
      refine r_cne f19_28 (t := 50) (by decide) (fun _ => ?_) (fun h => absurd (by omega) h)
      refine r_iconst f19_50 rfl ?_
      refine r_istore f19_51 rfl (ls' := [some (.inr (.inl (some (3 + 4 * h)))), some (.inl t), some (.inl n), some (.inr (.inl (some (66 + 5 * c)))), some (.inl (3 * i)), some (.inl 2), some (.inl 0), some (.inl 2), some (.inl 0)]) rfl ?_
      refine r_aload_n f19_53 rfl ?_
      refine r_getR f19_54 o19 F1_9 (gH_0 (h := h) (by omega) (by omega)) rfl ?_
      refine r_iload_n f19_57 rfl ?_
      refine r_iconst f19_58 rfl ?_
      refine r_imul f19_59 (e := 3 * t) (by omega) (by omega) (by omega) ?_
      refine r_iload f19_60 rfl ?_
      refine r_iadd f19_62 (e := 3 * t + 2) (by omega) (by omega) (by omega) ?_
      refine r_dup2 f19_63 ?_
      refine r_iald f19_64 (kdH1 (h := h) (by omega) (by omega)) (by omega) (by omega) ?_
      refine r_top (e := m (4 + 4 * h) (3 * t + 2)) (by rw [zu_if, if_neg (by omega), zu_if, if_neg (by omega), zu_if, if_neg (by omega), zu_if, if_neg (by omega)]) ?_
      refine r_iload f19_65 rfl ?_
      refine r_isub f19_67 (e := m (4 + 4 * h) (3 * t + 2)) (by omega) (by omega) (by omega) ?_
      refine r_iast f19_68 (kdH1 (h := h) (by omega) (by omega)) (by omega) (by omega) (by omega) ?_
      refine r_aload_n f19_69 rfl ?_
      refine r_iload f19_70 rfl ?_
      refine r_iload f19_72 rfl ?_
      refine r_iadd f19_74 (e := 3 * i + 2) (by omega) (by omega) (by omega) ?_
      refine r_iload f19_75 rfl ?_
      refine r_iast f19_77 (kdC2 (c := c) (by omega) (by omega)) (by omega) (by omega) (by omega) ?_
      refine r_iload f19_78 rfl ?_
      refine r_iload f19_80 rfl ?_
      refine r_isub f19_82 (e := 0) (by omega) (by omega) (by omega) ?_
      refine r_istore f19_83 rfl (ls' := [some (.inr (.inl (some (3 + 4 * h)))), some (.inl t), some (.inl n), some (.inr (.inl (some (66 + 5 * c)))), some (.inl (3 * i)), some (.inl 2), some (.inl 0), some (.inl 2), some (.inl 0)]) rfl ?_
      refine r_iinc f19_85 rfl rfl rfl (e := 3) (by omega) (by omega) (by omega) (ls' := [some (.inr (.inl (some (3 + 4 * h)))), some (.inl t), some (.inl n), some (.inr (.inl (some (66 + 5 * c)))), some (.inl (3 * i)), some (.inl 2), some (.inl 0), some (.inl 3), some (.inl 0)]) rfl ?_
      refine r_goto f19_88 (t := 14) (by decide) ?_
      refine r_iload f19_14 rfl ?_
      refine r_iconst f19_16 rfl ?_
      refine r_cge f19_17 (t := 91) (by decide) (fun _ => ?_) (fun h => absurd (by omega) h)
      exact r_vret f19_91 v19 ⟨rfl, by unfold XWC; rw [show m (4 + 4 * h) (3 * t) - zsh0 (m (4 + 4 * h) (3 * t)) (m (4 + 4 * h) (3 * t + 1)) (m (4 + 4 * h) (3 * t + 2)) n = m (4 + 4 * h) (3 * t) from by unfold zsh0; (repeat (first | rw [if_pos (by omega)] | rw [if_neg (by omega)])); try omega, show zsh0 (m (4 + 4 * h) (3 * t)) (m (4 + 4 * h) (3 * t + 1)) (m (4 + 4 * h) (3 * t + 2)) n = 0 from by unfold zsh0; (repeat (first | rw [if_pos (by omega)] | rw [if_neg (by omega)])); try omega, show m (4 + 4 * h) (3 * t + 1) - zsh1 (m (4 + 4 * h) (3 * t)) (m (4 + 4 * h) (3 * t + 1)) (m (4 + 4 * h) (3 * t + 2)) n = m (4 + 4 * h) (3 * t + 1) - n from by unfold zsh1; (repeat (first | rw [if_pos (by omega)] | rw [if_neg (by omega)])); try omega, show zsh1 (m (4 + 4 * h) (3 * t)) (m (4 + 4 * h) (3 * t + 1)) (m (4 + 4 * h) (3 * t + 2)) n = n from by unfold zsh1; (repeat (first | rw [if_pos (by omega)] | rw [if_neg (by omega)])); try omega, show m (4 + 4 * h) (3 * t + 2) - zsh2 (m (4 + 4 * h) (3 * t)) (m (4 + 4 * h) (3 * t + 1)) (m (4 + 4 * h) (3 * t + 2)) n = m (4 + 4 * h) (3 * t + 2) from by unfold zsh2; (repeat (first | rw [if_pos (by omega)] | rw [if_neg (by omega)])); try omega, show zsh2 (m (4 + 4 * h) (3 * t)) (m (4 + 4 * h) (3 * t + 1)) (m (4 + 4 * h) (3 * t + 2)) n = 0 from by unfold zsh2; (repeat (first | rw [if_pos (by omega)] | rw [if_neg (by omega)])); try omega]⟩
    · refine r_ite (fun q3 => ?_) (fun q3 => ?_)
      · refine r_istore f19_6 rfl (ls' := [some (.inr (.inl (some (3 + 4 * h)))), some (.inl t), some (.inl n), some (.inr (.inl (some (66 + 5 * c)))), some (.inl (3 * i)), some (.inl 4), none, none, none]) rfl ?_
        refine r_iload_n f19_8 rfl ?_
        refine r_istore f19_9 rfl (ls' := [some (.inr (.inl (some (3 + 4 * h)))), some (.inl t), some (.inl n), some (.inr (.inl (some (66 + 5 * c)))), some (.inl (3 * i)), some (.inl 4), some (.inl n), none, none]) rfl ?_
        refine r_iconst f19_11 rfl ?_
        refine r_istore f19_12 rfl (ls' := [some (.inr (.inl (some (3 + 4 * h)))), some (.inl t), some (.inl n), some (.inr (.inl (some (66 + 5 * c)))), some (.inl (3 * i)), some (.inl 4), some (.inl n), some (.inl 0), none]) rfl ?_
        refine r_iload f19_14 rfl ?_
        refine r_iconst f19_16 rfl ?_
        refine r_cge f19_17 (t := 91) (by decide) (fun h => absurd h (by omega)) (fun _ => ?_)
        refine r_iload f19_20 rfl ?_
        refine r_iload f19_22 rfl ?_
        refine r_ishr f19_24 (e := 4) (by decide) ?_
        refine r_iconst f19_25 rfl ?_
        refine r_iand f19_26 (e := 0) (by decide) ?_
        refine r_iconst f19_27 rfl ?_
        refine r_cne f19_28 (t := 50) (by decide) (fun _ => ?_) (fun h => absurd (by omega) h)
        refine r_iconst f19_50 rfl ?_
        refine r_istore f19_51 rfl (ls' := [some (.inr (.inl (some (3 + 4 * h)))), some (.inl t), some (.inl n), some (.inr (.inl (some (66 + 5 * c)))), some (.inl (3 * i)), some (.inl 4), some (.inl n), some (.inl 0), some (.inl 0)]) rfl ?_
        refine r_aload_n f19_53 rfl ?_
        refine r_getR f19_54 o19 F1_9 (gH_0 (h := h) (by omega) (by omega)) rfl ?_
        refine r_iload_n f19_57 rfl ?_
        refine r_iconst f19_58 rfl ?_
        refine r_imul f19_59 (e := 3 * t) (by omega) (by omega) (by omega) ?_
        refine r_iload f19_60 rfl ?_
        refine r_iadd f19_62 (e := 3 * t) (by omega) (by omega) (by omega) ?_
        refine r_dup2 f19_63 ?_
        refine r_iald f19_64 (kdH1 (h := h) (by omega) (by omega)) (by omega) (by omega) ?_
        refine r_iload f19_65 rfl ?_
        refine r_isub f19_67 (e := m (4 + 4 * h) (3 * t)) (by omega) (by omega) (by omega) ?_
        refine r_iast f19_68 (kdH1 (h := h) (by omega) (by omega)) (by omega) (by omega) (by omega) ?_
        refine r_aload_n f19_69 rfl ?_
        refine r_iload f19_70 rfl ?_
        refine r_iload f19_72 rfl ?_
        refine r_iadd f19_74 (e := 3 * i) (by omega) (by omega) (by omega) ?_
        refine r_iload f19_75 rfl ?_
        refine r_iast f19_77 (kdC2 (c := c) (by omega) (by omega)) (by omega) (by omega) (by omega) ?_
        refine r_iload f19_78 rfl ?_
        refine r_iload f19_80 rfl ?_
        refine r_isub f19_82 (e := n) (by omega) (by omega) (by omega) ?_
        refine r_istore f19_83 rfl (ls' := [some (.inr (.inl (some (3 + 4 * h)))), some (.inl t), some (.inl n), some (.inr (.inl (some (66 + 5 * c)))), some (.inl (3 * i)), some (.inl 4), some (.inl n), some (.inl 0), some (.inl 0)]) rfl ?_
        refine r_iinc f19_85 rfl rfl rfl (e := 1) (by omega) (by omega) (by omega) (ls' := [some (.inr (.inl (some (3 + 4 * h)))), some (.inl t), some (.inl n), some (.inr (.inl (some (66 + 5 * c)))), some (.inl (3 * i)), some (.inl 4), some (.inl n), some (.inl 1), some (.inl 0)]) rfl ?_
        refine r_goto f19_88 (t := 14) (by decide) ?_
        refine r_iload f19_14 rfl ?_
        refine r_iconst f19_16 rfl ?_
        refine r_cge f19_17 (t := 91) (by decide) (fun h => absurd h (by omega)) (fun _ => ?_)
        refine r_iload f19_20 rfl ?_
        refine r_iload f19_22 rfl ?_
        refine r_ishr f19_24 (e := 2) (by decide) ?_
        refine r_iconst f19_25 rfl ?_
        refine r_iand f19_26 (e := 0) (by decide) ?_
        refine r_iconst f19_27 rfl ?_
        refine r_cne f19_28 (t := 50) (by decide) (fun _ => ?_) (fun h => absurd (by omega) h)
        refine r_iconst f19_50 rfl ?_
        refine r_istore f19_51 rfl (ls' := [some (.inr (.inl (some (3 + 4 * h)))), some (.inl t), some (.inl n), some (.inr (.inl (some (66 + 5 * c)))), some (.inl (3 * i)), some (.inl 4), some (.inl n), some (.inl 1), some (.inl 0)]) rfl ?_
        refine r_aload_n f19_53 rfl ?_
        refine r_getR f19_54 o19 F1_9 (gH_0 (h := h) (by omega) (by omega)) rfl ?_
        refine r_iload_n f19_57 rfl ?_
        refine r_iconst f19_58 rfl ?_
        refine r_imul f19_59 (e := 3 * t) (by omega) (by omega) (by omega) ?_
        refine r_iload f19_60 rfl ?_
        refine r_iadd f19_62 (e := 3 * t + 1) (by omega) (by omega) (by omega) ?_
        refine r_dup2 f19_63 ?_
        refine r_iald f19_64 (kdH1 (h := h) (by omega) (by omega)) (by omega) (by omega) ?_
        refine r_top (e := m (4 + 4 * h) (3 * t + 1)) (by rw [zu_if, if_neg (by omega), zu_if, if_neg (by omega)]) ?_
        refine r_iload f19_65 rfl ?_
        refine r_isub f19_67 (e := m (4 + 4 * h) (3 * t + 1)) (by omega) (by omega) (by omega) ?_
        refine r_iast f19_68 (kdH1 (h := h) (by omega) (by omega)) (by omega) (by omega) (by omega) ?_
        refine r_aload_n f19_69 rfl ?_
        refine r_iload f19_70 rfl ?_
        refine r_iload f19_72 rfl ?_
        refine r_iadd f19_74 (e := 3 * i + 1) (by omega) (by omega) (by omega) ?_
        refine r_iload f19_75 rfl ?_
        refine r_iast f19_77 (kdC2 (c := c) (by omega) (by omega)) (by omega) (by omega) (by omega) ?_
        refine r_iload f19_78 rfl ?_
        refine r_iload f19_80 rfl ?_
        refine r_isub f19_82 (e := n) (by omega) (by omega) (by omega) ?_
        refine r_istore f19_83 rfl (ls' := [some (.inr (.inl (some (3 + 4 * h)))), some (.inl t), some (.inl n), some (.inr (.inl (some (66 + 5 * c)))), some (.inl (3 * i)), some (.inl 4), some (.inl n), some (.inl 1), some (.inl 0)]) rfl ?_
        refine r_iinc f19_85 rfl rfl rfl (e := 2) (by omega) (by omega) (by omega) (ls' := [some (.inr (.inl (some (3 + 4 * h)))), some (.inl t), some (.inl n), some (.inr (.inl (some (66 + 5 * c)))), some (.inl (3 * i)), some (.inl 4), some (.inl n), some (.inl 2), some (.inl 0)]) rfl ?_
        refine r_goto f19_88 (t := 14) (by decide) ?_
        refine r_iload f19_14 rfl ?_
        refine r_iconst f19_16 rfl ?_
        refine r_cge f19_17 (t := 91) (by decide) (fun h => absurd h (by omega)) (fun _ => ?_)
        refine r_iload f19_20 rfl ?_
        refine r_iload f19_22 rfl ?_
        refine r_ishr f19_24 (e := 1) (by decide) ?_
        refine r_iconst f19_25 rfl ?_
        refine r_iand f19_26 (e := 1) (by decide) ?_
        refine r_iconst f19_27 rfl ?_
        refine r_cne f19_28 (t := 50) (by decide) (fun h => absurd h (by omega)) (fun _ => ?_)
        refine r_iload f19_31 rfl ?_
        refine r_aload_n f19_33 rfl ?_
        refine r_getR f19_34 o19 F1_9 (gH_0 (h := h) (by omega) (by omega)) rfl ?_
        refine r_iload_n f19_37 rfl ?_
        refine r_iconst f19_38 rfl ?_
        refine r_imul f19_39 (e := 3 * t) (by omega) (by omega) (by omega) ?_
        refine r_iload f19_40 rfl ?_
        refine r_iadd f19_42 (e := 3 * t + 2) (by omega) (by omega) (by omega) ?_
        refine r_iald f19_43 (kdH1 (h := h) (by omega) (by omega)) (by omega) (by omega) ?_
        refine r_top (e := m (4 + 4 * h) (3 * t + 2)) (by rw [zu_if, if_neg (by omega), zu_if, if_neg (by omega), zu_if, if_neg (by omega), zu_if, if_neg (by omega)]) ?_
        refine r_min f19_44 o19 M1_36 (by simp) ?_
        refine r_top (e := n) (by rw [if_neg (by omega)]) ?_
        refine r_goto f19_47 (t := 51) (by decide) ?_
        refine r_istore f19_51 rfl (ls' := [some (.inr (.inl (some (3 + 4 * h)))), some (.inl t), some (.inl n), some (.inr (.inl (some (66 + 5 * c)))), some (.inl (3 * i)), some (.inl 4), some (.inl n), some (.inl 2), some (.inl n)]) rfl ?_
        refine r_aload_n f19_53 rfl ?_
        refine r_getR f19_54 o19 F1_9 (gH_0 (h := h) (by omega) (by omega)) rfl ?_
        refine r_iload_n f19_57 rfl ?_
        refine r_iconst f19_58 rfl ?_
        refine r_imul f19_59 (e := 3 * t) (by omega) (by omega) (by omega) ?_
        refine r_iload f19_60 rfl ?_
        refine r_iadd f19_62 (e := 3 * t + 2) (by omega) (by omega) (by omega) ?_
        refine r_dup2 f19_63 ?_
        refine r_iald f19_64 (kdH1 (h := h) (by omega) (by omega)) (by omega) (by omega) ?_
        refine r_top (e := m (4 + 4 * h) (3 * t + 2)) (by rw [zu_if, if_neg (by omega), zu_if, if_neg (by omega), zu_if, if_neg (by omega), zu_if, if_neg (by omega)]) ?_
        refine r_iload f19_65 rfl ?_
        refine r_isub f19_67 (e := m (4 + 4 * h) (3 * t + 2) - n) (by omega) (by omega) (by omega) ?_
        refine r_iast f19_68 (kdH1 (h := h) (by omega) (by omega)) (by omega) (by omega) (by omega) ?_
        refine r_aload_n f19_69 rfl ?_
        refine r_iload f19_70 rfl ?_
        refine r_iload f19_72 rfl ?_
        refine r_iadd f19_74 (e := 3 * i + 2) (by omega) (by omega) (by omega) ?_
        refine r_iload f19_75 rfl ?_
        refine r_iast f19_77 (kdC2 (c := c) (by omega) (by omega)) (by omega) (by omega) (by omega) ?_
        refine r_iload f19_78 rfl ?_
        refine r_iload f19_80 rfl ?_
        refine r_isub f19_82 (e := 0) (by omega) (by omega) (by omega) ?_
        refine r_istore f19_83 rfl (ls' := [some (.inr (.inl (some (3 + 4 * h)))), some (.inl t), some (.inl n), some (.inr (.inl (some (66 + 5 * c)))), some (.inl (3 * i)), some (.inl 4), some (.inl 0), some (.inl 2), some (.inl n)]) rfl ?_
        refine r_iinc f19_85 rfl rfl rfl (e := 3) (by omega) (by omega) (by omega) (ls' := [some (.inr (.inl (some (3 + 4 * h)))), some (.inl t), some (.inl n), some (.inr (.inl (some (66 + 5 * c)))), some (.inl (3 * i)), some (.inl 4), some (.inl 0), some (.inl 3), some (.inl n)]) rfl ?_
        refine r_goto f19_88 (t := 14) (by decide) ?_
        refine r_iload f19_14 rfl ?_
        refine r_iconst f19_16 rfl ?_
        refine r_cge f19_17 (t := 91) (by decide) (fun _ => ?_) (fun h => absurd (by omega) h)
        exact r_vret f19_91 v19 ⟨rfl, by unfold XWC; rw [show m (4 + 4 * h) (3 * t) - zsh0 (m (4 + 4 * h) (3 * t)) (m (4 + 4 * h) (3 * t + 1)) (m (4 + 4 * h) (3 * t + 2)) n = m (4 + 4 * h) (3 * t) from by unfold zsh0; (repeat (first | rw [if_pos (by omega)] | rw [if_neg (by omega)])); try omega, show zsh0 (m (4 + 4 * h) (3 * t)) (m (4 + 4 * h) (3 * t + 1)) (m (4 + 4 * h) (3 * t + 2)) n = 0 from by unfold zsh0; (repeat (first | rw [if_pos (by omega)] | rw [if_neg (by omega)])); try omega, show m (4 + 4 * h) (3 * t + 1) - zsh1 (m (4 + 4 * h) (3 * t)) (m (4 + 4 * h) (3 * t + 1)) (m (4 + 4 * h) (3 * t + 2)) n = m (4 + 4 * h) (3 * t + 1) from by unfold zsh1; (repeat (first | rw [if_pos (by omega)] | rw [if_neg (by omega)])); try omega, show zsh1 (m (4 + 4 * h) (3 * t)) (m (4 + 4 * h) (3 * t + 1)) (m (4 + 4 * h) (3 * t + 2)) n = 0 from by unfold zsh1; (repeat (first | rw [if_pos (by omega)] | rw [if_neg (by omega)])); try omega, show m (4 + 4 * h) (3 * t + 2) - zsh2 (m (4 + 4 * h) (3 * t)) (m (4 + 4 * h) (3 * t + 1)) (m (4 + 4 * h) (3 * t + 2)) n = m (4 + 4 * h) (3 * t + 2) - n from by unfold zsh2; (repeat (first | rw [if_pos (by omega)] | rw [if_neg (by omega)])); try omega, show zsh2 (m (4 + 4 * h) (3 * t)) (m (4 + 4 * h) (3 * t + 1)) (m (4 + 4 * h) (3 * t + 2)) n = n from by unfold zsh2; (repeat (first | rw [if_pos (by omega)] | rw [if_neg (by omega)])); try omega]⟩
      · refine r_ite (fun q4 => ?_) (fun q4 => ?_)
        · refine r_istore f19_6 rfl (ls' := [some (.inr (.inl (some (3 + 4 * h)))), some (.inl t), some (.inl n), some (.inr (.inl (some (66 + 5 * c)))), some (.inl (3 * i)), some (.inl 3), none, none, none]) rfl ?_
          refine r_iload_n f19_8 rfl ?_
          refine r_istore f19_9 rfl (ls' := [some (.inr (.inl (some (3 + 4 * h)))), some (.inl t), some (.inl n), some (.inr (.inl (some (66 + 5 * c)))), some (.inl (3 * i)), some (.inl 3), some (.inl n), none, none]) rfl ?_
          refine r_iconst f19_11 rfl ?_
          refine r_istore f19_12 rfl (ls' := [some (.inr (.inl (some (3 + 4 * h)))), some (.inl t), some (.inl n), some (.inr (.inl (some (66 + 5 * c)))), some (.inl (3 * i)), some (.inl 3), some (.inl n), some (.inl 0), none]) rfl ?_
          refine r_iload f19_14 rfl ?_
          refine r_iconst f19_16 rfl ?_
          refine r_cge f19_17 (t := 91) (by decide) (fun h => absurd h (by omega)) (fun _ => ?_)
          refine r_iload f19_20 rfl ?_
          refine r_iload f19_22 rfl ?_
          refine r_ishr f19_24 (e := 3) (by decide) ?_
          refine r_iconst f19_25 rfl ?_
          refine r_iand f19_26 (e := 1) (by decide) ?_
          refine r_iconst f19_27 rfl ?_
          refine r_cne f19_28 (t := 50) (by decide) (fun h => absurd h (by omega)) (fun _ => ?_)
          refine r_iload f19_31 rfl ?_
          refine r_aload_n f19_33 rfl ?_
          refine r_getR f19_34 o19 F1_9 (gH_0 (h := h) (by omega) (by omega)) rfl ?_
          refine r_iload_n f19_37 rfl ?_
          refine r_iconst f19_38 rfl ?_
          refine r_imul f19_39 (e := 3 * t) (by omega) (by omega) (by omega) ?_
          refine r_iload f19_40 rfl ?_
          refine r_iadd f19_42 (e := 3 * t) (by omega) (by omega) (by omega) ?_
          refine r_iald f19_43 (kdH1 (h := h) (by omega) (by omega)) (by omega) (by omega) ?_
          refine r_min f19_44 o19 M1_36 (by simp) ?_
          refine r_top (e := m (4 + 4 * h) (3 * t)) (by rw [if_pos (by omega)]) ?_
          refine r_goto f19_47 (t := 51) (by decide) ?_
          refine r_istore f19_51 rfl (ls' := [some (.inr (.inl (some (3 + 4 * h)))), some (.inl t), some (.inl n), some (.inr (.inl (some (66 + 5 * c)))), some (.inl (3 * i)), some (.inl 3), some (.inl n), some (.inl 0), some (.inl (m (4 + 4 * h) (3 * t)))]) rfl ?_
          refine r_aload_n f19_53 rfl ?_
          refine r_getR f19_54 o19 F1_9 (gH_0 (h := h) (by omega) (by omega)) rfl ?_
          refine r_iload_n f19_57 rfl ?_
          refine r_iconst f19_58 rfl ?_
          refine r_imul f19_59 (e := 3 * t) (by omega) (by omega) (by omega) ?_
          refine r_iload f19_60 rfl ?_
          refine r_iadd f19_62 (e := 3 * t) (by omega) (by omega) (by omega) ?_
          refine r_dup2 f19_63 ?_
          refine r_iald f19_64 (kdH1 (h := h) (by omega) (by omega)) (by omega) (by omega) ?_
          refine r_iload f19_65 rfl ?_
          refine r_isub f19_67 (e := 0) (by omega) (by omega) (by omega) ?_
          refine r_iast f19_68 (kdH1 (h := h) (by omega) (by omega)) (by omega) (by omega) (by omega) ?_
          refine r_aload_n f19_69 rfl ?_
          refine r_iload f19_70 rfl ?_
          refine r_iload f19_72 rfl ?_
          refine r_iadd f19_74 (e := 3 * i) (by omega) (by omega) (by omega) ?_
          refine r_iload f19_75 rfl ?_
          refine r_iast f19_77 (kdC2 (c := c) (by omega) (by omega)) (by omega) (by omega) (by omega) ?_
          refine r_iload f19_78 rfl ?_
          refine r_iload f19_80 rfl ?_
          refine r_isub f19_82 (e := n - m (4 + 4 * h) (3 * t)) (by omega) (by omega) (by omega) ?_
          refine r_istore f19_83 rfl (ls' := [some (.inr (.inl (some (3 + 4 * h)))), some (.inl t), some (.inl n), some (.inr (.inl (some (66 + 5 * c)))), some (.inl (3 * i)), some (.inl 3), some (.inl (n - m (4 + 4 * h) (3 * t))), some (.inl 0), some (.inl (m (4 + 4 * h) (3 * t)))]) rfl ?_
          refine r_iinc f19_85 rfl rfl rfl (e := 1) (by omega) (by omega) (by omega) (ls' := [some (.inr (.inl (some (3 + 4 * h)))), some (.inl t), some (.inl n), some (.inr (.inl (some (66 + 5 * c)))), some (.inl (3 * i)), some (.inl 3), some (.inl (n - m (4 + 4 * h) (3 * t))), some (.inl 1), some (.inl (m (4 + 4 * h) (3 * t)))]) rfl ?_
          refine r_goto f19_88 (t := 14) (by decide) ?_
          refine r_iload f19_14 rfl ?_
          refine r_iconst f19_16 rfl ?_
          refine r_cge f19_17 (t := 91) (by decide) (fun h => absurd h (by omega)) (fun _ => ?_)
          refine r_iload f19_20 rfl ?_
          refine r_iload f19_22 rfl ?_
          refine r_ishr f19_24 (e := 1) (by decide) ?_
          refine r_iconst f19_25 rfl ?_
          refine r_iand f19_26 (e := 1) (by decide) ?_
          refine r_iconst f19_27 rfl ?_
          refine r_cne f19_28 (t := 50) (by decide) (fun h => absurd h (by omega)) (fun _ => ?_)
          refine r_iload f19_31 rfl ?_
          refine r_aload_n f19_33 rfl ?_
          refine r_getR f19_34 o19 F1_9 (gH_0 (h := h) (by omega) (by omega)) rfl ?_
          refine r_iload_n f19_37 rfl ?_
          refine r_iconst f19_38 rfl ?_
          refine r_imul f19_39 (e := 3 * t) (by omega) (by omega) (by omega) ?_
          refine r_iload f19_40 rfl ?_
          refine r_iadd f19_42 (e := 3 * t + 1) (by omega) (by omega) (by omega) ?_
          refine r_iald f19_43 (kdH1 (h := h) (by omega) (by omega)) (by omega) (by omega) ?_
          refine r_top (e := m (4 + 4 * h) (3 * t + 1)) (by rw [zu_if, if_neg (by omega), zu_if, if_neg (by omega)]) ?_
          refine r_min f19_44 o19 M1_36 (by simp) ?_
          refine r_top (e := n - m (4 + 4 * h) (3 * t)) (by rw [if_neg (by omega)]) ?_
          refine r_goto f19_47 (t := 51) (by decide) ?_
          refine r_istore f19_51 rfl (ls' := [some (.inr (.inl (some (3 + 4 * h)))), some (.inl t), some (.inl n), some (.inr (.inl (some (66 + 5 * c)))), some (.inl (3 * i)), some (.inl 3), some (.inl (n - m (4 + 4 * h) (3 * t))), some (.inl 1), some (.inl (n - m (4 + 4 * h) (3 * t)))]) rfl ?_
          refine r_aload_n f19_53 rfl ?_
          refine r_getR f19_54 o19 F1_9 (gH_0 (h := h) (by omega) (by omega)) rfl ?_
          refine r_iload_n f19_57 rfl ?_
          refine r_iconst f19_58 rfl ?_
          refine r_imul f19_59 (e := 3 * t) (by omega) (by omega) (by omega) ?_
          refine r_iload f19_60 rfl ?_
          refine r_iadd f19_62 (e := 3 * t + 1) (by omega) (by omega) (by omega) ?_
          refine r_dup2 f19_63 ?_
          refine r_iald f19_64 (kdH1 (h := h) (by omega) (by omega)) (by omega) (by omega) ?_
          refine r_top (e := m (4 + 4 * h) (3 * t + 1)) (by rw [zu_if, if_neg (by omega), zu_if, if_neg (by omega)]) ?_
          refine r_iload f19_65 rfl ?_
          refine r_isub f19_67 (e := m (4 + 4 * h) (3 * t + 1) + m (4 + 4 * h) (3 * t) - n) (by omega) (by omega) (by omega) ?_
          refine r_iast f19_68 (kdH1 (h := h) (by omega) (by omega)) (by omega) (by omega) (by omega) ?_
          refine r_aload_n f19_69 rfl ?_
          refine r_iload f19_70 rfl ?_
          refine r_iload f19_72 rfl ?_
          refine r_iadd f19_74 (e := 3 * i + 1) (by omega) (by omega) (by omega) ?_
          refine r_iload f19_75 rfl ?_
          refine r_iast f19_77 (kdC2 (c := c) (by omega) (by omega)) (by omega) (by omega) (by omega) ?_
          refine r_iload f19_78 rfl ?_
          refine r_iload f19_80 rfl ?_
          refine r_isub f19_82 (e := 0) (by omega) (by omega) (by omega) ?_
          refine r_istore f19_83 rfl (ls' := [some (.inr (.inl (some (3 + 4 * h)))), some (.inl t), some (.inl n), some (.inr (.inl (some (66 + 5 * c)))), some (.inl (3 * i)), some (.inl 3), some (.inl 0), some (.inl 1), some (.inl (n - m (4 + 4 * h) (3 * t)))]) rfl ?_
          refine r_iinc f19_85 rfl rfl rfl (e := 2) (by omega) (by omega) (by omega) (ls' := [some (.inr (.inl (some (3 + 4 * h)))), some (.inl t), some (.inl n), some (.inr (.inl (some (66 + 5 * c)))), some (.inl (3 * i)), some (.inl 3), some (.inl 0), some (.inl 2), some (.inl (n - m (4 + 4 * h) (3 * t)))]) rfl ?_
          refine r_goto f19_88 (t := 14) (by decide) ?_
          refine r_iload f19_14 rfl ?_
          refine r_iconst f19_16 rfl ?_
          refine r_cge f19_17 (t := 91) (by decide) (fun h => absurd h (by omega)) (fun _ => ?_)
          refine r_iload f19_20 rfl ?_
          refine r_iload f19_22 rfl ?_
          refine r_ishr f19_24 (e := 0) (by decide) ?_
          refine r_iconst f19_25 rfl ?_
          refine r_iand f19_26 (e := 0) (by decide) ?_
          refine r_iconst f19_27 rfl ?_
          refine r_cne f19_28 (t := 50) (by decide) (fun _ => ?_) (fun h => absurd (by omega) h)
          refine r_iconst f19_50 rfl ?_
          refine r_istore f19_51 rfl (ls' := [some (.inr (.inl (some (3 + 4 * h)))), some (.inl t), some (.inl n), some (.inr (.inl (some (66 + 5 * c)))), some (.inl (3 * i)), some (.inl 3), some (.inl 0), some (.inl 2), some (.inl 0)]) rfl ?_
          refine r_aload_n f19_53 rfl ?_
          refine r_getR f19_54 o19 F1_9 (gH_0 (h := h) (by omega) (by omega)) rfl ?_
          refine r_iload_n f19_57 rfl ?_
          refine r_iconst f19_58 rfl ?_
          refine r_imul f19_59 (e := 3 * t) (by omega) (by omega) (by omega) ?_
          refine r_iload f19_60 rfl ?_
          refine r_iadd f19_62 (e := 3 * t + 2) (by omega) (by omega) (by omega) ?_
          refine r_dup2 f19_63 ?_
          refine r_iald f19_64 (kdH1 (h := h) (by omega) (by omega)) (by omega) (by omega) ?_
          refine r_top (e := m (4 + 4 * h) (3 * t + 2)) (by rw [zu_if, if_neg (by omega), zu_if, if_neg (by omega), zu_if, if_neg (by omega), zu_if, if_neg (by omega)]) ?_
          refine r_iload f19_65 rfl ?_
          refine r_isub f19_67 (e := m (4 + 4 * h) (3 * t + 2)) (by omega) (by omega) (by omega) ?_
          refine r_iast f19_68 (kdH1 (h := h) (by omega) (by omega)) (by omega) (by omega) (by omega) ?_
          refine r_aload_n f19_69 rfl ?_
          refine r_iload f19_70 rfl ?_
          refine r_iload f19_72 rfl ?_
          refine r_iadd f19_74 (e := 3 * i + 2) (by omega) (by omega) (by omega) ?_
          refine r_iload f19_75 rfl ?_
          refine r_iast f19_77 (kdC2 (c := c) (by omega) (by omega)) (by omega) (by omega) (by omega) ?_
          refine r_iload f19_78 rfl ?_
          refine r_iload f19_80 rfl ?_
          refine r_isub f19_82 (e := 0) (by omega) (by omega) (by omega) ?_
          refine r_istore f19_83 rfl (ls' := [some (.inr (.inl (some (3 + 4 * h)))), some (.inl t), some (.inl n), some (.inr (.inl (some (66 + 5 * c)))), some (.inl (3 * i)), some (.inl 3), some (.inl 0), some (.inl 2), some (.inl 0)]) rfl ?_
          refine r_iinc f19_85 rfl rfl rfl (e := 3) (by omega) (by omega) (by omega) (ls' := [some (.inr (.inl (some (3 + 4 * h)))), some (.inl t), some (.inl n), some (.inr (.inl (some (66 + 5 * c)))), some (.inl (3 * i)), some (.inl 3), some (.inl 0), some (.inl 3), some (.inl 0)]) rfl ?_
          refine r_goto f19_88 (t := 14) (by decide) ?_
          refine r_iload f19_14 rfl ?_
          refine r_iconst f19_16 rfl ?_
          refine r_cge f19_17 (t := 91) (by decide) (fun _ => ?_) (fun h => absurd (by omega) h)
          exact r_vret f19_91 v19 ⟨rfl, by unfold XWC; rw [show m (4 + 4 * h) (3 * t) - zsh0 (m (4 + 4 * h) (3 * t)) (m (4 + 4 * h) (3 * t + 1)) (m (4 + 4 * h) (3 * t + 2)) n = 0 from by unfold zsh0; (repeat (first | rw [if_pos (by omega)] | rw [if_neg (by omega)])); try omega, show zsh0 (m (4 + 4 * h) (3 * t)) (m (4 + 4 * h) (3 * t + 1)) (m (4 + 4 * h) (3 * t + 2)) n = m (4 + 4 * h) (3 * t) from by unfold zsh0; (repeat (first | rw [if_pos (by omega)] | rw [if_neg (by omega)])); try omega, show m (4 + 4 * h) (3 * t + 1) - zsh1 (m (4 + 4 * h) (3 * t)) (m (4 + 4 * h) (3 * t + 1)) (m (4 + 4 * h) (3 * t + 2)) n = m (4 + 4 * h) (3 * t + 1) + m (4 + 4 * h) (3 * t) - n from by unfold zsh1; (repeat (first | rw [if_pos (by omega)] | rw [if_neg (by omega)])); try omega, show zsh1 (m (4 + 4 * h) (3 * t)) (m (4 + 4 * h) (3 * t + 1)) (m (4 + 4 * h) (3 * t + 2)) n = n - m (4 + 4 * h) (3 * t) from by unfold zsh1; (repeat (first | rw [if_pos (by omega)] | rw [if_neg (by omega)])); try omega, show m (4 + 4 * h) (3 * t + 2) - zsh2 (m (4 + 4 * h) (3 * t)) (m (4 + 4 * h) (3 * t + 1)) (m (4 + 4 * h) (3 * t + 2)) n = m (4 + 4 * h) (3 * t + 2) from by unfold zsh2; (repeat (first | rw [if_pos (by omega)] | rw [if_neg (by omega)])); try omega, show zsh2 (m (4 + 4 * h) (3 * t)) (m (4 + 4 * h) (3 * t + 1)) (m (4 + 4 * h) (3 * t + 2)) n = 0 from by unfold zsh2; (repeat (first | rw [if_pos (by omega)] | rw [if_neg (by omega)])); try omega]⟩
        · refine r_ite (fun q5 => ?_) (fun q5 => ?_)
          · refine r_istore f19_6 rfl (ls' := [some (.inr (.inl (some (3 + 4 * h)))), some (.inl t), some (.inl n), some (.inr (.inl (some (66 + 5 * c)))), some (.inl (3 * i)), some (.inl 5), none, none, none]) rfl ?_
            refine r_iload_n f19_8 rfl ?_
            refine r_istore f19_9 rfl (ls' := [some (.inr (.inl (some (3 + 4 * h)))), some (.inl t), some (.inl n), some (.inr (.inl (some (66 + 5 * c)))), some (.inl (3 * i)), some (.inl 5), some (.inl n), none, none]) rfl ?_
            refine r_iconst f19_11 rfl ?_
            refine r_istore f19_12 rfl (ls' := [some (.inr (.inl (some (3 + 4 * h)))), some (.inl t), some (.inl n), some (.inr (.inl (some (66 + 5 * c)))), some (.inl (3 * i)), some (.inl 5), some (.inl n), some (.inl 0), none]) rfl ?_
            refine r_iload f19_14 rfl ?_
            refine r_iconst f19_16 rfl ?_
            refine r_cge f19_17 (t := 91) (by decide) (fun h => absurd h (by omega)) (fun _ => ?_)
            refine r_iload f19_20 rfl ?_
            refine r_iload f19_22 rfl ?_
            refine r_ishr f19_24 (e := 5) (by decide) ?_
            refine r_iconst f19_25 rfl ?_
            refine r_iand f19_26 (e := 1) (by decide) ?_
            refine r_iconst f19_27 rfl ?_
            refine r_cne f19_28 (t := 50) (by decide) (fun h => absurd h (by omega)) (fun _ => ?_)
            refine r_iload f19_31 rfl ?_
            refine r_aload_n f19_33 rfl ?_
            refine r_getR f19_34 o19 F1_9 (gH_0 (h := h) (by omega) (by omega)) rfl ?_
            refine r_iload_n f19_37 rfl ?_
            refine r_iconst f19_38 rfl ?_
            refine r_imul f19_39 (e := 3 * t) (by omega) (by omega) (by omega) ?_
            refine r_iload f19_40 rfl ?_
            refine r_iadd f19_42 (e := 3 * t) (by omega) (by omega) (by omega) ?_
            refine r_iald f19_43 (kdH1 (h := h) (by omega) (by omega)) (by omega) (by omega) ?_
            refine r_min f19_44 o19 M1_36 (by simp) ?_
            refine r_top (e := m (4 + 4 * h) (3 * t)) (by rw [if_pos (by omega)]) ?_
            refine r_goto f19_47 (t := 51) (by decide) ?_
            refine r_istore f19_51 rfl (ls' := [some (.inr (.inl (some (3 + 4 * h)))), some (.inl t), some (.inl n), some (.inr (.inl (some (66 + 5 * c)))), some (.inl (3 * i)), some (.inl 5), some (.inl n), some (.inl 0), some (.inl (m (4 + 4 * h) (3 * t)))]) rfl ?_
            refine r_aload_n f19_53 rfl ?_
            refine r_getR f19_54 o19 F1_9 (gH_0 (h := h) (by omega) (by omega)) rfl ?_
            refine r_iload_n f19_57 rfl ?_
            refine r_iconst f19_58 rfl ?_
            refine r_imul f19_59 (e := 3 * t) (by omega) (by omega) (by omega) ?_
            refine r_iload f19_60 rfl ?_
            refine r_iadd f19_62 (e := 3 * t) (by omega) (by omega) (by omega) ?_
            refine r_dup2 f19_63 ?_
            refine r_iald f19_64 (kdH1 (h := h) (by omega) (by omega)) (by omega) (by omega) ?_
            refine r_iload f19_65 rfl ?_
            refine r_isub f19_67 (e := 0) (by omega) (by omega) (by omega) ?_
            refine r_iast f19_68 (kdH1 (h := h) (by omega) (by omega)) (by omega) (by omega) (by omega) ?_
            refine r_aload_n f19_69 rfl ?_
            refine r_iload f19_70 rfl ?_
            refine r_iload f19_72 rfl ?_
            refine r_iadd f19_74 (e := 3 * i) (by omega) (by omega) (by omega) ?_
            refine r_iload f19_75 rfl ?_
            refine r_iast f19_77 (kdC2 (c := c) (by omega) (by omega)) (by omega) (by omega) (by omega) ?_
            refine r_iload f19_78 rfl ?_
            refine r_iload f19_80 rfl ?_
            refine r_isub f19_82 (e := n - m (4 + 4 * h) (3 * t)) (by omega) (by omega) (by omega) ?_
            refine r_istore f19_83 rfl (ls' := [some (.inr (.inl (some (3 + 4 * h)))), some (.inl t), some (.inl n), some (.inr (.inl (some (66 + 5 * c)))), some (.inl (3 * i)), some (.inl 5), some (.inl (n - m (4 + 4 * h) (3 * t))), some (.inl 0), some (.inl (m (4 + 4 * h) (3 * t)))]) rfl ?_
            refine r_iinc f19_85 rfl rfl rfl (e := 1) (by omega) (by omega) (by omega) (ls' := [some (.inr (.inl (some (3 + 4 * h)))), some (.inl t), some (.inl n), some (.inr (.inl (some (66 + 5 * c)))), some (.inl (3 * i)), some (.inl 5), some (.inl (n - m (4 + 4 * h) (3 * t))), some (.inl 1), some (.inl (m (4 + 4 * h) (3 * t)))]) rfl ?_
            refine r_goto f19_88 (t := 14) (by decide) ?_
            refine r_iload f19_14 rfl ?_
            refine r_iconst f19_16 rfl ?_
            refine r_cge f19_17 (t := 91) (by decide) (fun h => absurd h (by omega)) (fun _ => ?_)
            refine r_iload f19_20 rfl ?_
            refine r_iload f19_22 rfl ?_
            refine r_ishr f19_24 (e := 2) (by decide) ?_
            refine r_iconst f19_25 rfl ?_
            refine r_iand f19_26 (e := 0) (by decide) ?_
            refine r_iconst f19_27 rfl ?_
            refine r_cne f19_28 (t := 50) (by decide) (fun _ => ?_) (fun h => absurd (by omega) h)
            refine r_iconst f19_50 rfl ?_
            refine r_istore f19_51 rfl (ls' := [some (.inr (.inl (some (3 + 4 * h)))), some (.inl t), some (.inl n), some (.inr (.inl (some (66 + 5 * c)))), some (.inl (3 * i)), some (.inl 5), some (.inl (n - m (4 + 4 * h) (3 * t))), some (.inl 1), some (.inl 0)]) rfl ?_
            refine r_aload_n f19_53 rfl ?_
            refine r_getR f19_54 o19 F1_9 (gH_0 (h := h) (by omega) (by omega)) rfl ?_
            refine r_iload_n f19_57 rfl ?_
            refine r_iconst f19_58 rfl ?_
            refine r_imul f19_59 (e := 3 * t) (by omega) (by omega) (by omega) ?_
            refine r_iload f19_60 rfl ?_
            refine r_iadd f19_62 (e := 3 * t + 1) (by omega) (by omega) (by omega) ?_
            refine r_dup2 f19_63 ?_
            refine r_iald f19_64 (kdH1 (h := h) (by omega) (by omega)) (by omega) (by omega) ?_
            refine r_top (e := m (4 + 4 * h) (3 * t + 1)) (by rw [zu_if, if_neg (by omega), zu_if, if_neg (by omega)]) ?_
            refine r_iload f19_65 rfl ?_
            refine r_isub f19_67 (e := m (4 + 4 * h) (3 * t + 1)) (by omega) (by omega) (by omega) ?_
            refine r_iast f19_68 (kdH1 (h := h) (by omega) (by omega)) (by omega) (by omega) (by omega) ?_
            refine r_aload_n f19_69 rfl ?_
            refine r_iload f19_70 rfl ?_
            refine r_iload f19_72 rfl ?_
            refine r_iadd f19_74 (e := 3 * i + 1) (by omega) (by omega) (by omega) ?_
            refine r_iload f19_75 rfl ?_
            refine r_iast f19_77 (kdC2 (c := c) (by omega) (by omega)) (by omega) (by omega) (by omega) ?_
            refine r_iload f19_78 rfl ?_
            refine r_iload f19_80 rfl ?_
            refine r_isub f19_82 (e := n - m (4 + 4 * h) (3 * t)) (by omega) (by omega) (by omega) ?_
            refine r_istore f19_83 rfl (ls' := [some (.inr (.inl (some (3 + 4 * h)))), some (.inl t), some (.inl n), some (.inr (.inl (some (66 + 5 * c)))), some (.inl (3 * i)), some (.inl 5), some (.inl (n - m (4 + 4 * h) (3 * t))), some (.inl 1), some (.inl 0)]) rfl ?_
            refine r_iinc f19_85 rfl rfl rfl (e := 2) (by omega) (by omega) (by omega) (ls' := [some (.inr (.inl (some (3 + 4 * h)))), some (.inl t), some (.inl n), some (.inr (.inl (some (66 + 5 * c)))), some (.inl (3 * i)), some (.inl 5), some (.inl (n - m (4 + 4 * h) (3 * t))), some (.inl 2), some (.inl 0)]) rfl ?_
            refine r_goto f19_88 (t := 14) (by decide) ?_
            refine r_iload f19_14 rfl ?_
            refine r_iconst f19_16 rfl ?_
            refine r_cge f19_17 (t := 91) (by decide) (fun h => absurd h (by omega)) (fun _ => ?_)
            refine r_iload f19_20 rfl ?_
            refine r_iload f19_22 rfl ?_
            refine r_ishr f19_24 (e := 1) (by decide) ?_
            refine r_iconst f19_25 rfl ?_
            refine r_iand f19_26 (e := 1) (by decide) ?_
            refine r_iconst f19_27 rfl ?_
            refine r_cne f19_28 (t := 50) (by decide) (fun h => absurd h (by omega)) (fun _ => ?_)
            refine r_iload f19_31 rfl ?_
            refine r_aload_n f19_33 rfl ?_
            refine r_getR f19_34 o19 F1_9 (gH_0 (h := h) (by omega) (by omega)) rfl ?_
            refine r_iload_n f19_37 rfl ?_
            refine r_iconst f19_38 rfl ?_
            refine r_imul f19_39 (e := 3 * t) (by omega) (by omega) (by omega) ?_
            refine r_iload f19_40 rfl ?_
            refine r_iadd f19_42 (e := 3 * t + 2) (by omega) (by omega) (by omega) ?_
            refine r_iald f19_43 (kdH1 (h := h) (by omega) (by omega)) (by omega) (by omega) ?_
            refine r_top (e := m (4 + 4 * h) (3 * t + 2)) (by rw [zu_if, if_neg (by omega), zu_if, if_neg (by omega), zu_if, if_neg (by omega), zu_if, if_neg (by omega)]) ?_
            refine r_min f19_44 o19 M1_36 (by simp) ?_
            refine r_top (e := n - m (4 + 4 * h) (3 * t)) (by rw [if_neg (by omega)]) ?_
            refine r_goto f19_47 (t := 51) (by decide) ?_
            refine r_istore f19_51 rfl (ls' := [some (.inr (.inl (some (3 + 4 * h)))), some (.inl t), some (.inl n), some (.inr (.inl (some (66 + 5 * c)))), some (.inl (3 * i)), some (.inl 5), some (.inl (n - m (4 + 4 * h) (3 * t))), some (.inl 2), some (.inl (n - m (4 + 4 * h) (3 * t)))]) rfl ?_
            refine r_aload_n f19_53 rfl ?_
            refine r_getR f19_54 o19 F1_9 (gH_0 (h := h) (by omega) (by omega)) rfl ?_
            refine r_iload_n f19_57 rfl ?_
            refine r_iconst f19_58 rfl ?_
            refine r_imul f19_59 (e := 3 * t) (by omega) (by omega) (by omega) ?_
            refine r_iload f19_60 rfl ?_
            refine r_iadd f19_62 (e := 3 * t + 2) (by omega) (by omega) (by omega) ?_
            refine r_dup2 f19_63 ?_
            refine r_iald f19_64 (kdH1 (h := h) (by omega) (by omega)) (by omega) (by omega) ?_
            refine r_top (e := m (4 + 4 * h) (3 * t + 2)) (by rw [zu_if, if_neg (by omega), zu_if, if_neg (by omega), zu_if, if_neg (by omega), zu_if, if_neg (by omega)]) ?_
            refine r_iload f19_65 rfl ?_
            refine r_isub f19_67 (e := m (4 + 4 * h) (3 * t + 2) + m (4 + 4 * h) (3 * t) - n) (by omega) (by omega) (by omega) ?_
            refine r_iast f19_68 (kdH1 (h := h) (by omega) (by omega)) (by omega) (by omega) (by omega) ?_
            refine r_aload_n f19_69 rfl ?_
            refine r_iload f19_70 rfl ?_
            refine r_iload f19_72 rfl ?_
            refine r_iadd f19_74 (e := 3 * i + 2) (by omega) (by omega) (by omega) ?_
            refine r_iload f19_75 rfl ?_
            refine r_iast f19_77 (kdC2 (c := c) (by omega) (by omega)) (by omega) (by omega) (by omega) ?_
            refine r_iload f19_78 rfl ?_
            refine r_iload f19_80 rfl ?_
            refine r_isub f19_82 (e := 0) (by omega) (by omega) (by omega) ?_
            refine r_istore f19_83 rfl (ls' := [some (.inr (.inl (some (3 + 4 * h)))), some (.inl t), some (.inl n), some (.inr (.inl (some (66 + 5 * c)))), some (.inl (3 * i)), some (.inl 5), some (.inl 0), some (.inl 2), some (.inl (n - m (4 + 4 * h) (3 * t)))]) rfl ?_
            refine r_iinc f19_85 rfl rfl rfl (e := 3) (by omega) (by omega) (by omega) (ls' := [some (.inr (.inl (some (3 + 4 * h)))), some (.inl t), some (.inl n), some (.inr (.inl (some (66 + 5 * c)))), some (.inl (3 * i)), some (.inl 5), some (.inl 0), some (.inl 3), some (.inl (n - m (4 + 4 * h) (3 * t)))]) rfl ?_
            refine r_goto f19_88 (t := 14) (by decide) ?_
            refine r_iload f19_14 rfl ?_
            refine r_iconst f19_16 rfl ?_
            refine r_cge f19_17 (t := 91) (by decide) (fun _ => ?_) (fun h => absurd (by omega) h)
            exact r_vret f19_91 v19 ⟨rfl, by unfold XWC; rw [show m (4 + 4 * h) (3 * t) - zsh0 (m (4 + 4 * h) (3 * t)) (m (4 + 4 * h) (3 * t + 1)) (m (4 + 4 * h) (3 * t + 2)) n = 0 from by unfold zsh0; (repeat (first | rw [if_pos (by omega)] | rw [if_neg (by omega)])); try omega, show zsh0 (m (4 + 4 * h) (3 * t)) (m (4 + 4 * h) (3 * t + 1)) (m (4 + 4 * h) (3 * t + 2)) n = m (4 + 4 * h) (3 * t) from by unfold zsh0; (repeat (first | rw [if_pos (by omega)] | rw [if_neg (by omega)])); try omega, show m (4 + 4 * h) (3 * t + 1) - zsh1 (m (4 + 4 * h) (3 * t)) (m (4 + 4 * h) (3 * t + 1)) (m (4 + 4 * h) (3 * t + 2)) n = m (4 + 4 * h) (3 * t + 1) from by unfold zsh1; (repeat (first | rw [if_pos (by omega)] | rw [if_neg (by omega)])); try omega, show zsh1 (m (4 + 4 * h) (3 * t)) (m (4 + 4 * h) (3 * t + 1)) (m (4 + 4 * h) (3 * t + 2)) n = 0 from by unfold zsh1; (repeat (first | rw [if_pos (by omega)] | rw [if_neg (by omega)])); try omega, show m (4 + 4 * h) (3 * t + 2) - zsh2 (m (4 + 4 * h) (3 * t)) (m (4 + 4 * h) (3 * t + 1)) (m (4 + 4 * h) (3 * t + 2)) n = m (4 + 4 * h) (3 * t + 2) + m (4 + 4 * h) (3 * t) - n from by unfold zsh2; (repeat (first | rw [if_pos (by omega)] | rw [if_neg (by omega)])); try omega, show zsh2 (m (4 + 4 * h) (3 * t)) (m (4 + 4 * h) (3 * t + 1)) (m (4 + 4 * h) (3 * t + 2)) n = n - m (4 + 4 * h) (3 * t) from by unfold zsh2; (repeat (first | rw [if_pos (by omega)] | rw [if_neg (by omega)])); try omega]⟩
          · refine r_ite (fun q6 => ?_) (fun q6 => ?_)
            · refine r_istore f19_6 rfl (ls' := [some (.inr (.inl (some (3 + 4 * h)))), some (.inl t), some (.inl n), some (.inr (.inl (some (66 + 5 * c)))), some (.inl (3 * i)), some (.inl 6), none, none, none]) rfl ?_
              refine r_iload_n f19_8 rfl ?_
              refine r_istore f19_9 rfl (ls' := [some (.inr (.inl (some (3 + 4 * h)))), some (.inl t), some (.inl n), some (.inr (.inl (some (66 + 5 * c)))), some (.inl (3 * i)), some (.inl 6), some (.inl n), none, none]) rfl ?_
              refine r_iconst f19_11 rfl ?_
              refine r_istore f19_12 rfl (ls' := [some (.inr (.inl (some (3 + 4 * h)))), some (.inl t), some (.inl n), some (.inr (.inl (some (66 + 5 * c)))), some (.inl (3 * i)), some (.inl 6), some (.inl n), some (.inl 0), none]) rfl ?_
              refine r_iload f19_14 rfl ?_
              refine r_iconst f19_16 rfl ?_
              refine r_cge f19_17 (t := 91) (by decide) (fun h => absurd h (by omega)) (fun _ => ?_)
              refine r_iload f19_20 rfl ?_
              refine r_iload f19_22 rfl ?_
              refine r_ishr f19_24 (e := 6) (by decide) ?_
              refine r_iconst f19_25 rfl ?_
              refine r_iand f19_26 (e := 0) (by decide) ?_
              refine r_iconst f19_27 rfl ?_
              refine r_cne f19_28 (t := 50) (by decide) (fun _ => ?_) (fun h => absurd (by omega) h)
              refine r_iconst f19_50 rfl ?_
              refine r_istore f19_51 rfl (ls' := [some (.inr (.inl (some (3 + 4 * h)))), some (.inl t), some (.inl n), some (.inr (.inl (some (66 + 5 * c)))), some (.inl (3 * i)), some (.inl 6), some (.inl n), some (.inl 0), some (.inl 0)]) rfl ?_
              refine r_aload_n f19_53 rfl ?_
              refine r_getR f19_54 o19 F1_9 (gH_0 (h := h) (by omega) (by omega)) rfl ?_
              refine r_iload_n f19_57 rfl ?_
              refine r_iconst f19_58 rfl ?_
              refine r_imul f19_59 (e := 3 * t) (by omega) (by omega) (by omega) ?_
              refine r_iload f19_60 rfl ?_
              refine r_iadd f19_62 (e := 3 * t) (by omega) (by omega) (by omega) ?_
              refine r_dup2 f19_63 ?_
              refine r_iald f19_64 (kdH1 (h := h) (by omega) (by omega)) (by omega) (by omega) ?_
              refine r_iload f19_65 rfl ?_
              refine r_isub f19_67 (e := m (4 + 4 * h) (3 * t)) (by omega) (by omega) (by omega) ?_
              refine r_iast f19_68 (kdH1 (h := h) (by omega) (by omega)) (by omega) (by omega) (by omega) ?_
              refine r_aload_n f19_69 rfl ?_
              refine r_iload f19_70 rfl ?_
              refine r_iload f19_72 rfl ?_
              refine r_iadd f19_74 (e := 3 * i) (by omega) (by omega) (by omega) ?_
              refine r_iload f19_75 rfl ?_
              refine r_iast f19_77 (kdC2 (c := c) (by omega) (by omega)) (by omega) (by omega) (by omega) ?_
              refine r_iload f19_78 rfl ?_
              refine r_iload f19_80 rfl ?_
              refine r_isub f19_82 (e := n) (by omega) (by omega) (by omega) ?_
              refine r_istore f19_83 rfl (ls' := [some (.inr (.inl (some (3 + 4 * h)))), some (.inl t), some (.inl n), some (.inr (.inl (some (66 + 5 * c)))), some (.inl (3 * i)), some (.inl 6), some (.inl n), some (.inl 0), some (.inl 0)]) rfl ?_
              refine r_iinc f19_85 rfl rfl rfl (e := 1) (by omega) (by omega) (by omega) (ls' := [some (.inr (.inl (some (3 + 4 * h)))), some (.inl t), some (.inl n), some (.inr (.inl (some (66 + 5 * c)))), some (.inl (3 * i)), some (.inl 6), some (.inl n), some (.inl 1), some (.inl 0)]) rfl ?_
              refine r_goto f19_88 (t := 14) (by decide) ?_
              refine r_iload f19_14 rfl ?_
              refine r_iconst f19_16 rfl ?_
              refine r_cge f19_17 (t := 91) (by decide) (fun h => absurd h (by omega)) (fun _ => ?_)
              refine r_iload f19_20 rfl ?_
              refine r_iload f19_22 rfl ?_
              refine r_ishr f19_24 (e := 3) (by decide) ?_
              refine r_iconst f19_25 rfl ?_
              refine r_iand f19_26 (e := 1) (by decide) ?_
              refine r_iconst f19_27 rfl ?_
              refine r_cne f19_28 (t := 50) (by decide) (fun h => absurd h (by omega)) (fun _ => ?_)
              refine r_iload f19_31 rfl ?_
              refine r_aload_n f19_33 rfl ?_
              refine r_getR f19_34 o19 F1_9 (gH_0 (h := h) (by omega) (by omega)) rfl ?_
              refine r_iload_n f19_37 rfl ?_
              refine r_iconst f19_38 rfl ?_
              refine r_imul f19_39 (e := 3 * t) (by omega) (by omega) (by omega) ?_
              refine r_iload f19_40 rfl ?_
              refine r_iadd f19_42 (e := 3 * t + 1) (by omega) (by omega) (by omega) ?_
              refine r_iald f19_43 (kdH1 (h := h) (by omega) (by omega)) (by omega) (by omega) ?_
              refine r_top (e := m (4 + 4 * h) (3 * t + 1)) (by rw [zu_if, if_neg (by omega), zu_if, if_neg (by omega)]) ?_
              refine r_min f19_44 o19 M1_36 (by simp) ?_
              refine r_top (e := m (4 + 4 * h) (3 * t + 1)) (by rw [if_pos (by omega)]) ?_
              refine r_goto f19_47 (t := 51) (by decide) ?_
              refine r_istore f19_51 rfl (ls' := [some (.inr (.inl (some (3 + 4 * h)))), some (.inl t), some (.inl n), some (.inr (.inl (some (66 + 5 * c)))), some (.inl (3 * i)), some (.inl 6), some (.inl n), some (.inl 1), some (.inl (m (4 + 4 * h) (3 * t + 1)))]) rfl ?_
              refine r_aload_n f19_53 rfl ?_
              refine r_getR f19_54 o19 F1_9 (gH_0 (h := h) (by omega) (by omega)) rfl ?_
              refine r_iload_n f19_57 rfl ?_
              refine r_iconst f19_58 rfl ?_
              refine r_imul f19_59 (e := 3 * t) (by omega) (by omega) (by omega) ?_
              refine r_iload f19_60 rfl ?_
              refine r_iadd f19_62 (e := 3 * t + 1) (by omega) (by omega) (by omega) ?_
              refine r_dup2 f19_63 ?_
              refine r_iald f19_64 (kdH1 (h := h) (by omega) (by omega)) (by omega) (by omega) ?_
              refine r_top (e := m (4 + 4 * h) (3 * t + 1)) (by rw [zu_if, if_neg (by omega), zu_if, if_neg (by omega)]) ?_
              refine r_iload f19_65 rfl ?_
              refine r_isub f19_67 (e := 0) (by omega) (by omega) (by omega) ?_
              refine r_iast f19_68 (kdH1 (h := h) (by omega) (by omega)) (by omega) (by omega) (by omega) ?_
              refine r_aload_n f19_69 rfl ?_
              refine r_iload f19_70 rfl ?_
              refine r_iload f19_72 rfl ?_
              refine r_iadd f19_74 (e := 3 * i + 1) (by omega) (by omega) (by omega) ?_
              refine r_iload f19_75 rfl ?_
              refine r_iast f19_77 (kdC2 (c := c) (by omega) (by omega)) (by omega) (by omega) (by omega) ?_
              refine r_iload f19_78 rfl ?_
              refine r_iload f19_80 rfl ?_
              refine r_isub f19_82 (e := n - m (4 + 4 * h) (3 * t + 1)) (by omega) (by omega) (by omega) ?_
              refine r_istore f19_83 rfl (ls' := [some (.inr (.inl (some (3 + 4 * h)))), some (.inl t), some (.inl n), some (.inr (.inl (some (66 + 5 * c)))), some (.inl (3 * i)), some (.inl 6), some (.inl (n - m (4 + 4 * h) (3 * t + 1))), some (.inl 1), some (.inl (m (4 + 4 * h) (3 * t + 1)))]) rfl ?_
              refine r_iinc f19_85 rfl rfl rfl (e := 2) (by omega) (by omega) (by omega) (ls' := [some (.inr (.inl (some (3 + 4 * h)))), some (.inl t), some (.inl n), some (.inr (.inl (some (66 + 5 * c)))), some (.inl (3 * i)), some (.inl 6), some (.inl (n - m (4 + 4 * h) (3 * t + 1))), some (.inl 2), some (.inl (m (4 + 4 * h) (3 * t + 1)))]) rfl ?_
              refine r_goto f19_88 (t := 14) (by decide) ?_
              refine r_iload f19_14 rfl ?_
              refine r_iconst f19_16 rfl ?_
              refine r_cge f19_17 (t := 91) (by decide) (fun h => absurd h (by omega)) (fun _ => ?_)
              refine r_iload f19_20 rfl ?_
              refine r_iload f19_22 rfl ?_
              refine r_ishr f19_24 (e := 1) (by decide) ?_
              refine r_iconst f19_25 rfl ?_
              refine r_iand f19_26 (e := 1) (by decide) ?_
              refine r_iconst f19_27 rfl ?_
              refine r_cne f19_28 (t := 50) (by decide) (fun h => absurd h (by omega)) (fun _ => ?_)
              refine r_iload f19_31 rfl ?_
              refine r_aload_n f19_33 rfl ?_
              refine r_getR f19_34 o19 F1_9 (gH_0 (h := h) (by omega) (by omega)) rfl ?_
              refine r_iload_n f19_37 rfl ?_
              refine r_iconst f19_38 rfl ?_
              refine r_imul f19_39 (e := 3 * t) (by omega) (by omega) (by omega) ?_
              refine r_iload f19_40 rfl ?_
              refine r_iadd f19_42 (e := 3 * t + 2) (by omega) (by omega) (by omega) ?_
              refine r_iald f19_43 (kdH1 (h := h) (by omega) (by omega)) (by omega) (by omega) ?_
              refine r_top (e := m (4 + 4 * h) (3 * t + 2)) (by rw [zu_if, if_neg (by omega), zu_if, if_neg (by omega), zu_if, if_neg (by omega), zu_if, if_neg (by omega)]) ?_
              refine r_min f19_44 o19 M1_36 (by simp) ?_
              refine r_top (e := n - m (4 + 4 * h) (3 * t + 1)) (by rw [if_neg (by omega)]) ?_
              refine r_goto f19_47 (t := 51) (by decide) ?_
              refine r_istore f19_51 rfl (ls' := [some (.inr (.inl (some (3 + 4 * h)))), some (.inl t), some (.inl n), some (.inr (.inl (some (66 + 5 * c)))), some (.inl (3 * i)), some (.inl 6), some (.inl (n - m (4 + 4 * h) (3 * t + 1))), some (.inl 2), some (.inl (n - m (4 + 4 * h) (3 * t + 1)))]) rfl ?_
              refine r_aload_n f19_53 rfl ?_
              refine r_getR f19_54 o19 F1_9 (gH_0 (h := h) (by omega) (by omega)) rfl ?_
              refine r_iload_n f19_57 rfl ?_
              refine r_iconst f19_58 rfl ?_
              refine r_imul f19_59 (e := 3 * t) (by omega) (by omega) (by omega) ?_
              refine r_iload f19_60 rfl ?_
              refine r_iadd f19_62 (e := 3 * t + 2) (by omega) (by omega) (by omega) ?_
              refine r_dup2 f19_63 ?_
              refine r_iald f19_64 (kdH1 (h := h) (by omega) (by omega)) (by omega) (by omega) ?_
              refine r_top (e := m (4 + 4 * h) (3 * t + 2)) (by rw [zu_if, if_neg (by omega), zu_if, if_neg (by omega), zu_if, if_neg (by omega), zu_if, if_neg (by omega)]) ?_
              refine r_iload f19_65 rfl ?_
              refine r_isub f19_67 (e := m (4 + 4 * h) (3 * t + 1) + m (4 + 4 * h) (3 * t + 2) - n) (by omega) (by omega) (by omega) ?_
              refine r_iast f19_68 (kdH1 (h := h) (by omega) (by omega)) (by omega) (by omega) (by omega) ?_
              refine r_aload_n f19_69 rfl ?_
              refine r_iload f19_70 rfl ?_
              refine r_iload f19_72 rfl ?_
              refine r_iadd f19_74 (e := 3 * i + 2) (by omega) (by omega) (by omega) ?_
              refine r_iload f19_75 rfl ?_
              refine r_iast f19_77 (kdC2 (c := c) (by omega) (by omega)) (by omega) (by omega) (by omega) ?_
              refine r_iload f19_78 rfl ?_
              refine r_iload f19_80 rfl ?_
              refine r_isub f19_82 (e := 0) (by omega) (by omega) (by omega) ?_
              refine r_istore f19_83 rfl (ls' := [some (.inr (.inl (some (3 + 4 * h)))), some (.inl t), some (.inl n), some (.inr (.inl (some (66 + 5 * c)))), some (.inl (3 * i)), some (.inl 6), some (.inl 0), some (.inl 2), some (.inl (n - m (4 + 4 * h) (3 * t + 1)))]) rfl ?_
              refine r_iinc f19_85 rfl rfl rfl (e := 3) (by omega) (by omega) (by omega) (ls' := [some (.inr (.inl (some (3 + 4 * h)))), some (.inl t), some (.inl n), some (.inr (.inl (some (66 + 5 * c)))), some (.inl (3 * i)), some (.inl 6), some (.inl 0), some (.inl 3), some (.inl (n - m (4 + 4 * h) (3 * t + 1)))]) rfl ?_
              refine r_goto f19_88 (t := 14) (by decide) ?_
              refine r_iload f19_14 rfl ?_
              refine r_iconst f19_16 rfl ?_
              refine r_cge f19_17 (t := 91) (by decide) (fun _ => ?_) (fun h => absurd (by omega) h)
              exact r_vret f19_91 v19 ⟨rfl, by unfold XWC; rw [show m (4 + 4 * h) (3 * t) - zsh0 (m (4 + 4 * h) (3 * t)) (m (4 + 4 * h) (3 * t + 1)) (m (4 + 4 * h) (3 * t + 2)) n = m (4 + 4 * h) (3 * t) from by unfold zsh0; (repeat (first | rw [if_pos (by omega)] | rw [if_neg (by omega)])); try omega, show zsh0 (m (4 + 4 * h) (3 * t)) (m (4 + 4 * h) (3 * t + 1)) (m (4 + 4 * h) (3 * t + 2)) n = 0 from by unfold zsh0; (repeat (first | rw [if_pos (by omega)] | rw [if_neg (by omega)])); try omega, show m (4 + 4 * h) (3 * t + 1) - zsh1 (m (4 + 4 * h) (3 * t)) (m (4 + 4 * h) (3 * t + 1)) (m (4 + 4 * h) (3 * t + 2)) n = 0 from by unfold zsh1; (repeat (first | rw [if_pos (by omega)] | rw [if_neg (by omega)])); try omega, show zsh1 (m (4 + 4 * h) (3 * t)) (m (4 + 4 * h) (3 * t + 1)) (m (4 + 4 * h) (3 * t + 2)) n = m (4 + 4 * h) (3 * t + 1) from by unfold zsh1; (repeat (first | rw [if_pos (by omega)] | rw [if_neg (by omega)])); try omega, show m (4 + 4 * h) (3 * t + 2) - zsh2 (m (4 + 4 * h) (3 * t)) (m (4 + 4 * h) (3 * t + 1)) (m (4 + 4 * h) (3 * t + 2)) n = m (4 + 4 * h) (3 * t + 1) + m (4 + 4 * h) (3 * t + 2) - n from by unfold zsh2; (repeat (first | rw [if_pos (by omega)] | rw [if_neg (by omega)])); try omega, show zsh2 (m (4 + 4 * h) (3 * t)) (m (4 + 4 * h) (3 * t + 1)) (m (4 + 4 * h) (3 * t + 2)) n = n - m (4 + 4 * h) (3 * t + 1) from by unfold zsh2; (repeat (first | rw [if_pos (by omega)] | rw [if_neg (by omega)])); try omega]⟩
            · refine r_ite (fun q7 => ?_) (fun q7 => ?_)
              · refine r_istore f19_6 rfl (ls' := [some (.inr (.inl (some (3 + 4 * h)))), some (.inl t), some (.inl n), some (.inr (.inl (some (66 + 5 * c)))), some (.inl (3 * i)), some (.inl 7), none, none, none]) rfl ?_
                refine r_iload_n f19_8 rfl ?_
                refine r_istore f19_9 rfl (ls' := [some (.inr (.inl (some (3 + 4 * h)))), some (.inl t), some (.inl n), some (.inr (.inl (some (66 + 5 * c)))), some (.inl (3 * i)), some (.inl 7), some (.inl n), none, none]) rfl ?_
                refine r_iconst f19_11 rfl ?_
                refine r_istore f19_12 rfl (ls' := [some (.inr (.inl (some (3 + 4 * h)))), some (.inl t), some (.inl n), some (.inr (.inl (some (66 + 5 * c)))), some (.inl (3 * i)), some (.inl 7), some (.inl n), some (.inl 0), none]) rfl ?_
                refine r_iload f19_14 rfl ?_
                refine r_iconst f19_16 rfl ?_
                refine r_cge f19_17 (t := 91) (by decide) (fun h => absurd h (by omega)) (fun _ => ?_)
                refine r_iload f19_20 rfl ?_
                refine r_iload f19_22 rfl ?_
                refine r_ishr f19_24 (e := 7) (by decide) ?_
                refine r_iconst f19_25 rfl ?_
                refine r_iand f19_26 (e := 1) (by decide) ?_
                refine r_iconst f19_27 rfl ?_
                refine r_cne f19_28 (t := 50) (by decide) (fun h => absurd h (by omega)) (fun _ => ?_)
                refine r_iload f19_31 rfl ?_
                refine r_aload_n f19_33 rfl ?_
                refine r_getR f19_34 o19 F1_9 (gH_0 (h := h) (by omega) (by omega)) rfl ?_
                refine r_iload_n f19_37 rfl ?_
                refine r_iconst f19_38 rfl ?_
                refine r_imul f19_39 (e := 3 * t) (by omega) (by omega) (by omega) ?_
                refine r_iload f19_40 rfl ?_
                refine r_iadd f19_42 (e := 3 * t) (by omega) (by omega) (by omega) ?_
                refine r_iald f19_43 (kdH1 (h := h) (by omega) (by omega)) (by omega) (by omega) ?_
                refine r_min f19_44 o19 M1_36 (by simp) ?_
                refine r_top (e := m (4 + 4 * h) (3 * t)) (by rw [if_pos (by omega)]) ?_
                refine r_goto f19_47 (t := 51) (by decide) ?_
                refine r_istore f19_51 rfl (ls' := [some (.inr (.inl (some (3 + 4 * h)))), some (.inl t), some (.inl n), some (.inr (.inl (some (66 + 5 * c)))), some (.inl (3 * i)), some (.inl 7), some (.inl n), some (.inl 0), some (.inl (m (4 + 4 * h) (3 * t)))]) rfl ?_
                refine r_aload_n f19_53 rfl ?_
                refine r_getR f19_54 o19 F1_9 (gH_0 (h := h) (by omega) (by omega)) rfl ?_
                refine r_iload_n f19_57 rfl ?_
                refine r_iconst f19_58 rfl ?_
                refine r_imul f19_59 (e := 3 * t) (by omega) (by omega) (by omega) ?_
                refine r_iload f19_60 rfl ?_
                refine r_iadd f19_62 (e := 3 * t) (by omega) (by omega) (by omega) ?_
                refine r_dup2 f19_63 ?_
                refine r_iald f19_64 (kdH1 (h := h) (by omega) (by omega)) (by omega) (by omega) ?_
                refine r_iload f19_65 rfl ?_
                refine r_isub f19_67 (e := 0) (by omega) (by omega) (by omega) ?_
                refine r_iast f19_68 (kdH1 (h := h) (by omega) (by omega)) (by omega) (by omega) (by omega) ?_
                refine r_aload_n f19_69 rfl ?_
                refine r_iload f19_70 rfl ?_
                refine r_iload f19_72 rfl ?_
                refine r_iadd f19_74 (e := 3 * i) (by omega) (by omega) (by omega) ?_
                refine r_iload f19_75 rfl ?_
                refine r_iast f19_77 (kdC2 (c := c) (by omega) (by omega)) (by omega) (by omega) (by omega) ?_
                refine r_iload f19_78 rfl ?_
                refine r_iload f19_80 rfl ?_
                refine r_isub f19_82 (e := n - m (4 + 4 * h) (3 * t)) (by omega) (by omega) (by omega) ?_
                refine r_istore f19_83 rfl (ls' := [some (.inr (.inl (some (3 + 4 * h)))), some (.inl t), some (.inl n), some (.inr (.inl (some (66 + 5 * c)))), some (.inl (3 * i)), some (.inl 7), some (.inl (n - m (4 + 4 * h) (3 * t))), some (.inl 0), some (.inl (m (4 + 4 * h) (3 * t)))]) rfl ?_
                refine r_iinc f19_85 rfl rfl rfl (e := 1) (by omega) (by omega) (by omega) (ls' := [some (.inr (.inl (some (3 + 4 * h)))), some (.inl t), some (.inl n), some (.inr (.inl (some (66 + 5 * c)))), some (.inl (3 * i)), some (.inl 7), some (.inl (n - m (4 + 4 * h) (3 * t))), some (.inl 1), some (.inl (m (4 + 4 * h) (3 * t)))]) rfl ?_
                refine r_goto f19_88 (t := 14) (by decide) ?_
                refine r_iload f19_14 rfl ?_
                refine r_iconst f19_16 rfl ?_
                refine r_cge f19_17 (t := 91) (by decide) (fun h => absurd h (by omega)) (fun _ => ?_)
                refine r_iload f19_20 rfl ?_
                refine r_iload f19_22 rfl ?_
                refine r_ishr f19_24 (e := 3) (by decide) ?_
                refine r_iconst f19_25 rfl ?_
                refine r_iand f19_26 (e := 1) (by decide) ?_
                refine r_iconst f19_27 rfl ?_
                refine r_cne f19_28 (t := 50) (by decide) (fun h => absurd h (by omega)) (fun _ => ?_)
                refine r_iload f19_31 rfl ?_
                refine r_aload_n f19_33 rfl ?_
                refine r_getR f19_34 o19 F1_9 (gH_0 (h := h) (by omega) (by omega)) rfl ?_
                refine r_iload_n f19_37 rfl ?_
                refine r_iconst f19_38 rfl ?_
                refine r_imul f19_39 (e := 3 * t) (by omega) (by omega) (by omega) ?_
                refine r_iload f19_40 rfl ?_
                refine r_iadd f19_42 (e := 3 * t + 1) (by omega) (by omega) (by omega) ?_
                refine r_iald f19_43 (kdH1 (h := h) (by omega) (by omega)) (by omega) (by omega) ?_
                refine r_top (e := m (4 + 4 * h) (3 * t + 1)) (by rw [zu_if, if_neg (by omega), zu_if, if_neg (by omega)]) ?_
                refine r_min f19_44 o19 M1_36 (by simp) ?_
                refine r_top (e := m (4 + 4 * h) (3 * t + 1)) (by rw [if_pos (by omega)]) ?_
                refine r_goto f19_47 (t := 51) (by decide) ?_
                refine r_istore f19_51 rfl (ls' := [some (.inr (.inl (some (3 + 4 * h)))), some (.inl t), some (.inl n), some (.inr (.inl (some (66 + 5 * c)))), some (.inl (3 * i)), some (.inl 7), some (.inl (n - m (4 + 4 * h) (3 * t))), some (.inl 1), some (.inl (m (4 + 4 * h) (3 * t + 1)))]) rfl ?_
                refine r_aload_n f19_53 rfl ?_
                refine r_getR f19_54 o19 F1_9 (gH_0 (h := h) (by omega) (by omega)) rfl ?_
                refine r_iload_n f19_57 rfl ?_
                refine r_iconst f19_58 rfl ?_
                refine r_imul f19_59 (e := 3 * t) (by omega) (by omega) (by omega) ?_
                refine r_iload f19_60 rfl ?_
                refine r_iadd f19_62 (e := 3 * t + 1) (by omega) (by omega) (by omega) ?_
                refine r_dup2 f19_63 ?_
                refine r_iald f19_64 (kdH1 (h := h) (by omega) (by omega)) (by omega) (by omega) ?_
                refine r_top (e := m (4 + 4 * h) (3 * t + 1)) (by rw [zu_if, if_neg (by omega), zu_if, if_neg (by omega)]) ?_
                refine r_iload f19_65 rfl ?_
                refine r_isub f19_67 (e := 0) (by omega) (by omega) (by omega) ?_
                refine r_iast f19_68 (kdH1 (h := h) (by omega) (by omega)) (by omega) (by omega) (by omega) ?_
                refine r_aload_n f19_69 rfl ?_
                refine r_iload f19_70 rfl ?_
                refine r_iload f19_72 rfl ?_
                refine r_iadd f19_74 (e := 3 * i + 1) (by omega) (by omega) (by omega) ?_
                refine r_iload f19_75 rfl ?_
                refine r_iast f19_77 (kdC2 (c := c) (by omega) (by omega)) (by omega) (by omega) (by omega) ?_
                refine r_iload f19_78 rfl ?_
                refine r_iload f19_80 rfl ?_
                refine r_isub f19_82 (e := n - m (4 + 4 * h) (3 * t + 1) - m (4 + 4 * h) (3 * t)) (by omega) (by omega) (by omega) ?_
                refine r_istore f19_83 rfl (ls' := [some (.inr (.inl (some (3 + 4 * h)))), some (.inl t), some (.inl n), some (.inr (.inl (some (66 + 5 * c)))), some (.inl (3 * i)), some (.inl 7), some (.inl (n - m (4 + 4 * h) (3 * t + 1) - m (4 + 4 * h) (3 * t))), some (.inl 1), some (.inl (m (4 + 4 * h) (3 * t + 1)))]) rfl ?_
                refine r_iinc f19_85 rfl rfl rfl (e := 2) (by omega) (by omega) (by omega) (ls' := [some (.inr (.inl (some (3 + 4 * h)))), some (.inl t), some (.inl n), some (.inr (.inl (some (66 + 5 * c)))), some (.inl (3 * i)), some (.inl 7), some (.inl (n - m (4 + 4 * h) (3 * t + 1) - m (4 + 4 * h) (3 * t))), some (.inl 2), some (.inl (m (4 + 4 * h) (3 * t + 1)))]) rfl ?_
                refine r_goto f19_88 (t := 14) (by decide) ?_
                refine r_iload f19_14 rfl ?_
                refine r_iconst f19_16 rfl ?_
                refine r_cge f19_17 (t := 91) (by decide) (fun h => absurd h (by omega)) (fun _ => ?_)
                refine r_iload f19_20 rfl ?_
                refine r_iload f19_22 rfl ?_
                refine r_ishr f19_24 (e := 1) (by decide) ?_
                refine r_iconst f19_25 rfl ?_
                refine r_iand f19_26 (e := 1) (by decide) ?_
                refine r_iconst f19_27 rfl ?_
                refine r_cne f19_28 (t := 50) (by decide) (fun h => absurd h (by omega)) (fun _ => ?_)
                refine r_iload f19_31 rfl ?_
                refine r_aload_n f19_33 rfl ?_
                refine r_getR f19_34 o19 F1_9 (gH_0 (h := h) (by omega) (by omega)) rfl ?_
                refine r_iload_n f19_37 rfl ?_
                refine r_iconst f19_38 rfl ?_
                refine r_imul f19_39 (e := 3 * t) (by omega) (by omega) (by omega) ?_
                refine r_iload f19_40 rfl ?_
                refine r_iadd f19_42 (e := 3 * t + 2) (by omega) (by omega) (by omega) ?_
                refine r_iald f19_43 (kdH1 (h := h) (by omega) (by omega)) (by omega) (by omega) ?_
                refine r_top (e := m (4 + 4 * h) (3 * t + 2)) (by rw [zu_if, if_neg (by omega), zu_if, if_neg (by omega), zu_if, if_neg (by omega), zu_if, if_neg (by omega)]) ?_
                refine r_min f19_44 o19 M1_36 (by simp) ?_
                refine r_top (e := n - m (4 + 4 * h) (3 * t + 1) - m (4 + 4 * h) (3 * t)) (by rw [if_neg (by omega)]) ?_
                refine r_goto f19_47 (t := 51) (by decide) ?_
                refine r_istore f19_51 rfl (ls' := [some (.inr (.inl (some (3 + 4 * h)))), some (.inl t), some (.inl n), some (.inr (.inl (some (66 + 5 * c)))), some (.inl (3 * i)), some (.inl 7), some (.inl (n - m (4 + 4 * h) (3 * t + 1) - m (4 + 4 * h) (3 * t))), some (.inl 2), some (.inl (n - m (4 + 4 * h) (3 * t + 1) - m (4 + 4 * h) (3 * t)))]) rfl ?_
                refine r_aload_n f19_53 rfl ?_
                refine r_getR f19_54 o19 F1_9 (gH_0 (h := h) (by omega) (by omega)) rfl ?_
                refine r_iload_n f19_57 rfl ?_
                refine r_iconst f19_58 rfl ?_
                refine r_imul f19_59 (e := 3 * t) (by omega) (by omega) (by omega) ?_
                refine r_iload f19_60 rfl ?_
                refine r_iadd f19_62 (e := 3 * t + 2) (by omega) (by omega) (by omega) ?_
                refine r_dup2 f19_63 ?_
                refine r_iald f19_64 (kdH1 (h := h) (by omega) (by omega)) (by omega) (by omega) ?_
                refine r_top (e := m (4 + 4 * h) (3 * t + 2)) (by rw [zu_if, if_neg (by omega), zu_if, if_neg (by omega), zu_if, if_neg (by omega), zu_if, if_neg (by omega)]) ?_
                refine r_iload f19_65 rfl ?_
                refine r_isub f19_67 (e := m (4 + 4 * h) (3 * t + 1) + m (4 + 4 * h) (3 * t + 2) + m (4 + 4 * h) (3 * t) - n) (by omega) (by omega) (by omega) ?_
                refine r_iast f19_68 (kdH1 (h := h) (by omega) (by omega)) (by omega) (by omega) (by omega) ?_
                refine r_aload_n f19_69 rfl ?_
                refine r_iload f19_70 rfl ?_
                refine r_iload f19_72 rfl ?_
                refine r_iadd f19_74 (e := 3 * i + 2) (by omega) (by omega) (by omega) ?_
                refine r_iload f19_75 rfl ?_
                refine r_iast f19_77 (kdC2 (c := c) (by omega) (by omega)) (by omega) (by omega) (by omega) ?_
                refine r_iload f19_78 rfl ?_
                refine r_iload f19_80 rfl ?_
                refine r_isub f19_82 (e := 0) (by omega) (by omega) (by omega) ?_
                refine r_istore f19_83 rfl (ls' := [some (.inr (.inl (some (3 + 4 * h)))), some (.inl t), some (.inl n), some (.inr (.inl (some (66 + 5 * c)))), some (.inl (3 * i)), some (.inl 7), some (.inl 0), some (.inl 2), some (.inl (n - m (4 + 4 * h) (3 * t + 1) - m (4 + 4 * h) (3 * t)))]) rfl ?_
                refine r_iinc f19_85 rfl rfl rfl (e := 3) (by omega) (by omega) (by omega) (ls' := [some (.inr (.inl (some (3 + 4 * h)))), some (.inl t), some (.inl n), some (.inr (.inl (some (66 + 5 * c)))), some (.inl (3 * i)), some (.inl 7), some (.inl 0), some (.inl 3), some (.inl (n - m (4 + 4 * h) (3 * t + 1) - m (4 + 4 * h) (3 * t)))]) rfl ?_
                refine r_goto f19_88 (t := 14) (by decide) ?_
                refine r_iload f19_14 rfl ?_
                refine r_iconst f19_16 rfl ?_
                refine r_cge f19_17 (t := 91) (by decide) (fun _ => ?_) (fun h => absurd (by omega) h)
                exact r_vret f19_91 v19 ⟨rfl, by unfold XWC; rw [show m (4 + 4 * h) (3 * t) - zsh0 (m (4 + 4 * h) (3 * t)) (m (4 + 4 * h) (3 * t + 1)) (m (4 + 4 * h) (3 * t + 2)) n = 0 from by unfold zsh0; (repeat (first | rw [if_pos (by omega)] | rw [if_neg (by omega)])); try omega, show zsh0 (m (4 + 4 * h) (3 * t)) (m (4 + 4 * h) (3 * t + 1)) (m (4 + 4 * h) (3 * t + 2)) n = m (4 + 4 * h) (3 * t) from by unfold zsh0; (repeat (first | rw [if_pos (by omega)] | rw [if_neg (by omega)])); try omega, show m (4 + 4 * h) (3 * t + 1) - zsh1 (m (4 + 4 * h) (3 * t)) (m (4 + 4 * h) (3 * t + 1)) (m (4 + 4 * h) (3 * t + 2)) n = 0 from by unfold zsh1; (repeat (first | rw [if_pos (by omega)] | rw [if_neg (by omega)])); try omega, show zsh1 (m (4 + 4 * h) (3 * t)) (m (4 + 4 * h) (3 * t + 1)) (m (4 + 4 * h) (3 * t + 2)) n = m (4 + 4 * h) (3 * t + 1) from by unfold zsh1; (repeat (first | rw [if_pos (by omega)] | rw [if_neg (by omega)])); try omega, show m (4 + 4 * h) (3 * t + 2) - zsh2 (m (4 + 4 * h) (3 * t)) (m (4 + 4 * h) (3 * t + 1)) (m (4 + 4 * h) (3 * t + 2)) n = m (4 + 4 * h) (3 * t + 1) + m (4 + 4 * h) (3 * t + 2) + m (4 + 4 * h) (3 * t) - n from by unfold zsh2; (repeat (first | rw [if_pos (by omega)] | rw [if_neg (by omega)])); try omega, show zsh2 (m (4 + 4 * h) (3 * t)) (m (4 + 4 * h) (3 * t + 1)) (m (4 + 4 * h) (3 * t + 2)) n = n - m (4 + 4 * h) (3 * t + 1) - m (4 + 4 * h) (3 * t) from by unfold zsh2; (repeat (first | rw [if_pos (by omega)] | rw [if_neg (by omega)])); try omega]⟩
              · exfalso; omega

abbrev XWB (m : zmem) (h t n : Int) : zmem := (zu (zu (zu (zu (zu (zu m (4 + 4 * h) (3 * t) (m (4 + 4 * h) (3 * t) - zsh0 (m (4 + 4 * h) (3 * t)) (m (4 + 4 * h) (3 * t + 1)) (m (4 + 4 * h) (3 * t + 2)) n)) 63 0 (zsh0 (m (4 + 4 * h) (3 * t)) (m (4 + 4 * h) (3 * t + 1)) (m (4 + 4 * h) (3 * t + 2)) n)) (4 + 4 * h) (3 * t + 1) (m (4 + 4 * h) (3 * t + 1) - zsh1 (m (4 + 4 * h) (3 * t)) (m (4 + 4 * h) (3 * t + 1)) (m (4 + 4 * h) (3 * t + 2)) n)) 63 1 (zsh1 (m (4 + 4 * h) (3 * t)) (m (4 + 4 * h) (3 * t + 1)) (m (4 + 4 * h) (3 * t + 2)) n)) (4 + 4 * h) (3 * t + 2) (m (4 + 4 * h) (3 * t + 2) - zsh2 (m (4 + 4 * h) (3 * t)) (m (4 + 4 * h) (3 * t + 1)) (m (4 + 4 * h) (3 * t + 2)) n)) 63 2 (zsh2 (m (4 + 4 * h) (3 * t)) (m (4 + 4 * h) (3 * t + 1)) (m (4 + 4 * h) (3 * t + 2)) n))
theorem t_fillB {L d : Nat} {m : zmem} {h : Int} (h0 : 0 ≤ h) (h1 : h < 12) {t : Int} (t0 : 0 ≤ t) (t1 : t < 40) (hf : ∀ k, 0 ≤ k → k < 120 → 0 ≤ m (4 + 4 * h) k ∧ m (4 + 4 * h) k ≤ 9) {n : Int} (hd : ∀ k, m (-2) k = zdv k) (n0 : 0 ≤ n) (n1 : n ≤ m (4 + 4 * h) (3 * t) + m (4 + 4 * h) (3 * t + 1) + m (4 + 4 * h) (3 * t + 2)) : zF L (d + 2) 19 [.inr (.inl (some (3 + 4 * h))), .inl t, .inl n, .inr (.inl (some 63)), .inl 0] m none (XWB m h t n) := by
  have r0 := hf (3 * t) (by omega) (by omega)
  have r1 := hf (3 * t + 1) (by omega) (by omega)
  have r2 := hf (3 * t + 2) (by omega) (by omega)
  refine zF_of n19 (ls := [some (.inr (.inl (some (3 + 4 * h)))), some (.inl t), some (.inl n), some (.inr (.inl (some 63))), some (.inl 0), none, none, none, none]) rfl ?_
  refine r_aload_n f19_0 rfl ?_
  refine r_iload_n f19_1 rfl ?_
  refine r_iload_n f19_2 rfl ?_
  refine r_callv2i f19_3 o19 M1_33 p18 o18 (kdH0 (h := h) (by omega) (by omega)) rfl (by simp) (t_dormsFor (n := n) h0 h1 t0 t1 hf hd) ?_
  refine r_top (e := if n ≤ m (4 + 4 * h) (3 * t) then 1 else if n ≤ m (4 + 4 * h) (3 * t + 1) then 2 else if n ≤ m (4 + 4 * h) (3 * t + 2) then 4 else if n ≤ m (4 + 4 * h) (3 * t) + m (4 + 4 * h) (3 * t + 1) then 3 else if n ≤ m (4 + 4 * h) (3 * t) + m (4 + 4 * h) (3 * t + 2) then 5 else if n ≤ m (4 + 4 * h) (3 * t + 1) + m (4 + 4 * h) (3 * t + 2) then 6 else if n ≤ m (4 + 4 * h) (3 * t) + m (4 + 4 * h) (3 * t + 1) + m (4 + 4 * h) (3 * t + 2) then 7 else 0) rfl ?_
  refine r_ite (fun q1 => ?_) (fun q1 => ?_)
  · refine r_istore f19_6 rfl (ls' := [some (.inr (.inl (some (3 + 4 * h)))), some (.inl t), some (.inl n), some (.inr (.inl (some 63))), some (.inl 0), some (.inl 1), none, none, none]) rfl ?_
    refine r_iload_n f19_8 rfl ?_
    refine r_istore f19_9 rfl (ls' := [some (.inr (.inl (some (3 + 4 * h)))), some (.inl t), some (.inl n), some (.inr (.inl (some 63))), some (.inl 0), some (.inl 1), some (.inl n), none, none]) rfl ?_
    refine r_iconst f19_11 rfl ?_
    refine r_istore f19_12 rfl (ls' := [some (.inr (.inl (some (3 + 4 * h)))), some (.inl t), some (.inl n), some (.inr (.inl (some 63))), some (.inl 0), some (.inl 1), some (.inl n), some (.inl 0), none]) rfl ?_
    refine r_iload f19_14 rfl ?_
    refine r_iconst f19_16 rfl ?_
    refine r_cge f19_17 (t := 91) (by decide) (fun h => absurd h (by omega)) (fun _ => ?_)
    refine r_iload f19_20 rfl ?_
    refine r_iload f19_22 rfl ?_
    refine r_ishr f19_24 (e := 1) (by decide) ?_
    refine r_iconst f19_25 rfl ?_
    refine r_iand f19_26 (e := 1) (by decide) ?_
    refine r_iconst f19_27 rfl ?_
    refine r_cne f19_28 (t := 50) (by decide) (fun h => absurd h (by omega)) (fun _ => ?_)
    refine r_iload f19_31 rfl ?_
    refine r_aload_n f19_33 rfl ?_
    refine r_getR f19_34 o19 F1_9 (gH_0 (h := h) (by omega) (by omega)) rfl ?_
    refine r_iload_n f19_37 rfl ?_
    refine r_iconst f19_38 rfl ?_
    refine r_imul f19_39 (e := 3 * t) (by omega) (by omega) (by omega) ?_
    refine r_iload f19_40 rfl ?_
    refine r_iadd f19_42 (e := 3 * t) (by omega) (by omega) (by omega) ?_
    refine r_iald f19_43 (kdH1 (h := h) (by omega) (by omega)) (by omega) (by omega) ?_
    refine r_min f19_44 o19 M1_36 (by simp) ?_
    refine r_top (e := n) (by rw [if_neg (by omega)]) ?_
    refine r_goto f19_47 (t := 51) (by decide) ?_
    refine r_istore f19_51 rfl (ls' := [some (.inr (.inl (some (3 + 4 * h)))), some (.inl t), some (.inl n), some (.inr (.inl (some 63))), some (.inl 0), some (.inl 1), some (.inl n), some (.inl 0), some (.inl n)]) rfl ?_
    refine r_aload_n f19_53 rfl ?_
    refine r_getR f19_54 o19 F1_9 (gH_0 (h := h) (by omega) (by omega)) rfl ?_
    refine r_iload_n f19_57 rfl ?_
    refine r_iconst f19_58 rfl ?_
    refine r_imul f19_59 (e := 3 * t) (by omega) (by omega) (by omega) ?_
    refine r_iload f19_60 rfl ?_
    refine r_iadd f19_62 (e := 3 * t) (by omega) (by omega) (by omega) ?_
    refine r_dup2 f19_63 ?_
    refine r_iald f19_64 (kdH1 (h := h) (by omega) (by omega)) (by omega) (by omega) ?_
    refine r_iload f19_65 rfl ?_
    refine r_isub f19_67 (e := m (4 + 4 * h) (3 * t) - n) (by omega) (by omega) (by omega) ?_
    refine r_iast f19_68 (kdH1 (h := h) (by omega) (by omega)) (by omega) (by omega) (by omega) ?_
    refine r_aload_n f19_69 rfl ?_
    refine r_iload f19_70 rfl ?_
    refine r_iload f19_72 rfl ?_
    refine r_iadd f19_74 (e := 0) (by omega) (by omega) (by omega) ?_
    refine r_iload f19_75 rfl ?_
    refine r_iast f19_77 kd63 (by omega) (by omega) (by omega) ?_
    refine r_iload f19_78 rfl ?_
    refine r_iload f19_80 rfl ?_
    refine r_isub f19_82 (e := 0) (by omega) (by omega) (by omega) ?_
    refine r_istore f19_83 rfl (ls' := [some (.inr (.inl (some (3 + 4 * h)))), some (.inl t), some (.inl n), some (.inr (.inl (some 63))), some (.inl 0), some (.inl 1), some (.inl 0), some (.inl 0), some (.inl n)]) rfl ?_
    refine r_iinc f19_85 rfl rfl rfl (e := 1) (by omega) (by omega) (by omega) (ls' := [some (.inr (.inl (some (3 + 4 * h)))), some (.inl t), some (.inl n), some (.inr (.inl (some 63))), some (.inl 0), some (.inl 1), some (.inl 0), some (.inl 1), some (.inl n)]) rfl ?_
    refine r_goto f19_88 (t := 14) (by decide) ?_
    refine r_iload f19_14 rfl ?_
    refine r_iconst f19_16 rfl ?_
    refine r_cge f19_17 (t := 91) (by decide) (fun h => absurd h (by omega)) (fun _ => ?_)
    refine r_iload f19_20 rfl ?_
    refine r_iload f19_22 rfl ?_
    refine r_ishr f19_24 (e := 0) (by decide) ?_
    refine r_iconst f19_25 rfl ?_
    refine r_iand f19_26 (e := 0) (by decide) ?_
    refine r_iconst f19_27 rfl ?_
    refine r_cne f19_28 (t := 50) (by decide) (fun _ => ?_) (fun h => absurd (by omega) h)
    refine r_iconst f19_50 rfl ?_
    refine r_istore f19_51 rfl (ls' := [some (.inr (.inl (some (3 + 4 * h)))), some (.inl t), some (.inl n), some (.inr (.inl (some 63))), some (.inl 0), some (.inl 1), some (.inl 0), some (.inl 1), some (.inl 0)]) rfl ?_
    refine r_aload_n f19_53 rfl ?_
    refine r_getR f19_54 o19 F1_9 (gH_0 (h := h) (by omega) (by omega)) rfl ?_
    refine r_iload_n f19_57 rfl ?_
    refine r_iconst f19_58 rfl ?_
    refine r_imul f19_59 (e := 3 * t) (by omega) (by omega) (by omega) ?_
    refine r_iload f19_60 rfl ?_
    refine r_iadd f19_62 (e := 3 * t + 1) (by omega) (by omega) (by omega) ?_
    refine r_dup2 f19_63 ?_
    refine r_iald f19_64 (kdH1 (h := h) (by omega) (by omega)) (by omega) (by omega) ?_
    refine r_top (e := m (4 + 4 * h) (3 * t + 1)) (by rw [zu_if, if_neg (by omega), zu_if, if_neg (by omega)]) ?_
    refine r_iload f19_65 rfl ?_
    refine r_isub f19_67 (e := m (4 + 4 * h) (3 * t + 1)) (by omega) (by omega) (by omega) ?_
    refine r_iast f19_68 (kdH1 (h := h) (by omega) (by omega)) (by omega) (by omega) (by omega) ?_
    refine r_aload_n f19_69 rfl ?_
    refine r_iload f19_70 rfl ?_
    refine r_iload f19_72 rfl ?_
    refine r_iadd f19_74 (e := 1) (by omega) (by omega) (by omega) ?_
    refine r_iload f19_75 rfl ?_
    refine r_iast f19_77 kd63 (by omega) (by omega) (by omega) ?_
    refine r_iload f19_78 rfl ?_
    refine r_iload f19_80 rfl ?_
    refine r_isub f19_82 (e := 0) (by omega) (by omega) (by omega) ?_
    refine r_istore f19_83 rfl (ls' := [some (.inr (.inl (some (3 + 4 * h)))), some (.inl t), some (.inl n), some (.inr (.inl (some 63))), some (.inl 0), some (.inl 1), some (.inl 0), some (.inl 1), some (.inl 0)]) rfl ?_
    refine r_iinc f19_85 rfl rfl rfl (e := 2) (by omega) (by omega) (by omega) (ls' := [some (.inr (.inl (some (3 + 4 * h)))), some (.inl t), some (.inl n), some (.inr (.inl (some 63))), some (.inl 0), some (.inl 1), some (.inl 0), some (.inl 2), some (.inl 0)]) rfl ?_
    refine r_goto f19_88 (t := 14) (by decide) ?_
    refine r_iload f19_14 rfl ?_
    refine r_iconst f19_16 rfl ?_
    refine r_cge f19_17 (t := 91) (by decide) (fun h => absurd h (by omega)) (fun _ => ?_)
    refine r_iload f19_20 rfl ?_
    refine r_iload f19_22 rfl ?_
    refine r_ishr f19_24 (e := 0) (by decide) ?_
    refine r_iconst f19_25 rfl ?_
    refine r_iand f19_26 (e := 0) (by decide) ?_
    refine r_iconst f19_27 rfl ?_
    refine r_cne f19_28 (t := 50) (by decide) (fun _ => ?_) (fun h => absurd (by omega) h)
    refine r_iconst f19_50 rfl ?_
    refine r_istore f19_51 rfl (ls' := [some (.inr (.inl (some (3 + 4 * h)))), some (.inl t), some (.inl n), some (.inr (.inl (some 63))), some (.inl 0), some (.inl 1), some (.inl 0), some (.inl 2), some (.inl 0)]) rfl ?_
    refine r_aload_n f19_53 rfl ?_
    refine r_getR f19_54 o19 F1_9 (gH_0 (h := h) (by omega) (by omega)) rfl ?_
    refine r_iload_n f19_57 rfl ?_
    refine r_iconst f19_58 rfl ?_
    refine r_imul f19_59 (e := 3 * t) (by omega) (by omega) (by omega) ?_
    refine r_iload f19_60 rfl ?_
    refine r_iadd f19_62 (e := 3 * t + 2) (by omega) (by omega) (by omega) ?_
    refine r_dup2 f19_63 ?_
    refine r_iald f19_64 (kdH1 (h := h) (by omega) (by omega)) (by omega) (by omega) ?_
    refine r_top (e := m (4 + 4 * h) (3 * t + 2)) (by rw [zu_if, if_neg (by omega), zu_if, if_neg (by omega), zu_if, if_neg (by omega), zu_if, if_neg (by omega)]) ?_
    refine r_iload f19_65 rfl ?_
    refine r_isub f19_67 (e := m (4 + 4 * h) (3 * t + 2)) (by omega) (by omega) (by omega) ?_
    refine r_iast f19_68 (kdH1 (h := h) (by omega) (by omega)) (by omega) (by omega) (by omega) ?_
    refine r_aload_n f19_69 rfl ?_
    refine r_iload f19_70 rfl ?_
    refine r_iload f19_72 rfl ?_
    refine r_iadd f19_74 (e := 2) (by omega) (by omega) (by omega) ?_
    refine r_iload f19_75 rfl ?_
    refine r_iast f19_77 kd63 (by omega) (by omega) (by omega) ?_
    refine r_iload f19_78 rfl ?_
    refine r_iload f19_80 rfl ?_
    refine r_isub f19_82 (e := 0) (by omega) (by omega) (by omega) ?_
    refine r_istore f19_83 rfl (ls' := [some (.inr (.inl (some (3 + 4 * h)))), some (.inl t), some (.inl n), some (.inr (.inl (some 63))), some (.inl 0), some (.inl 1), some (.inl 0), some (.inl 2), some (.inl 0)]) rfl ?_
    refine r_iinc f19_85 rfl rfl rfl (e := 3) (by omega) (by omega) (by omega) (ls' := [some (.inr (.inl (some (3 + 4 * h)))), some (.inl t), some (.inl n), some (.inr (.inl (some 63))), some (.inl 0), some (.inl 1), some (.inl 0), some (.inl 3), some (.inl 0)]) rfl ?_
    refine r_goto f19_88 (t := 14) (by decide) ?_
    refine r_iload f19_14 rfl ?_
    refine r_iconst f19_16 rfl ?_
    refine r_cge f19_17 (t := 91) (by decide) (fun _ => ?_) (fun h => absurd (by omega) h)
    exact r_vret f19_91 v19 ⟨rfl, by unfold XWB; rw [show m (4 + 4 * h) (3 * t) - zsh0 (m (4 + 4 * h) (3 * t)) (m (4 + 4 * h) (3 * t + 1)) (m (4 + 4 * h) (3 * t + 2)) n = m (4 + 4 * h) (3 * t) - n from by unfold zsh0; (repeat (first | rw [if_pos (by omega)] | rw [if_neg (by omega)])); try omega, show zsh0 (m (4 + 4 * h) (3 * t)) (m (4 + 4 * h) (3 * t + 1)) (m (4 + 4 * h) (3 * t + 2)) n = n from by unfold zsh0; (repeat (first | rw [if_pos (by omega)] | rw [if_neg (by omega)])); try omega, show m (4 + 4 * h) (3 * t + 1) - zsh1 (m (4 + 4 * h) (3 * t)) (m (4 + 4 * h) (3 * t + 1)) (m (4 + 4 * h) (3 * t + 2)) n = m (4 + 4 * h) (3 * t + 1) from by unfold zsh1; (repeat (first | rw [if_pos (by omega)] | rw [if_neg (by omega)])); try omega, show zsh1 (m (4 + 4 * h) (3 * t)) (m (4 + 4 * h) (3 * t + 1)) (m (4 + 4 * h) (3 * t + 2)) n = 0 from by unfold zsh1; (repeat (first | rw [if_pos (by omega)] | rw [if_neg (by omega)])); try omega, show m (4 + 4 * h) (3 * t + 2) - zsh2 (m (4 + 4 * h) (3 * t)) (m (4 + 4 * h) (3 * t + 1)) (m (4 + 4 * h) (3 * t + 2)) n = m (4 + 4 * h) (3 * t + 2) from by unfold zsh2; (repeat (first | rw [if_pos (by omega)] | rw [if_neg (by omega)])); try omega, show zsh2 (m (4 + 4 * h) (3 * t)) (m (4 + 4 * h) (3 * t + 1)) (m (4 + 4 * h) (3 * t + 2)) n = 0 from by unfold zsh2; (repeat (first | rw [if_pos (by omega)] | rw [if_neg (by omega)])); try omega]⟩
  · refine r_ite (fun q2 => ?_) (fun q2 => ?_)
    · refine r_istore f19_6 rfl (ls' := [some (.inr (.inl (some (3 + 4 * h)))), some (.inl t), some (.inl n), some (.inr (.inl (some 63))), some (.inl 0), some (.inl 2), none, none, none]) rfl ?_
      refine r_iload_n f19_8 rfl ?_
      refine r_istore f19_9 rfl (ls' := [some (.inr (.inl (some (3 + 4 * h)))), some (.inl t), some (.inl n), some (.inr (.inl (some 63))), some (.inl 0), some (.inl 2), some (.inl n), none, none]) rfl ?_
      refine r_iconst f19_11 rfl ?_
      refine r_istore f19_12 rfl (ls' := [some (.inr (.inl (some (3 + 4 * h)))), some (.inl t), some (.inl n), some (.inr (.inl (some 63))), some (.inl 0), some (.inl 2), some (.inl n), some (.inl 0), none]) rfl ?_
      refine r_iload f19_14 rfl ?_
      refine r_iconst f19_16 rfl ?_
      refine r_cge f19_17 (t := 91) (by decide) (fun h => absurd h (by omega)) (fun _ => ?_)
      refine r_iload f19_20 rfl ?_
      refine r_iload f19_22 rfl ?_
      refine r_ishr f19_24 (e := 2) (by decide) ?_
      refine r_iconst f19_25 rfl ?_
      refine r_iand f19_26 (e := 0) (by decide) ?_
      refine r_iconst f19_27 rfl ?_
      refine r_cne f19_28 (t := 50) (by decide) (fun _ => ?_) (fun h => absurd (by omega) h)
      refine r_iconst f19_50 rfl ?_
      refine r_istore f19_51 rfl (ls' := [some (.inr (.inl (some (3 + 4 * h)))), some (.inl t), some (.inl n), some (.inr (.inl (some 63))), some (.inl 0), some (.inl 2), some (.inl n), some (.inl 0), some (.inl 0)]) rfl ?_
      refine r_aload_n f19_53 rfl ?_
      refine r_getR f19_54 o19 F1_9 (gH_0 (h := h) (by omega) (by omega)) rfl ?_
      refine r_iload_n f19_57 rfl ?_
      refine r_iconst f19_58 rfl ?_
      refine r_imul f19_59 (e := 3 * t) (by omega) (by omega) (by omega) ?_
      refine r_iload f19_60 rfl ?_
      refine r_iadd f19_62 (e := 3 * t) (by omega) (by omega) (by omega) ?_
      refine r_dup2 f19_63 ?_
      refine r_iald f19_64 (kdH1 (h := h) (by omega) (by omega)) (by omega) (by omega) ?_
      refine r_iload f19_65 rfl ?_
      refine r_isub f19_67 (e := m (4 + 4 * h) (3 * t)) (by omega) (by omega) (by omega) ?_
      refine r_iast f19_68 (kdH1 (h := h) (by omega) (by omega)) (by omega) (by omega) (by omega) ?_
      refine r_aload_n f19_69 rfl ?_
      refine r_iload f19_70 rfl ?_
      refine r_iload f19_72 rfl ?_
      refine r_iadd f19_74 (e := 0) (by omega) (by omega) (by omega) ?_
      refine r_iload f19_75 rfl ?_
      refine r_iast f19_77 kd63 (by omega) (by omega) (by omega) ?_
      refine r_iload f19_78 rfl ?_
      refine r_iload f19_80 rfl ?_
      refine r_isub f19_82 (e := n) (by omega) (by omega) (by omega) ?_
      refine r_istore f19_83 rfl (ls' := [some (.inr (.inl (some (3 + 4 * h)))), some (.inl t), some (.inl n), some (.inr (.inl (some 63))), some (.inl 0), some (.inl 2), some (.inl n), some (.inl 0), some (.inl 0)]) rfl ?_
      refine r_iinc f19_85 rfl rfl rfl (e := 1) (by omega) (by omega) (by omega) (ls' := [some (.inr (.inl (some (3 + 4 * h)))), some (.inl t), some (.inl n), some (.inr (.inl (some 63))), some (.inl 0), some (.inl 2), some (.inl n), some (.inl 1), some (.inl 0)]) rfl ?_
      refine r_goto f19_88 (t := 14) (by decide) ?_
      refine r_iload f19_14 rfl ?_
      refine r_iconst f19_16 rfl ?_
      refine r_cge f19_17 (t := 91) (by decide) (fun h => absurd h (by omega)) (fun _ => ?_)
      refine r_iload f19_20 rfl ?_
      refine r_iload f19_22 rfl ?_
      refine r_ishr f19_24 (e := 1) (by decide) ?_
      refine r_iconst f19_25 rfl ?_
      refine r_iand f19_26 (e := 1) (by decide) ?_
      refine r_iconst f19_27 rfl ?_
      refine r_cne f19_28 (t := 50) (by decide) (fun h => absurd h (by omega)) (fun _ => ?_)
      refine r_iload f19_31 rfl ?_
      refine r_aload_n f19_33 rfl ?_
      refine r_getR f19_34 o19 F1_9 (gH_0 (h := h) (by omega) (by omega)) rfl ?_
      refine r_iload_n f19_37 rfl ?_
      refine r_iconst f19_38 rfl ?_
      refine r_imul f19_39 (e := 3 * t) (by omega) (by omega) (by omega) ?_
      refine r_iload f19_40 rfl ?_
      refine r_iadd f19_42 (e := 3 * t + 1) (by omega) (by omega) (by omega) ?_
      refine r_iald f19_43 (kdH1 (h := h) (by omega) (by omega)) (by omega) (by omega) ?_
      refine r_top (e := m (4 + 4 * h) (3 * t + 1)) (by rw [zu_if, if_neg (by omega), zu_if, if_neg (by omega)]) ?_
      refine r_min f19_44 o19 M1_36 (by simp) ?_
      refine r_top (e := n) (by rw [if_neg (by omega)]) ?_
      refine r_goto f19_47 (t := 51) (by decide) ?_
      refine r_istore f19_51 rfl (ls' := [some (.inr (.inl (some (3 + 4 * h)))), some (.inl t), some (.inl n), some (.inr (.inl (some 63))), some (.inl 0), some (.inl 2), some (.inl n), some (.inl 1), some (.inl n)]) rfl ?_
      refine r_aload_n f19_53 rfl ?_
      refine r_getR f19_54 o19 F1_9 (gH_0 (h := h) (by omega) (by omega)) rfl ?_
      refine r_iload_n f19_57 rfl ?_
      refine r_iconst f19_58 rfl ?_
      refine r_imul f19_59 (e := 3 * t) (by omega) (by omega) (by omega) ?_
      refine r_iload f19_60 rfl ?_
      refine r_iadd f19_62 (e := 3 * t + 1) (by omega) (by omega) (by omega) ?_
      refine r_dup2 f19_63 ?_
      refine r_iald f19_64 (kdH1 (h := h) (by omega) (by omega)) (by omega) (by omega) ?_
      refine r_top (e := m (4 + 4 * h) (3 * t + 1)) (by rw [zu_if, if_neg (by omega), zu_if, if_neg (by omega)]) ?_
      refine r_iload f19_65 rfl ?_
      refine r_isub f19_67 (e := m (4 + 4 * h) (3 * t + 1) - n) (by omega) (by omega) (by omega) ?_
      refine r_iast f19_68 (kdH1 (h := h) (by omega) (by omega)) (by omega) (by omega) (by omega) ?_
      refine r_aload_n f19_69 rfl ?_
      refine r_iload f19_70 rfl ?_
      refine r_iload f19_72 rfl ?_
      refine r_iadd f19_74 (e := 1) (by omega) (by omega) (by omega) ?_
      refine r_iload f19_75 rfl ?_
      refine r_iast f19_77 kd63 (by omega) (by omega) (by omega) ?_
      refine r_iload f19_78 rfl ?_
      refine r_iload f19_80 rfl ?_
      refine r_isub f19_82 (e := 0) (by omega) (by omega) (by omega) ?_
      refine r_istore f19_83 rfl (ls' := [some (.inr (.inl (some (3 + 4 * h)))), some (.inl t), some (.inl n), some (.inr (.inl (some 63))), some (.inl 0), some (.inl 2), some (.inl 0), some (.inl 1), some (.inl n)]) rfl ?_
      refine r_iinc f19_85 rfl rfl rfl (e := 2) (by omega) (by omega) (by omega) (ls' := [some (.inr (.inl (some (3 + 4 * h)))), some (.inl t), some (.inl n), some (.inr (.inl (some 63))), some (.inl 0), some (.inl 2), some (.inl 0), some (.inl 2), some (.inl n)]) rfl ?_
      refine r_goto f19_88 (t := 14) (by decide) ?_
      refine r_iload f19_14 rfl ?_
      refine r_iconst f19_16 rfl ?_
      refine r_cge f19_17 (t := 91) (by decide) (fun h => absurd h (by omega)) (fun _ => ?_)
      refine r_iload f19_20 rfl ?_
      refine r_iload f19_22 rfl ?_
      refine r_ishr f19_24 (e := 0) (by decide) ?_
      refine r_iconst f19_25 rfl ?_
      refine r_iand f19_26 (e := 0) (by decide) ?_
      refine r_iconst f19_27 rfl ?_
      refine r_cne f19_28 (t := 50) (by decide) (fun _ => ?_) (fun h => absurd (by omega) h)
      refine r_iconst f19_50 rfl ?_
      refine r_istore f19_51 rfl (ls' := [some (.inr (.inl (some (3 + 4 * h)))), some (.inl t), some (.inl n), some (.inr (.inl (some 63))), some (.inl 0), some (.inl 2), some (.inl 0), some (.inl 2), some (.inl 0)]) rfl ?_
      refine r_aload_n f19_53 rfl ?_
      refine r_getR f19_54 o19 F1_9 (gH_0 (h := h) (by omega) (by omega)) rfl ?_
      refine r_iload_n f19_57 rfl ?_
      refine r_iconst f19_58 rfl ?_
      refine r_imul f19_59 (e := 3 * t) (by omega) (by omega) (by omega) ?_
      refine r_iload f19_60 rfl ?_
      refine r_iadd f19_62 (e := 3 * t + 2) (by omega) (by omega) (by omega) ?_
      refine r_dup2 f19_63 ?_
      refine r_iald f19_64 (kdH1 (h := h) (by omega) (by omega)) (by omega) (by omega) ?_
      refine r_top (e := m (4 + 4 * h) (3 * t + 2)) (by rw [zu_if, if_neg (by omega), zu_if, if_neg (by omega), zu_if, if_neg (by omega), zu_if, if_neg (by omega)]) ?_
      refine r_iload f19_65 rfl ?_
      refine r_isub f19_67 (e := m (4 + 4 * h) (3 * t + 2)) (by omega) (by omega) (by omega) ?_
      refine r_iast f19_68 (kdH1 (h := h) (by omega) (by omega)) (by omega) (by omega) (by omega) ?_
      refine r_aload_n f19_69 rfl ?_
      refine r_iload f19_70 rfl ?_
      refine r_iload f19_72 rfl ?_
      refine r_iadd f19_74 (e := 2) (by omega) (by omega) (by omega) ?_
      refine r_iload f19_75 rfl ?_
      refine r_iast f19_77 kd63 (by omega) (by omega) (by omega) ?_
      refine r_iload f19_78 rfl ?_
      refine r_iload f19_80 rfl ?_
      refine r_isub f19_82 (e := 0) (by omega) (by omega) (by omega) ?_
      refine r_istore f19_83 rfl (ls' := [some (.inr (.inl (some (3 + 4 * h)))), some (.inl t), some (.inl n), some (.inr (.inl (some 63))), some (.inl 0), some (.inl 2), some (.inl 0), some (.inl 2), some (.inl 0)]) rfl ?_
      refine r_iinc f19_85 rfl rfl rfl (e := 3) (by omega) (by omega) (by omega) (ls' := [some (.inr (.inl (some (3 + 4 * h)))), some (.inl t), some (.inl n), some (.inr (.inl (some 63))), some (.inl 0), some (.inl 2), some (.inl 0), some (.inl 3), some (.inl 0)]) rfl ?_
      refine r_goto f19_88 (t := 14) (by decide) ?_
      refine r_iload f19_14 rfl ?_
      refine r_iconst f19_16 rfl ?_
      refine r_cge f19_17 (t := 91) (by decide) (fun _ => ?_) (fun h => absurd (by omega) h)
      exact r_vret f19_91 v19 ⟨rfl, by unfold XWB; rw [show m (4 + 4 * h) (3 * t) - zsh0 (m (4 + 4 * h) (3 * t)) (m (4 + 4 * h) (3 * t + 1)) (m (4 + 4 * h) (3 * t + 2)) n = m (4 + 4 * h) (3 * t) from by unfold zsh0; (repeat (first | rw [if_pos (by omega)] | rw [if_neg (by omega)])); try omega, show zsh0 (m (4 + 4 * h) (3 * t)) (m (4 + 4 * h) (3 * t + 1)) (m (4 + 4 * h) (3 * t + 2)) n = 0 from by unfold zsh0; (repeat (first | rw [if_pos (by omega)] | rw [if_neg (by omega)])); try omega, show m (4 + 4 * h) (3 * t + 1) - zsh1 (m (4 + 4 * h) (3 * t)) (m (4 + 4 * h) (3 * t + 1)) (m (4 + 4 * h) (3 * t + 2)) n = m (4 + 4 * h) (3 * t + 1) - n from by unfold zsh1; (repeat (first | rw [if_pos (by omega)] | rw [if_neg (by omega)])); try omega, show zsh1 (m (4 + 4 * h) (3 * t)) (m (4 + 4 * h) (3 * t + 1)) (m (4 + 4 * h) (3 * t + 2)) n = n from by unfold zsh1; (repeat (first | rw [if_pos (by omega)] | rw [if_neg (by omega)])); try omega, show m (4 + 4 * h) (3 * t + 2) - zsh2 (m (4 + 4 * h) (3 * t)) (m (4 + 4 * h) (3 * t + 1)) (m (4 + 4 * h) (3 * t + 2)) n = m (4 + 4 * h) (3 * t + 2) from by unfold zsh2; (repeat (first | rw [if_pos (by omega)] | rw [if_neg (by omega)])); try omega, show zsh2 (m (4 + 4 * h) (3 * t)) (m (4 + 4 * h) (3 * t + 1)) (m (4 + 4 * h) (3 * t + 2)) n = 0 from by unfold zsh2; (repeat (first | rw [if_pos (by omega)] | rw [if_neg (by omega)])); try omega]⟩
    · refine r_ite (fun q3 => ?_) (fun q3 => ?_)
      · refine r_istore f19_6 rfl (ls' := [some (.inr (.inl (some (3 + 4 * h)))), some (.inl t), some (.inl n), some (.inr (.inl (some 63))), some (.inl 0), some (.inl 4), none, none, none]) rfl ?_
        refine r_iload_n f19_8 rfl ?_
        refine r_istore f19_9 rfl (ls' := [some (.inr (.inl (some (3 + 4 * h)))), some (.inl t), some (.inl n), some (.inr (.inl (some 63))), some (.inl 0), some (.inl 4), some (.inl n), none, none]) rfl ?_
        refine r_iconst f19_11 rfl ?_
        refine r_istore f19_12 rfl (ls' := [some (.inr (.inl (some (3 + 4 * h)))), some (.inl t), some (.inl n), some (.inr (.inl (some 63))), some (.inl 0), some (.inl 4), some (.inl n), some (.inl 0), none]) rfl ?_
        refine r_iload f19_14 rfl ?_
        refine r_iconst f19_16 rfl ?_
        refine r_cge f19_17 (t := 91) (by decide) (fun h => absurd h (by omega)) (fun _ => ?_)
        refine r_iload f19_20 rfl ?_
        refine r_iload f19_22 rfl ?_
        refine r_ishr f19_24 (e := 4) (by decide) ?_
        refine r_iconst f19_25 rfl ?_
        refine r_iand f19_26 (e := 0) (by decide) ?_
        refine r_iconst f19_27 rfl ?_
        refine r_cne f19_28 (t := 50) (by decide) (fun _ => ?_) (fun h => absurd (by omega) h)
        refine r_iconst f19_50 rfl ?_
        refine r_istore f19_51 rfl (ls' := [some (.inr (.inl (some (3 + 4 * h)))), some (.inl t), some (.inl n), some (.inr (.inl (some 63))), some (.inl 0), some (.inl 4), some (.inl n), some (.inl 0), some (.inl 0)]) rfl ?_
        refine r_aload_n f19_53 rfl ?_
        refine r_getR f19_54 o19 F1_9 (gH_0 (h := h) (by omega) (by omega)) rfl ?_
        refine r_iload_n f19_57 rfl ?_
        refine r_iconst f19_58 rfl ?_
        refine r_imul f19_59 (e := 3 * t) (by omega) (by omega) (by omega) ?_
        refine r_iload f19_60 rfl ?_
        refine r_iadd f19_62 (e := 3 * t) (by omega) (by omega) (by omega) ?_
        refine r_dup2 f19_63 ?_
        refine r_iald f19_64 (kdH1 (h := h) (by omega) (by omega)) (by omega) (by omega) ?_
        refine r_iload f19_65 rfl ?_
        refine r_isub f19_67 (e := m (4 + 4 * h) (3 * t)) (by omega) (by omega) (by omega) ?_
        refine r_iast f19_68 (kdH1 (h := h) (by omega) (by omega)) (by omega) (by omega) (by omega) ?_
        refine r_aload_n f19_69 rfl ?_
        refine r_iload f19_70 rfl ?_
        refine r_iload f19_72 rfl ?_
        refine r_iadd f19_74 (e := 0) (by omega) (by omega) (by omega) ?_
        refine r_iload f19_75 rfl ?_
        refine r_iast f19_77 kd63 (by omega) (by omega) (by omega) ?_
        refine r_iload f19_78 rfl ?_
        refine r_iload f19_80 rfl ?_
        refine r_isub f19_82 (e := n) (by omega) (by omega) (by omega) ?_
        refine r_istore f19_83 rfl (ls' := [some (.inr (.inl (some (3 + 4 * h)))), some (.inl t), some (.inl n), some (.inr (.inl (some 63))), some (.inl 0), some (.inl 4), some (.inl n), some (.inl 0), some (.inl 0)]) rfl ?_
        refine r_iinc f19_85 rfl rfl rfl (e := 1) (by omega) (by omega) (by omega) (ls' := [some (.inr (.inl (some (3 + 4 * h)))), some (.inl t), some (.inl n), some (.inr (.inl (some 63))), some (.inl 0), some (.inl 4), some (.inl n), some (.inl 1), some (.inl 0)]) rfl ?_
        refine r_goto f19_88 (t := 14) (by decide) ?_
        refine r_iload f19_14 rfl ?_
        refine r_iconst f19_16 rfl ?_
        refine r_cge f19_17 (t := 91) (by decide) (fun h => absurd h (by omega)) (fun _ => ?_)
        refine r_iload f19_20 rfl ?_
        refine r_iload f19_22 rfl ?_
        refine r_ishr f19_24 (e := 2) (by decide) ?_
        refine r_iconst f19_25 rfl ?_
        refine r_iand f19_26 (e := 0) (by decide) ?_
        refine r_iconst f19_27 rfl ?_
        refine r_cne f19_28 (t := 50) (by decide) (fun _ => ?_) (fun h => absurd (by omega) h)
        refine r_iconst f19_50 rfl ?_
        refine r_istore f19_51 rfl (ls' := [some (.inr (.inl (some (3 + 4 * h)))), some (.inl t), some (.inl n), some (.inr (.inl (some 63))), some (.inl 0), some (.inl 4), some (.inl n), some (.inl 1), some (.inl 0)]) rfl ?_
        refine r_aload_n f19_53 rfl ?_
        refine r_getR f19_54 o19 F1_9 (gH_0 (h := h) (by omega) (by omega)) rfl ?_
        refine r_iload_n f19_57 rfl ?_
        refine r_iconst f19_58 rfl ?_
        refine r_imul f19_59 (e := 3 * t) (by omega) (by omega) (by omega) ?_
        refine r_iload f19_60 rfl ?_
        refine r_iadd f19_62 (e := 3 * t + 1) (by omega) (by omega) (by omega) ?_
        refine r_dup2 f19_63 ?_
        refine r_iald f19_64 (kdH1 (h := h) (by omega) (by omega)) (by omega) (by omega) ?_
        refine r_top (e := m (4 + 4 * h) (3 * t + 1)) (by rw [zu_if, if_neg (by omega), zu_if, if_neg (by omega)]) ?_
        refine r_iload f19_65 rfl ?_
        refine r_isub f19_67 (e := m (4 + 4 * h) (3 * t + 1)) (by omega) (by omega) (by omega) ?_
        refine r_iast f19_68 (kdH1 (h := h) (by omega) (by omega)) (by omega) (by omega) (by omega) ?_
        refine r_aload_n f19_69 rfl ?_
        refine r_iload f19_70 rfl ?_
        refine r_iload f19_72 rfl ?_
        refine r_iadd f19_74 (e := 1) (by omega) (by omega) (by omega) ?_
        refine r_iload f19_75 rfl ?_
        refine r_iast f19_77 kd63 (by omega) (by omega) (by omega) ?_
        refine r_iload f19_78 rfl ?_
        refine r_iload f19_80 rfl ?_
        refine r_isub f19_82 (e := n) (by omega) (by omega) (by omega) ?_
        refine r_istore f19_83 rfl (ls' := [some (.inr (.inl (some (3 + 4 * h)))), some (.inl t), some (.inl n), some (.inr (.inl (some 63))), some (.inl 0), some (.inl 4), some (.inl n), some (.inl 1), some (.inl 0)]) rfl ?_
        refine r_iinc f19_85 rfl rfl rfl (e := 2) (by omega) (by omega) (by omega) (ls' := [some (.inr (.inl (some (3 + 4 * h)))), some (.inl t), some (.inl n), some (.inr (.inl (some 63))), some (.inl 0), some (.inl 4), some (.inl n), some (.inl 2), some (.inl 0)]) rfl ?_
        refine r_goto f19_88 (t := 14) (by decide) ?_
        refine r_iload f19_14 rfl ?_
        refine r_iconst f19_16 rfl ?_
        refine r_cge f19_17 (t := 91) (by decide) (fun h => absurd h (by omega)) (fun _ => ?_)
        refine r_iload f19_20 rfl ?_
        refine r_iload f19_22 rfl ?_
        refine r_ishr f19_24 (e := 1) (by decide) ?_
        refine r_iconst f19_25 rfl ?_
        refine r_iand f19_26 (e := 1) (by decide) ?_
        refine r_iconst f19_27 rfl ?_
        refine r_cne f19_28 (t := 50) (by decide) (fun h => absurd h (by omega)) (fun _ => ?_)
        refine r_iload f19_31 rfl ?_
        refine r_aload_n f19_33 rfl ?_
        refine r_getR f19_34 o19 F1_9 (gH_0 (h := h) (by omega) (by omega)) rfl ?_
        refine r_iload_n f19_37 rfl ?_
        refine r_iconst f19_38 rfl ?_
        refine r_imul f19_39 (e := 3 * t) (by omega) (by omega) (by omega) ?_
        refine r_iload f19_40 rfl ?_
        refine r_iadd f19_42 (e := 3 * t + 2) (by omega) (by omega) (by omega) ?_
        refine r_iald f19_43 (kdH1 (h := h) (by omega) (by omega)) (by omega) (by omega) ?_
        refine r_top (e := m (4 + 4 * h) (3 * t + 2)) (by rw [zu_if, if_neg (by omega), zu_if, if_neg (by omega), zu_if, if_neg (by omega), zu_if, if_neg (by omega)]) ?_
        refine r_min f19_44 o19 M1_36 (by simp) ?_
        refine r_top (e := n) (by rw [if_neg (by omega)]) ?_
        refine r_goto f19_47 (t := 51) (by decide) ?_
        refine r_istore f19_51 rfl (ls' := [some (.inr (.inl (some (3 + 4 * h)))), some (.inl t), some (.inl n), some (.inr (.inl (some 63))), some (.inl 0), some (.inl 4), some (.inl n), some (.inl 2), some (.inl n)]) rfl ?_
        refine r_aload_n f19_53 rfl ?_
        refine r_getR f19_54 o19 F1_9 (gH_0 (h := h) (by omega) (by omega)) rfl ?_
        refine r_iload_n f19_57 rfl ?_
        refine r_iconst f19_58 rfl ?_
        refine r_imul f19_59 (e := 3 * t) (by omega) (by omega) (by omega) ?_
        refine r_iload f19_60 rfl ?_
        refine r_iadd f19_62 (e := 3 * t + 2) (by omega) (by omega) (by omega) ?_
        refine r_dup2 f19_63 ?_
        refine r_iald f19_64 (kdH1 (h := h) (by omega) (by omega)) (by omega) (by omega) ?_
        refine r_top (e := m (4 + 4 * h) (3 * t + 2)) (by rw [zu_if, if_neg (by omega), zu_if, if_neg (by omega), zu_if, if_neg (by omega), zu_if, if_neg (by omega)]) ?_
        refine r_iload f19_65 rfl ?_
        refine r_isub f19_67 (e := m (4 + 4 * h) (3 * t + 2) - n) (by omega) (by omega) (by omega) ?_
        refine r_iast f19_68 (kdH1 (h := h) (by omega) (by omega)) (by omega) (by omega) (by omega) ?_
        refine r_aload_n f19_69 rfl ?_
        refine r_iload f19_70 rfl ?_
        refine r_iload f19_72 rfl ?_
        refine r_iadd f19_74 (e := 2) (by omega) (by omega) (by omega) ?_
        refine r_iload f19_75 rfl ?_
        refine r_iast f19_77 kd63 (by omega) (by omega) (by omega) ?_
        refine r_iload f19_78 rfl ?_
        refine r_iload f19_80 rfl ?_
        refine r_isub f19_82 (e := 0) (by omega) (by omega) (by omega) ?_
        refine r_istore f19_83 rfl (ls' := [some (.inr (.inl (some (3 + 4 * h)))), some (.inl t), some (.inl n), some (.inr (.inl (some 63))), some (.inl 0), some (.inl 4), some (.inl 0), some (.inl 2), some (.inl n)]) rfl ?_
        refine r_iinc f19_85 rfl rfl rfl (e := 3) (by omega) (by omega) (by omega) (ls' := [some (.inr (.inl (some (3 + 4 * h)))), some (.inl t), some (.inl n), some (.inr (.inl (some 63))), some (.inl 0), some (.inl 4), some (.inl 0), some (.inl 3), some (.inl n)]) rfl ?_
        refine r_goto f19_88 (t := 14) (by decide) ?_
        refine r_iload f19_14 rfl ?_
        refine r_iconst f19_16 rfl ?_
        refine r_cge f19_17 (t := 91) (by decide) (fun _ => ?_) (fun h => absurd (by omega) h)
        exact r_vret f19_91 v19 ⟨rfl, by unfold XWB; rw [show m (4 + 4 * h) (3 * t) - zsh0 (m (4 + 4 * h) (3 * t)) (m (4 + 4 * h) (3 * t + 1)) (m (4 + 4 * h) (3 * t + 2)) n = m (4 + 4 * h) (3 * t) from by unfold zsh0; (repeat (first | rw [if_pos (by omega)] | rw [if_neg (by omega)])); try omega, show zsh0 (m (4 + 4 * h) (3 * t)) (m (4 + 4 * h) (3 * t + 1)) (m (4 + 4 * h) (3 * t + 2)) n = 0 from by unfold zsh0; (repeat (first | rw [if_pos (by omega)] | rw [if_neg (by omega)])); try omega, show m (4 + 4 * h) (3 * t + 1) - zsh1 (m (4 + 4 * h) (3 * t)) (m (4 + 4 * h) (3 * t + 1)) (m (4 + 4 * h) (3 * t + 2)) n = m (4 + 4 * h) (3 * t + 1) from by unfold zsh1; (repeat (first | rw [if_pos (by omega)] | rw [if_neg (by omega)])); try omega, show zsh1 (m (4 + 4 * h) (3 * t)) (m (4 + 4 * h) (3 * t + 1)) (m (4 + 4 * h) (3 * t + 2)) n = 0 from by unfold zsh1; (repeat (first | rw [if_pos (by omega)] | rw [if_neg (by omega)])); try omega, show m (4 + 4 * h) (3 * t + 2) - zsh2 (m (4 + 4 * h) (3 * t)) (m (4 + 4 * h) (3 * t + 1)) (m (4 + 4 * h) (3 * t + 2)) n = m (4 + 4 * h) (3 * t + 2) - n from by unfold zsh2; (repeat (first | rw [if_pos (by omega)] | rw [if_neg (by omega)])); try omega, show zsh2 (m (4 + 4 * h) (3 * t)) (m (4 + 4 * h) (3 * t + 1)) (m (4 + 4 * h) (3 * t + 2)) n = n from by unfold zsh2; (repeat (first | rw [if_pos (by omega)] | rw [if_neg (by omega)])); try omega]⟩
      · refine r_ite (fun q4 => ?_) (fun q4 => ?_)
        · refine r_istore f19_6 rfl (ls' := [some (.inr (.inl (some (3 + 4 * h)))), some (.inl t), some (.inl n), some (.inr (.inl (some 63))), some (.inl 0), some (.inl 3), none, none, none]) rfl ?_
          refine r_iload_n f19_8 rfl ?_
          refine r_istore f19_9 rfl (ls' := [some (.inr (.inl (some (3 + 4 * h)))), some (.inl t), some (.inl n), some (.inr (.inl (some 63))), some (.inl 0), some (.inl 3), some (.inl n), none, none]) rfl ?_
          refine r_iconst f19_11 rfl ?_
          refine r_istore f19_12 rfl (ls' := [some (.inr (.inl (some (3 + 4 * h)))), some (.inl t), some (.inl n), some (.inr (.inl (some 63))), some (.inl 0), some (.inl 3), some (.inl n), some (.inl 0), none]) rfl ?_
          refine r_iload f19_14 rfl ?_
          refine r_iconst f19_16 rfl ?_
          refine r_cge f19_17 (t := 91) (by decide) (fun h => absurd h (by omega)) (fun _ => ?_)
          refine r_iload f19_20 rfl ?_
          refine r_iload f19_22 rfl ?_
          refine r_ishr f19_24 (e := 3) (by decide) ?_
          refine r_iconst f19_25 rfl ?_
          refine r_iand f19_26 (e := 1) (by decide) ?_
          refine r_iconst f19_27 rfl ?_
          refine r_cne f19_28 (t := 50) (by decide) (fun h => absurd h (by omega)) (fun _ => ?_)
          refine r_iload f19_31 rfl ?_
          refine r_aload_n f19_33 rfl ?_
          refine r_getR f19_34 o19 F1_9 (gH_0 (h := h) (by omega) (by omega)) rfl ?_
          refine r_iload_n f19_37 rfl ?_
          refine r_iconst f19_38 rfl ?_
          refine r_imul f19_39 (e := 3 * t) (by omega) (by omega) (by omega) ?_
          refine r_iload f19_40 rfl ?_
          refine r_iadd f19_42 (e := 3 * t) (by omega) (by omega) (by omega) ?_
          refine r_iald f19_43 (kdH1 (h := h) (by omega) (by omega)) (by omega) (by omega) ?_
          refine r_min f19_44 o19 M1_36 (by simp) ?_
          refine r_top (e := m (4 + 4 * h) (3 * t)) (by rw [if_pos (by omega)]) ?_
          refine r_goto f19_47 (t := 51) (by decide) ?_
          refine r_istore f19_51 rfl (ls' := [some (.inr (.inl (some (3 + 4 * h)))), some (.inl t), some (.inl n), some (.inr (.inl (some 63))), some (.inl 0), some (.inl 3), some (.inl n), some (.inl 0), some (.inl (m (4 + 4 * h) (3 * t)))]) rfl ?_
          refine r_aload_n f19_53 rfl ?_
          refine r_getR f19_54 o19 F1_9 (gH_0 (h := h) (by omega) (by omega)) rfl ?_
          refine r_iload_n f19_57 rfl ?_
          refine r_iconst f19_58 rfl ?_
          refine r_imul f19_59 (e := 3 * t) (by omega) (by omega) (by omega) ?_
          refine r_iload f19_60 rfl ?_
          refine r_iadd f19_62 (e := 3 * t) (by omega) (by omega) (by omega) ?_
          refine r_dup2 f19_63 ?_
          refine r_iald f19_64 (kdH1 (h := h) (by omega) (by omega)) (by omega) (by omega) ?_
          refine r_iload f19_65 rfl ?_
          refine r_isub f19_67 (e := 0) (by omega) (by omega) (by omega) ?_
          refine r_iast f19_68 (kdH1 (h := h) (by omega) (by omega)) (by omega) (by omega) (by omega) ?_
          refine r_aload_n f19_69 rfl ?_
          refine r_iload f19_70 rfl ?_
          refine r_iload f19_72 rfl ?_
          refine r_iadd f19_74 (e := 0) (by omega) (by omega) (by omega) ?_
          refine r_iload f19_75 rfl ?_
          refine r_iast f19_77 kd63 (by omega) (by omega) (by omega) ?_
          refine r_iload f19_78 rfl ?_
          refine r_iload f19_80 rfl ?_
          refine r_isub f19_82 (e := n - m (4 + 4 * h) (3 * t)) (by omega) (by omega) (by omega) ?_
          refine r_istore f19_83 rfl (ls' := [some (.inr (.inl (some (3 + 4 * h)))), some (.inl t), some (.inl n), some (.inr (.inl (some 63))), some (.inl 0), some (.inl 3), some (.inl (n - m (4 + 4 * h) (3 * t))), some (.inl 0), some (.inl (m (4 + 4 * h) (3 * t)))]) rfl ?_
          refine r_iinc f19_85 rfl rfl rfl (e := 1) (by omega) (by omega) (by omega) (ls' := [some (.inr (.inl (some (3 + 4 * h)))), some (.inl t), some (.inl n), some (.inr (.inl (some 63))), some (.inl 0), some (.inl 3), some (.inl (n - m (4 + 4 * h) (3 * t))), some (.inl 1), some (.inl (m (4 + 4 * h) (3 * t)))]) rfl ?_
          refine r_goto f19_88 (t := 14) (by decide) ?_
          refine r_iload f19_14 rfl ?_
          refine r_iconst f19_16 rfl ?_
          refine r_cge f19_17 (t := 91) (by decide) (fun h => absurd h (by omega)) (fun _ => ?_)
          refine r_iload f19_20 rfl ?_
          refine r_iload f19_22 rfl ?_
          refine r_ishr f19_24 (e := 1) (by decide) ?_
          refine r_iconst f19_25 rfl ?_
          refine r_iand f19_26 (e := 1) (by decide) ?_
          refine r_iconst f19_27 rfl ?_
          refine r_cne f19_28 (t := 50) (by decide) (fun h => absurd h (by omega)) (fun _ => ?_)
          refine r_iload f19_31 rfl ?_
          refine r_aload_n f19_33 rfl ?_
          refine r_getR f19_34 o19 F1_9 (gH_0 (h := h) (by omega) (by omega)) rfl ?_
          refine r_iload_n f19_37 rfl ?_
          refine r_iconst f19_38 rfl ?_
          refine r_imul f19_39 (e := 3 * t) (by omega) (by omega) (by omega) ?_
          refine r_iload f19_40 rfl ?_
          refine r_iadd f19_42 (e := 3 * t + 1) (by omega) (by omega) (by omega) ?_
          refine r_iald f19_43 (kdH1 (h := h) (by omega) (by omega)) (by omega) (by omega) ?_
          refine r_top (e := m (4 + 4 * h) (3 * t + 1)) (by rw [zu_if, if_neg (by omega), zu_if, if_neg (by omega)]) ?_
          refine r_min f19_44 o19 M1_36 (by simp) ?_
          refine r_top (e := n - m (4 + 4 * h) (3 * t)) (by rw [if_neg (by omega)]) ?_
          refine r_goto f19_47 (t := 51) (by decide) ?_
          refine r_istore f19_51 rfl (ls' := [some (.inr (.inl (some (3 + 4 * h)))), some (.inl t), some (.inl n), some (.inr (.inl (some 63))), some (.inl 0), some (.inl 3), some (.inl (n - m (4 + 4 * h) (3 * t))), some (.inl 1), some (.inl (n - m (4 + 4 * h) (3 * t)))]) rfl ?_
          refine r_aload_n f19_53 rfl ?_
          refine r_getR f19_54 o19 F1_9 (gH_0 (h := h) (by omega) (by omega)) rfl ?_
          refine r_iload_n f19_57 rfl ?_
          refine r_iconst f19_58 rfl ?_
          refine r_imul f19_59 (e := 3 * t) (by omega) (by omega) (by omega) ?_
          refine r_iload f19_60 rfl ?_
          refine r_iadd f19_62 (e := 3 * t + 1) (by omega) (by omega) (by omega) ?_
          refine r_dup2 f19_63 ?_
          refine r_iald f19_64 (kdH1 (h := h) (by omega) (by omega)) (by omega) (by omega) ?_
          refine r_top (e := m (4 + 4 * h) (3 * t + 1)) (by rw [zu_if, if_neg (by omega), zu_if, if_neg (by omega)]) ?_
          refine r_iload f19_65 rfl ?_
          refine r_isub f19_67 (e := m (4 + 4 * h) (3 * t + 1) + m (4 + 4 * h) (3 * t) - n) (by omega) (by omega) (by omega) ?_
          refine r_iast f19_68 (kdH1 (h := h) (by omega) (by omega)) (by omega) (by omega) (by omega) ?_
          refine r_aload_n f19_69 rfl ?_
          refine r_iload f19_70 rfl ?_
          refine r_iload f19_72 rfl ?_
          refine r_iadd f19_74 (e := 1) (by omega) (by omega) (by omega) ?_
          refine r_iload f19_75 rfl ?_
          refine r_iast f19_77 kd63 (by omega) (by omega) (by omega) ?_
          refine r_iload f19_78 rfl ?_
          refine r_iload f19_80 rfl ?_
          refine r_isub f19_82 (e := 0) (by omega) (by omega) (by omega) ?_
          refine r_istore f19_83 rfl (ls' := [some (.inr (.inl (some (3 + 4 * h)))), some (.inl t), some (.inl n), some (.inr (.inl (some 63))), some (.inl 0), some (.inl 3), some (.inl 0), some (.inl 1), some (.inl (n - m (4 + 4 * h) (3 * t)))]) rfl ?_
          refine r_iinc f19_85 rfl rfl rfl (e := 2) (by omega) (by omega) (by omega) (ls' := [some (.inr (.inl (some (3 + 4 * h)))), some (.inl t), some (.inl n), some (.inr (.inl (some 63))), some (.inl 0), some (.inl 3), some (.inl 0), some (.inl 2), some (.inl (n - m (4 + 4 * h) (3 * t)))]) rfl ?_
          refine r_goto f19_88 (t := 14) (by decide) ?_
          refine r_iload f19_14 rfl ?_
          refine r_iconst f19_16 rfl ?_
          refine r_cge f19_17 (t := 91) (by decide) (fun h => absurd h (by omega)) (fun _ => ?_)
          refine r_iload f19_20 rfl ?_
          refine r_iload f19_22 rfl ?_
          refine r_ishr f19_24 (e := 0) (by decide) ?_
          refine r_iconst f19_25 rfl ?_
          refine r_iand f19_26 (e := 0) (by decide) ?_
          refine r_iconst f19_27 rfl ?_
          refine r_cne f19_28 (t := 50) (by decide) (fun _ => ?_) (fun h => absurd (by omega) h)
          refine r_iconst f19_50 rfl ?_
          refine r_istore f19_51 rfl (ls' := [some (.inr (.inl (some (3 + 4 * h)))), some (.inl t), some (.inl n), some (.inr (.inl (some 63))), some (.inl 0), some (.inl 3), some (.inl 0), some (.inl 2), some (.inl 0)]) rfl ?_
          refine r_aload_n f19_53 rfl ?_
          refine r_getR f19_54 o19 F1_9 (gH_0 (h := h) (by omega) (by omega)) rfl ?_
          refine r_iload_n f19_57 rfl ?_
          refine r_iconst f19_58 rfl ?_
          refine r_imul f19_59 (e := 3 * t) (by omega) (by omega) (by omega) ?_
          refine r_iload f19_60 rfl ?_
          refine r_iadd f19_62 (e := 3 * t + 2) (by omega) (by omega) (by omega) ?_
          refine r_dup2 f19_63 ?_
          refine r_iald f19_64 (kdH1 (h := h) (by omega) (by omega)) (by omega) (by omega) ?_
          refine r_top (e := m (4 + 4 * h) (3 * t + 2)) (by rw [zu_if, if_neg (by omega), zu_if, if_neg (by omega), zu_if, if_neg (by omega), zu_if, if_neg (by omega)]) ?_
          refine r_iload f19_65 rfl ?_
          refine r_isub f19_67 (e := m (4 + 4 * h) (3 * t + 2)) (by omega) (by omega) (by omega) ?_
          refine r_iast f19_68 (kdH1 (h := h) (by omega) (by omega)) (by omega) (by omega) (by omega) ?_
          refine r_aload_n f19_69 rfl ?_
          refine r_iload f19_70 rfl ?_
          refine r_iload f19_72 rfl ?_
          refine r_iadd f19_74 (e := 2) (by omega) (by omega) (by omega) ?_
          refine r_iload f19_75 rfl ?_
          refine r_iast f19_77 kd63 (by omega) (by omega) (by omega) ?_
          refine r_iload f19_78 rfl ?_
          refine r_iload f19_80 rfl ?_
          refine r_isub f19_82 (e := 0) (by omega) (by omega) (by omega) ?_
          refine r_istore f19_83 rfl (ls' := [some (.inr (.inl (some (3 + 4 * h)))), some (.inl t), some (.inl n), some (.inr (.inl (some 63))), some (.inl 0), some (.inl 3), some (.inl 0), some (.inl 2), some (.inl 0)]) rfl ?_
          refine r_iinc f19_85 rfl rfl rfl (e := 3) (by omega) (by omega) (by omega) (ls' := [some (.inr (.inl (some (3 + 4 * h)))), some (.inl t), some (.inl n), some (.inr (.inl (some 63))), some (.inl 0), some (.inl 3), some (.inl 0), some (.inl 3), some (.inl 0)]) rfl ?_
          refine r_goto f19_88 (t := 14) (by decide) ?_
          refine r_iload f19_14 rfl ?_
          refine r_iconst f19_16 rfl ?_
          refine r_cge f19_17 (t := 91) (by decide) (fun _ => ?_) (fun h => absurd (by omega) h)
          exact r_vret f19_91 v19 ⟨rfl, by unfold XWB; rw [show m (4 + 4 * h) (3 * t) - zsh0 (m (4 + 4 * h) (3 * t)) (m (4 + 4 * h) (3 * t + 1)) (m (4 + 4 * h) (3 * t + 2)) n = 0 from by unfold zsh0; (repeat (first | rw [if_pos (by omega)] | rw [if_neg (by omega)])); try omega, show zsh0 (m (4 + 4 * h) (3 * t)) (m (4 + 4 * h) (3 * t + 1)) (m (4 + 4 * h) (3 * t + 2)) n = m (4 + 4 * h) (3 * t) from by unfold zsh0; (repeat (first | rw [if_pos (by omega)] | rw [if_neg (by omega)])); try omega, show m (4 + 4 * h) (3 * t + 1) - zsh1 (m (4 + 4 * h) (3 * t)) (m (4 + 4 * h) (3 * t + 1)) (m (4 + 4 * h) (3 * t + 2)) n = m (4 + 4 * h) (3 * t + 1) + m (4 + 4 * h) (3 * t) - n from by unfold zsh1; (repeat (first | rw [if_pos (by omega)] | rw [if_neg (by omega)])); try omega, show zsh1 (m (4 + 4 * h) (3 * t)) (m (4 + 4 * h) (3 * t + 1)) (m (4 + 4 * h) (3 * t + 2)) n = n - m (4 + 4 * h) (3 * t) from by unfold zsh1; (repeat (first | rw [if_pos (by omega)] | rw [if_neg (by omega)])); try omega, show m (4 + 4 * h) (3 * t + 2) - zsh2 (m (4 + 4 * h) (3 * t)) (m (4 + 4 * h) (3 * t + 1)) (m (4 + 4 * h) (3 * t + 2)) n = m (4 + 4 * h) (3 * t + 2) from by unfold zsh2; (repeat (first | rw [if_pos (by omega)] | rw [if_neg (by omega)])); try omega, show zsh2 (m (4 + 4 * h) (3 * t)) (m (4 + 4 * h) (3 * t + 1)) (m (4 + 4 * h) (3 * t + 2)) n = 0 from by unfold zsh2; (repeat (first | rw [if_pos (by omega)] | rw [if_neg (by omega)])); try omega]⟩
        · refine r_ite (fun q5 => ?_) (fun q5 => ?_)
          · refine r_istore f19_6 rfl (ls' := [some (.inr (.inl (some (3 + 4 * h)))), some (.inl t), some (.inl n), some (.inr (.inl (some 63))), some (.inl 0), some (.inl 5), none, none, none]) rfl ?_
            refine r_iload_n f19_8 rfl ?_
            refine r_istore f19_9 rfl (ls' := [some (.inr (.inl (some (3 + 4 * h)))), some (.inl t), some (.inl n), some (.inr (.inl (some 63))), some (.inl 0), some (.inl 5), some (.inl n), none, none]) rfl ?_
            refine r_iconst f19_11 rfl ?_
            refine r_istore f19_12 rfl (ls' := [some (.inr (.inl (some (3 + 4 * h)))), some (.inl t), some (.inl n), some (.inr (.inl (some 63))), some (.inl 0), some (.inl 5), some (.inl n), some (.inl 0), none]) rfl ?_
            refine r_iload f19_14 rfl ?_
            refine r_iconst f19_16 rfl ?_
            refine r_cge f19_17 (t := 91) (by decide) (fun h => absurd h (by omega)) (fun _ => ?_)
            refine r_iload f19_20 rfl ?_
            refine r_iload f19_22 rfl ?_
            refine r_ishr f19_24 (e := 5) (by decide) ?_
            refine r_iconst f19_25 rfl ?_
            refine r_iand f19_26 (e := 1) (by decide) ?_
            refine r_iconst f19_27 rfl ?_
            refine r_cne f19_28 (t := 50) (by decide) (fun h => absurd h (by omega)) (fun _ => ?_)
            refine r_iload f19_31 rfl ?_
            refine r_aload_n f19_33 rfl ?_
            refine r_getR f19_34 o19 F1_9 (gH_0 (h := h) (by omega) (by omega)) rfl ?_
            refine r_iload_n f19_37 rfl ?_
            refine r_iconst f19_38 rfl ?_
            refine r_imul f19_39 (e := 3 * t) (by omega) (by omega) (by omega) ?_
            refine r_iload f19_40 rfl ?_
            refine r_iadd f19_42 (e := 3 * t) (by omega) (by omega) (by omega) ?_
            refine r_iald f19_43 (kdH1 (h := h) (by omega) (by omega)) (by omega) (by omega) ?_
            refine r_min f19_44 o19 M1_36 (by simp) ?_
            refine r_top (e := m (4 + 4 * h) (3 * t)) (by rw [if_pos (by omega)]) ?_
            refine r_goto f19_47 (t := 51) (by decide) ?_
            refine r_istore f19_51 rfl (ls' := [some (.inr (.inl (some (3 + 4 * h)))), some (.inl t), some (.inl n), some (.inr (.inl (some 63))), some (.inl 0), some (.inl 5), some (.inl n), some (.inl 0), some (.inl (m (4 + 4 * h) (3 * t)))]) rfl ?_
            refine r_aload_n f19_53 rfl ?_
            refine r_getR f19_54 o19 F1_9 (gH_0 (h := h) (by omega) (by omega)) rfl ?_
            refine r_iload_n f19_57 rfl ?_
            refine r_iconst f19_58 rfl ?_
            refine r_imul f19_59 (e := 3 * t) (by omega) (by omega) (by omega) ?_
            refine r_iload f19_60 rfl ?_
            refine r_iadd f19_62 (e := 3 * t) (by omega) (by omega) (by omega) ?_
            refine r_dup2 f19_63 ?_
            refine r_iald f19_64 (kdH1 (h := h) (by omega) (by omega)) (by omega) (by omega) ?_
            refine r_iload f19_65 rfl ?_
            refine r_isub f19_67 (e := 0) (by omega) (by omega) (by omega) ?_
            refine r_iast f19_68 (kdH1 (h := h) (by omega) (by omega)) (by omega) (by omega) (by omega) ?_
            refine r_aload_n f19_69 rfl ?_
            refine r_iload f19_70 rfl ?_
            refine r_iload f19_72 rfl ?_
            refine r_iadd f19_74 (e := 0) (by omega) (by omega) (by omega) ?_
            refine r_iload f19_75 rfl ?_
            refine r_iast f19_77 kd63 (by omega) (by omega) (by omega) ?_
            refine r_iload f19_78 rfl ?_
            refine r_iload f19_80 rfl ?_
            refine r_isub f19_82 (e := n - m (4 + 4 * h) (3 * t)) (by omega) (by omega) (by omega) ?_
            refine r_istore f19_83 rfl (ls' := [some (.inr (.inl (some (3 + 4 * h)))), some (.inl t), some (.inl n), some (.inr (.inl (some 63))), some (.inl 0), some (.inl 5), some (.inl (n - m (4 + 4 * h) (3 * t))), some (.inl 0), some (.inl (m (4 + 4 * h) (3 * t)))]) rfl ?_
            refine r_iinc f19_85 rfl rfl rfl (e := 1) (by omega) (by omega) (by omega) (ls' := [some (.inr (.inl (some (3 + 4 * h)))), some (.inl t), some (.inl n), some (.inr (.inl (some 63))), some (.inl 0), some (.inl 5), some (.inl (n - m (4 + 4 * h) (3 * t))), some (.inl 1), some (.inl (m (4 + 4 * h) (3 * t)))]) rfl ?_
            refine r_goto f19_88 (t := 14) (by decide) ?_
            refine r_iload f19_14 rfl ?_
            refine r_iconst f19_16 rfl ?_
            refine r_cge f19_17 (t := 91) (by decide) (fun h => absurd h (by omega)) (fun _ => ?_)
            refine r_iload f19_20 rfl ?_
            refine r_iload f19_22 rfl ?_
            refine r_ishr f19_24 (e := 2) (by decide) ?_
            refine r_iconst f19_25 rfl ?_
            refine r_iand f19_26 (e := 0) (by decide) ?_
            refine r_iconst f19_27 rfl ?_
            refine r_cne f19_28 (t := 50) (by decide) (fun _ => ?_) (fun h => absurd (by omega) h)
            refine r_iconst f19_50 rfl ?_
            refine r_istore f19_51 rfl (ls' := [some (.inr (.inl (some (3 + 4 * h)))), some (.inl t), some (.inl n), some (.inr (.inl (some 63))), some (.inl 0), some (.inl 5), some (.inl (n - m (4 + 4 * h) (3 * t))), some (.inl 1), some (.inl 0)]) rfl ?_
            refine r_aload_n f19_53 rfl ?_
            refine r_getR f19_54 o19 F1_9 (gH_0 (h := h) (by omega) (by omega)) rfl ?_
            refine r_iload_n f19_57 rfl ?_
            refine r_iconst f19_58 rfl ?_
            refine r_imul f19_59 (e := 3 * t) (by omega) (by omega) (by omega) ?_
            refine r_iload f19_60 rfl ?_
            refine r_iadd f19_62 (e := 3 * t + 1) (by omega) (by omega) (by omega) ?_
            refine r_dup2 f19_63 ?_
            refine r_iald f19_64 (kdH1 (h := h) (by omega) (by omega)) (by omega) (by omega) ?_
            refine r_top (e := m (4 + 4 * h) (3 * t + 1)) (by rw [zu_if, if_neg (by omega), zu_if, if_neg (by omega)]) ?_
            refine r_iload f19_65 rfl ?_
            refine r_isub f19_67 (e := m (4 + 4 * h) (3 * t + 1)) (by omega) (by omega) (by omega) ?_
            refine r_iast f19_68 (kdH1 (h := h) (by omega) (by omega)) (by omega) (by omega) (by omega) ?_
            refine r_aload_n f19_69 rfl ?_
            refine r_iload f19_70 rfl ?_
            refine r_iload f19_72 rfl ?_
            refine r_iadd f19_74 (e := 1) (by omega) (by omega) (by omega) ?_
            refine r_iload f19_75 rfl ?_
            refine r_iast f19_77 kd63 (by omega) (by omega) (by omega) ?_
            refine r_iload f19_78 rfl ?_
            refine r_iload f19_80 rfl ?_
            refine r_isub f19_82 (e := n - m (4 + 4 * h) (3 * t)) (by omega) (by omega) (by omega) ?_
            refine r_istore f19_83 rfl (ls' := [some (.inr (.inl (some (3 + 4 * h)))), some (.inl t), some (.inl n), some (.inr (.inl (some 63))), some (.inl 0), some (.inl 5), some (.inl (n - m (4 + 4 * h) (3 * t))), some (.inl 1), some (.inl 0)]) rfl ?_
            refine r_iinc f19_85 rfl rfl rfl (e := 2) (by omega) (by omega) (by omega) (ls' := [some (.inr (.inl (some (3 + 4 * h)))), some (.inl t), some (.inl n), some (.inr (.inl (some 63))), some (.inl 0), some (.inl 5), some (.inl (n - m (4 + 4 * h) (3 * t))), some (.inl 2), some (.inl 0)]) rfl ?_
            refine r_goto f19_88 (t := 14) (by decide) ?_
            refine r_iload f19_14 rfl ?_
            refine r_iconst f19_16 rfl ?_
            refine r_cge f19_17 (t := 91) (by decide) (fun h => absurd h (by omega)) (fun _ => ?_)
            refine r_iload f19_20 rfl ?_
            refine r_iload f19_22 rfl ?_
            refine r_ishr f19_24 (e := 1) (by decide) ?_
            refine r_iconst f19_25 rfl ?_
            refine r_iand f19_26 (e := 1) (by decide) ?_
            refine r_iconst f19_27 rfl ?_
            refine r_cne f19_28 (t := 50) (by decide) (fun h => absurd h (by omega)) (fun _ => ?_)
            refine r_iload f19_31 rfl ?_
            refine r_aload_n f19_33 rfl ?_
            refine r_getR f19_34 o19 F1_9 (gH_0 (h := h) (by omega) (by omega)) rfl ?_
            refine r_iload_n f19_37 rfl ?_
            refine r_iconst f19_38 rfl ?_
            refine r_imul f19_39 (e := 3 * t) (by omega) (by omega) (by omega) ?_
            refine r_iload f19_40 rfl ?_
            refine r_iadd f19_42 (e := 3 * t + 2) (by omega) (by omega) (by omega) ?_
            refine r_iald f19_43 (kdH1 (h := h) (by omega) (by omega)) (by omega) (by omega) ?_
            refine r_top (e := m (4 + 4 * h) (3 * t + 2)) (by rw [zu_if, if_neg (by omega), zu_if, if_neg (by omega), zu_if, if_neg (by omega), zu_if, if_neg (by omega)]) ?_
            refine r_min f19_44 o19 M1_36 (by simp) ?_
            refine r_top (e := n - m (4 + 4 * h) (3 * t)) (by rw [if_neg (by omega)]) ?_
            refine r_goto f19_47 (t := 51) (by decide) ?_
            refine r_istore f19_51 rfl (ls' := [some (.inr (.inl (some (3 + 4 * h)))), some (.inl t), some (.inl n), some (.inr (.inl (some 63))), some (.inl 0), some (.inl 5), some (.inl (n - m (4 + 4 * h) (3 * t))), some (.inl 2), some (.inl (n - m (4 + 4 * h) (3 * t)))]) rfl ?_
            refine r_aload_n f19_53 rfl ?_
            refine r_getR f19_54 o19 F1_9 (gH_0 (h := h) (by omega) (by omega)) rfl ?_
            refine r_iload_n f19_57 rfl ?_
            refine r_iconst f19_58 rfl ?_
            refine r_imul f19_59 (e := 3 * t) (by omega) (by omega) (by omega) ?_
            refine r_iload f19_60 rfl ?_
            refine r_iadd f19_62 (e := 3 * t + 2) (by omega) (by omega) (by omega) ?_
            refine r_dup2 f19_63 ?_
            refine r_iald f19_64 (kdH1 (h := h) (by omega) (by omega)) (by omega) (by omega) ?_
            refine r_top (e := m (4 + 4 * h) (3 * t + 2)) (by rw [zu_if, if_neg (by omega), zu_if, if_neg (by omega), zu_if, if_neg (by omega), zu_if, if_neg (by omega)]) ?_
            refine r_iload f19_65 rfl ?_
            refine r_isub f19_67 (e := m (4 + 4 * h) (3 * t + 2) + m (4 + 4 * h) (3 * t) - n) (by omega) (by omega) (by omega) ?_
            refine r_iast f19_68 (kdH1 (h := h) (by omega) (by omega)) (by omega) (by omega) (by omega) ?_
            refine r_aload_n f19_69 rfl ?_
            refine r_iload f19_70 rfl ?_
            refine r_iload f19_72 rfl ?_
            refine r_iadd f19_74 (e := 2) (by omega) (by omega) (by omega) ?_
            refine r_iload f19_75 rfl ?_
            refine r_iast f19_77 kd63 (by omega) (by omega) (by omega) ?_
            refine r_iload f19_78 rfl ?_
            refine r_iload f19_80 rfl ?_
            refine r_isub f19_82 (e := 0) (by omega) (by omega) (by omega) ?_
            refine r_istore f19_83 rfl (ls' := [some (.inr (.inl (some (3 + 4 * h)))), some (.inl t), some (.inl n), some (.inr (.inl (some 63))), some (.inl 0), some (.inl 5), some (.inl 0), some (.inl 2), some (.inl (n - m (4 + 4 * h) (3 * t)))]) rfl ?_
            refine r_iinc f19_85 rfl rfl rfl (e := 3) (by omega) (by omega) (by omega) (ls' := [some (.inr (.inl (some (3 + 4 * h)))), some (.inl t), some (.inl n), some (.inr (.inl (some 63))), some (.inl 0), some (.inl 5), some (.inl 0), some (.inl 3), some (.inl (n - m (4 + 4 * h) (3 * t)))]) rfl ?_
            refine r_goto f19_88 (t := 14) (by decide) ?_
            refine r_iload f19_14 rfl ?_
            refine r_iconst f19_16 rfl ?_
            refine r_cge f19_17 (t := 91) (by decide) (fun _ => ?_) (fun h => absurd (by omega) h)
            exact r_vret f19_91 v19 ⟨rfl, by unfold XWB; rw [show m (4 + 4 * h) (3 * t) - zsh0 (m (4 + 4 * h) (3 * t)) (m (4 + 4 * h) (3 * t + 1)) (m (4 + 4 * h) (3 * t + 2)) n = 0 from by unfold zsh0; (repeat (first | rw [if_pos (by omega)] | rw [if_neg (by omega)])); try omega, show zsh0 (m (4 + 4 * h) (3 * t)) (m (4 + 4 * h) (3 * t + 1)) (m (4 + 4 * h) (3 * t + 2)) n = m (4 + 4 * h) (3 * t) from by unfold zsh0; (repeat (first | rw [if_pos (by omega)] | rw [if_neg (by omega)])); try omega, show m (4 + 4 * h) (3 * t + 1) - zsh1 (m (4 + 4 * h) (3 * t)) (m (4 + 4 * h) (3 * t + 1)) (m (4 + 4 * h) (3 * t + 2)) n = m (4 + 4 * h) (3 * t + 1) from by unfold zsh1; (repeat (first | rw [if_pos (by omega)] | rw [if_neg (by omega)])); try omega, show zsh1 (m (4 + 4 * h) (3 * t)) (m (4 + 4 * h) (3 * t + 1)) (m (4 + 4 * h) (3 * t + 2)) n = 0 from by unfold zsh1; (repeat (first | rw [if_pos (by omega)] | rw [if_neg (by omega)])); try omega, show m (4 + 4 * h) (3 * t + 2) - zsh2 (m (4 + 4 * h) (3 * t)) (m (4 + 4 * h) (3 * t + 1)) (m (4 + 4 * h) (3 * t + 2)) n = m (4 + 4 * h) (3 * t + 2) + m (4 + 4 * h) (3 * t) - n from by unfold zsh2; (repeat (first | rw [if_pos (by omega)] | rw [if_neg (by omega)])); try omega, show zsh2 (m (4 + 4 * h) (3 * t)) (m (4 + 4 * h) (3 * t + 1)) (m (4 + 4 * h) (3 * t + 2)) n = n - m (4 + 4 * h) (3 * t) from by unfold zsh2; (repeat (first | rw [if_pos (by omega)] | rw [if_neg (by omega)])); try omega]⟩
          · refine r_ite (fun q6 => ?_) (fun q6 => ?_)
            · refine r_istore f19_6 rfl (ls' := [some (.inr (.inl (some (3 + 4 * h)))), some (.inl t), some (.inl n), some (.inr (.inl (some 63))), some (.inl 0), some (.inl 6), none, none, none]) rfl ?_
              refine r_iload_n f19_8 rfl ?_
              refine r_istore f19_9 rfl (ls' := [some (.inr (.inl (some (3 + 4 * h)))), some (.inl t), some (.inl n), some (.inr (.inl (some 63))), some (.inl 0), some (.inl 6), some (.inl n), none, none]) rfl ?_
              refine r_iconst f19_11 rfl ?_
              refine r_istore f19_12 rfl (ls' := [some (.inr (.inl (some (3 + 4 * h)))), some (.inl t), some (.inl n), some (.inr (.inl (some 63))), some (.inl 0), some (.inl 6), some (.inl n), some (.inl 0), none]) rfl ?_
              refine r_iload f19_14 rfl ?_
              refine r_iconst f19_16 rfl ?_
              refine r_cge f19_17 (t := 91) (by decide) (fun h => absurd h (by omega)) (fun _ => ?_)
              refine r_iload f19_20 rfl ?_
              refine r_iload f19_22 rfl ?_
              refine r_ishr f19_24 (e := 6) (by decide) ?_
              refine r_iconst f19_25 rfl ?_
              refine r_iand f19_26 (e := 0) (by decide) ?_
              refine r_iconst f19_27 rfl ?_
              refine r_cne f19_28 (t := 50) (by decide) (fun _ => ?_) (fun h => absurd (by omega) h)
              refine r_iconst f19_50 rfl ?_
              refine r_istore f19_51 rfl (ls' := [some (.inr (.inl (some (3 + 4 * h)))), some (.inl t), some (.inl n), some (.inr (.inl (some 63))), some (.inl 0), some (.inl 6), some (.inl n), some (.inl 0), some (.inl 0)]) rfl ?_
              refine r_aload_n f19_53 rfl ?_
              refine r_getR f19_54 o19 F1_9 (gH_0 (h := h) (by omega) (by omega)) rfl ?_
              refine r_iload_n f19_57 rfl ?_
              refine r_iconst f19_58 rfl ?_
              refine r_imul f19_59 (e := 3 * t) (by omega) (by omega) (by omega) ?_
              refine r_iload f19_60 rfl ?_
              refine r_iadd f19_62 (e := 3 * t) (by omega) (by omega) (by omega) ?_
              refine r_dup2 f19_63 ?_
              refine r_iald f19_64 (kdH1 (h := h) (by omega) (by omega)) (by omega) (by omega) ?_
              refine r_iload f19_65 rfl ?_
              refine r_isub f19_67 (e := m (4 + 4 * h) (3 * t)) (by omega) (by omega) (by omega) ?_
              refine r_iast f19_68 (kdH1 (h := h) (by omega) (by omega)) (by omega) (by omega) (by omega) ?_
              refine r_aload_n f19_69 rfl ?_
              refine r_iload f19_70 rfl ?_
              refine r_iload f19_72 rfl ?_
              refine r_iadd f19_74 (e := 0) (by omega) (by omega) (by omega) ?_
              refine r_iload f19_75 rfl ?_
              refine r_iast f19_77 kd63 (by omega) (by omega) (by omega) ?_
              refine r_iload f19_78 rfl ?_
              refine r_iload f19_80 rfl ?_
              refine r_isub f19_82 (e := n) (by omega) (by omega) (by omega) ?_
              refine r_istore f19_83 rfl (ls' := [some (.inr (.inl (some (3 + 4 * h)))), some (.inl t), some (.inl n), some (.inr (.inl (some 63))), some (.inl 0), some (.inl 6), some (.inl n), some (.inl 0), some (.inl 0)]) rfl ?_
              refine r_iinc f19_85 rfl rfl rfl (e := 1) (by omega) (by omega) (by omega) (ls' := [some (.inr (.inl (some (3 + 4 * h)))), some (.inl t), some (.inl n), some (.inr (.inl (some 63))), some (.inl 0), some (.inl 6), some (.inl n), some (.inl 1), some (.inl 0)]) rfl ?_
              refine r_goto f19_88 (t := 14) (by decide) ?_
              refine r_iload f19_14 rfl ?_
              refine r_iconst f19_16 rfl ?_
              refine r_cge f19_17 (t := 91) (by decide) (fun h => absurd h (by omega)) (fun _ => ?_)
              refine r_iload f19_20 rfl ?_
              refine r_iload f19_22 rfl ?_
              refine r_ishr f19_24 (e := 3) (by decide) ?_
              refine r_iconst f19_25 rfl ?_
              refine r_iand f19_26 (e := 1) (by decide) ?_
              refine r_iconst f19_27 rfl ?_
              refine r_cne f19_28 (t := 50) (by decide) (fun h => absurd h (by omega)) (fun _ => ?_)
              refine r_iload f19_31 rfl ?_
              refine r_aload_n f19_33 rfl ?_
              refine r_getR f19_34 o19 F1_9 (gH_0 (h := h) (by omega) (by omega)) rfl ?_
              refine r_iload_n f19_37 rfl ?_
              refine r_iconst f19_38 rfl ?_
              refine r_imul f19_39 (e := 3 * t) (by omega) (by omega) (by omega) ?_
              refine r_iload f19_40 rfl ?_
              refine r_iadd f19_42 (e := 3 * t + 1) (by omega) (by omega) (by omega) ?_
              refine r_iald f19_43 (kdH1 (h := h) (by omega) (by omega)) (by omega) (by omega) ?_
              refine r_top (e := m (4 + 4 * h) (3 * t + 1)) (by rw [zu_if, if_neg (by omega), zu_if, if_neg (by omega)]) ?_
              refine r_min f19_44 o19 M1_36 (by simp) ?_
              refine r_top (e := m (4 + 4 * h) (3 * t + 1)) (by rw [if_pos (by omega)]) ?_
              refine r_goto f19_47 (t := 51) (by decide) ?_
              refine r_istore f19_51 rfl (ls' := [some (.inr (.inl (some (3 + 4 * h)))), some (.inl t), some (.inl n), some (.inr (.inl (some 63))), some (.inl 0), some (.inl 6), some (.inl n), some (.inl 1), some (.inl (m (4 + 4 * h) (3 * t + 1)))]) rfl ?_
              refine r_aload_n f19_53 rfl ?_
              refine r_getR f19_54 o19 F1_9 (gH_0 (h := h) (by omega) (by omega)) rfl ?_
              refine r_iload_n f19_57 rfl ?_
              refine r_iconst f19_58 rfl ?_
              refine r_imul f19_59 (e := 3 * t) (by omega) (by omega) (by omega) ?_
              refine r_iload f19_60 rfl ?_
              refine r_iadd f19_62 (e := 3 * t + 1) (by omega) (by omega) (by omega) ?_
              refine r_dup2 f19_63 ?_
              refine r_iald f19_64 (kdH1 (h := h) (by omega) (by omega)) (by omega) (by omega) ?_
              refine r_top (e := m (4 + 4 * h) (3 * t + 1)) (by rw [zu_if, if_neg (by omega), zu_if, if_neg (by omega)]) ?_
              refine r_iload f19_65 rfl ?_
              refine r_isub f19_67 (e := 0) (by omega) (by omega) (by omega) ?_
              refine r_iast f19_68 (kdH1 (h := h) (by omega) (by omega)) (by omega) (by omega) (by omega) ?_
              refine r_aload_n f19_69 rfl ?_
              refine r_iload f19_70 rfl ?_
              refine r_iload f19_72 rfl ?_
              refine r_iadd f19_74 (e := 1) (by omega) (by omega) (by omega) ?_
              refine r_iload f19_75 rfl ?_
              refine r_iast f19_77 kd63 (by omega) (by omega) (by omega) ?_
              refine r_iload f19_78 rfl ?_
              refine r_iload f19_80 rfl ?_
              refine r_isub f19_82 (e := n - m (4 + 4 * h) (3 * t + 1)) (by omega) (by omega) (by omega) ?_
              refine r_istore f19_83 rfl (ls' := [some (.inr (.inl (some (3 + 4 * h)))), some (.inl t), some (.inl n), some (.inr (.inl (some 63))), some (.inl 0), some (.inl 6), some (.inl (n - m (4 + 4 * h) (3 * t + 1))), some (.inl 1), some (.inl (m (4 + 4 * h) (3 * t + 1)))]) rfl ?_
              refine r_iinc f19_85 rfl rfl rfl (e := 2) (by omega) (by omega) (by omega) (ls' := [some (.inr (.inl (some (3 + 4 * h)))), some (.inl t), some (.inl n), some (.inr (.inl (some 63))), some (.inl 0), some (.inl 6), some (.inl (n - m (4 + 4 * h) (3 * t + 1))), some (.inl 2), some (.inl (m (4 + 4 * h) (3 * t + 1)))]) rfl ?_
              refine r_goto f19_88 (t := 14) (by decide) ?_
              refine r_iload f19_14 rfl ?_
              refine r_iconst f19_16 rfl ?_
              refine r_cge f19_17 (t := 91) (by decide) (fun h => absurd h (by omega)) (fun _ => ?_)
              refine r_iload f19_20 rfl ?_
              refine r_iload f19_22 rfl ?_
              refine r_ishr f19_24 (e := 1) (by decide) ?_
              refine r_iconst f19_25 rfl ?_
              refine r_iand f19_26 (e := 1) (by decide) ?_
              refine r_iconst f19_27 rfl ?_
              refine r_cne f19_28 (t := 50) (by decide) (fun h => absurd h (by omega)) (fun _ => ?_)
              refine r_iload f19_31 rfl ?_
              refine r_aload_n f19_33 rfl ?_
              refine r_getR f19_34 o19 F1_9 (gH_0 (h := h) (by omega) (by omega)) rfl ?_
              refine r_iload_n f19_37 rfl ?_
              refine r_iconst f19_38 rfl ?_
              refine r_imul f19_39 (e := 3 * t) (by omega) (by omega) (by omega) ?_
              refine r_iload f19_40 rfl ?_
              refine r_iadd f19_42 (e := 3 * t + 2) (by omega) (by omega) (by omega) ?_
              refine r_iald f19_43 (kdH1 (h := h) (by omega) (by omega)) (by omega) (by omega) ?_
              refine r_top (e := m (4 + 4 * h) (3 * t + 2)) (by rw [zu_if, if_neg (by omega), zu_if, if_neg (by omega), zu_if, if_neg (by omega), zu_if, if_neg (by omega)]) ?_
              refine r_min f19_44 o19 M1_36 (by simp) ?_
              refine r_top (e := n - m (4 + 4 * h) (3 * t + 1)) (by rw [if_neg (by omega)]) ?_
              refine r_goto f19_47 (t := 51) (by decide) ?_
              refine r_istore f19_51 rfl (ls' := [some (.inr (.inl (some (3 + 4 * h)))), some (.inl t), some (.inl n), some (.inr (.inl (some 63))), some (.inl 0), some (.inl 6), some (.inl (n - m (4 + 4 * h) (3 * t + 1))), some (.inl 2), some (.inl (n - m (4 + 4 * h) (3 * t + 1)))]) rfl ?_
              refine r_aload_n f19_53 rfl ?_
              refine r_getR f19_54 o19 F1_9 (gH_0 (h := h) (by omega) (by omega)) rfl ?_
              refine r_iload_n f19_57 rfl ?_
              refine r_iconst f19_58 rfl ?_
              refine r_imul f19_59 (e := 3 * t) (by omega) (by omega) (by omega) ?_
              refine r_iload f19_60 rfl ?_
              refine r_iadd f19_62 (e := 3 * t + 2) (by omega) (by omega) (by omega) ?_
              refine r_dup2 f19_63 ?_
              refine r_iald f19_64 (kdH1 (h := h) (by omega) (by omega)) (by omega) (by omega) ?_
              refine r_top (e := m (4 + 4 * h) (3 * t + 2)) (by rw [zu_if, if_neg (by omega), zu_if, if_neg (by omega), zu_if, if_neg (by omega), zu_if, if_neg (by omega)]) ?_
              refine r_iload f19_65 rfl ?_
              refine r_isub f19_67 (e := m (4 + 4 * h) (3 * t + 1) + m (4 + 4 * h) (3 * t + 2) - n) (by omega) (by omega) (by omega) ?_
              refine r_iast f19_68 (kdH1 (h := h) (by omega) (by omega)) (by omega) (by omega) (by omega) ?_
              refine r_aload_n f19_69 rfl ?_
              refine r_iload f19_70 rfl ?_
              refine r_iload f19_72 rfl ?_
              refine r_iadd f19_74 (e := 2) (by omega) (by omega) (by omega) ?_
              refine r_iload f19_75 rfl ?_
              refine r_iast f19_77 kd63 (by omega) (by omega) (by omega) ?_
              refine r_iload f19_78 rfl ?_
              refine r_iload f19_80 rfl ?_
              refine r_isub f19_82 (e := 0) (by omega) (by omega) (by omega) ?_
              refine r_istore f19_83 rfl (ls' := [some (.inr (.inl (some (3 + 4 * h)))), some (.inl t), some (.inl n), some (.inr (.inl (some 63))), some (.inl 0), some (.inl 6), some (.inl 0), some (.inl 2), some (.inl (n - m (4 + 4 * h) (3 * t + 1)))]) rfl ?_
              refine r_iinc f19_85 rfl rfl rfl (e := 3) (by omega) (by omega) (by omega) (ls' := [some (.inr (.inl (some (3 + 4 * h)))), some (.inl t), some (.inl n), some (.inr (.inl (some 63))), some (.inl 0), some (.inl 6), some (.inl 0), some (.inl 3), some (.inl (n - m (4 + 4 * h) (3 * t + 1)))]) rfl ?_
              refine r_goto f19_88 (t := 14) (by decide) ?_
              refine r_iload f19_14 rfl ?_
              refine r_iconst f19_16 rfl ?_
              refine r_cge f19_17 (t := 91) (by decide) (fun _ => ?_) (fun h => absurd (by omega) h)
              exact r_vret f19_91 v19 ⟨rfl, by unfold XWB; rw [show m (4 + 4 * h) (3 * t) - zsh0 (m (4 + 4 * h) (3 * t)) (m (4 + 4 * h) (3 * t + 1)) (m (4 + 4 * h) (3 * t + 2)) n = m (4 + 4 * h) (3 * t) from by unfold zsh0; (repeat (first | rw [if_pos (by omega)] | rw [if_neg (by omega)])); try omega, show zsh0 (m (4 + 4 * h) (3 * t)) (m (4 + 4 * h) (3 * t + 1)) (m (4 + 4 * h) (3 * t + 2)) n = 0 from by unfold zsh0; (repeat (first | rw [if_pos (by omega)] | rw [if_neg (by omega)])); try omega, show m (4 + 4 * h) (3 * t + 1) - zsh1 (m (4 + 4 * h) (3 * t)) (m (4 + 4 * h) (3 * t + 1)) (m (4 + 4 * h) (3 * t + 2)) n = 0 from by unfold zsh1; (repeat (first | rw [if_pos (by omega)] | rw [if_neg (by omega)])); try omega, show zsh1 (m (4 + 4 * h) (3 * t)) (m (4 + 4 * h) (3 * t + 1)) (m (4 + 4 * h) (3 * t + 2)) n = m (4 + 4 * h) (3 * t + 1) from by unfold zsh1; (repeat (first | rw [if_pos (by omega)] | rw [if_neg (by omega)])); try omega, show m (4 + 4 * h) (3 * t + 2) - zsh2 (m (4 + 4 * h) (3 * t)) (m (4 + 4 * h) (3 * t + 1)) (m (4 + 4 * h) (3 * t + 2)) n = m (4 + 4 * h) (3 * t + 1) + m (4 + 4 * h) (3 * t + 2) - n from by unfold zsh2; (repeat (first | rw [if_pos (by omega)] | rw [if_neg (by omega)])); try omega, show zsh2 (m (4 + 4 * h) (3 * t)) (m (4 + 4 * h) (3 * t + 1)) (m (4 + 4 * h) (3 * t + 2)) n = n - m (4 + 4 * h) (3 * t + 1) from by unfold zsh2; (repeat (first | rw [if_pos (by omega)] | rw [if_neg (by omega)])); try omega]⟩
            · refine r_ite (fun q7 => ?_) (fun q7 => ?_)
              · refine r_istore f19_6 rfl (ls' := [some (.inr (.inl (some (3 + 4 * h)))), some (.inl t), some (.inl n), some (.inr (.inl (some 63))), some (.inl 0), some (.inl 7), none, none, none]) rfl ?_
                refine r_iload_n f19_8 rfl ?_
                refine r_istore f19_9 rfl (ls' := [some (.inr (.inl (some (3 + 4 * h)))), some (.inl t), some (.inl n), some (.inr (.inl (some 63))), some (.inl 0), some (.inl 7), some (.inl n), none, none]) rfl ?_
                refine r_iconst f19_11 rfl ?_
                refine r_istore f19_12 rfl (ls' := [some (.inr (.inl (some (3 + 4 * h)))), some (.inl t), some (.inl n), some (.inr (.inl (some 63))), some (.inl 0), some (.inl 7), some (.inl n), some (.inl 0), none]) rfl ?_
                refine r_iload f19_14 rfl ?_
                refine r_iconst f19_16 rfl ?_
                refine r_cge f19_17 (t := 91) (by decide) (fun h => absurd h (by omega)) (fun _ => ?_)
                refine r_iload f19_20 rfl ?_
                refine r_iload f19_22 rfl ?_
                refine r_ishr f19_24 (e := 7) (by decide) ?_
                refine r_iconst f19_25 rfl ?_
                refine r_iand f19_26 (e := 1) (by decide) ?_
                refine r_iconst f19_27 rfl ?_
                refine r_cne f19_28 (t := 50) (by decide) (fun h => absurd h (by omega)) (fun _ => ?_)
                refine r_iload f19_31 rfl ?_
                refine r_aload_n f19_33 rfl ?_
                refine r_getR f19_34 o19 F1_9 (gH_0 (h := h) (by omega) (by omega)) rfl ?_
                refine r_iload_n f19_37 rfl ?_
                refine r_iconst f19_38 rfl ?_
                refine r_imul f19_39 (e := 3 * t) (by omega) (by omega) (by omega) ?_
                refine r_iload f19_40 rfl ?_
                refine r_iadd f19_42 (e := 3 * t) (by omega) (by omega) (by omega) ?_
                refine r_iald f19_43 (kdH1 (h := h) (by omega) (by omega)) (by omega) (by omega) ?_
                refine r_min f19_44 o19 M1_36 (by simp) ?_
                refine r_top (e := m (4 + 4 * h) (3 * t)) (by rw [if_pos (by omega)]) ?_
                refine r_goto f19_47 (t := 51) (by decide) ?_
                refine r_istore f19_51 rfl (ls' := [some (.inr (.inl (some (3 + 4 * h)))), some (.inl t), some (.inl n), some (.inr (.inl (some 63))), some (.inl 0), some (.inl 7), some (.inl n), some (.inl 0), some (.inl (m (4 + 4 * h) (3 * t)))]) rfl ?_
                refine r_aload_n f19_53 rfl ?_
                refine r_getR f19_54 o19 F1_9 (gH_0 (h := h) (by omega) (by omega)) rfl ?_
                refine r_iload_n f19_57 rfl ?_
                refine r_iconst f19_58 rfl ?_
                refine r_imul f19_59 (e := 3 * t) (by omega) (by omega) (by omega) ?_
                refine r_iload f19_60 rfl ?_
                refine r_iadd f19_62 (e := 3 * t) (by omega) (by omega) (by omega) ?_
                refine r_dup2 f19_63 ?_
                refine r_iald f19_64 (kdH1 (h := h) (by omega) (by omega)) (by omega) (by omega) ?_
                refine r_iload f19_65 rfl ?_
                refine r_isub f19_67 (e := 0) (by omega) (by omega) (by omega) ?_
                refine r_iast f19_68 (kdH1 (h := h) (by omega) (by omega)) (by omega) (by omega) (by omega) ?_
                refine r_aload_n f19_69 rfl ?_
                refine r_iload f19_70 rfl ?_
                refine r_iload f19_72 rfl ?_
                refine r_iadd f19_74 (e := 0) (by omega) (by omega) (by omega) ?_
                refine r_iload f19_75 rfl ?_
                refine r_iast f19_77 kd63 (by omega) (by omega) (by omega) ?_
                refine r_iload f19_78 rfl ?_
                refine r_iload f19_80 rfl ?_
                refine r_isub f19_82 (e := n - m (4 + 4 * h) (3 * t)) (by omega) (by omega) (by omega) ?_
                refine r_istore f19_83 rfl (ls' := [some (.inr (.inl (some (3 + 4 * h)))), some (.inl t), some (.inl n), some (.inr (.inl (some 63))), some (.inl 0), some (.inl 7), some (.inl (n - m (4 + 4 * h) (3 * t))), some (.inl 0), some (.inl (m (4 + 4 * h) (3 * t)))]) rfl ?_
                refine r_iinc f19_85 rfl rfl rfl (e := 1) (by omega) (by omega) (by omega) (ls' := [some (.inr (.inl (some (3 + 4 * h)))), some (.inl t), some (.inl n), some (.inr (.inl (some 63))), some (.inl 0), some (.inl 7), some (.inl (n - m (4 + 4 * h) (3 * t))), some (.inl 1), some (.inl (m (4 + 4 * h) (3 * t)))]) rfl ?_
                refine r_goto f19_88 (t := 14) (by decide) ?_
                refine r_iload f19_14 rfl ?_
                refine r_iconst f19_16 rfl ?_
                refine r_cge f19_17 (t := 91) (by decide) (fun h => absurd h (by omega)) (fun _ => ?_)
                refine r_iload f19_20 rfl ?_
                refine r_iload f19_22 rfl ?_
                refine r_ishr f19_24 (e := 3) (by decide) ?_
                refine r_iconst f19_25 rfl ?_
                refine r_iand f19_26 (e := 1) (by decide) ?_
                refine r_iconst f19_27 rfl ?_
                refine r_cne f19_28 (t := 50) (by decide) (fun h => absurd h (by omega)) (fun _ => ?_)
                refine r_iload f19_31 rfl ?_
                refine r_aload_n f19_33 rfl ?_
                refine r_getR f19_34 o19 F1_9 (gH_0 (h := h) (by omega) (by omega)) rfl ?_
                refine r_iload_n f19_37 rfl ?_
                refine r_iconst f19_38 rfl ?_
                refine r_imul f19_39 (e := 3 * t) (by omega) (by omega) (by omega) ?_
                refine r_iload f19_40 rfl ?_
                refine r_iadd f19_42 (e := 3 * t + 1) (by omega) (by omega) (by omega) ?_
                refine r_iald f19_43 (kdH1 (h := h) (by omega) (by omega)) (by omega) (by omega) ?_
                refine r_top (e := m (4 + 4 * h) (3 * t + 1)) (by rw [zu_if, if_neg (by omega), zu_if, if_neg (by omega)]) ?_
                refine r_min f19_44 o19 M1_36 (by simp) ?_
                refine r_top (e := m (4 + 4 * h) (3 * t + 1)) (by rw [if_pos (by omega)]) ?_
                refine r_goto f19_47 (t := 51) (by decide) ?_
                refine r_istore f19_51 rfl (ls' := [some (.inr (.inl (some (3 + 4 * h)))), some (.inl t), some (.inl n), some (.inr (.inl (some 63))), some (.inl 0), some (.inl 7), some (.inl (n - m (4 + 4 * h) (3 * t))), some (.inl 1), some (.inl (m (4 + 4 * h) (3 * t + 1)))]) rfl ?_
                refine r_aload_n f19_53 rfl ?_
                refine r_getR f19_54 o19 F1_9 (gH_0 (h := h) (by omega) (by omega)) rfl ?_
                refine r_iload_n f19_57 rfl ?_
                refine r_iconst f19_58 rfl ?_
                refine r_imul f19_59 (e := 3 * t) (by omega) (by omega) (by omega) ?_
                refine r_iload f19_60 rfl ?_
                refine r_iadd f19_62 (e := 3 * t + 1) (by omega) (by omega) (by omega) ?_
                refine r_dup2 f19_63 ?_
                refine r_iald f19_64 (kdH1 (h := h) (by omega) (by omega)) (by omega) (by omega) ?_
                refine r_top (e := m (4 + 4 * h) (3 * t + 1)) (by rw [zu_if, if_neg (by omega), zu_if, if_neg (by omega)]) ?_
                refine r_iload f19_65 rfl ?_
                refine r_isub f19_67 (e := 0) (by omega) (by omega) (by omega) ?_
                refine r_iast f19_68 (kdH1 (h := h) (by omega) (by omega)) (by omega) (by omega) (by omega) ?_
                refine r_aload_n f19_69 rfl ?_
                refine r_iload f19_70 rfl ?_
                refine r_iload f19_72 rfl ?_
                refine r_iadd f19_74 (e := 1) (by omega) (by omega) (by omega) ?_
                refine r_iload f19_75 rfl ?_
                refine r_iast f19_77 kd63 (by omega) (by omega) (by omega) ?_
                refine r_iload f19_78 rfl ?_
                refine r_iload f19_80 rfl ?_
                refine r_isub f19_82 (e := n - m (4 + 4 * h) (3 * t + 1) - m (4 + 4 * h) (3 * t)) (by omega) (by omega) (by omega) ?_
                refine r_istore f19_83 rfl (ls' := [some (.inr (.inl (some (3 + 4 * h)))), some (.inl t), some (.inl n), some (.inr (.inl (some 63))), some (.inl 0), some (.inl 7), some (.inl (n - m (4 + 4 * h) (3 * t + 1) - m (4 + 4 * h) (3 * t))), some (.inl 1), some (.inl (m (4 + 4 * h) (3 * t + 1)))]) rfl ?_
                refine r_iinc f19_85 rfl rfl rfl (e := 2) (by omega) (by omega) (by omega) (ls' := [some (.inr (.inl (some (3 + 4 * h)))), some (.inl t), some (.inl n), some (.inr (.inl (some 63))), some (.inl 0), some (.inl 7), some (.inl (n - m (4 + 4 * h) (3 * t + 1) - m (4 + 4 * h) (3 * t))), some (.inl 2), some (.inl (m (4 + 4 * h) (3 * t + 1)))]) rfl ?_
                refine r_goto f19_88 (t := 14) (by decide) ?_
                refine r_iload f19_14 rfl ?_
                refine r_iconst f19_16 rfl ?_
                refine r_cge f19_17 (t := 91) (by decide) (fun h => absurd h (by omega)) (fun _ => ?_)
                refine r_iload f19_20 rfl ?_
                refine r_iload f19_22 rfl ?_
                refine r_ishr f19_24 (e := 1) (by decide) ?_
                refine r_iconst f19_25 rfl ?_
                refine r_iand f19_26 (e := 1) (by decide) ?_
                refine r_iconst f19_27 rfl ?_
                refine r_cne f19_28 (t := 50) (by decide) (fun h => absurd h (by omega)) (fun _ => ?_)
                refine r_iload f19_31 rfl ?_
                refine r_aload_n f19_33 rfl ?_
                refine r_getR f19_34 o19 F1_9 (gH_0 (h := h) (by omega) (by omega)) rfl ?_
                refine r_iload_n f19_37 rfl ?_
                refine r_iconst f19_38 rfl ?_
                refine r_imul f19_39 (e := 3 * t) (by omega) (by omega) (by omega) ?_
                refine r_iload f19_40 rfl ?_
                refine r_iadd f19_42 (e := 3 * t + 2) (by omega) (by omega) (by omega) ?_
                refine r_iald f19_43 (kdH1 (h := h) (by omega) (by omega)) (by omega) (by omega) ?_
                refine r_top (e := m (4 + 4 * h) (3 * t + 2)) (by rw [zu_if, if_neg (by omega), zu_if, if_neg (by omega), zu_if, if_neg (by omega), zu_if, if_neg (by omega)]) ?_
                refine r_min f19_44 o19 M1_36 (by simp) ?_
                refine r_top (e := n - m (4 + 4 * h) (3 * t + 1) - m (4 + 4 * h) (3 * t)) (by rw [if_neg (by omega)]) ?_
                refine r_goto f19_47 (t := 51) (by decide) ?_
                refine r_istore f19_51 rfl (ls' := [some (.inr (.inl (some (3 + 4 * h)))), some (.inl t), some (.inl n), some (.inr (.inl (some 63))), some (.inl 0), some (.inl 7), some (.inl (n - m (4 + 4 * h) (3 * t + 1) - m (4 + 4 * h) (3 * t))), some (.inl 2), some (.inl (n - m (4 + 4 * h) (3 * t + 1) - m (4 + 4 * h) (3 * t)))]) rfl ?_
                refine r_aload_n f19_53 rfl ?_
                refine r_getR f19_54 o19 F1_9 (gH_0 (h := h) (by omega) (by omega)) rfl ?_
                refine r_iload_n f19_57 rfl ?_
                refine r_iconst f19_58 rfl ?_
                refine r_imul f19_59 (e := 3 * t) (by omega) (by omega) (by omega) ?_
                refine r_iload f19_60 rfl ?_
                refine r_iadd f19_62 (e := 3 * t + 2) (by omega) (by omega) (by omega) ?_
                refine r_dup2 f19_63 ?_
                refine r_iald f19_64 (kdH1 (h := h) (by omega) (by omega)) (by omega) (by omega) ?_
                refine r_top (e := m (4 + 4 * h) (3 * t + 2)) (by rw [zu_if, if_neg (by omega), zu_if, if_neg (by omega), zu_if, if_neg (by omega), zu_if, if_neg (by omega)]) ?_
                refine r_iload f19_65 rfl ?_
                refine r_isub f19_67 (e := m (4 + 4 * h) (3 * t + 1) + m (4 + 4 * h) (3 * t + 2) + m (4 + 4 * h) (3 * t) - n) (by omega) (by omega) (by omega) ?_
                refine r_iast f19_68 (kdH1 (h := h) (by omega) (by omega)) (by omega) (by omega) (by omega) ?_
                refine r_aload_n f19_69 rfl ?_
                refine r_iload f19_70 rfl ?_
                refine r_iload f19_72 rfl ?_
                refine r_iadd f19_74 (e := 2) (by omega) (by omega) (by omega) ?_
                refine r_iload f19_75 rfl ?_
                refine r_iast f19_77 kd63 (by omega) (by omega) (by omega) ?_
                refine r_iload f19_78 rfl ?_
                refine r_iload f19_80 rfl ?_
                refine r_isub f19_82 (e := 0) (by omega) (by omega) (by omega) ?_
                refine r_istore f19_83 rfl (ls' := [some (.inr (.inl (some (3 + 4 * h)))), some (.inl t), some (.inl n), some (.inr (.inl (some 63))), some (.inl 0), some (.inl 7), some (.inl 0), some (.inl 2), some (.inl (n - m (4 + 4 * h) (3 * t + 1) - m (4 + 4 * h) (3 * t)))]) rfl ?_
                refine r_iinc f19_85 rfl rfl rfl (e := 3) (by omega) (by omega) (by omega) (ls' := [some (.inr (.inl (some (3 + 4 * h)))), some (.inl t), some (.inl n), some (.inr (.inl (some 63))), some (.inl 0), some (.inl 7), some (.inl 0), some (.inl 3), some (.inl (n - m (4 + 4 * h) (3 * t + 1) - m (4 + 4 * h) (3 * t)))]) rfl ?_
                refine r_goto f19_88 (t := 14) (by decide) ?_
                refine r_iload f19_14 rfl ?_
                refine r_iconst f19_16 rfl ?_
                refine r_cge f19_17 (t := 91) (by decide) (fun _ => ?_) (fun h => absurd (by omega) h)
                exact r_vret f19_91 v19 ⟨rfl, by unfold XWB; rw [show m (4 + 4 * h) (3 * t) - zsh0 (m (4 + 4 * h) (3 * t)) (m (4 + 4 * h) (3 * t + 1)) (m (4 + 4 * h) (3 * t + 2)) n = 0 from by unfold zsh0; (repeat (first | rw [if_pos (by omega)] | rw [if_neg (by omega)])); try omega, show zsh0 (m (4 + 4 * h) (3 * t)) (m (4 + 4 * h) (3 * t + 1)) (m (4 + 4 * h) (3 * t + 2)) n = m (4 + 4 * h) (3 * t) from by unfold zsh0; (repeat (first | rw [if_pos (by omega)] | rw [if_neg (by omega)])); try omega, show m (4 + 4 * h) (3 * t + 1) - zsh1 (m (4 + 4 * h) (3 * t)) (m (4 + 4 * h) (3 * t + 1)) (m (4 + 4 * h) (3 * t + 2)) n = 0 from by unfold zsh1; (repeat (first | rw [if_pos (by omega)] | rw [if_neg (by omega)])); try omega, show zsh1 (m (4 + 4 * h) (3 * t)) (m (4 + 4 * h) (3 * t + 1)) (m (4 + 4 * h) (3 * t + 2)) n = m (4 + 4 * h) (3 * t + 1) from by unfold zsh1; (repeat (first | rw [if_pos (by omega)] | rw [if_neg (by omega)])); try omega, show m (4 + 4 * h) (3 * t + 2) - zsh2 (m (4 + 4 * h) (3 * t)) (m (4 + 4 * h) (3 * t + 1)) (m (4 + 4 * h) (3 * t + 2)) n = m (4 + 4 * h) (3 * t + 1) + m (4 + 4 * h) (3 * t + 2) + m (4 + 4 * h) (3 * t) - n from by unfold zsh2; (repeat (first | rw [if_pos (by omega)] | rw [if_neg (by omega)])); try omega, show zsh2 (m (4 + 4 * h) (3 * t)) (m (4 + 4 * h) (3 * t + 1)) (m (4 + 4 * h) (3 * t + 2)) n = n - m (4 + 4 * h) (3 * t + 1) - m (4 + 4 * h) (3 * t) from by unfold zsh2; (repeat (first | rw [if_pos (by omega)] | rw [if_neg (by omega)])); try omega]⟩
              · exfalso; omega

abbrev XV (m : zmem) (h t c i : Int) : zmem := (zu (zu (zu (zu (zu (zu m (4 + 4 * h) (3 * t) (m (4 + 4 * h) (3 * t) + m (66 + 5 * c) (3 * i))) (66 + 5 * c) (3 * i) 0) (4 + 4 * h) (3 * t + 1) (m (4 + 4 * h) (3 * t + 1) + m (66 + 5 * c) (3 * i + 1))) (66 + 5 * c) (3 * i + 1) 0) (4 + 4 * h) (3 * t + 2) (m (4 + 4 * h) (3 * t + 2) + m (66 + 5 * c) (3 * i + 2))) (66 + 5 * c) (3 * i + 2) 0)
theorem t_clear {L d : Nat} {m : zmem} {h : Int} (h0 : 0 ≤ h) (h1 : h < 12) {t : Int} (t0 : 0 ≤ t) (t1 : t < 40) (hf : ∀ k, 0 ≤ k → k < 120 → 0 ≤ m (4 + 4 * h) k ∧ m (4 + 4 * h) k ≤ 9) {c i : Int} (c0 : 0 ≤ c) (c1 : c < 40) (i0 : 0 ≤ i) (i1 : i < 7) (hl : ∀ k, 0 ≤ k → k < 21 → 0 ≤ m (66 + 5 * c) k ∧ m (66 + 5 * c) k ≤ 9) : zF L (d) 20 [.inr (.inl (some (3 + 4 * h))), .inl t, .inr (.inl (some (66 + 5 * c))), .inl (3 * i)] m none (XV m h t c i) := by
  have r0 := hf (3 * t) (by omega) (by omega)
  have r1 := hf (3 * t + 1) (by omega) (by omega)
  have r2 := hf (3 * t + 2) (by omega) (by omega)
  have s0 := hl (3 * i) (by omega) (by omega)
  have s1 := hl (3 * i + 1) (by omega) (by omega)
  have s2 := hl (3 * i + 2) (by omega) (by omega)
  refine zF_of n20 (ls := [some (.inr (.inl (some (3 + 4 * h)))), some (.inl t), some (.inr (.inl (some (66 + 5 * c)))), some (.inl (3 * i)), none]) rfl ?_
  refine r_iconst f20_0 rfl ?_
  refine r_istore f20_1 rfl (ls' := [some (.inr (.inl (some (3 + 4 * h)))), some (.inl t), some (.inr (.inl (some (66 + 5 * c)))), some (.inl (3 * i)), some (.inl 0)]) rfl ?_
  refine r_iload f20_3 rfl ?_
  refine r_iconst f20_5 rfl ?_
  refine r_cge f20_6 (t := 42) (by decide) (fun h => absurd h (by omega)) (fun _ => ?_)
  refine r_aload_n f20_9 rfl ?_
  refine r_getR f20_10 o20 F1_9 (gH_0 (h := h) (by omega) (by omega)) rfl ?_
  refine r_iload_n f20_13 rfl ?_
  refine r_iconst f20_14 rfl ?_
  refine r_imul f20_15 (e := 3 * t) (by omega) (by omega) (by omega) ?_
  refine r_iload f20_16 rfl ?_
  refine r_iadd f20_18 (e := 3 * t) (by omega) (by omega) (by omega) ?_
  refine r_dup2 f20_19 ?_
  refine r_iald f20_20 (kdH1 (h := h) (by omega) (by omega)) (by omega) (by omega) ?_
  refine r_aload_n f20_21 rfl ?_
  refine r_iload_n f20_22 rfl ?_
  refine r_iload f20_23 rfl ?_
  refine r_iadd f20_25 (e := 3 * i) (by omega) (by omega) (by omega) ?_
  refine r_iald f20_26 (kdC2 (c := c) (by omega) (by omega)) (by omega) (by omega) ?_
  refine r_iadd f20_27 (e := m (4 + 4 * h) (3 * t) + m (66 + 5 * c) (3 * i)) (by omega) (by omega) (by omega) ?_
  refine r_iast f20_28 (kdH1 (h := h) (by omega) (by omega)) (by omega) (by omega) (by omega) ?_
  refine r_aload_n f20_29 rfl ?_
  refine r_iload_n f20_30 rfl ?_
  refine r_iload f20_31 rfl ?_
  refine r_iadd f20_33 (e := 3 * i) (by omega) (by omega) (by omega) ?_
  refine r_iconst f20_34 rfl ?_
  refine r_iast f20_35 (kdC2 (c := c) (by omega) (by omega)) (by omega) (by omega) (by omega) ?_
  refine r_iinc f20_36 rfl rfl rfl (e := 1) (by omega) (by omega) (by omega) (ls' := [some (.inr (.inl (some (3 + 4 * h)))), some (.inl t), some (.inr (.inl (some (66 + 5 * c)))), some (.inl (3 * i)), some (.inl 1)]) rfl ?_
  refine r_goto f20_39 (t := 3) (by decide) ?_
  refine r_iload f20_3 rfl ?_
  refine r_iconst f20_5 rfl ?_
  refine r_cge f20_6 (t := 42) (by decide) (fun h => absurd h (by omega)) (fun _ => ?_)
  refine r_aload_n f20_9 rfl ?_
  refine r_getR f20_10 o20 F1_9 (gH_0 (h := h) (by omega) (by omega)) rfl ?_
  refine r_iload_n f20_13 rfl ?_
  refine r_iconst f20_14 rfl ?_
  refine r_imul f20_15 (e := 3 * t) (by omega) (by omega) (by omega) ?_
  refine r_iload f20_16 rfl ?_
  refine r_iadd f20_18 (e := 3 * t + 1) (by omega) (by omega) (by omega) ?_
  refine r_dup2 f20_19 ?_
  refine r_iald f20_20 (kdH1 (h := h) (by omega) (by omega)) (by omega) (by omega) ?_
  refine r_top (e := m (4 + 4 * h) (3 * t + 1)) (by rw [zu_if, if_neg (by omega), zu_if, if_neg (by omega)]) ?_
  refine r_aload_n f20_21 rfl ?_
  refine r_iload_n f20_22 rfl ?_
  refine r_iload f20_23 rfl ?_
  refine r_iadd f20_25 (e := 3 * i + 1) (by omega) (by omega) (by omega) ?_
  refine r_iald f20_26 (kdC2 (c := c) (by omega) (by omega)) (by omega) (by omega) ?_
  refine r_top (e := m (66 + 5 * c) (3 * i + 1)) (by rw [zu_if, if_neg (by omega), zu_if, if_neg (by omega)]) ?_
  refine r_iadd f20_27 (e := m (4 + 4 * h) (3 * t + 1) + m (66 + 5 * c) (3 * i + 1)) (by omega) (by omega) (by omega) ?_
  refine r_iast f20_28 (kdH1 (h := h) (by omega) (by omega)) (by omega) (by omega) (by omega) ?_
  refine r_aload_n f20_29 rfl ?_
  refine r_iload_n f20_30 rfl ?_
  refine r_iload f20_31 rfl ?_
  refine r_iadd f20_33 (e := 3 * i + 1) (by omega) (by omega) (by omega) ?_
  refine r_iconst f20_34 rfl ?_
  refine r_iast f20_35 (kdC2 (c := c) (by omega) (by omega)) (by omega) (by omega) (by omega) ?_
  refine r_iinc f20_36 rfl rfl rfl (e := 2) (by omega) (by omega) (by omega) (ls' := [some (.inr (.inl (some (3 + 4 * h)))), some (.inl t), some (.inr (.inl (some (66 + 5 * c)))), some (.inl (3 * i)), some (.inl 2)]) rfl ?_
  refine r_goto f20_39 (t := 3) (by decide) ?_
  refine r_iload f20_3 rfl ?_
  refine r_iconst f20_5 rfl ?_
  refine r_cge f20_6 (t := 42) (by decide) (fun h => absurd h (by omega)) (fun _ => ?_)
  refine r_aload_n f20_9 rfl ?_
  refine r_getR f20_10 o20 F1_9 (gH_0 (h := h) (by omega) (by omega)) rfl ?_
  refine r_iload_n f20_13 rfl ?_
  refine r_iconst f20_14 rfl ?_
  refine r_imul f20_15 (e := 3 * t) (by omega) (by omega) (by omega) ?_
  refine r_iload f20_16 rfl ?_
  refine r_iadd f20_18 (e := 3 * t + 2) (by omega) (by omega) (by omega) ?_
  refine r_dup2 f20_19 ?_
  refine r_iald f20_20 (kdH1 (h := h) (by omega) (by omega)) (by omega) (by omega) ?_
  refine r_top (e := m (4 + 4 * h) (3 * t + 2)) (by rw [zu_if, if_neg (by omega), zu_if, if_neg (by omega), zu_if, if_neg (by omega), zu_if, if_neg (by omega)]) ?_
  refine r_aload_n f20_21 rfl ?_
  refine r_iload_n f20_22 rfl ?_
  refine r_iload f20_23 rfl ?_
  refine r_iadd f20_25 (e := 3 * i + 2) (by omega) (by omega) (by omega) ?_
  refine r_iald f20_26 (kdC2 (c := c) (by omega) (by omega)) (by omega) (by omega) ?_
  refine r_top (e := m (66 + 5 * c) (3 * i + 2)) (by rw [zu_if, if_neg (by omega), zu_if, if_neg (by omega), zu_if, if_neg (by omega), zu_if, if_neg (by omega)]) ?_
  refine r_iadd f20_27 (e := m (4 + 4 * h) (3 * t + 2) + m (66 + 5 * c) (3 * i + 2)) (by omega) (by omega) (by omega) ?_
  refine r_iast f20_28 (kdH1 (h := h) (by omega) (by omega)) (by omega) (by omega) (by omega) ?_
  refine r_aload_n f20_29 rfl ?_
  refine r_iload_n f20_30 rfl ?_
  refine r_iload f20_31 rfl ?_
  refine r_iadd f20_33 (e := 3 * i + 2) (by omega) (by omega) (by omega) ?_
  refine r_iconst f20_34 rfl ?_
  refine r_iast f20_35 (kdC2 (c := c) (by omega) (by omega)) (by omega) (by omega) (by omega) ?_
  refine r_iinc f20_36 rfl rfl rfl (e := 3) (by omega) (by omega) (by omega) (ls' := [some (.inr (.inl (some (3 + 4 * h)))), some (.inl t), some (.inr (.inl (some (66 + 5 * c)))), some (.inl (3 * i)), some (.inl 3)]) rfl ?_
  refine r_goto f20_39 (t := 3) (by decide) ?_
  refine r_iload f20_3 rfl ?_
  refine r_iconst f20_5 rfl ?_
  refine r_cge f20_6 (t := 42) (by decide) (fun _ => ?_) (fun h => absurd (by omega) h)
  exact r_vret f20_42 v20 ⟨rfl, rfl⟩

theorem t_endNight {L d : Nat} {m : zmem} {h : Int} (h0 : 0 ≤ h) (h1 : h < 12) (a0 : 0 ≤ m (3 + 4 * h) 5) (a1 : m (3 + 4 * h) 5 ≤ 100000) (b0 : 0 ≤ m (3 + 4 * h) 6) (b1 : m (3 + 4 * h) 6 ≤ 100000) : zF L (d) 21 [.inr (.inl (some (3 + 4 * h)))] m none (zu (zu m (3 + 4 * h) 6 (m (3 + 4 * h) 5 + m (3 + 4 * h) 6)) (3 + 4 * h) 5 0) := by
  refine zF_of n21 (ls := [some (.inr (.inl (some (3 + 4 * h))))]) rfl ?_
  refine r_aload_n f21_0 rfl ?_
  refine r_dupR f21_1 ?_
  refine r_getI f21_2 o21 F1_41 (gH_6 (h := h) (by omega) (by omega)) rfl ?_
  refine r_aload_n f21_5 rfl ?_
  refine r_getI f21_6 o21 F1_45 (gH_5 (h := h) (by omega) (by omega)) rfl ?_
  refine r_iadd f21_9 (e := m (3 + 4 * h) 5 + m (3 + 4 * h) 6) (by omega) (by omega) (by omega) ?_
  refine r_put f21_10 o21 F1_41 (gH_6 (h := h) (by omega) (by omega)) rfl T1_6 U1_6 ?_
  refine r_aload_n f21_13 rfl ?_
  refine r_iconst f21_14 rfl ?_
  refine r_put f21_15 o21 F1_45 (gH_5 (h := h) (by omega) (by omega)) rfl T1_5 U1_5 ?_
  exact r_vret f21_18 v21 ⟨rfl, rfl⟩

