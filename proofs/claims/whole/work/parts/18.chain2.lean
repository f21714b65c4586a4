def XNf (m : zmem) (c k : Int) : Int := if m (68 + 5 * c) k = 0 then 0 else 1
theorem l_nightsSlept {L d : Nat} {m : zmem} {c : Int} (c0 : 0 ≤ c) (c1 : c < 40) (l0 : 0 ≤ m (64 + 5 * c) 6) (l1 : m (64 + 5 * c) 6 ≤ 7)  {Q : Option zV → zM → Prop} (hx : zR (d) 10 30 [some (.inr (.inl (some (64 + 5 * c)))), some (.inl (zsum (XNf m c) (m (64 + 5 * c) 6))), some (.inl (m (64 + 5 * c) 6))] [] (zem L m) Q) : ∀ (n : Nat) (i : Int), 0 ≤ i → i + n = m (64 + 5 * c) 6 → zR (d) 10 4 [some (.inr (.inl (some (64 + 5 * c)))), some (.inl (zsum (XNf m c) i)), some (.inl i)] [] (zem L m) Q := by
  intro n
  induction n with
  | zero =>
    intro i hi hn
    have ei : i = m (64 + 5 * c) 6 := by omega
    rw [ei]
    refine r_iload_n f10_4 rfl ?_
    refine r_aload_n f10_5 rfl ?_
    refine r_getI f10_6 o10 F0_32 (gC_6 (c := c) (by omega) (by omega)) rfl ?_
    refine r_cge f10_9 (t := 30) (by decide) (fun _ => ?_) (fun h => absurd (by omega) h)
    exact hx
  | succ n ih =>
    intro i hi hn
    have hb := zsum_b (f := XNf m c) (A := 0) (B := 1) hi (fun k _ _ => by unfold XNf; split <;> omega)
    refine r_iload_n f10_4 rfl ?_
    refine r_aload_n f10_5 rfl ?_
    refine r_getI f10_6 o10 F0_32 (gC_6 (c := c) (by omega) (by omega)) rfl ?_
    refine r_cge f10_9 (t := 30) (by decide) (fun h => absurd h (by omega)) (fun _ => ?_)
    refine r_aload_n f10_12 rfl ?_
    refine r_getR f10_13 o10 F0_22 (gC_3 (c := c) (by omega) (by omega)) rfl ?_
    refine r_iload_n f10_16 rfl ?_
    refine r_bald f10_17 (kdC4 (c := c) (by omega) (by omega)) (by omega) (by omega) ?_
    refine r_zeq f10_18 (t := 24) (by decide) (fun q1 => ?_) (fun q1 => ?_)
    · refine r_iinc f10_24 rfl rfl rfl (e := i + 1) (by omega) (by omega) (by omega) (ls' := [some (.inr (.inl (some (64 + 5 * c)))), some (.inl (zsum (XNf m c) i)), some (.inl (i + 1))]) rfl ?_
      refine r_goto f10_27 (t := 4) (by decide) ?_
      refine r_setI (k := 1) (a := zsum (XNf m c) i) (e := zsum (XNf m c) (i + 1)) (by rw [zsum_s (by omega)]; unfold XNf; split <;> omega) rfl (ls' := [some (.inr (.inl (some (64 + 5 * c)))), some (.inl (zsum (XNf m c) (i + 1))), some (.inl (i + 1))]) rfl ?_
      exact ih (i + 1) (by omega) (by omega)
    · refine r_iinc f10_21 rfl rfl rfl (e := zsum (XNf m c) i + 1) (by omega) (by omega) (by omega) (ls' := [some (.inr (.inl (some (64 + 5 * c)))), some (.inl (zsum (XNf m c) i + 1)), some (.inl i)]) rfl ?_
      refine r_iinc f10_24 rfl rfl rfl (e := i + 1) (by omega) (by omega) (by omega) (ls' := [some (.inr (.inl (some (64 + 5 * c)))), some (.inl (zsum (XNf m c) i + 1)), some (.inl (i + 1))]) rfl ?_
      refine r_goto f10_27 (t := 4) (by decide) ?_
      refine r_setI (k := 1) (a := zsum (XNf m c) i + 1) (e := zsum (XNf m c) (i + 1)) (by rw [zsum_s (by omega)]; unfold XNf; split <;> omega) rfl (ls' := [some (.inr (.inl (some (64 + 5 * c)))), some (.inl (zsum (XNf m c) (i + 1))), some (.inl (i + 1))]) rfl ?_
      exact ih (i + 1) (by omega) (by omega)

theorem t_nightsSlept {L d : Nat} {m : zmem} {c : Int} (c0 : 0 ≤ c) (c1 : c < 40) (l0 : 0 ≤ m (64 + 5 * c) 6) (l1 : m (64 + 5 * c) 6 ≤ 7)  : zF L (d) 10 [.inr (.inl (some (64 + 5 * c)))] m (some (.inl (zsum (XNf m c) (m (64 + 5 * c) 6)))) m := by
  refine zF_of n10 (ls := [some (.inr (.inl (some (64 + 5 * c)))), none, none]) rfl ?_
  refine r_iconst f10_0 rfl ?_
  refine r_istore_n f10_1 rfl (ls' := [some (.inr (.inl (some (64 + 5 * c)))), some (.inl 0), none]) rfl ?_
  refine r_iconst f10_2 rfl ?_
  refine r_istore_n f10_3 rfl (ls' := [some (.inr (.inl (some (64 + 5 * c)))), some (.inl 0), some (.inl 0)]) rfl ?_
  refine l_nightsSlept c0 c1 l0 l1 ?_ (m (64 + 5 * c) 6).toNat 0 (by omega) (by omega)
  refine r_iload_n f10_30 rfl ?_
  exact r_iret f10_31 v10 ⟨zs_eq (by first | rfl | omega | (repeat (first | rw [if_pos (by omega)] | rw [if_neg (by omega)]))), rfl⟩

def zcp (m : zmem) (c a i : Int) : zmem := fun p b => if p = 65 + 5 * c ∧ a ≤ b ∧ b < i then m 53 b else m p b
theorem zcp_s {m : zmem} {c a i : Int} (h : a ≤ i) : zu (zcp m c a i) (65 + 5 * c) i (m 53 i) = zcp m c a (i + 1) := by
  funext p b
  rw [zu_if]
  unfold zcp
  by_cases e : p = 65 + 5 * c ∧ b = i
  · rw [if_pos e, if_pos (by omega), e.2]
  · rw [if_neg e]
    by_cases e2 : p = 65 + 5 * c ∧ a ≤ b ∧ b < i
    · rw [if_pos e2, if_pos (by omega)]
    · rw [if_neg e2, if_neg (by omega)]
theorem zcp_0 {m : zmem} {c a i : Int} (h : i ≤ a) : zcp m c a i = m := by
  funext p b
  unfold zcp
  rw [if_neg (by omega)]
theorem zcp_n {m : zmem} {c a i p b : Int} (h : ¬ p = 65 + 5 * c) : zcp m c a i p b = m p b := by
  unfold zcp
  rw [if_neg (by omega)]
theorem l_follow {L d : Nat} {m : zmem} {c : Int} (c0 : 0 ≤ c) (c1 : c < 40) (l0 : 0 ≤ m (64 + 5 * c) 6) (l1 : m (64 + 5 * c) 6 ≤ 7) {a : Int} (a0 : 0 ≤ a) {Q : Option zV → zM → Prop} (hx : zR (d) 2 25 [some (.inr (.inl (some (64 + 5 * c)))), some (.inr (.inl (some 53))), some (.inl a), some (.inl (m (64 + 5 * c) 6))] [] (zem L (zcp m c a (m (64 + 5 * c) 6))) Q) : ∀ (n : Nat) (i : Int), a ≤ i → i + n = m (64 + 5 * c) 6 → zR (d) 2 2 [some (.inr (.inl (some (64 + 5 * c)))), some (.inr (.inl (some 53))), some (.inl a), some (.inl i)] [] (zem L (zcp m c a i)) Q := by
  intro n
  induction n with
  | zero =>
    intro i hi hn
    have ei : i = m (64 + 5 * c) 6 := by omega
    rw [ei]
    refine r_iload_n f2_2 rfl ?_
    refine r_aload_n f2_3 rfl ?_
    refine r_getI f2_4 o2 F0_32 (gC_6 (c := c) (by omega) (by omega)) rfl ?_
    refine r_top (e := m (64 + 5 * c) 6) (zcp_n (by omega)) ?_
    refine r_cge f2_7 (t := 25) (by decide) (fun _ => ?_) (fun h => absurd (by omega) h)
    exact hx
  | succ n ih =>
    intro i hi hn
    refine r_iload_n f2_2 rfl ?_
    refine r_aload_n f2_3 rfl ?_
    refine r_getI f2_4 o2 F0_32 (gC_6 (c := c) (by omega) (by omega)) rfl ?_
    refine r_top (e := m (64 + 5 * c) 6) (zcp_n (by omega)) ?_
    refine r_cge f2_7 (t := 25) (by decide) (fun h => absurd h (by omega)) (fun _ => ?_)
    refine r_aload_n f2_10 rfl ?_
    refine r_getR f2_11 o2 F0_9 (gC_0 (c := c) (by omega) (by omega)) rfl ?_
    refine r_iload_n f2_14 rfl ?_
    refine r_aload_n f2_15 rfl ?_
    refine r_iload_n f2_16 rfl ?_
    refine r_iald f2_17 kd53 (by omega) (by omega) ?_
    refine r_top (e := m 53 i) (zcp_n (by omega)) ?_
    refine r_iast f2_18 (kdC1 (c := c) (by omega) (by omega)) (by omega) (by omega) (by omega) ?_
    refine r_iinc f2_19 rfl rfl rfl (e := i + 1) (by omega) (by omega) (by omega) (ls' := [some (.inr (.inl (some (64 + 5 * c)))), some (.inr (.inl (some 53))), some (.inl a), some (.inl (i + 1))]) rfl ?_
    refine r_goto f2_22 (t := 2) (by decide) ?_
    refine r_mem (m1 := (zcp m c a (i + 1))) (Eq.symm (by exact zcp_s hi)) ?_
    exact ih (i + 1) (by omega) (by omega)

theorem t_follow {L d : Nat} {m : zmem} {c : Int} (c0 : 0 ≤ c) (c1 : c < 40) (l0 : 0 ≤ m (64 + 5 * c) 6) (l1 : m (64 + 5 * c) 6 ≤ 7) {a : Int} (a0 : 0 ≤ a) (a1 : a ≤ m (64 + 5 * c) 6) : zF L (d) 2 [.inr (.inl (some (64 + 5 * c))), .inr (.inl (some 53)), .inl a] m none (zcp m c a (m (64 + 5 * c) 6)) := by
  refine zF_of n2 (ls := [some (.inr (.inl (some (64 + 5 * c)))), some (.inr (.inl (some 53))), some (.inl a), none]) rfl ?_
  refine r_iload_n f2_0 rfl ?_
  refine r_istore_n f2_1 rfl (ls' := [some (.inr (.inl (some (64 + 5 * c)))), some (.inr (.inl (some 53))), some (.inl a), some (.inl a)]) rfl ?_
  refine r_mem (m1 := zcp m c a a) (zcp_0 (by omega)) ?_
  refine l_follow c0 c1 l0 l1 a0 ?_ (m (64 + 5 * c) 6 - a).toNat a (by omega) (by omega)
  exact r_vret f2_25 v2 ⟨rfl, rfl⟩

abbrev XB (m : zmem) (c h a b : Int) : Prop := ∃ t, a ≤ t ∧ t ≤ b ∧ XA m c h t
theorem l_isLaidBetween {L d : Nat} {m : zmem} {c : Int} (c0 : 0 ≤ c) (c1 : c < 40) (f0 : 0 ≤ m (64 + 5 * c) 5) (f1 : m (64 + 5 * c) 5 ≤ 39) (l0 : 0 ≤ m (64 + 5 * c) 6) (l1 : m (64 + 5 * c) 6 ≤ 7) (hl : ∀ k, 0 ≤ k → k < 21 → 0 ≤ m (66 + 5 * c) k ∧ m (66 + 5 * c) k ≤ 9) {h a b : Int} (a0 : 0 ≤ a) (b1 : b < 40) (e : Int) (he : (e = 1 ∧ XB m c h a b) ∨ (e = 0 ∧ ¬ XB m c h a b)) : ∀ (n : Nat) (i : Int), a ≤ i → i + n = b + 1 → (∀ t, a ≤ t → t < i → ¬ XA m c h t) → zR (d + 4) 7 3 [some (.inr (.inl (some (64 + 5 * c)))), some (.inl h), some (.inl a), some (.inl b), some (.inl i)] [] (zem L m) (fun r M => r = some (.inl e) ∧ M = zem L m) := by
  intro n
  induction n with
  | zero =>
    intro i hi hn hw
    have hne : ¬ XB m c h a b := fun ⟨t, h1, h2, h3⟩ => hw t h1 (by omega) h3
    have e0 : e = 0 := by
      rcases he with he | he
      · exact absurd he.2 hne
      · exact he.1
    refine r_iload f7_3 rfl ?_
    refine r_iload_n f7_5 rfl ?_
    refine r_cgt f7_6 (t := 27) (by decide) (fun _ => ?_) (fun h => absurd (by omega) h)
    refine r_iconst f7_27 rfl ?_
    exact r_zret f7_28 v7 (by omega) ⟨zs_eq e0.symm, rfl⟩
  | succ n ih =>
    intro i hi hn hw
    refine r_iload f7_3 rfl ?_
    refine r_iload_n f7_5 rfl ?_
    refine r_cgt f7_6 (t := 27) (by decide) (fun h => absurd h (by omega)) (fun _ => ?_)
    refine r_aload_n f7_9 rfl ?_
    refine r_iload_n f7_10 rfl ?_
    refine r_iload f7_11 rfl ?_
    refine r_callv2i f7_13 o7 M0_49 p6 o6 (kdC0 (c := c) (by omega) (by omega)) rfl (by simp) (t_isLaidAt (h := h) (t := i) c0 c1 f0 f1 l0 l1 hl (by omega) (by omega)) ?_
    refine r_ite (fun q1 => ?_) (fun q1 => ?_)
    · refine r_zeq f7_16 (t := 21) (by decide) (fun h => absurd h (by omega)) (fun _ => ?_)
      refine r_iconst f7_19 rfl ?_
      have e0 : e = 1 := by
        rcases he with he | he
        · exact he.1
        · exact absurd ⟨i, hi, by omega, q1⟩ he.2
      exact r_zret f7_20 v7 (by omega) ⟨zs_eq e0.symm, rfl⟩
    · refine r_zeq f7_16 (t := 21) (by decide) (fun _ => ?_) (fun h => absurd (by omega) h)
      refine r_iinc f7_21 rfl rfl rfl (e := i + 1) (by omega) (by omega) (by omega) (ls' := [some (.inr (.inl (some (64 + 5 * c)))), some (.inl h), some (.inl a), some (.inl b), some (.inl (i + 1))]) rfl ?_
      refine r_goto f7_24 (t := 3) (by decide) ?_
      refine ih (i + 1) (by omega) (by omega) (fun t h1 h2 => ?_)
      by_cases ht : t = i
      · rw [ht]; exact q1
      · exact hw t h1 (by omega)
theorem t_isLaidBetween {L d : Nat} {m : zmem} {c : Int} (c0 : 0 ≤ c) (c1 : c < 40) (f0 : 0 ≤ m (64 + 5 * c) 5) (f1 : m (64 + 5 * c) 5 ≤ 39) (l0 : 0 ≤ m (64 + 5 * c) 6) (l1 : m (64 + 5 * c) 6 ≤ 7) (hl : ∀ k, 0 ≤ k → k < 21 → 0 ≤ m (66 + 5 * c) k ∧ m (66 + 5 * c) k ≤ 9) {h a b : Int} (a0 : 0 ≤ a) (a1 : a ≤ b) (b1 : b < 40) (e : Int) (he : (e = 1 ∧ XB m c h a b) ∨ (e = 0 ∧ ¬ XB m c h a b)) : zF L (d + 4) 7 [.inr (.inl (some (64 + 5 * c))), .inl h, .inl a, .inl b] m (some (.inl e)) m := by
  refine zF_of n7 (ls := [some (.inr (.inl (some (64 + 5 * c)))), some (.inl h), some (.inl a), some (.inl b), none]) rfl ?_
  refine r_iload_n f7_0 rfl ?_
  refine r_istore f7_1 rfl (ls' := [some (.inr (.inl (some (64 + 5 * c)))), some (.inl h), some (.inl a), some (.inl b), some (.inl a)]) rfl ?_
  exact l_isLaidBetween c0 c1 f0 f1 l0 l1 hl a0 b1 e he (b + 1 - a).toNat a (by omega) (by omega) (fun t h1 h2 => by omega)

theorem t_didLess {L d : Nat} {m : zmem} {c e : Int} (c0 : 0 ≤ c) (c1 : c < 40) (e0 : 0 ≤ e) (e1 : e < 40) (d0 : 0 ≤ m (64 + 5 * c) 8) (d1 : m (64 + 5 * c) 8 ≤ 400) (d2 : 0 ≤ m (64 + 5 * e) 8) (d3 : m (64 + 5 * e) 8 ≤ 400) (s0 : 0 ≤ m (64 + 5 * c) 4) (s1 : m (64 + 5 * c) 4 ≤ 12) (s2 : 0 ≤ m (64 + 5 * e) 4) (s3 : m (64 + 5 * e) 4 ≤ 12) : zF L (d) 11 [.inr (.inl (some (64 + 5 * c))), .inr (.inl (some (64 + 5 * e)))] m (some (.inl (if m (64 + 5 * c) 8 * m (64 + 5 * e) 4 < m (64 + 5 * e) 8 * m (64 + 5 * c) 4 then 1 else 0))) m := by
  refine zF_of n11 (ls := [some (.inr (.inl (some (64 + 5 * c)))), some (.inr (.inl (some (64 + 5 * e))))]) rfl ?_
  refine r_aload_n f11_0 rfl ?_
  refine r_getI f11_1 o11 F0_53 (gC_8 (c := c) (by omega) (by omega)) rfl ?_
  refine r_aload_n f11_4 rfl ?_
  refine r_getI f11_5 o11 F0_25 (gC_4 (c := e) (by omega) (by omega)) rfl ?_
  refine r_imul f11_8 (e := (m (64 + 5 * c) 8) * (m (64 + 5 * e) 4)) (by have := zmulb (a := m (64 + 5 * c) 8) (b := m (64 + 5 * e) 4) (A := 400) (B := 12) (by omega) (by omega) (by omega) (by omega); omega) (by have := zmulb (a := m (64 + 5 * c) 8) (b := m (64 + 5 * e) 4) (A := 400) (B := 12) (by omega) (by omega) (by omega) (by omega); omega) rfl ?_
  refine r_aload_n f11_9 rfl ?_
  refine r_getI f11_10 o11 F0_53 (gC_8 (c := e) (by omega) (by omega)) rfl ?_
  refine r_aload_n f11_13 rfl ?_
  refine r_getI f11_14 o11 F0_25 (gC_4 (c := c) (by omega) (by omega)) rfl ?_
  refine r_imul f11_17 (e := (m (64 + 5 * e) 8) * (m (64 + 5 * c) 4)) (by have := zmulb (a := m (64 + 5 * e) 8) (b := m (64 + 5 * c) 4) (A := 400) (B := 12) (by omega) (by omega) (by omega) (by omega); omega) (by have := zmulb (a := m (64 + 5 * e) 8) (b := m (64 + 5 * c) 4) (A := 400) (B := 12) (by omega) (by omega) (by omega) (by omega); omega) rfl ?_
  refine r_cge f11_18 (t := 25) (by decide) (fun q1 => ?_) (fun q1 => ?_)
  · refine r_iconst f11_25 rfl ?_
    exact r_zret f11_26 v11 (by omega) ⟨zs_eq (by first | rfl | omega | (repeat (first | rw [if_pos (by omega)] | rw [if_neg (by omega)]))), rfl⟩
  · refine r_iconst f11_21 rfl ?_
    refine r_goto f11_22 (t := 26) (by decide) ?_
    exact r_zret f11_26 v11 (by omega) ⟨zs_eq (by first | rfl | omega | (repeat (first | rw [if_pos (by omega)] | rw [if_neg (by omega)]))), rfl⟩

