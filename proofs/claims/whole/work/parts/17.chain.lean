theorem zmulb {a b A B : Int} (h1 : 0 ≤ a) (h2 : a ≤ A) (h3 : 0 ≤ b) (h4 : b ≤ B) : 0 ≤ a * b ∧ a * b ≤ A * B := ⟨Int.mul_nonneg h1 h3, Int.mul_le_mul h2 h4 h3 (Int.le_trans h1 h2)⟩
def zsn (f : Int → Int) : Nat → Int
  | 0 => 0
  | n + 1 => zsn f n + f (n : Int)
def zsum (f : Int → Int) (i : Int) : Int := zsn f i.toNat
theorem zsum_0 (f : Int → Int) : zsum f 0 = 0 := rfl
theorem zsum_s {f : Int → Int} {i : Int} (h : 0 ≤ i) : zsum f (i + 1) = zsum f i + f i := by
  unfold zsum
  rw [show (i + 1).toNat = i.toNat + 1 by omega, zsn, Int.toNat_of_nonneg h]
theorem zsn_c {f g : Int → Int} : ∀ n : Nat, (∀ k : Int, 0 ≤ k → k < n → f k = g k) → zsn f n = zsn g n
  | 0, _ => rfl
  | n + 1, h => by rw [zsn, zsn, zsn_c n (fun k h0 h1 => h k h0 (by omega)), h n (by omega) (by omega)]
theorem zsum_c {f g : Int → Int} {n : Int} (h : ∀ k : Int, 0 ≤ k → k < n → f k = g k) : zsum f n = zsum g n := zsn_c _ (fun k h0 h1 => h k h0 (by omega))
theorem zsn_b {f : Int → Int} {A B : Int} : ∀ n : Nat, (∀ k : Int, 0 ≤ k → k < n → A ≤ f k ∧ f k ≤ B) → A * n ≤ zsn f n ∧ zsn f n ≤ B * n
  | 0, _ => by simp [zsn]
  | n + 1, h => by
    have h1 := zsn_b n (fun k h0 h1 => h k h0 (by omega))
    have h2 := h n (by omega) (by omega)
    rw [zsn]
    have e1 : A * ((n + 1 : Nat) : Int) = A * n + A := by rw [Int.natCast_succ, Int.mul_add, Int.mul_one]
    have e2 : B * ((n + 1 : Nat) : Int) = B * n + B := by rw [Int.natCast_succ, Int.mul_add, Int.mul_one]
    omega
theorem zsum_b {f : Int → Int} {A B n : Int} (hn : 0 ≤ n) (h : ∀ k : Int, 0 ≤ k → k < n → A ≤ f k ∧ f k ≤ B) : A * n ≤ zsum f n ∧ zsum f n ≤ B * n := by
  have h1 := zsn_b (f := f) (A := A) (B := B) n.toNat (fun k h0 h1 => h k h0 (by omega))
  rw [Int.toNat_of_nonneg hn] at h1
  exact h1
/-- the first k from i on (n of them) with P, else -1 -/
def zff (P : Int → Prop) [DecidablePred P] : Int → Nat → Int
  | _, 0 => -1
  | i, n + 1 => if P i then i else zff P (i + 1) n
/-- a fold -/
def zfdn (f : Int → Int → Int) (a : Int) : Nat → Int
  | 0 => a
  | n + 1 => f (n : Int) (zfdn f a n)
def zfd (f : Int → Int → Int) (a i : Int) : Int := zfdn f a i.toNat
theorem zfd_0 (f : Int → Int → Int) (a : Int) : zfd f a 0 = a := rfl
theorem zfd_s {f : Int → Int → Int} {a i : Int} (h : 0 ≤ i) : zfd f a (i + 1) = f i (zfd f a i) := by
  unfold zfd
  rw [show (i + 1).toNat = i.toNat + 1 by omega, zfdn, Int.toNat_of_nonneg h]
abbrev XL (m : zmem) (c i : Int) : Prop := 0 < m (66 + 5 * c) (3 * i) + m (66 + 5 * c) (3 * i + 1) + m (66 + 5 * c) (3 * i + 2)
abbrev XH (m : zmem) (c t : Int) : Prop := 0 ≤ t - m (64 + 5 * c) 5 ∧ t - m (64 + 5 * c) 5 < m (64 + 5 * c) 6
abbrev XO (m : zmem) (c t : Int) : Prop := XH m c t ∧ XL m c (t - m (64 + 5 * c) 5)
abbrev XA (m : zmem) (c h t : Int) : Prop := XO m c t ∧ m (65 + 5 * c) (t - m (64 + 5 * c) 5) = h
abbrev XS (m : zmem) (c h t : Int) : Prop := XH m c t ∧ ¬ m (68 + 5 * c) (t - m (64 + 5 * c) 5) = 0 ∧ m (65 + 5 * c) (t - m (64 + 5 * c) 5) = h
abbrev XP (m : zmem) (c t : Int) : Prop := XH m c t ∧ ¬ m (67 + 5 * c) (t - m (64 + 5 * c) 5) = 0
theorem t_ask {L d : Nat} {m : zmem} {c : Int} (c0 : 0 ≤ c) (c1 : c < 40) (a b e : Int) : zF L (d) 1 [.inr (.inl (some (64 + 5 * c))), .inl a, .inl b, .inl e] m none (zu (zu (zu (zu m (64 + 5 * c) 4 a) (64 + 5 * c) 5 b) (65 + 5 * c) 0 e) (64 + 5 * c) 6 1) := by
  refine zF_of n1 (ls := [some (.inr (.inl (some (64 + 5 * c)))), some (.inl a), some (.inl b), some (.inl e)]) rfl ?_
  refine r_aload_n f1_0 rfl ?_
  refine r_iload_n f1_1 rfl ?_
  refine r_put f1_2 o1 F0_25 (gC_4 (c := c) (by omega) (by omega)) rfl T0_4 U0_4 ?_
  refine r_aload_n f1_5 rfl ?_
  refine r_iload_n f1_6 rfl ?_
  refine r_put f1_7 o1 F0_29 (gC_5 (c := c) (by omega) (by omega)) rfl T0_5 U0_5 ?_
  refine r_aload_n f1_10 rfl ?_
  refine r_getR f1_11 o1 F0_9 (gC_0 (c := c) (by omega) (by omega)) rfl ?_
  refine r_iconst f1_14 rfl ?_
  refine r_iload_n f1_15 rfl ?_
  refine r_iast f1_16 (kdC1 (c := c) (by omega) (by omega)) (by omega) (by omega) (by omega) ?_
  refine r_aload_n f1_17 rfl ?_
  refine r_iconst f1_18 rfl ?_
  refine r_put f1_19 o1 F0_32 (gC_6 (c := c) (by omega) (by omega)) rfl T0_6 U0_6 ?_
  exact r_vret f1_22 v1 ⟨rfl, rfl⟩

theorem t_isLaid {L d : Nat} {m : zmem} {c : Int} (c0 : 0 ≤ c) (c1 : c < 40) {i : Int} (i0 : 0 ≤ i) (i1 : i < 7) (hl : ∀ k, 0 ≤ k → k < 21 → 0 ≤ m (66 + 5 * c) k ∧ m (66 + 5 * c) k ≤ 9)  : zF L (d) 3 [.inr (.inl (some (64 + 5 * c))), .inl i] m (some (.inl (if XL m c i then 1 else 0))) m := by
  have r0 := hl (3 * i) (by omega) (by omega)
  have r1 := hl (3 * i + 1) (by omega) (by omega)
  have r2 := hl (3 * i + 2) (by omega) (by omega)
  refine zF_of n3 (ls := [some (.inr (.inl (some (64 + 5 * c)))), some (.inl i), none, none]) rfl ?_
  refine r_iconst f3_0 rfl ?_
  refine r_istore_n f3_1 rfl (ls' := [some (.inr (.inl (some (64 + 5 * c)))), some (.inl i), some (.inl 0), none]) rfl ?_
  refine r_iconst f3_2 rfl ?_
  refine r_istore_n f3_3 rfl (ls' := [some (.inr (.inl (some (64 + 5 * c)))), some (.inl i), some (.inl 0), some (.inl 0)]) rfl ?_
  refine r_iload_n f3_4 rfl ?_
  refine r_iconst f3_5 rfl ?_
  refine r_cge f3_6 (t := 28) (by decide) (fun h => absurd h (by omega)) (fun _ => ?_)
  refine r_iload_n f3_9 rfl ?_
  refine r_aload_n f3_10 rfl ?_
  refine r_getR f3_11 o3 F0_15 (gC_1 (c := c) (by omega) (by omega)) rfl ?_
  refine r_iload_n f3_14 rfl ?_
  refine r_iconst f3_15 rfl ?_
  refine r_imul f3_16 (e := 3 * i) (by omega) (by omega) (by omega) ?_
  refine r_iload_n f3_17 rfl ?_
  refine r_iadd f3_18 (e := 3 * i) (by omega) (by omega) (by omega) ?_
  refine r_iald f3_19 (kdC2 (c := c) (by omega) (by omega)) (by omega) (by omega) ?_
  refine r_iadd f3_20 (e := m (66 + 5 * c) (3 * i)) (by omega) (by omega) (by omega) ?_
  refine r_istore_n f3_21 rfl (ls' := [some (.inr (.inl (some (64 + 5 * c)))), some (.inl i), some (.inl (m (66 + 5 * c) (3 * i))), some (.inl 0)]) rfl ?_
  refine r_iinc f3_22 rfl rfl rfl (e := 1) (by omega) (by omega) (by omega) (ls' := [some (.inr (.inl (some (64 + 5 * c)))), some (.inl i), some (.inl (m (66 + 5 * c) (3 * i))), some (.inl 1)]) rfl ?_
  refine r_goto f3_25 (t := 4) (by decide) ?_
  refine r_iload_n f3_4 rfl ?_
  refine r_iconst f3_5 rfl ?_
  refine r_cge f3_6 (t := 28) (by decide) (fun h => absurd h (by omega)) (fun _ => ?_)
  refine r_iload_n f3_9 rfl ?_
  refine r_aload_n f3_10 rfl ?_
  refine r_getR f3_11 o3 F0_15 (gC_1 (c := c) (by omega) (by omega)) rfl ?_
  refine r_iload_n f3_14 rfl ?_
  refine r_iconst f3_15 rfl ?_
  refine r_imul f3_16 (e := 3 * i) (by omega) (by omega) (by omega) ?_
  refine r_iload_n f3_17 rfl ?_
  refine r_iadd f3_18 (e := 3 * i + 1) (by omega) (by omega) (by omega) ?_
  refine r_iald f3_19 (kdC2 (c := c) (by omega) (by omega)) (by omega) (by omega) ?_
  refine r_iadd f3_20 (e := m (66 + 5 * c) (3 * i + 1) + m (66 + 5 * c) (3 * i)) (by omega) (by omega) (by omega) ?_
  refine r_istore_n f3_21 rfl (ls' := [some (.inr (.inl (some (64 + 5 * c)))), some (.inl i), some (.inl (m (66 + 5 * c) (3 * i + 1) + m (66 + 5 * c) (3 * i))), some (.inl 1)]) rfl ?_
  refine r_iinc f3_22 rfl rfl rfl (e := 2) (by omega) (by omega) (by omega) (ls' := [some (.inr (.inl (some (64 + 5 * c)))), some (.inl i), some (.inl (m (66 + 5 * c) (3 * i + 1) + m (66 + 5 * c) (3 * i))), some (.inl 2)]) rfl ?_
  refine r_goto f3_25 (t := 4) (by decide) ?_
  refine r_iload_n f3_4 rfl ?_
  refine r_iconst f3_5 rfl ?_
  refine r_cge f3_6 (t := 28) (by decide) (fun h => absurd h (by omega)) (fun _ => ?_)
  refine r_iload_n f3_9 rfl ?_
  refine r_aload_n f3_10 rfl ?_
  refine r_getR f3_11 o3 F0_15 (gC_1 (c := c) (by omega) (by omega)) rfl ?_
  refine r_iload_n f3_14 rfl ?_
  refine r_iconst f3_15 rfl ?_
  refine r_imul f3_16 (e := 3 * i) (by omega) (by omega) (by omega) ?_
  refine r_iload_n f3_17 rfl ?_
  refine r_iadd f3_18 (e := 3 * i + 2) (by omega) (by omega) (by omega) ?_
  refine r_iald f3_19 (kdC2 (c := c) (by omega) (by omega)) (by omega) (by omega) ?_
  refine r_iadd f3_20 (e := m (66 + 5 * c) (3 * i + 1) + m (66 + 5 * c) (3 * i + 2) + m (66 + 5 * c) (3 * i)) (by omega) (by omega) (by omega) ?_
  refine r_istore_n f3_21 rfl (ls' := [some (.inr (.inl (some (64 + 5 * c)))), some (.inl i), some (.inl (m (66 + 5 * c) (3 * i + 1) + m (66 + 5 * c) (3 * i + 2) + m (66 + 5 * c) (3 * i))), some (.inl 2)]) rfl ?_
  refine r_iinc f3_22 rfl rfl rfl (e := 3) (by omega) (by omega) (by omega) (ls' := [some (.inr (.inl (some (64 + 5 * c)))), some (.inl i), some (.inl (m (66 + 5 * c) (3 * i + 1) + m (66 + 5 * c) (3 * i + 2) + m (66 + 5 * c) (3 * i))), some (.inl 3)]) rfl ?_
  refine r_goto f3_25 (t := 4) (by decide) ?_
  refine r_iload_n f3_4 rfl ?_
  refine r_iconst f3_5 rfl ?_
  refine r_cge f3_6 (t := 28) (by decide) (fun _ => ?_) (fun h => absurd (by omega) h)
  refine r_iload_n f3_28 rfl ?_
  refine r_zle f3_29 (t := 36) (by decide) (fun q1 => ?_) (fun q1 => ?_)
  · refine r_iconst f3_36 rfl ?_
    exact r_zret f3_37 v3 (by omega) ⟨zs_eq (by first | rfl | omega | (repeat (first | rw [if_pos (by omega)] | rw [if_neg (by omega)]))), rfl⟩
  · refine r_iconst f3_32 rfl ?_
    refine r_goto f3_33 (t := 37) (by decide) ?_
    exact r_zret f3_37 v3 (by omega) ⟨zs_eq (by first | rfl | omega | (repeat (first | rw [if_pos (by omega)] | rw [if_neg (by omega)]))), rfl⟩

theorem t_has {L d : Nat} {m : zmem} {c : Int} (c0 : 0 ≤ c) (c1 : c < 40) (f0 : 0 ≤ m (64 + 5 * c) 5) (f1 : m (64 + 5 * c) 5 ≤ 39) (l0 : 0 ≤ m (64 + 5 * c) 6) (l1 : m (64 + 5 * c) 6 ≤ 7) {t : Int} (t0 : 0 ≤ t) (t1 : t < 40)  : zF L (d + 1) 4 [.inr (.inl (some (64 + 5 * c))), .inl t] m (some (.inl (if XH m c t then 1 else 0))) m := by
  refine zF_of n4 (ls := [some (.inr (.inl (some (64 + 5 * c)))), some (.inl t)]) rfl ?_
  refine r_iload_n f4_0 rfl ?_
  refine r_aload_n f4_1 rfl ?_
  refine r_getI f4_2 o4 F0_29 (gC_5 (c := c) (by omega) (by omega)) rfl ?_
  refine r_isub f4_5 (e := t - m (64 + 5 * c) 5) (by omega) (by omega) (by omega) ?_
  refine r_iconst f4_6 rfl ?_
  refine r_aload_n f4_7 rfl ?_
  refine r_getI f4_8 o4 F0_32 (gC_6 (c := c) (by omega) (by omega)) rfl ?_
  refine r_iconst f4_11 rfl ?_
  refine r_isub f4_12 (e := m (64 + 5 * c) 6 - 1) (by omega) (by omega) (by omega) ?_
  refine r_calls3i f4_13 o4 M0_35 (Or.inr rfl) p67 rfl (by simp) (t_within (t - m (64 + 5 * c) 5) 0 (m (64 + 5 * c) 6 - 1)) ?_
  refine r_ite (fun q1 => ?_) (fun q1 => ?_)
  · exact r_zret f4_16 v4 (by omega) ⟨zs_eq (by first | rfl | omega | (repeat (first | rw [if_pos (by omega)] | rw [if_neg (by omega)]))), rfl⟩
  · exact r_zret f4_16 v4 (by omega) ⟨zs_eq (by first | rfl | omega | (repeat (first | rw [if_pos (by omega)] | rw [if_neg (by omega)]))), rfl⟩

theorem t_isLaidOn {L d : Nat} {m : zmem} {c : Int} (c0 : 0 ≤ c) (c1 : c < 40) (f0 : 0 ≤ m (64 + 5 * c) 5) (f1 : m (64 + 5 * c) 5 ≤ 39) (l0 : 0 ≤ m (64 + 5 * c) 6) (l1 : m (64 + 5 * c) 6 ≤ 7) (hl : ∀ k, 0 ≤ k → k < 21 → 0 ≤ m (66 + 5 * c) k ∧ m (66 + 5 * c) k ≤ 9) {t : Int} (t0 : 0 ≤ t) (t1 : t < 40)  : zF L (d + 2) 5 [.inr (.inl (some (64 + 5 * c))), .inl t] m (some (.inl (if XO m c t then 1 else 0))) m := by
  refine zF_of n5 (ls := [some (.inr (.inl (some (64 + 5 * c)))), some (.inl t)]) rfl ?_
  refine r_aload_n f5_0 rfl ?_
  refine r_iload_n f5_1 rfl ?_
  refine r_callv1i f5_2 o5 M0_39 p4 o4 (kdC0 (c := c) (by omega) (by omega)) rfl (by simp) (t_has c0 c1 f0 f1 l0 l1 t0 t1) ?_
  refine r_ite (fun q1 => ?_) (fun q1 => ?_)
  · refine r_zeq f5_5 (t := 25) (by decide) (fun h => absurd h (by omega)) (fun _ => ?_)
    refine r_aload_n f5_8 rfl ?_
    refine r_iload_n f5_9 rfl ?_
    refine r_aload_n f5_10 rfl ?_
    refine r_getI f5_11 o5 F0_29 (gC_5 (c := c) (by omega) (by omega)) rfl ?_
    refine r_isub f5_14 (e := t - m (64 + 5 * c) 5) (by omega) (by omega) (by omega) ?_
    refine r_callv1i f5_15 o5 M0_43 p3 o3 (kdC0 (c := c) (by omega) (by omega)) rfl (by simp) (t_isLaid (i := t - m (64 + 5 * c) 5) c0 c1 (by omega) (by omega) hl) ?_
    refine r_ite (fun q2 => ?_) (fun q2 => ?_)
    · refine r_zeq f5_18 (t := 25) (by decide) (fun h => absurd h (by omega)) (fun _ => ?_)
      refine r_iconst f5_21 rfl ?_
      refine r_goto f5_22 (t := 26) (by decide) ?_
      exact r_zret f5_26 v5 (by omega) ⟨zs_eq (by first | rfl | omega | (repeat (first | rw [if_pos (by omega)] | rw [if_neg (by omega)]))), rfl⟩
    · refine r_zeq f5_18 (t := 25) (by decide) (fun _ => ?_) (fun h => absurd (by omega) h)
      refine r_iconst f5_25 rfl ?_
      exact r_zret f5_26 v5 (by omega) ⟨zs_eq (by first | rfl | omega | (repeat (first | rw [if_pos (by omega)] | rw [if_neg (by omega)]))), rfl⟩
  · refine r_zeq f5_5 (t := 25) (by decide) (fun _ => ?_) (fun h => absurd (by omega) h)
    refine r_iconst f5_25 rfl ?_
    exact r_zret f5_26 v5 (by omega) ⟨zs_eq (by first | rfl | omega | (repeat (first | rw [if_pos (by omega)] | rw [if_neg (by omega)]))), rfl⟩

theorem t_isLaidAt {L d : Nat} {m : zmem} {c : Int} (c0 : 0 ≤ c) (c1 : c < 40) (f0 : 0 ≤ m (64 + 5 * c) 5) (f1 : m (64 + 5 * c) 5 ≤ 39) (l0 : 0 ≤ m (64 + 5 * c) 6) (l1 : m (64 + 5 * c) 6 ≤ 7) (hl : ∀ k, 0 ≤ k → k < 21 → 0 ≤ m (66 + 5 * c) k ∧ m (66 + 5 * c) k ≤ 9) {h t : Int} (t0 : 0 ≤ t) (t1 : t < 40)  : zF L (d + 3) 6 [.inr (.inl (some (64 + 5 * c))), .inl h, .inl t] m (some (.inl (if XA m c h t then 1 else 0))) m := by
  refine zF_of n6 (ls := [some (.inr (.inl (some (64 + 5 * c)))), some (.inl h), some (.inl t)]) rfl ?_
  refine r_aload_n f6_0 rfl ?_
  refine r_iload_n f6_1 rfl ?_
  refine r_callv1i f6_2 o6 M0_46 p5 o5 (kdC0 (c := c) (by omega) (by omega)) rfl (by simp) (t_isLaidOn c0 c1 f0 f1 l0 l1 hl t0 t1) ?_
  refine r_ite (fun q1 => ?_) (fun q1 => ?_)
  · refine r_zeq f6_5 (t := 27) (by decide) (fun h => absurd h (by omega)) (fun _ => ?_)
    refine r_aload_n f6_8 rfl ?_
    refine r_getR f6_9 o6 F0_9 (gC_0 (c := c) (by omega) (by omega)) rfl ?_
    refine r_iload_n f6_12 rfl ?_
    refine r_aload_n f6_13 rfl ?_
    refine r_getI f6_14 o6 F0_29 (gC_5 (c := c) (by omega) (by omega)) rfl ?_
    refine r_isub f6_17 (e := t - m (64 + 5 * c) 5) (by omega) (by omega) (by omega) ?_
    refine r_iald f6_18 (kdC1 (c := c) (by omega) (by omega)) (by omega) (by omega) ?_
    refine r_iload_n f6_19 rfl ?_
    refine r_cne f6_20 (t := 27) (by decide) (fun q2 => ?_) (fun q2 => ?_)
    · refine r_iconst f6_27 rfl ?_
      exact r_zret f6_28 v6 (by omega) ⟨zs_eq (by first | rfl | omega | (repeat (first | rw [if_pos (by omega)] | rw [if_neg (by omega)]))), rfl⟩
    · refine r_iconst f6_23 rfl ?_
      refine r_goto f6_24 (t := 28) (by decide) ?_
      exact r_zret f6_28 v6 (by omega) ⟨zs_eq (by first | rfl | omega | (repeat (first | rw [if_pos (by omega)] | rw [if_neg (by omega)]))), rfl⟩
  · refine r_zeq f6_5 (t := 27) (by decide) (fun _ => ?_) (fun h => absurd (by omega) h)
    refine r_iconst f6_27 rfl ?_
    exact r_zret f6_28 v6 (by omega) ⟨zs_eq (by first | rfl | omega | (repeat (first | rw [if_pos (by omega)] | rw [if_neg (by omega)]))), rfl⟩

theorem t_sleptAt {L d : Nat} {m : zmem} {c : Int} (c0 : 0 ≤ c) (c1 : c < 40) (f0 : 0 ≤ m (64 + 5 * c) 5) (f1 : m (64 + 5 * c) 5 ≤ 39) (l0 : 0 ≤ m (64 + 5 * c) 6) (l1 : m (64 + 5 * c) 6 ≤ 7) {h t : Int} (t0 : 0 ≤ t) (t1 : t < 40)  : zF L (d + 2) 9 [.inr (.inl (some (64 + 5 * c))), .inl h, .inl t] m (some (.inl (if XS m c h t then 1 else 0))) m := by
  refine zF_of n9 (ls := [some (.inr (.inl (some (64 + 5 * c)))), some (.inl h), some (.inl t)]) rfl ?_
  refine r_aload_n f9_0 rfl ?_
  refine r_iload_n f9_1 rfl ?_
  refine r_callv1i f9_2 o9 M0_39 p4 o4 (kdC0 (c := c) (by omega) (by omega)) rfl (by simp) (t_has c0 c1 f0 f1 l0 l1 t0 t1) ?_
  refine r_ite (fun q1 => ?_) (fun q1 => ?_)
  · refine r_zeq f9_5 (t := 41) (by decide) (fun h => absurd h (by omega)) (fun _ => ?_)
    refine r_aload_n f9_8 rfl ?_
    refine r_getR f9_9 o9 F0_22 (gC_3 (c := c) (by omega) (by omega)) rfl ?_
    refine r_iload_n f9_12 rfl ?_
    refine r_aload_n f9_13 rfl ?_
    refine r_getI f9_14 o9 F0_29 (gC_5 (c := c) (by omega) (by omega)) rfl ?_
    refine r_isub f9_17 (e := t - m (64 + 5 * c) 5) (by omega) (by omega) (by omega) ?_
    refine r_bald f9_18 (kdC4 (c := c) (by omega) (by omega)) (by omega) (by omega) ?_
    refine r_zeq f9_19 (t := 41) (by decide) (fun q2 => ?_) (fun q2 => ?_)
    · refine r_iconst f9_41 rfl ?_
      exact r_zret f9_42 v9 (by omega) ⟨zs_eq (by first | rfl | omega | (repeat (first | rw [if_pos (by omega)] | rw [if_neg (by omega)]))), rfl⟩
    · refine r_aload_n f9_22 rfl ?_
      refine r_getR f9_23 o9 F0_9 (gC_0 (c := c) (by omega) (by omega)) rfl ?_
      refine r_iload_n f9_26 rfl ?_
      refine r_aload_n f9_27 rfl ?_
      refine r_getI f9_28 o9 F0_29 (gC_5 (c := c) (by omega) (by omega)) rfl ?_
      refine r_isub f9_31 (e := t - m (64 + 5 * c) 5) (by omega) (by omega) (by omega) ?_
      refine r_iald f9_32 (kdC1 (c := c) (by omega) (by omega)) (by omega) (by omega) ?_
      refine r_iload_n f9_33 rfl ?_
      refine r_cne f9_34 (t := 41) (by decide) (fun q3 => ?_) (fun q3 => ?_)
      · refine r_iconst f9_41 rfl ?_
        exact r_zret f9_42 v9 (by omega) ⟨zs_eq (by first | rfl | omega | (repeat (first | rw [if_pos (by omega)] | rw [if_neg (by omega)]))), rfl⟩
      · refine r_iconst f9_37 rfl ?_
        refine r_goto f9_38 (t := 42) (by decide) ?_
        exact r_zret f9_42 v9 (by omega) ⟨zs_eq (by first | rfl | omega | (repeat (first | rw [if_pos (by omega)] | rw [if_neg (by omega)]))), rfl⟩
  · refine r_zeq f9_5 (t := 41) (by decide) (fun _ => ?_) (fun h => absurd (by omega) h)
    refine r_iconst f9_41 rfl ?_
    exact r_zret f9_42 v9 (by omega) ⟨zs_eq (by first | rfl | omega | (repeat (first | rw [if_pos (by omega)] | rw [if_neg (by omega)]))), rfl⟩

theorem t_sleep {L d : Nat} {m : zmem} {c : Int} (c0 : 0 ≤ c) (c1 : c < 40) (f0 : 0 ≤ m (64 + 5 * c) 5) (f1 : m (64 + 5 * c) 5 ≤ 39) (l0 : 0 ≤ m (64 + 5 * c) 6) (l1 : m (64 + 5 * c) 6 ≤ 7) {t : Int} (t0 : 0 ≤ t) (t1 : t < 40)  : zF L (d + 2) 8 [.inr (.inl (some (64 + 5 * c))), .inl t] m (some (.inl (if XP m c t then 1 else 0))) (if XP m c t then (zu m (68 + 5 * c) (t - m (64 + 5 * c) 5) 1) else m) := by
  refine zF_of n8 (ls := [some (.inr (.inl (some (64 + 5 * c)))), some (.inl t)]) rfl ?_
  refine r_aload_n f8_0 rfl ?_
  refine r_iload_n f8_1 rfl ?_
  refine r_callv1i f8_2 o8 M0_39 p4 o4 (kdC0 (c := c) (by omega) (by omega)) rfl (by simp) (t_has c0 c1 f0 f1 l0 l1 t0 t1) ?_
  refine r_ite (fun q1 => ?_) (fun q1 => ?_)
  · refine r_zeq f8_5 (t := 22) (by decide) (fun h => absurd h (by omega)) (fun _ => ?_)
    refine r_aload_n f8_8 rfl ?_
    refine r_getR f8_9 o8 F0_18 (gC_2 (c := c) (by omega) (by omega)) rfl ?_
    refine r_iload_n f8_12 rfl ?_
    refine r_aload_n f8_13 rfl ?_
    refine r_getI f8_14 o8 F0_29 (gC_5 (c := c) (by omega) (by omega)) rfl ?_
    refine r_isub f8_17 (e := t - m (64 + 5 * c) 5) (by omega) (by omega) (by omega) ?_
    refine r_bald f8_18 (kdC3 (c := c) (by omega) (by omega)) (by omega) (by omega) ?_
    refine r_zne f8_19 (t := 24) (by decide) (fun q2 => ?_) (fun q2 => ?_)
    · refine r_aload_n f8_24 rfl ?_
      refine r_getR f8_25 o8 F0_22 (gC_3 (c := c) (by omega) (by omega)) rfl ?_
      refine r_iload_n f8_28 rfl ?_
      refine r_aload_n f8_29 rfl ?_
      refine r_getI f8_30 o8 F0_29 (gC_5 (c := c) (by omega) (by omega)) rfl ?_
      refine r_isub f8_33 (e := t - m (64 + 5 * c) 5) (by omega) (by omega) (by omega) ?_
      refine r_iconst f8_34 rfl ?_
      refine r_bast f8_35 (kdC4 (c := c) (by omega) (by omega)) (by omega) (by omega) (by omega) (by omega) ?_
      refine r_iconst f8_36 rfl ?_
      exact r_zret f8_37 v8 (by omega) ⟨zs_eq (by first | rfl | omega | (repeat (first | rw [if_pos (by omega)] | rw [if_neg (by omega)]))), by rw [if_pos (by omega)]⟩
    · refine r_iconst f8_22 rfl ?_
      exact r_zret f8_23 v8 (by omega) ⟨zs_eq (by first | rfl | omega | (repeat (first | rw [if_pos (by omega)] | rw [if_neg (by omega)]))), by rw [if_neg (by omega)]⟩
  · refine r_zeq f8_5 (t := 22) (by decide) (fun _ => ?_) (fun h => absurd (by omega) h)
    refine r_iconst f8_22 rfl ?_
    exact r_zret f8_23 v8 (by omega) ⟨zs_eq (by first | rfl | omega | (repeat (first | rw [if_pos (by omega)] | rw [if_neg (by omega)]))), by rw [if_neg (by omega)]⟩

