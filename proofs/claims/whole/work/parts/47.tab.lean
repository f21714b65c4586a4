theorem zfo_eq {ρ σ : Int → Int} {J J2 : Int → Prop} [DecidablePred J] [DecidablePred J2] {nh : Int} (hr : ∀ g, 0 ≤ g → g < nh → (ρ g = 1000 ∨ (0 ≤ ρ g ∧ ρ g < 1000)) ∧ σ g = (if ρ g = 1000 then -1 else ρ g) ∧ (J g ↔ J2 g)) : ∀ n : Nat, (n : Int) ≤ nh → zfd (zstM σ J2) (-1) n = (if zfd (zstN ρ J) (-1) n = -1 then -1 else ρ (zfd (zstN ρ J) (-1) n))
  | 0, _ => rfl
  | n + 1, hn => by
    have ih := zfo_eq hr n (by omega)
    have e : ((n + 1 : Nat) : Int) = (n : Int) + 1 := by omega
    rw [e, zfd_s (by omega), zfd_s (by omega), ih]
    have g := hr n (by omega) (by omega)
    have l := zstN_lt (ρ := ρ) (J := J) (i := (n : Int)) (by omega)
    revert l
    generalize zfd (zstN ρ J) (-1) (n : Int) = b
    intro l
    unfold zstM zstN
    have l2 : b = -1 ∨ (0 ≤ ρ b ∧ 0 ≤ b) := by
      rcases l with l | l
      · exact Or.inl l
      · have q := hr b (by omega) (by omega)
        omega
    by_cases hj : J n
    · have hj2 := g.2.2.1 hj
      by_cases hb : b = -1
      · by_cases h1 : ρ n = 1000
        · have es : σ n = -1 := by rw [g.2.1, if_pos h1]
          rw [if_neg (fun h => h.1 es), if_neg (c := ρ n < _ ∧ J n) (by rw [if_pos hb]; omega)]
        · have es : σ n = ρ n := by rw [g.2.1, if_neg h1]
          have c1 : ρ n < (if b = -1 then 1000 else ρ b) ∧ J n := by rw [if_pos hb]; exact ⟨by omega, hj⟩
          rw [if_pos c1, if_neg (show ¬ (n : Int) = -1 by omega), if_pos ⟨by omega, hj2, Or.inl (by rw [if_pos hb])⟩, es]
      · rw [if_neg hb, if_neg hb]
        by_cases h1 : ρ n < ρ b
        · have es : σ n = ρ n := by rw [g.2.1, if_neg (by omega)]
          rw [if_pos (c := ρ n < ρ b ∧ J n) ⟨h1, hj⟩, if_neg (show ¬ (n : Int) = -1 by omega), if_pos ⟨by omega, hj2, Or.inr (by omega)⟩, es]
        · rw [if_neg (c := ρ n < ρ b ∧ J n) (fun h => h1 h.1), if_neg hb, if_neg]
          intro h
          rcases h.2.2 with h3 | h3
          · omega
          · rw [g.2.1] at h3
            have h4 := h.1
            rw [g.2.1] at h4
            by_cases h5 : ρ n = 1000
            · rw [if_pos h5] at h4; omega
            · rw [if_neg h5] at h3; omega
    · rw [if_neg (c := _ ∧ J n) (fun h => hj h.2), if_neg (c := ¬ σ n = -1 ∧ _) (fun h => hj (g.2.2.2 h.2.1))]
/-- the least of like ones, and the least of all -/
theorem zstN_mn {ρ : Int → Int} {J : Int → Prop} [DecidablePred J] : ∀ n : Nat, ∀ g : Int, 0 ≤ g → g < n → J g → ρ g < 1000 → ¬ zfd (zstN ρ J) (-1) n = -1 ∧ ρ (zfd (zstN ρ J) (-1) n) ≤ ρ g ∧ (g < zfd (zstN ρ J) (-1) n → ρ (zfd (zstN ρ J) (-1) n) < ρ g)
  | 0, g, h0, h1, _, _ => by omega
  | n + 1, g, h0, h1, hj, hr => by
    have e : ((n + 1 : Nat) : Int) = (n : Int) + 1 := by omega
    rw [e, zfd_s (by omega)]
    have l := zstN_lt (ρ := ρ) (J := J) (i := (n : Int)) (by omega)
    have ih := zstN_mn (ρ := ρ) (J := J) n g h0
    revert l ih
    generalize zfd (zstN ρ J) (-1) (n : Int) = b
    intro l ih
    unfold zstN
    by_cases hg : g = n
    · subst hg
      by_cases hb : b = -1
      · rw [if_pos ⟨by rw [if_pos hb]; exact hr, hj⟩]
        omega
      · by_cases h2 : ρ n < ρ b
        · rw [if_pos ⟨by rw [if_neg hb]; exact h2, hj⟩]
          omega
        · rw [if_neg (fun h => by have := h.1; rw [if_neg hb] at this; exact h2 this)]
          omega
    · have i2 := ih (by omega) hj hr
      rw [if_neg (c := b = -1) i2.1]
      by_cases h2 : ρ n < ρ b ∧ J n
      · rw [if_pos h2]
        omega
      · rw [if_neg h2]
        exact i2
theorem zTbm {nh : Int} (hn : 0 ≤ nh) {J J2 Op Ma : Int → Int → Prop} [∀ a b, Decidable (J a b)] [∀ a b, Decidable (J2 a b)] [∀ a b, Decidable (Op a b)] [∀ a b, Decidable (Ma a b)] {wy wz : Int → Int} {last : Int} (hJ : ∀ a b, 0 ≤ a → a < nh → 0 ≤ b → b < nh → (J a b ↔ J2 a b)) : ∀ (r : Nat) (h : Int), r < 900 → 0 ≤ h → h < nh → (∀ i, last - r ≤ i → i ≤ last → wz i = wy i) → (∀ i g, last - r < i → i ≤ last → 0 ≤ g → g < nh → (Ma i g ↔ (¬ i = last ∨ wy i = g) ∧ Op i g)) → (Ma (last - r) h ↔ (¬ last - r = last ∨ wy (last - r) = h) ∧ Op (last - r) h) → zTm nh J2 Ma wz last r h = (if zTb nh J Op wy last r h = 1000 then -1 else zTb nh J Op wy last r h)
  | 0, h, _, h0, h1, hw, _, hE => by
    have e0 : last - ((0 : Nat) : Int) = last := by omega
    rw [e0] at hE
    have w0 := hw last (by omega) (by omega)
    unfold zTm zTb
    rw [w0]
    by_cases c : wy last = h ∧ Op last h
    · rw [if_pos (hE.2 ⟨Or.inr c.1, c.2⟩), if_pos c.1, if_pos c]
      rfl
    · rw [if_neg (c := Ma last h) (fun q => c (by have := hE.1 q; exact ⟨this.1.resolve_left (fun n => n rfl), this.2⟩)), if_neg c]
      rfl
  | r + 1, h, hr, h0, h1, hw, hA, hE => by
    have ih : ∀ g, 0 ≤ g → g < nh → zTm nh J2 Ma wz last r g = (if zTb nh J Op wy last r g = 1000 then -1 else zTb nh J Op wy last r g) := fun g g0 g1 => zTbm hn hJ r g (by omega) g0 g1 (fun i a b => hw i (by omega) b) (fun i k a b c d => hA i k (by omega) b c d) (hA (last - r) g (by omega) (by omega) g0 g1)
    have fe := zfo_eq (ρ := zTb nh J Op wy last r) (σ := zTm nh J2 Ma wz last r) (J := J h) (J2 := J2 h) (nh := nh) (fun g g0 g1 => ⟨by have := zTb_b (J := J) (Op := Op) (wy := wy) (last := last) hn r g (by omega); omega, ih g g0 g1, hJ h g h0 h1 g0 g1⟩) nh.toNat (by omega)
    rw [Int.toNat_of_nonneg hn] at fe
    have w0 := hw (last - (r + 1 : Nat)) (by omega) (by omega)
    have l := zstN_lt (ρ := zTb nh J Op wy last r) (J := J h) (i := nh) hn
    have bb := fun g => zTb_b (J := J) (Op := Op) (wy := wy) (last := last) hn r g (by omega)
    unfold zTm zTb
    rw [fe, w0]
    revert l
    generalize zfd (zstN (zTb nh J Op wy last r) (J h)) (-1) nh = b
    intro l
    by_cases c : Op (last - (r + 1 : Nat)) h
    · have cM := hE.2 ⟨Or.inl (by omega), c⟩
      rw [if_pos c]
      by_cases hb : b = -1
      · rw [if_pos hb, if_pos hb, if_neg (fun q => q.2 rfl)]
        rfl
      · have b1 := bb b
        rw [if_neg hb, if_neg hb, if_pos ⟨cM, by omega⟩]
        split <;> (rw [if_neg (by omega)]; omega)
    · rw [if_neg c, if_neg (fun q => c (hE.1 q.1).2)]
      rfl

