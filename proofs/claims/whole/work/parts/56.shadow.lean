theorem zu_cm {m : zmem} {p k v q l u : Int} (h : ¬ p = q) : zu (zu m p k v) q l u = zu (zu m q l u) p k v := by
  funext x y
  rw [zu_if, zu_if, zu_if, zu_if]
  by_cases h1 : x = q ∧ y = l
  · rw [if_pos h1, if_neg (by omega), if_pos h1]
  · rw [if_neg h1]
    by_cases h2 : x = p ∧ y = k
    · rw [if_pos h2, if_pos h2]
    · rw [if_neg h2, if_neg h2, if_neg h1]
theorem XWC_Y {m : zmem} {h t n c i : Int} : XWC m h t n c i = XYa m h t c i (zsh0 (m (4 + 4 * h) (3 * t)) (m (4 + 4 * h) (3 * t + 1)) (m (4 + 4 * h) (3 * t + 2)) n) (zsh1 (m (4 + 4 * h) (3 * t)) (m (4 + 4 * h) (3 * t + 1)) (m (4 + 4 * h) (3 * t + 2)) n) (zsh2 (m (4 + 4 * h) (3 * t)) (m (4 + 4 * h) (3 * t + 1)) (m (4 + 4 * h) (3 * t + 2)) n) := rfl
theorem XYa_sh {a : zmem} {h t c i p q r s : Int} (h0 : 0 ≤ h) (h1 : h < 12) (c0 : 0 ≤ c) (c1 : c < 40) : XYa (zu a (64 + 5 * c) 7 s) h t c i p q r = zu (XYa a h t c i p q r) (64 + 5 * c) 7 s := by
  unfold XYa
  rw [zu_ne (by omega)]
  rw [zu_cm (p := 66 + 5 * c) (q := 64 + 5 * c) (by omega), zu_cm (p := 4 + 4 * h) (q := 64 + 5 * c) (by omega), zu_cm (p := 66 + 5 * c) (q := 64 + 5 * c) (by omega), zu_cm (p := 4 + 4 * h) (q := 64 + 5 * c) (by omega), zu_cm (p := 66 + 5 * c) (q := 64 + 5 * c) (by omega), zu_cm (p := 4 + 4 * h) (q := 64 + 5 * c) (by omega)]
theorem MYa_sh {b : zmem} {c i p q r s : Int} : MYa (zu b 275 c s) c i p q r = zu (MYa b c i p q r) 275 c s := by
  unfold MYa
  rw [zu_cm (p := 277) (q := 275) (by omega), zu_cm (p := 277) (q := 275) (by omega), zu_cm (p := 277) (q := 275) (by omega), zu_cm (p := 276) (q := 275) (by omega)]
