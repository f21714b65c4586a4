theorem sm_lays {T c : Int} : ∀ (n : Nat) (i : Int) (a b : zmem), Sim T a b → 0 ≤ c → c < b 264 10 → 0 ≤ i → i + n = b 273 c → ¬ b 275 c = 0 → Lay b c i → Sim T (XLy c n i a) (MLy c n i b)
  | 0, _, _, _, hs, _, _, _, _, _, _ => hs
  | n + 1, i, a, b, hs, c0, c1, i0, hn, hst, hl => by
    have q := sm_lay1 hs c0 c1 i0 (by omega) hst hl
    have e9 : ML1 b c i 264 = b 264 := by unfold ML1 MYa; rw [zu_ne (by omega), zu_ne (by omega), zu_ne (by omega), zu_ne (by omega)]
    have e3 : ML1 b c i 273 = b 273 := by unfold ML1 MYa; rw [zu_ne (by omega), zu_ne (by omega), zu_ne (by omega), zu_ne (by omega)]
    have e5 : ML1 b c i 275 = b 275 := by unfold ML1 MYa; rw [zu_ne (by omega), zu_ne (by omega), zu_ne (by omega), zu_ne (by omega)]
    exact sm_lays n (i + 1) _ _ q.1 c0 (by rw [e9]; exact c1) (by omega) (by rw [e3]; omega) (by rw [e5]; exact hst) q.2
