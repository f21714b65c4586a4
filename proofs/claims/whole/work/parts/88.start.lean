def zM0 (L : Nat) (xs : Nat → Int32) : zM := (0, 0, fun q => if q = -1 then zsc L xs else if q = -2 then zds else (.inl 99, fun _ => .inl 0))
theorem zM0_W {dC : Nat → ClassId} {dI : Nat → Nat → Nat} {cA : Nat → ClassId} {base b t0 L : Nat} {xs : Nat → Int32} {H : Heap} (hL : L ≤ 65536) (h : H.size = base) : zWd dC dI cA base b t0 L xs (zM0 L xs) H := by
  refine ⟨fun k q hk => by simp [zws, zM0] at hk, by rw [h]; rfl, fun q hq => ?_, rfl, rfl, fun q k => ?_, fun q t len hq => ?_⟩
  · by_cases e1 : q = -1
    · exact Or.inr (Or.inl e1)
    · by_cases e2 : q = -2
      · exact Or.inr (Or.inr e2)
      · simp [zM0, e1, e2, zvk] at hq
  · by_cases e1 : q = -1
    · simp [zM0, e1, zsc, zok]; exact zto _
    · by_cases e2 : q = -2
      · simp [zM0, e2, zds, zok, zdv]
        repeat' split
        all_goals exact ⟨by omega, by omega⟩
      · simp [zM0, e1, e2, zok]
  · by_cases e1 : q = -1
    · simp [zM0, e1, zsc] at hq; omega
    · by_cases e2 : q = -2
      · simp [zM0, e2, zds] at hq; omega
      · simp [zM0, e1, e2] at hq
