theorem MF_lay {T : Int} {a b : zmem} (hs : Sim T a b) {c i h t p q r : Int} (c0 : 0 ≤ c) (c1 : c < b 264 10) (i0 : 0 ≤ i) (i1 : i < b 273 c) (eh : h = b 274 (7 * c + i)) (et : t = i + b 272 c) (hu : b 276 (7 * c + i) = 0) {g e u : Int} (q0 : 0 ≤ e) (q1 : e < 3) : MF (MYa b c i p q r) g e u = MF b g e u - (if g = h ∧ u = t then (if e = 0 then p else if e = 1 then q else r) else 0) := by
  have s1 := hs.s1
  unfold S1 at s1
  have p5 := hs.s5 c c0 (by omega)
  have e9 : MYa b c i p q r 264 = b 264 := by unfold MYa; (repeat (first | rw [zu_ne (by omega)] | rw [zu_ne2 (by omega)] | rw [zfu_ne (by omega)] | rw [zu_if, if_pos (by omega)]))
  have e2 : MYa b c i p q r 272 = b 272 := by unfold MYa; (repeat (first | rw [zu_ne (by omega)] | rw [zu_ne2 (by omega)] | rw [zfu_ne (by omega)] | rw [zu_if, if_pos (by omega)]))
  have e3 : MYa b c i p q r 273 = b 273 := by unfold MYa; (repeat (first | rw [zu_ne (by omega)] | rw [zu_ne2 (by omega)] | rw [zfu_ne (by omega)] | rw [zu_if, if_pos (by omega)]))
  have e4 : MYa b c i p q r 274 = b 274 := by unfold MYa; (repeat (first | rw [zu_ne (by omega)] | rw [zu_ne2 (by omega)] | rw [zfu_ne (by omega)] | rw [zu_if, if_pos (by omega)]))
  have e5 : MYa b c i p q r 265 = b 265 := by unfold MYa; (repeat (first | rw [zu_ne (by omega)] | rw [zu_ne2 (by omega)] | rw [zfu_ne (by omega)] | rw [zu_if, if_pos (by omega)]))
  have e6 : MYa b c i p q r 269 = b 269 := by unfold MYa; (repeat (first | rw [zu_ne (by omega)] | rw [zu_ne2 (by omega)] | rw [zfu_ne (by omega)] | rw [zu_if, if_pos (by omega)]))
  have fz : ∀ g e u, 0 ≤ e → e < 3 → zsum (MCf (MYa b c i p q r) g e u) (b 264 10) = zsum (MCf b g e u) (b 264 10) + (MCf (MYa b c i p q r) g e u c - MCf b g e u c) := fun g e u z0 z1 => by
    have qz := zsum_1 (f := fun k => if k < 40 then MCf (MYa b c i p q r) g e u k else 0) (g := fun k => if k < 40 then MCf b g e u k else 0) c0 (fun k k0 kc => by
      try simp only []
      by_cases k4 : k < 40
      · rw [if_pos k4, if_pos k4]
        have g5 := hs.s5 k k0 k4
        unfold MCf MH
        rw [e2, e3, e4]
        by_cases hh : 0 ≤ u - b 272 k ∧ u - b 272 k < b 273 k
        · have f1 : ∀ z, 7 * k ≤ z → z < 7 * k + 7 → MYa b c i p q r 276 z = b 276 z := fun z a1 a2 => by
            unfold MYa
            rw [zu_ne (by omega), zu_ne (by omega), zu_ne (by omega), zu_ne2 (by omega)]
          have f2 : ∀ z, 21 * k ≤ z → z < 21 * k + 21 → MYa b c i p q r 277 z = b 277 z := fun z a1 a2 => by
            unfold MYa
            rw [zu_ne2 (by omega), zu_ne2 (by omega), zu_ne2 (by omega), zu_ne (by omega)]
          rw [f1 _ (by omega) (by omega), f2 _ (by omega) (by omega)]
        · rw [if_neg (fun q => hh q.1), if_neg (fun q => hh q.1)]
      · rw [if_neg k4, if_neg k4]) (b 264 10).toNat (by omega)
    rw [Int.toNat_of_nonneg (by omega), if_pos (by omega), if_pos (by omega)] at qz
    have a1 : zsum (fun k => if k < 40 then MCf (MYa b c i p q r) g e u k else 0) (b 264 10) = zsum (MCf (MYa b c i p q r) g e u) (b 264 10) := zsum_c (fun k k0 k1 => by (try simp only []); rw [if_pos (by omega)])
    have a2 : zsum (fun k => if k < 40 then MCf b g e u k else 0) (b 264 10) = zsum (MCf b g e u) (b 264 10) := zsum_c (fun k k0 k1 => by (try simp only []); rw [if_pos (by omega)])
    rw [a1, a2] at qz
    exact qz
  have ec : ∀ g e u, 0 ≤ e → e < 3 → MCf (MYa b c i p q r) g e u c - MCf b g e u c = (if g = h ∧ u = t then (if e = 0 then p else if e = 1 then q else r) else 0) := fun g e u q0 q1 => by
    unfold MCf MH
    rw [e2, e3, e4]
    by_cases hu2 : u = t
    · rw [show 7 * c + u - b 272 c = 7 * c + i by omega, show e + 21 * c + 3 * u - 3 * b 272 c = 21 * c + 3 * i + e by omega]
      have z : MYa b c i p q r 276 (7 * c + i) = 1 := by unfold MYa; (repeat (first | rw [zu_ne (by omega)] | rw [zu_ne2 (by omega)] | rw [zfu_ne (by omega)] | rw [zu_if, if_pos (by omega)]))
      have z2 : MYa b c i p q r 277 (21 * c + 3 * i + e) = (if e = 0 then p else if e = 1 then q else r) := by
        unfold MYa
        rcases (show e = 0 ∨ e = 1 ∨ e = 2 by omega) with y | y | y
        · rw [if_pos y]; (repeat (first | rw [zu_ne (by omega)] | rw [zu_ne2 (by omega)] | rw [zfu_ne (by omega)] | rw [zu_if, if_pos (by omega)]))
        · rw [if_neg (by omega), if_pos y]; (repeat (first | rw [zu_ne (by omega)] | rw [zu_ne2 (by omega)] | rw [zfu_ne (by omega)] | rw [zu_if, if_pos (by omega)]))
        · rw [if_neg (by omega), if_neg (by omega)]; (repeat (first | rw [zu_ne (by omega)] | rw [zu_ne2 (by omega)] | rw [zfu_ne (by omega)] | rw [zu_if, if_pos (by omega)]))
      rw [z, z2, if_neg (c := _ ∧ ¬ b 276 (7 * c + i) = 0 ∧ _) (fun x => x.2.1 hu)]
      by_cases hg : g = h
      · rw [if_pos (c := g = h ∧ u = t) ⟨hg, hu2⟩, if_pos ⟨by omega, by omega, by omega⟩]
        omega
      · rw [if_neg (c := g = h ∧ u = t) (fun x => hg x.1), if_neg (fun x => hg (by omega))]
        rfl
    · rw [if_neg (c := g = h ∧ u = t) (fun x => hu2 x.2)]
      by_cases hh : 0 ≤ u - b 272 c ∧ u - b 272 c < b 273 c
      · have f1 : MYa b c i p q r 276 (7 * c + u - b 272 c) = b 276 (7 * c + u - b 272 c) := by
          unfold MYa
          rw [zu_ne (by omega), zu_ne (by omega), zu_ne (by omega), zu_ne2 (by omega)]
        have f2 : MYa b c i p q r 277 (e + 21 * c + 3 * u - 3 * b 272 c) = b 277 (e + 21 * c + 3 * u - 3 * b 272 c) := by
          unfold MYa
          rw [zu_ne2 (by omega), zu_ne2 (by omega), zu_ne2 (by omega), zu_ne (by omega)]
        rw [f1, f2]
        omega
      · rw [if_neg (fun q => hh q.1), if_neg (fun q => hh q.1)]
        rfl
  have f1 := fz g e u q0 q1
  have f2 := ec g e u q0 q1
  unfold MF
  rw [e5, e6, e9]
  omega
