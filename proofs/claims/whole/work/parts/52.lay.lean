theorem zsh_ok {a b c n : Int} (a0 : 0 ≤ a) (b0 : 0 ≤ b) (c0 : 0 ≤ c) (n0 : 1 ≤ n) (n1 : n ≤ a + b + c) : (0 ≤ zsh0 a b c n ∧ zsh0 a b c n ≤ a) ∧ (0 ≤ zsh1 a b c n ∧ zsh1 a b c n ≤ b) ∧ (0 ≤ zsh2 a b c n ∧ zsh2 a b c n ≤ c) ∧ zsh0 a b c n + zsh1 a b c n + zsh2 a b c n = n := by
  unfold zsh0 zsh1 zsh2
  by_cases h1 : n ≤ a
  · simp only [if_pos h1]; omega
  · by_cases h2 : n ≤ b
    · simp only [if_neg h1, if_pos h2]; omega
    · by_cases h3 : n ≤ c
      · simp only [if_neg h1, if_neg h2, if_pos h3]; omega
      · by_cases h4 : n ≤ a + b
        · simp only [if_neg h1, if_neg h2, if_neg h3, if_pos h4]; omega
        · by_cases h5 : n ≤ a + c
          · simp only [if_neg h1, if_neg h2, if_neg h3, if_neg h4, if_pos h5]; omega
          · by_cases h6 : n ≤ b + c
            · simp only [if_neg h1, if_neg h2, if_neg h3, if_neg h4, if_neg h5, if_pos h6]; omega
            · simp only [if_neg h1, if_neg h2, if_neg h3, if_neg h4, if_neg h5, if_neg h6]; omega
/-- the writes of a laid night: the class's with free beds and shares, the model's -/
abbrev XYa (a : zmem) (h t c i p q r : Int) : zmem := zu (zu (zu (zu (zu (zu a (4 + 4 * h) (3 * t) (a (4 + 4 * h) (3 * t) - p)) (66 + 5 * c) (3 * i) p) (4 + 4 * h) (3 * t + 1) (a (4 + 4 * h) (3 * t + 1) - q)) (66 + 5 * c) (3 * i + 1) q) (4 + 4 * h) (3 * t + 2) (a (4 + 4 * h) (3 * t + 2) - r)) (66 + 5 * c) (3 * i + 2) r
abbrev MYa (b : zmem) (c i p q r : Int) : zmem := zu (zu (zu (zu b 276 (7 * c + i) 1) 277 (21 * c + 3 * i) p) 277 (21 * c + 3 * i + 1) q) 277 (21 * c + 3 * i + 2) r
theorem sm_lay {T : Int} {a b : zmem} (hs : Sim T a b) {c i h t p q r : Int} (c0 : 0 ≤ c) (c1 : c < b 264 10) (i0 : 0 ≤ i) (i1 : i < b 273 c) (eh : h = b 274 (7 * c + i)) (et : t = i + b 272 c) (hu : b 276 (7 * c + i) = 0) (hst : ¬ b 275 c = 0) (hp : 0 ≤ p ∧ p ≤ MF b h 0 t) (hq : 0 ≤ q ∧ q ≤ MF b h 1 t) (hr : 0 ≤ r ∧ r ≤ MF b h 2 t) (hn : p + q + r = b 271 c)  : Sim (T) (XYa a h t c i p q r) (MYa b c i p q r) := by
  have s1 := hs.s1
  unfold S1 at s1
  have p5 := hs.s5 c c0 (by omega)
  have p6 := (hs.s6 c c0 (by omega) i i0 (by omega)).2 i1
  have ph : 0 ≤ h ∧ h < 12 := by omega
  have pt : 0 ≤ t ∧ t < 40 := by omega
  have m0 := Sim_rng hs h 0 t (by omega) (by omega) (by omega) (by omega) (by omega) (by omega)
  have m1 := Sim_rng hs h 1 t (by omega) (by omega) (by omega) (by omega) (by omega) (by omega)
  have m2 := Sim_rng hs h 2 t (by omega) (by omega) (by omega) (by omega) (by omega) (by omega)
  have cS1 : S1 (T) (XYa a h t c i p q r) (MYa b c i p q r) := by
    unfold S1 XYa MYa
    (repeat (first | rw [zu_ne (by omega)] | rw [zu_ne2 (by omega)] | rw [zfu_ne (by omega)] | rw [zu_if, if_pos (by omega)]))
    omega
  have cS2 : S2 (XYa a h t c i p q r) (MYa b c i p q r) := S2_f hs.s2 (fun h h0 h1 => by unfold XYa; (repeat (first | rw [zu_ne (by omega)] | rw [zu_ne2 (by omega)] | rw [zfu_ne (by omega)] | rw [zu_if, if_pos (by omega)])) <;> rfl) (fun h h0 h1 => by unfold XYa; (repeat (first | rw [zu_ne (by omega)] | rw [zu_ne2 (by omega)] | rw [zfu_ne (by omega)] | rw [zu_if, if_pos (by omega)])) <;> rfl) (by unfold MYa; (repeat (first | rw [zu_ne (by omega)] | rw [zu_ne2 (by omega)] | rw [zfu_ne (by omega)] | rw [zu_if, if_pos (by omega)])) <;> rfl) (by unfold MYa; (repeat (first | rw [zu_ne (by omega)] | rw [zu_ne2 (by omega)] | rw [zfu_ne (by omega)] | rw [zu_if, if_pos (by omega)])) <;> rfl)
  have cS3 : S3 (XYa a h t c i p q r) (MYa b c i p q r) := S3_f hs.s3 (fun h h0 h1 => by unfold XYa; (repeat (first | rw [zu_ne (by omega)] | rw [zu_ne2 (by omega)] | rw [zfu_ne (by omega)] | rw [zu_if, if_pos (by omega)])) <;> rfl) (by unfold MYa; (repeat (first | rw [zu_ne (by omega)] | rw [zu_ne2 (by omega)] | rw [zfu_ne (by omega)] | rw [zu_if, if_pos (by omega)])) <;> rfl)
  have cS4 : S4 (XYa a h t c i p q r) (MYa b c i p q r) := S4_f hs.s4 (fun h h0 h1 => by unfold XYa; (repeat (first | rw [zu_ne (by omega)] | rw [zu_ne2 (by omega)] | rw [zfu_ne (by omega)] | rw [zu_if, if_pos (by omega)])) <;> rfl) (by unfold MYa; (repeat (first | rw [zu_ne (by omega)] | rw [zu_ne2 (by omega)] | rw [zfu_ne (by omega)] | rw [zu_if, if_pos (by omega)])) <;> rfl)
  have cS5 : S5 (XYa a h t c i p q r) (MYa b c i p q r) := S5_f hs.s5 (fun c c0 c1 => by unfold XYa; (repeat (first | rw [zu_ne (by omega)] | rw [zu_ne2 (by omega)] | rw [zfu_ne (by omega)] | rw [zu_if, if_pos (by omega)])) <;> rfl) (by unfold MYa; (repeat (first | rw [zu_ne (by omega)] | rw [zu_ne2 (by omega)] | rw [zfu_ne (by omega)] | rw [zu_if, if_pos (by omega)])) <;> rfl) (by unfold MYa; (repeat (first | rw [zu_ne (by omega)] | rw [zu_ne2 (by omega)] | rw [zfu_ne (by omega)] | rw [zu_if, if_pos (by omega)])) <;> rfl) (by unfold MYa; (repeat (first | rw [zu_ne (by omega)] | rw [zu_ne2 (by omega)] | rw [zfu_ne (by omega)] | rw [zu_if, if_pos (by omega)])) <;> rfl) (by unfold MYa; (repeat (first | rw [zu_ne (by omega)] | rw [zu_ne2 (by omega)] | rw [zfu_ne (by omega)] | rw [zu_if, if_pos (by omega)])) <;> rfl) (by unfold MYa; (repeat (first | rw [zu_ne (by omega)] | rw [zu_ne2 (by omega)] | rw [zfu_ne (by omega)] | rw [zu_if, if_pos (by omega)])) <;> rfl) (by unfold MYa; (repeat (first | rw [zu_ne (by omega)] | rw [zu_ne2 (by omega)] | rw [zfu_ne (by omega)] | rw [zu_if, if_pos (by omega)])) <;> rfl) (by unfold MYa; (repeat (first | rw [zu_ne (by omega)] | rw [zu_ne2 (by omega)] | rw [zfu_ne (by omega)] | rw [zu_if, if_pos (by omega)])) <;> rfl)
  have cS6 : S6 (XYa a h t c i p q r) (MYa b c i p q r) := S6_f hs.s6 (fun c c0 c1 => by unfold XYa; (repeat (first | rw [zu_ne (by omega)] | rw [zu_ne2 (by omega)] | rw [zfu_ne (by omega)] | rw [zu_if, if_pos (by omega)])) <;> rfl) (by unfold MYa; (repeat (first | rw [zu_ne (by omega)] | rw [zu_ne2 (by omega)] | rw [zfu_ne (by omega)] | rw [zu_if, if_pos (by omega)])) <;> rfl) (by unfold MYa; (repeat (first | rw [zu_ne (by omega)] | rw [zu_ne2 (by omega)] | rw [zfu_ne (by omega)] | rw [zu_if, if_pos (by omega)])) <;> rfl) (by unfold MYa; (repeat (first | rw [zu_ne (by omega)] | rw [zu_ne2 (by omega)] | rw [zfu_ne (by omega)] | rw [zu_if, if_pos (by omega)])) <;> rfl)
  have cS7 : S7 (XYa a h t c i p q r) (MYa b c i p q r) := S7_f hs.s7 (fun c c0 c1 => by unfold XYa; (repeat (first | rw [zu_ne (by omega)] | rw [zu_ne2 (by omega)] | rw [zfu_ne (by omega)] | rw [zu_if, if_pos (by omega)])) <;> rfl) (by unfold MYa; (repeat (first | rw [zu_ne (by omega)] | rw [zu_ne2 (by omega)] | rw [zfu_ne (by omega)] | rw [zu_if, if_pos (by omega)])) <;> rfl)
  have cS8 : S8 (XYa a h t c i p q r) (MYa b c i p q r) := by
    intro k k0 k1
    have g := hs.s8 k k0 k1
    have g5 := hs.s5 k k0 k1
    have e9 : MYa b c i p q r 264 = b 264 := by unfold MYa; (repeat (first | rw [zu_ne (by omega)] | rw [zu_ne2 (by omega)] | rw [zfu_ne (by omega)] | rw [zu_if, if_pos (by omega)]))
    have e2 : MYa b c i p q r 272 = b 272 := by unfold MYa; (repeat (first | rw [zu_ne (by omega)] | rw [zu_ne2 (by omega)] | rw [zfu_ne (by omega)] | rw [zu_if, if_pos (by omega)]))
    have e3 : MYa b c i p q r 273 = b 273 := by unfold MYa; (repeat (first | rw [zu_ne (by omega)] | rw [zu_ne2 (by omega)] | rw [zfu_ne (by omega)] | rw [zu_if, if_pos (by omega)]))
    have e0 : MYa b c i p q r 280 = b 280 := by unfold MYa; (repeat (first | rw [zu_ne (by omega)] | rw [zu_ne2 (by omega)] | rw [zfu_ne (by omega)] | rw [zu_if, if_pos (by omega)]))
    rw [e9, e2, e3, e0]
    refine ⟨g.1, ?_, g.2.2.1, ?_, fun u u0 u1 => ?_⟩
    · unfold XYa; (repeat (first | rw [zu_ne (by omega)] | rw [zu_ne2 (by omega)] | rw [zfu_ne (by omega)] | rw [zu_if, if_pos (by omega)])); exact g.2.1
    · intro hh
      have g4 := g.2.2.2.1 hh
      unfold MYa
      rw [zu_ne (by omega), zu_ne (by omega), zu_ne (by omega), zu_if]
      split
      · rfl
      · exact g4
    · have q1 := g.2.2.2.2 u u0 u1
      unfold XYa; (repeat (first | rw [zu_ne (by omega)] | rw [zu_ne2 (by omega)] | rw [zfu_ne (by omega)] | rw [zu_if, if_pos (by omega)])); exact q1
  have cS9 : S9 (XYa a h t c i p q r) (MYa b c i p q r) := by
    intro k k0 k1 u u0 u1
    have g := hs.s9 k k0 k1 u u0 u1
    unfold XYa MYa
    by_cases ec : k = c
    · subst ec
      by_cases ei : u = i
      · subst ei
        (repeat (first | rw [zu_ne (by omega)] | rw [zu_ne2 (by omega)] | rw [zfu_ne (by omega)] | rw [zu_if, if_pos (by omega)])); omega
      · (repeat (first | rw [zu_ne (by omega)] | rw [zu_ne2 (by omega)] | rw [zfu_ne (by omega)] | rw [zu_if, if_pos (by omega)])); omega
    · (repeat (first | rw [zu_ne (by omega)] | rw [zu_ne2 (by omega)] | rw [zfu_ne (by omega)] | rw [zu_if, if_pos (by omega)])); omega
  have cS10 : S10 (XYa a h t c i p q r) (MYa b c i p q r) := by
    have k9 := hs.s9 c c0 (by omega) i i0 (by omega)
    have e9 : MYa b c i p q r 264 = b 264 := by unfold MYa; (repeat (first | rw [zu_ne (by omega)] | rw [zu_ne2 (by omega)] | rw [zfu_ne (by omega)] | rw [zu_if, if_pos (by omega)]))
    have e2 : MYa b c i p q r 272 = b 272 := by unfold MYa; (repeat (first | rw [zu_ne (by omega)] | rw [zu_ne2 (by omega)] | rw [zfu_ne (by omega)] | rw [zu_if, if_pos (by omega)]))
    have e3 : MYa b c i p q r 273 = b 273 := by unfold MYa; (repeat (first | rw [zu_ne (by omega)] | rw [zu_ne2 (by omega)] | rw [zfu_ne (by omega)] | rw [zu_if, if_pos (by omega)]))
    have e4 : MYa b c i p q r 274 = b 274 := by unfold MYa; (repeat (first | rw [zu_ne (by omega)] | rw [zu_ne2 (by omega)] | rw [zfu_ne (by omega)] | rw [zu_if, if_pos (by omega)]))
    have e5 : MYa b c i p q r 265 = b 265 := by unfold MYa; (repeat (first | rw [zu_ne (by omega)] | rw [zu_ne2 (by omega)] | rw [zfu_ne (by omega)] | rw [zu_if, if_pos (by omega)]))
    have e6 : MYa b c i p q r 269 = b 269 := by unfold MYa; (repeat (first | rw [zu_ne (by omega)] | rw [zu_ne2 (by omega)] | rw [zfu_ne (by omega)] | rw [zu_if, if_pos (by omega)]))
    have fz : ∀ g e u, 0 ≤ e → e < 3 → zsum (MCf (MYa b c i p q r) g e u) (b 264 10) = zsum (MCf b g e u) (b 264 10) + (MCf (MYa b c i p q r) g e u c - MCf b g e u c) := fun g e u z0 z1 => by
      have qz := zsum_1 (f := fun k => if k < 40 then MCf (MYa b c i p q r) g e u k else 0) (g := fun k => if k < 40 then MCf b g e u k else 0) c0 (fun k k0 kc => by
        try simp only []
        by_cases k4 : k < 40
        · rw [if_pos k4, if_pos k4]
          have g5 := hs.s5 k k0 k4
          unfold MCf MH
          rw [e2, e3, e4]
          by_cases hh : 0 ≤ u - b 272 k ∧ u - b 272 k < b 273 k
          · have f1 : ∀ z, 7 * k ≤ z → z < 7 * k + 7 → MYa b c i p q r 276 z = b 276 z := fun z a1 a2 => by
              unfold MYa
              rw [zu_ne (by omega), zu_ne (by omega), zu_ne (by omega), zu_ne2 (by omega)]
            have f2 : ∀ z, 21 * k ≤ z → z < 21 * k + 21 → MYa b c i p q r 277 z = b 277 z := fun z a1 a2 => by
              unfold MYa
              rw [zu_ne2 (by omega), zu_ne2 (by omega), zu_ne2 (by omega), zu_ne (by omega)]
            rw [f1 _ (by omega) (by omega), f2 _ (by omega) (by omega)]
          · rw [if_neg (fun q => hh q.1), if_neg (fun q => hh q.1)]
        · rw [if_neg k4, if_neg k4]) (b 264 10).toNat (by omega)
      rw [Int.toNat_of_nonneg (by omega), if_pos (by omega), if_pos (by omega)] at qz
      have a1 : zsum (fun k => if k < 40 then MCf (MYa b c i p q r) g e u k else 0) (b 264 10) = zsum (MCf (MYa b c i p q r) g e u) (b 264 10) := zsum_c (fun k k0 k1 => by (try simp only []); rw [if_pos (by omega)])
      have a2 : zsum (fun k => if k < 40 then MCf b g e u k else 0) (b 264 10) = zsum (MCf b g e u) (b 264 10) := zsum_c (fun k k0 k1 => by (try simp only []); rw [if_pos (by omega)])
      rw [a1, a2] at qz
      exact qz
    have ec : ∀ g e u, 0 ≤ e → e < 3 → MCf (MYa b c i p q r) g e u c - MCf b g e u c = (if g = h ∧ u = t then (if e = 0 then p else if e = 1 then q else r) else 0) := fun g e u q0 q1 => by
      unfold MCf MH
      rw [e2, e3, e4]
      by_cases hu2 : u = t
      · rw [show 7 * c + u - b 272 c = 7 * c + i by omega, show e + 21 * c + 3 * u - 3 * b 272 c = 21 * c + 3 * i + e by omega]
        have z : MYa b c i p q r 276 (7 * c + i) = 1 := by unfold MYa; (repeat (first | rw [zu_ne (by omega)] | rw [zu_ne2 (by omega)] | rw [zfu_ne (by omega)] | rw [zu_if, if_pos (by omega)]))
        have z2 : MYa b c i p q r 277 (21 * c + 3 * i + e) = (if e = 0 then p else if e = 1 then q else r) := by
          unfold MYa
          rcases (show e = 0 ∨ e = 1 ∨ e = 2 by omega) with y | y | y
          · rw [if_pos y]; (repeat (first | rw [zu_ne (by omega)] | rw [zu_ne2 (by omega)] | rw [zfu_ne (by omega)] | rw [zu_if, if_pos (by omega)]))
          · rw [if_neg (by omega), if_pos y]; (repeat (first | rw [zu_ne (by omega)] | rw [zu_ne2 (by omega)] | rw [zfu_ne (by omega)] | rw [zu_if, if_pos (by omega)]))
          · rw [if_neg (by omega), if_neg (by omega)]; (repeat (first | rw [zu_ne (by omega)] | rw [zu_ne2 (by omega)] | rw [zfu_ne (by omega)] | rw [zu_if, if_pos (by omega)]))
        rw [z, z2, if_neg (c := _ ∧ ¬ b 276 (7 * c + i) = 0 ∧ _) (fun x => x.2.1 hu)]
        by_cases hg : g = h
        · rw [if_pos (c := g = h ∧ u = t) ⟨hg, hu2⟩, if_pos ⟨by omega, by omega, by omega⟩]
          omega
        · rw [if_neg (c := g = h ∧ u = t) (fun x => hg x.1), if_neg (fun x => hg (by omega))]
          rfl
      · rw [if_neg (c := g = h ∧ u = t) (fun x => hu2 x.2)]
        by_cases hh : 0 ≤ u - b 272 c ∧ u - b 272 c < b 273 c
        · have f1 : MYa b c i p q r 276 (7 * c + u - b 272 c) = b 276 (7 * c + u - b 272 c) := by
            unfold MYa
            rw [zu_ne (by omega), zu_ne (by omega), zu_ne (by omega), zu_ne2 (by omega)]
          have f2 : MYa b c i p q r 277 (e + 21 * c + 3 * u - 3 * b 272 c) = b 277 (e + 21 * c + 3 * u - 3 * b 272 c) := by
            unfold MYa
            rw [zu_ne2 (by omega), zu_ne2 (by omega), zu_ne2 (by omega), zu_ne (by omega)]
          rw [f1, f2]
          omega
        · rw [if_neg (fun q => hh q.1), if_neg (fun q => hh q.1)]
          rfl
    intro g g0 g1
    have gg := hs.s10 g g0 g1
    have mf : ∀ e u, 0 ≤ e → e < 3 → MF (MYa b c i p q r) g e u = MF b g e u - (if g = h ∧ u = t then (if e = 0 then p else if e = 1 then q else r) else 0) := fun e u q0 q1 => by
      have f1 := fz g e u q0 q1
      have f2 := ec g e u q0 q1
      unfold MF
      rw [e5, e6, e9]
      omega
    have gh := hs.s10 h (by omega) (by omega)
    have g0h := gh.2 (by omega) 0 t (by omega) (by omega) (by omega) (by omega)
    have g1h := gh.2 (by omega) 1 t (by omega) (by omega) (by omega) (by omega)
    have g2h := gh.2 (by omega) 2 t (by omega) (by omega) (by omega) (by omega)
    rw [show 3 * t + 0 = 3 * t by omega] at g0h
    have rd : ∀ k, 0 ≤ k → k < 120 → XYa a h t c i p q r (4 + 4 * g) k = a (4 + 4 * g) k - (if g = h ∧ k / 3 = t then (if k % 3 = 0 then p else if k % 3 = 1 then q else r) else 0) := fun k q0 q1 => by
      unfold XYa
      by_cases eg : g = h
      · subst eg
        rcases (show k = 3 * t ∨ k = 3 * t + 1 ∨ k = 3 * t + 2 ∨ ¬ k / 3 = t by omega) with y | y | y | y
        · rw [if_pos (by omega), if_pos (by omega), y]
          (repeat (first | rw [zu_ne (by omega)] | rw [zu_ne2 (by omega)] | rw [zfu_ne (by omega)] | rw [zu_if, if_pos (by omega)]))
        · rw [if_pos (by omega), if_neg (by omega), if_pos (by omega), y]
          (repeat (first | rw [zu_ne (by omega)] | rw [zu_ne2 (by omega)] | rw [zfu_ne (by omega)] | rw [zu_if, if_pos (by omega)]))
        · rw [if_pos (by omega), if_neg (by omega), if_neg (by omega), y]
          (repeat (first | rw [zu_ne (by omega)] | rw [zu_ne2 (by omega)] | rw [zfu_ne (by omega)] | rw [zu_if, if_pos (by omega)]))
        · rw [if_neg (by omega)]
          (repeat (first | rw [zu_ne (by omega)] | rw [zu_ne2 (by omega)] | rw [zfu_ne (by omega)] | rw [zu_if, if_pos (by omega)]))
          omega
      · rw [if_neg (by omega)]
        (repeat (first | rw [zu_ne (by omega)] | rw [zu_ne2 (by omega)] | rw [zfu_ne (by omega)] | rw [zu_if, if_pos (by omega)]))
        omega
    refine ⟨fun k q0 q1 => ?_, fun gl e u q0 q1 q2 q3 => ?_⟩
    · have g1 := gg.1 k q0 q1
      rw [rd k q0 q1]
      by_cases eq : g = h ∧ k / 3 = t
      · rw [if_pos eq]
        rcases (show k = 3 * t ∨ k = 3 * t + 1 ∨ k = 3 * t + 2 by omega) with y | y | y
        · rw [if_pos (by omega), eq.1, y]
          omega
        · rw [if_neg (by omega), if_pos (by omega), eq.1, y]
          omega
        · rw [if_neg (by omega), if_neg (by omega), eq.1, y]
          omega
      · rw [if_neg eq]
        omega
    · rw [e9] at gl
      rw [rd _ (by omega) (by omega), mf e u q0 q1, gg.2 gl e u q0 q1 q2 q3, show (3 * u + e) / 3 = u by omega, show (3 * u + e) % 3 = e by omega]
  have cS11 : S11 (XYa a h t c i p q r) (MYa b c i p q r) := S11_f hs.s11 (fun h h0 h1 => by unfold XYa; (repeat (first | rw [zu_ne (by omega)] | rw [zu_ne2 (by omega)] | rw [zfu_ne (by omega)] | rw [zu_if, if_pos (by omega)])) <;> rfl) (fun h h0 h1 => by unfold XYa; (repeat (first | rw [zu_ne (by omega)] | rw [zu_ne2 (by omega)] | rw [zfu_ne (by omega)] | rw [zu_if, if_pos (by omega)])) <;> rfl) (by unfold MYa; (repeat (first | rw [zu_ne (by omega)] | rw [zu_ne2 (by omega)] | rw [zfu_ne (by omega)] | rw [zu_if, if_pos (by omega)])) <;> rfl) (by unfold MYa; (repeat (first | rw [zu_ne (by omega)] | rw [zu_ne2 (by omega)] | rw [zfu_ne (by omega)] | rw [zu_if, if_pos (by omega)])) <;> rfl) (by unfold MYa; (repeat (first | rw [zu_ne (by omega)] | rw [zu_ne2 (by omega)] | rw [zfu_ne (by omega)] | rw [zu_if, if_pos (by omega)])) <;> rfl)
  have cS12 : S12 (XYa a h t c i p q r) (MYa b c i p q r) := S12_f hs.s12 (by unfold XYa; (repeat (first | rw [zu_ne (by omega)] | rw [zu_ne2 (by omega)] | rw [zfu_ne (by omega)] | rw [zu_if, if_pos (by omega)])) <;> rfl) (by unfold XYa; (repeat (first | rw [zu_ne (by omega)] | rw [zu_ne2 (by omega)] | rw [zfu_ne (by omega)] | rw [zu_if, if_pos (by omega)])) <;> rfl) (by unfold XYa; (repeat (first | rw [zu_ne (by omega)] | rw [zu_ne2 (by omega)] | rw [zfu_ne (by omega)] | rw [zu_if, if_pos (by omega)])) <;> rfl) (by unfold XYa; (repeat (first | rw [zu_ne (by omega)] | rw [zu_ne2 (by omega)] | rw [zfu_ne (by omega)] | rw [zu_if, if_pos (by omega)])) <;> rfl) (by unfold MYa; (repeat (first | rw [zu_ne (by omega)] | rw [zu_ne2 (by omega)] | rw [zfu_ne (by omega)] | rw [zu_if, if_pos (by omega)])) <;> rfl) (by unfold MYa; (repeat (first | rw [zu_ne (by omega)] | rw [zu_ne2 (by omega)] | rw [zfu_ne (by omega)] | rw [zu_if, if_pos (by omega)])) <;> rfl) (by unfold MYa; (repeat (first | rw [zu_ne (by omega)] | rw [zu_ne2 (by omega)] | rw [zfu_ne (by omega)] | rw [zu_if, if_pos (by omega)])) <;> rfl) (by unfold MYa; (repeat (first | rw [zu_ne (by omega)] | rw [zu_ne2 (by omega)] | rw [zfu_ne (by omega)] | rw [zu_if, if_pos (by omega)])) <;> rfl) (by unfold MYa; (repeat (first | rw [zu_ne (by omega)] | rw [zu_ne2 (by omega)] | rw [zfu_ne (by omega)] | rw [zu_if, if_pos (by omega)])) <;> rfl) (by unfold MYa; (repeat (first | rw [zu_ne (by omega)] | rw [zu_ne2 (by omega)] | rw [zfu_ne (by omega)] | rw [zu_if, if_pos (by omega)])) <;> rfl)
  have cS13 : S13 (XYa a h t c i p q r) (MYa b c i p q r) := S13_f hs.s13 (by unfold XYa; (repeat (first | rw [zu_ne (by omega)] | rw [zu_ne2 (by omega)] | rw [zfu_ne (by omega)] | rw [zu_if, if_pos (by omega)])) <;> rfl) (by unfold XYa; (repeat (first | rw [zu_ne (by omega)] | rw [zu_ne2 (by omega)] | rw [zfu_ne (by omega)] | rw [zu_if, if_pos (by omega)])) <;> rfl) (by unfold MYa; (repeat (first | rw [zu_ne (by omega)] | rw [zu_ne2 (by omega)] | rw [zfu_ne (by omega)] | rw [zu_if, if_pos (by omega)])) <;> rfl) (by unfold MYa; (repeat (first | rw [zu_ne (by omega)] | rw [zu_ne2 (by omega)] | rw [zfu_ne (by omega)] | rw [zu_if, if_pos (by omega)])) <;> rfl)
  have cS14 : S14 (XYa a h t c i p q r) (MYa b c i p q r) := by
    have g := hs.s14
    refine ⟨fun k => ?_, fun k k0 k1 => ?_, fun k k0 k1 => ?_⟩
    · have g1 := g.1 k
      unfold XYa
      (repeat (first | rw [zu_ne (by omega)] | rw [zu_ne2 (by omega)] | rw [zfu_ne (by omega)] | rw [zu_if, if_pos (by omega)]))
      exact g1
    · have g1 := g.2.1 k k0 k1
      unfold MYa
      (repeat (first | rw [zu_ne (by omega)] | rw [zu_ne2 (by omega)] | rw [zfu_ne (by omega)] | rw [zu_if, if_pos (by omega)]))
      exact g1
    · have g1 := g.2.2 k k0 k1
      unfold MYa
      rw [zu_if]
      split
      · omega
      · rw [zu_if]
        split
        · omega
        · rw [zu_if]
          split
          · omega
          · (repeat (first | rw [zu_ne (by omega)] | rw [zu_ne2 (by omega)] | rw [zfu_ne (by omega)] | rw [zu_if, if_pos (by omega)]))
            exact g1
  have cS15 : S15 (XYa a h t c i p q r) (MYa b c i p q r) := by
    intro k k0 k1
    have g := hs.s15 k k0 k1
    refine ⟨?_, fun u u0 u1 => ?_⟩
    · have g1 := g.1
      unfold MYa
      (repeat (first | rw [zu_ne (by omega)] | rw [zu_ne2 (by omega)] | rw [zfu_ne (by omega)] | rw [zu_if, if_pos (by omega)]))
      exact g1
    · have g1 := g.2 u u0 u1
      unfold XYa MYa
      by_cases ec : k = c
      · subst ec
        by_cases ei : u = i
        · subst ei
          (repeat (first | rw [zu_ne (by omega)] | rw [zu_ne2 (by omega)] | rw [zfu_ne (by omega)] | rw [zu_if, if_pos (by omega)])); omega
        · (repeat (first | rw [zu_ne (by omega)] | rw [zu_ne2 (by omega)] | rw [zfu_ne (by omega)] | rw [zu_if, if_pos (by omega)])); omega
      · (repeat (first | rw [zu_ne (by omega)] | rw [zu_ne2 (by omega)] | rw [zfu_ne (by omega)] | rw [zu_if, if_pos (by omega)])); omega
  have cS16 : S16 (XYa a h t c i p q r) (MYa b c i p q r) := S16_f hs.s16 (by unfold MYa; (repeat (first | rw [zu_ne (by omega)] | rw [zu_ne2 (by omega)] | rw [zfu_ne (by omega)] | rw [zu_if, if_pos (by omega)])) <;> rfl) (by unfold MYa; (repeat (first | rw [zu_ne (by omega)] | rw [zu_ne2 (by omega)] | rw [zfu_ne (by omega)] | rw [zu_if, if_pos (by omega)])) <;> rfl) (by unfold MYa; (repeat (first | rw [zu_ne (by omega)] | rw [zu_ne2 (by omega)] | rw [zfu_ne (by omega)] | rw [zu_if, if_pos (by omega)])) <;> rfl)
  exact ⟨cS1, cS2, cS3, cS4, cS5, cS6, cS7, cS8, cS9, cS10, cS11, cS12, cS13, cS14, cS15, cS16⟩
