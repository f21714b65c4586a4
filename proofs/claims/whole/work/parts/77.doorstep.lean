/-- walkers laid at the door, of both sides -/
abbrev XDw (a : zmem) (x t p q r : Int) : zmem := zu (zu (zu (zu (zu (zu a (4 + 4 * x) (3 * t) (a (4 + 4 * x) (3 * t) - p)) 63 0 p) (4 + 4 * x) (3 * t + 1) (a (4 + 4 * x) (3 * t + 1) - q)) 63 1 q) (4 + 4 * x) (3 * t + 2) (a (4 + 4 * x) (3 * t + 2) - r)) 63 2 r
abbrev XDo (a : zmem) (x t y p q r : Int) : zmem := zu (zu (zu (zu (zu (zu (zu (zu a (4 + 4 * x) (3 * t) (a (4 + 4 * x) (3 * t) - p)) 63 0 p) (4 + 4 * x) (3 * t + 1) (a (4 + 4 * x) (3 * t + 1) - q)) 63 1 q) (4 + 4 * x) (3 * t + 2) (a (4 + 4 * x) (3 * t + 2) - r)) 63 2 r) (3 + 4 * x) 5 (y + a (3 + 4 * x) 5)) 0 8 (y + a 0 8)
abbrev MDo (b : zmem) (x t y p q r : Int) : zmem := zu (zu (zu (zu b 269 (120 * x + 3 * t) (b 269 (120 * x + 3 * t) + p)) 269 (120 * x + 3 * t + 1) (b 269 (120 * x + 3 * t + 1) + q)) 269 (120 * x + 3 * t + 2) (b 269 (120 * x + 3 * t + 2) + r)) 264 6 (y + b 264 6)
theorem XWB_D {m : zmem} {h t n : Int} : XWB m h t n = XDw m h t (zsh0 (m (4 + 4 * h) (3 * t)) (m (4 + 4 * h) (3 * t + 1)) (m (4 + 4 * h) (3 * t + 2)) n) (zsh1 (m (4 + 4 * h) (3 * t)) (m (4 + 4 * h) (3 * t + 1)) (m (4 + 4 * h) (3 * t + 2)) n) (zsh2 (m (4 + 4 * h) (3 * t)) (m (4 + 4 * h) (3 * t + 1)) (m (4 + 4 * h) (3 * t + 2)) n) := rfl
theorem MF_d {b : zmem} (ok : MOk b) {h e t : Int} (h0 : 0 ≤ h) (h1 : h < 12) (e0 : 0 ≤ e) (e1 : e < 3) (t0 : 0 ≤ t) (t1 : t < 40) : MF b h e t + b 269 (120 * h + 3 * t + e) ≤ 9 := by
  have b1 := ok.2.2.2.2.1 (e + 3 * h) (by omega) (by omega)
  have b3 := zsum_b (f := MCf b h e t) (A := 0) (B := 9) (n := b 264 10) ok.1.1 (fun k k0 k1 => by
    have ok1 := ok.1
    have g := ok.2.2.1 k k0 (by omega)
    unfold MCf MH
    split
    · next q =>
      exact ok.2.2.2.1 _ (by omega) (by omega)
    · omega)
  have ok1 := ok.1
  unfold MF
  rw [show 120 * h + 3 * t + e = e + 120 * h + 3 * t by omega]
  omega
theorem MDo_9 {b : zmem} {x t y p q r k : Int} : MDo b x t y p q r 269 k = b 269 k + (if k = 120 * x + 3 * t then p else if k = 120 * x + 3 * t + 1 then q else if k = 120 * x + 3 * t + 2 then r else 0) := by
  unfold MDo
  rw [zu_ne (by omega)]
  by_cases h0 : k = 120 * x + 3 * t
  · rw [if_pos h0, h0]; (repeat (first | rw [zu_ne (by omega)] | rw [zu_ne2 (by omega)] | rw [zfu_ne (by omega)] | rw [zu_if, if_pos (by omega)]))
  · rw [if_neg h0]
    by_cases h1 : k = 120 * x + 3 * t + 1
    · rw [if_pos h1, h1]; (repeat (first | rw [zu_ne (by omega)] | rw [zu_ne2 (by omega)] | rw [zfu_ne (by omega)] | rw [zu_if, if_pos (by omega)]))
    · rw [if_neg h1]
      by_cases h2 : k = 120 * x + 3 * t + 2
      · rw [if_pos h2, h2]; (repeat (first | rw [zu_ne (by omega)] | rw [zu_ne2 (by omega)] | rw [zfu_ne (by omega)] | rw [zu_if, if_pos (by omega)]))
      · rw [if_neg h2]; (repeat (first | rw [zu_ne (by omega)] | rw [zu_ne2 (by omega)] | rw [zfu_ne (by omega)] | rw [zu_if, if_pos (by omega)])); omega
theorem MF_Do {b : zmem} {x t y p q r g e u : Int} (x0 : 0 ≤ x) (x1 : x < 12) (t0 : 0 ≤ t) (t1 : t < 40) (g0 : 0 ≤ g) (g1 : g < 12) (e0 : 0 ≤ e) (e1 : e < 3) (u0 : 0 ≤ u) (u1 : u < 40) : MF (MDo b x t y p q r) g e u = MF b g e u - (if g = x ∧ u = t then (if e = 0 then p else if e = 1 then q else r) else 0) := by
  have e2 : MDo b x t y p q r 272 = b 272 := by unfold MDo; (repeat (first | rw [zu_ne (by omega)] | rw [zu_ne2 (by omega)] | rw [zfu_ne (by omega)] | rw [zu_if, if_pos (by omega)]))
  have e3 : MDo b x t y p q r 273 = b 273 := by unfold MDo; (repeat (first | rw [zu_ne (by omega)] | rw [zu_ne2 (by omega)] | rw [zfu_ne (by omega)] | rw [zu_if, if_pos (by omega)]))
  have e4 : MDo b x t y p q r 274 = b 274 := by unfold MDo; (repeat (first | rw [zu_ne (by omega)] | rw [zu_ne2 (by omega)] | rw [zfu_ne (by omega)] | rw [zu_if, if_pos (by omega)]))
  have e6 : MDo b x t y p q r 276 = b 276 := by unfold MDo; (repeat (first | rw [zu_ne (by omega)] | rw [zu_ne2 (by omega)] | rw [zfu_ne (by omega)] | rw [zu_if, if_pos (by omega)]))
  have e7 : MDo b x t y p q r 277 = b 277 := by unfold MDo; (repeat (first | rw [zu_ne (by omega)] | rw [zu_ne2 (by omega)] | rw [zfu_ne (by omega)] | rw [zu_if, if_pos (by omega)]))
  have e5 : MDo b x t y p q r 265 = b 265 := by unfold MDo; (repeat (first | rw [zu_ne (by omega)] | rw [zu_ne2 (by omega)] | rw [zfu_ne (by omega)] | rw [zu_if, if_pos (by omega)]))
  have e8 : MDo b x t y p q r 264 10 = b 264 10 := by unfold MDo; (repeat (first | rw [zu_ne (by omega)] | rw [zu_ne2 (by omega)] | rw [zfu_ne (by omega)] | rw [zu_if, if_pos (by omega)]))
  unfold MF
  rw [MCf_e e2 e3 e4 e6 e7, e5, e8, MDo_9]
  by_cases h : g = x ∧ u = t
  · rw [if_pos h]
    rcases (show e = 0 ∨ e = 1 ∨ e = 2 by omega) with z | z | z
    · rw [if_pos z, if_pos (by omega)]; omega
    · rw [if_neg (by omega), if_pos (by omega), if_neg (by omega), if_pos z]; omega
    · rw [if_neg (by omega), if_neg (by omega), if_pos (by omega), if_neg (by omega), if_neg (by omega)]; omega
  · rw [if_neg h, if_neg (by omega), if_neg (by omega), if_neg (by omega)]; omega
theorem sm_door {T : Int} {a b : zmem} (hs : Sim T a b) {x t y p q r : Int} (x0 : 0 ≤ x) (x1 : x < b 264 0) (et : t = b 264 9) (y0 : 1 ≤ y) (y1 : y ≤ 9) (hp : 0 ≤ p ∧ p ≤ MF b x 0 t) (hq : 0 ≤ q ∧ q ≤ MF b x 1 t) (hr : 0 ≤ r ∧ r ≤ MF b x 2 t) (hn : p + q + r = y)  : Sim (T + 9) (XDo a x t y p q r) (MDo b x t y p q r) := by
  have s1 := hs.s1
  unfold S1 at s1
  have m0 := Sim_rng hs x 0 t (by omega) (by omega) (by omega) (by omega) (by omega) (by omega)
  have m1 := Sim_rng hs x 1 t (by omega) (by omega) (by omega) (by omega) (by omega) (by omega)
  have m2 := Sim_rng hs x 2 t (by omega) (by omega) (by omega) (by omega) (by omega) (by omega)
  have cS1 : S1 (T + 9) (XDo a x t y p q r) (MDo b x t y p q r) := by
    unfold S1 XDo MDo
    (repeat (first | rw [zu_ne (by omega)] | rw [zu_ne2 (by omega)] | rw [zfu_ne (by omega)] | rw [zu_if, if_pos (by omega)]))
    omega
  have cS2 : S2 (XDo a x t y p q r) (MDo b x t y p q r) := S2_f hs.s2 (fun h h0 h1 => by unfold XDo; (repeat (first | rw [zu_ne (by omega)] | rw [zu_ne2 (by omega)] | rw [zfu_ne (by omega)] | rw [zu_if, if_pos (by omega)])) <;> rfl) (fun h h0 h1 => by unfold XDo; (repeat (first | rw [zu_ne (by omega)] | rw [zu_ne2 (by omega)] | rw [zfu_ne (by omega)] | rw [zu_if, if_pos (by omega)])) <;> rfl) (by unfold MDo; (repeat (first | rw [zu_ne (by omega)] | rw [zu_ne2 (by omega)] | rw [zfu_ne (by omega)] | rw [zu_if, if_pos (by omega)])) <;> rfl) (by unfold MDo; (repeat (first | rw [zu_ne (by omega)] | rw [zu_ne2 (by omega)] | rw [zfu_ne (by omega)] | rw [zu_if, if_pos (by omega)])) <;> rfl)
  have cS3 : S3 (XDo a x t y p q r) (MDo b x t y p q r) := S3_f hs.s3 (fun h h0 h1 => by unfold XDo; (repeat (first | rw [zu_ne (by omega)] | rw [zu_ne2 (by omega)] | rw [zfu_ne (by omega)] | rw [zu_if, if_pos (by omega)])) <;> rfl) (by unfold MDo; (repeat (first | rw [zu_ne (by omega)] | rw [zu_ne2 (by omega)] | rw [zfu_ne (by omega)] | rw [zu_if, if_pos (by omega)])) <;> rfl)
  have cS4 : S4 (XDo a x t y p q r) (MDo b x t y p q r) := S4_f hs.s4 (fun h h0 h1 => by unfold XDo; (repeat (first | rw [zu_ne (by omega)] | rw [zu_ne2 (by omega)] | rw [zfu_ne (by omega)] | rw [zu_if, if_pos (by omega)])) <;> rfl) (by unfold MDo; (repeat (first | rw [zu_ne (by omega)] | rw [zu_ne2 (by omega)] | rw [zfu_ne (by omega)] | rw [zu_if, if_pos (by omega)])) <;> rfl)
  have cS5 : S5 (XDo a x t y p q r) (MDo b x t y p q r) := S5_f hs.s5 (fun c c0 c1 => by unfold XDo; (repeat (first | rw [zu_ne (by omega)] | rw [zu_ne2 (by omega)] | rw [zfu_ne (by omega)] | rw [zu_if, if_pos (by omega)])) <;> rfl) (by unfold MDo; (repeat (first | rw [zu_ne (by omega)] | rw [zu_ne2 (by omega)] | rw [zfu_ne (by omega)] | rw [zu_if, if_pos (by omega)])) <;> rfl) (by unfold MDo; (repeat (first | rw [zu_ne (by omega)] | rw [zu_ne2 (by omega)] | rw [zfu_ne (by omega)] | rw [zu_if, if_pos (by omega)])) <;> rfl) (by unfold MDo; (repeat (first | rw [zu_ne (by omega)] | rw [zu_ne2 (by omega)] | rw [zfu_ne (by omega)] | rw [zu_if, if_pos (by omega)])) <;> rfl) (by unfold MDo; (repeat (first | rw [zu_ne (by omega)] | rw [zu_ne2 (by omega)] | rw [zfu_ne (by omega)] | rw [zu_if, if_pos (by omega)])) <;> rfl) (by unfold MDo; (repeat (first | rw [zu_ne (by omega)] | rw [zu_ne2 (by omega)] | rw [zfu_ne (by omega)] | rw [zu_if, if_pos (by omega)])) <;> rfl) (by unfold MDo; (repeat (first | rw [zu_ne (by omega)] | rw [zu_ne2 (by omega)] | rw [zfu_ne (by omega)] | rw [zu_if, if_pos (by omega)])) <;> rfl) (by unfold MDo; (repeat (first | rw [zu_ne (by omega)] | rw [zu_ne2 (by omega)] | rw [zfu_ne (by omega)] | rw [zu_if, if_pos (by omega)])) <;> rfl)
  have cS6 : S6 (XDo a x t y p q r) (MDo b x t y p q r) := S6_f hs.s6 (fun c c0 c1 => by unfold XDo; (repeat (first | rw [zu_ne (by omega)] | rw [zu_ne2 (by omega)] | rw [zfu_ne (by omega)] | rw [zu_if, if_pos (by omega)])) <;> rfl) (by unfold MDo; (repeat (first | rw [zu_ne (by omega)] | rw [zu_ne2 (by omega)] | rw [zfu_ne (by omega)] | rw [zu_if, if_pos (by omega)])) <;> rfl) (by unfold MDo; (repeat (first | rw [zu_ne (by omega)] | rw [zu_ne2 (by omega)] | rw [zfu_ne (by omega)] | rw [zu_if, if_pos (by omega)])) <;> rfl) (by unfold MDo; (repeat (first | rw [zu_ne (by omega)] | rw [zu_ne2 (by omega)] | rw [zfu_ne (by omega)] | rw [zu_if, if_pos (by omega)])) <;> rfl)
  have cS7 : S7 (XDo a x t y p q r) (MDo b x t y p q r) := S7_f hs.s7 (fun c c0 c1 => by unfold XDo; (repeat (first | rw [zu_ne (by omega)] | rw [zu_ne2 (by omega)] | rw [zfu_ne (by omega)] | rw [zu_if, if_pos (by omega)])) <;> rfl) (by unfold MDo; (repeat (first | rw [zu_ne (by omega)] | rw [zu_ne2 (by omega)] | rw [zfu_ne (by omega)] | rw [zu_if, if_pos (by omega)])) <;> rfl)
  have cS8 : S8 (XDo a x t y p q r) (MDo b x t y p q r) := S8_f hs.s8 (fun c c0 c1 => by unfold XDo; (repeat (first | rw [zu_ne (by omega)] | rw [zu_ne2 (by omega)] | rw [zfu_ne (by omega)] | rw [zu_if, if_pos (by omega)])) <;> rfl) (by unfold MDo; (repeat (first | rw [zu_ne (by omega)] | rw [zu_ne2 (by omega)] | rw [zfu_ne (by omega)] | rw [zu_if, if_pos (by omega)])) <;> rfl) (by unfold MDo; (repeat (first | rw [zu_ne (by omega)] | rw [zu_ne2 (by omega)] | rw [zfu_ne (by omega)] | rw [zu_if, if_pos (by omega)])) <;> rfl) (by unfold MDo; (repeat (first | rw [zu_ne (by omega)] | rw [zu_ne2 (by omega)] | rw [zfu_ne (by omega)] | rw [zu_if, if_pos (by omega)])) <;> rfl) (by unfold MDo; (repeat (first | rw [zu_ne (by omega)] | rw [zu_ne2 (by omega)] | rw [zfu_ne (by omega)] | rw [zu_if, if_pos (by omega)])) <;> rfl) (by unfold MDo; (repeat (first | rw [zu_ne (by omega)] | rw [zu_ne2 (by omega)] | rw [zfu_ne (by omega)] | rw [zu_if, if_pos (by omega)])) <;> rfl)
  have cS9 : S9 (XDo a x t y p q r) (MDo b x t y p q r) := S9_f hs.s9 (fun c c0 c1 => by unfold XDo; (repeat (first | rw [zu_ne (by omega)] | rw [zu_ne2 (by omega)] | rw [zfu_ne (by omega)] | rw [zu_if, if_pos (by omega)])) <;> rfl) (by unfold MDo; (repeat (first | rw [zu_ne (by omega)] | rw [zu_ne2 (by omega)] | rw [zfu_ne (by omega)] | rw [zu_if, if_pos (by omega)])) <;> rfl) (by unfold MDo; (repeat (first | rw [zu_ne (by omega)] | rw [zu_ne2 (by omega)] | rw [zfu_ne (by omega)] | rw [zu_if, if_pos (by omega)])) <;> rfl) (by unfold MDo; (repeat (first | rw [zu_ne (by omega)] | rw [zu_ne2 (by omega)] | rw [zfu_ne (by omega)] | rw [zu_if, if_pos (by omega)])) <;> rfl) (by unfold MDo; (repeat (first | rw [zu_ne (by omega)] | rw [zu_ne2 (by omega)] | rw [zfu_ne (by omega)] | rw [zu_if, if_pos (by omega)])) <;> rfl)
  have cS10 : S10 (XDo a x t y p q r) (MDo b x t y p q r) := by
    intro g g0 g1
    have gg := hs.s10 g g0 g1
    have e9 : MDo b x t y p q r 264 0 = b 264 0 := by unfold MDo; (repeat (first | rw [zu_ne (by omega)] | rw [zu_ne2 (by omega)] | rw [zfu_ne (by omega)] | rw [zu_if, if_pos (by omega)]))
    have gh := hs.s10 x (by omega) (by omega)
    have g0h := gh.2 (by omega) 0 t (by omega) (by omega) (by omega) (by omega)
    have g1h := gh.2 (by omega) 1 t (by omega) (by omega) (by omega) (by omega)
    have g2h := gh.2 (by omega) 2 t (by omega) (by omega) (by omega) (by omega)
    rw [show 3 * t + 0 = 3 * t by omega] at g0h
    have rd : ∀ k, 0 ≤ k → k < 120 → XDo a x t y p q r (4 + 4 * g) k = a (4 + 4 * g) k - (if g = x ∧ k / 3 = t then (if k % 3 = 0 then p else if k % 3 = 1 then q else r) else 0) := fun k q0 q1 => by
      unfold XDo
      by_cases eg : g = x
      · subst eg
        rcases (show k = 3 * t ∨ k = 3 * t + 1 ∨ k = 3 * t + 2 ∨ ¬ k / 3 = t by omega) with y | y | y | y
        · rw [if_pos (by omega), if_pos (by omega), y]
          (repeat (first | rw [zu_ne (by omega)] | rw [zu_ne2 (by omega)] | rw [zfu_ne (by omega)] | rw [zu_if, if_pos (by omega)]))
        · rw [if_pos (by omega), if_neg (by omega), if_pos (by omega), y]
          (repeat (first | rw [zu_ne (by omega)] | rw [zu_ne2 (by omega)] | rw [zfu_ne (by omega)] | rw [zu_if, if_pos (by omega)]))
        · rw [if_pos (by omega), if_neg (by omega), if_neg (by omega), y]
          (repeat (first | rw [zu_ne (by omega)] | rw [zu_ne2 (by omega)] | rw [zfu_ne (by omega)] | rw [zu_if, if_pos (by omega)]))
        · rw [if_neg (by omega)]
          (repeat (first | rw [zu_ne (by omega)] | rw [zu_ne2 (by omega)] | rw [zfu_ne (by omega)] | rw [zu_if, if_pos (by omega)]))
          omega
      · rw [if_neg (by omega)]
        (repeat (first | rw [zu_ne (by omega)] | rw [zu_ne2 (by omega)] | rw [zfu_ne (by omega)] | rw [zu_if, if_pos (by omega)]))
        omega
    refine ⟨fun k q0 q1 => ?_, fun gl e u q0 q1 q2 q3 => ?_⟩
    · have g1 := gg.1 k q0 q1
      rw [rd k q0 q1]
      by_cases eq : g = x ∧ k / 3 = t
      · rw [if_pos eq]
        rcases (show k = 3 * t ∨ k = 3 * t + 1 ∨ k = 3 * t + 2 by omega) with y | y | y
        · rw [if_pos (by omega), eq.1, y]
          omega
        · rw [if_neg (by omega), if_pos (by omega), eq.1, y]
          omega
        · rw [if_neg (by omega), if_neg (by omega), eq.1, y]
          omega
      · rw [if_neg eq]
        omega
    · rw [e9] at gl
      rw [rd _ (by omega) (by omega), MF_Do x0 (by omega) (by omega) (by omega) g0 g1 q0 q1 q2 q3, gg.2 gl e u q0 q1 q2 q3, show (3 * u + e) / 3 = u by omega, show (3 * u + e) % 3 = e by omega]
  have cS11 : S11 (XDo a x t y p q r) (MDo b x t y p q r) := by
    intro g g0 g1
    have gg := hs.s11 g g0 g1
    have e9 : MDo b x t y p q r 264 9 = b 264 9 := by unfold MDo; (repeat (first | rw [zu_ne (by omega)] | rw [zu_ne2 (by omega)] | rw [zfu_ne (by omega)] | rw [zu_if, if_pos (by omega)]))
    have e0 : MDo b x t y p q r 264 0 = b 264 0 := by unfold MDo; (repeat (first | rw [zu_ne (by omega)] | rw [zu_ne2 (by omega)] | rw [zfu_ne (by omega)] | rw [zu_if, if_pos (by omega)]))
    have d0 := MF_d (Sim_ok hs) (h := x) (e := 0) (t := t) x0 (by omega) (by omega) (by omega) (by omega) (by omega)
    have d1 := MF_d (Sim_ok hs) (h := x) (e := 1) (t := t) x0 (by omega) (by omega) (by omega) (by omega) (by omega)
    have d2 := MF_d (Sim_ok hs) (h := x) (e := 2) (t := t) x0 (by omega) (by omega) (by omega) (by omega) (by omega)
    rw [show 120 * x + 3 * t + 0 = 120 * x + 3 * t by omega] at d0
    rw [e9, e0]
    refine ⟨fun k k0 k1 => ?_, ?_, ?_⟩
    · have g1 := gg.1 k k0 k1
      rw [MDo_9]
      by_cases z0 : 120 * g + k = 120 * x + 3 * t
      · rw [if_pos z0, z0]; rw [z0] at g1; omega
      · rw [if_neg z0]
        by_cases z1 : 120 * g + k = 120 * x + 3 * t + 1
        · rw [if_pos z1, z1]; rw [z1] at g1; omega
        · rw [if_neg z1]
          by_cases z2 : 120 * g + k = 120 * x + 3 * t + 2
          · rw [if_pos z2, z2]; rw [z2] at g1; omega
          · rw [if_neg z2]; omega
    · have z : XDo a x t y p q r (3 + 4 * g) 6 = a (3 + 4 * g) 6 := by unfold XDo; (repeat (first | rw [zu_ne (by omega)] | rw [zu_ne2 (by omega)] | rw [zfu_ne (by omega)] | rw [zu_if, if_pos (by omega)]))
      rw [z, gg.2.1]
      refine zsum_c (fun k k0 k1 => ?_)
      rw [MDo_9, if_neg (by omega), if_neg (by omega), if_neg (by omega)]
      omega
    · rw [MDo_9, MDo_9, MDo_9]
      have g2 := gg.2.2
      by_cases eg : g = x
      · subst eg
        have z : XDo a g t y p q r (3 + 4 * g) 5 = y + a (3 + 4 * g) 5 := by unfold XDo; (repeat (first | rw [zu_ne (by omega)] | rw [zu_ne2 (by omega)] | rw [zfu_ne (by omega)] | rw [zu_if, if_pos (by omega)]))
        rw [z, if_pos (by omega), if_neg (by omega), if_pos (by omega), if_neg (by omega), if_neg (by omega), if_pos (by omega)]
        omega
      · have z : XDo a x t y p q r (3 + 4 * g) 5 = a (3 + 4 * g) 5 := by unfold XDo; (repeat (first | rw [zu_ne (by omega)] | rw [zu_ne2 (by omega)] | rw [zfu_ne (by omega)] | rw [zu_if, if_pos (by omega)]))
        rw [z, if_neg (by omega), if_neg (by omega), if_neg (by omega), if_neg (by omega), if_neg (by omega), if_neg (by omega), if_neg (by omega), if_neg (by omega), if_neg (by omega)]
        omega
  have cS12 : S12 (XDo a x t y p q r) (MDo b x t y p q r) := S12_f hs.s12 (by unfold XDo; (repeat (first | rw [zu_ne (by omega)] | rw [zu_ne2 (by omega)] | rw [zfu_ne (by omega)] | rw [zu_if, if_pos (by omega)])) <;> rfl) (by unfold XDo; (repeat (first | rw [zu_ne (by omega)] | rw [zu_ne2 (by omega)] | rw [zfu_ne (by omega)] | rw [zu_if, if_pos (by omega)])) <;> rfl) (by unfold XDo; (repeat (first | rw [zu_ne (by omega)] | rw [zu_ne2 (by omega)] | rw [zfu_ne (by omega)] | rw [zu_if, if_pos (by omega)])) <;> rfl) (by unfold XDo; (repeat (first | rw [zu_ne (by omega)] | rw [zu_ne2 (by omega)] | rw [zfu_ne (by omega)] | rw [zu_if, if_pos (by omega)])) <;> rfl) (by unfold MDo; (repeat (first | rw [zu_ne (by omega)] | rw [zu_ne2 (by omega)] | rw [zfu_ne (by omega)] | rw [zu_if, if_pos (by omega)])) <;> rfl) (by unfold MDo; (repeat (first | rw [zu_ne (by omega)] | rw [zu_ne2 (by omega)] | rw [zfu_ne (by omega)] | rw [zu_if, if_pos (by omega)])) <;> rfl) (by unfold MDo; (repeat (first | rw [zu_ne (by omega)] | rw [zu_ne2 (by omega)] | rw [zfu_ne (by omega)] | rw [zu_if, if_pos (by omega)])) <;> rfl) (by unfold MDo; (repeat (first | rw [zu_ne (by omega)] | rw [zu_ne2 (by omega)] | rw [zfu_ne (by omega)] | rw [zu_if, if_pos (by omega)])) <;> rfl) (by unfold MDo; (repeat (first | rw [zu_ne (by omega)] | rw [zu_ne2 (by omega)] | rw [zfu_ne (by omega)] | rw [zu_if, if_pos (by omega)])) <;> rfl) (by unfold MDo; (repeat (first | rw [zu_ne (by omega)] | rw [zu_ne2 (by omega)] | rw [zfu_ne (by omega)] | rw [zu_if, if_pos (by omega)])) <;> rfl)
  have cS13 : S13 (XDo a x t y p q r) (MDo b x t y p q r) := S13_f hs.s13 (by unfold XDo; (repeat (first | rw [zu_ne (by omega)] | rw [zu_ne2 (by omega)] | rw [zfu_ne (by omega)] | rw [zu_if, if_pos (by omega)])) <;> rfl) (by unfold XDo; (repeat (first | rw [zu_ne (by omega)] | rw [zu_ne2 (by omega)] | rw [zfu_ne (by omega)] | rw [zu_if, if_pos (by omega)])) <;> rfl) (by unfold MDo; (repeat (first | rw [zu_ne (by omega)] | rw [zu_ne2 (by omega)] | rw [zfu_ne (by omega)] | rw [zu_if, if_pos (by omega)])) <;> rfl) (by unfold MDo; (repeat (first | rw [zu_ne (by omega)] | rw [zu_ne2 (by omega)] | rw [zfu_ne (by omega)] | rw [zu_if, if_pos (by omega)])) <;> rfl)
  have cS14 : S14 (XDo a x t y p q r) (MDo b x t y p q r) := S14_f hs.s14 (by unfold XDo; (repeat (first | rw [zu_ne (by omega)] | rw [zu_ne2 (by omega)] | rw [zfu_ne (by omega)] | rw [zu_if, if_pos (by omega)])) <;> rfl) (by unfold MDo; (repeat (first | rw [zu_ne (by omega)] | rw [zu_ne2 (by omega)] | rw [zfu_ne (by omega)] | rw [zu_if, if_pos (by omega)])) <;> rfl) (by unfold MDo; (repeat (first | rw [zu_ne (by omega)] | rw [zu_ne2 (by omega)] | rw [zfu_ne (by omega)] | rw [zu_if, if_pos (by omega)])) <;> rfl)
  have cS15 : S15 (XDo a x t y p q r) (MDo b x t y p q r) := S15_f hs.s15 (fun c c0 c1 => by unfold XDo; (repeat (first | rw [zu_ne (by omega)] | rw [zu_ne2 (by omega)] | rw [zfu_ne (by omega)] | rw [zu_if, if_pos (by omega)])) <;> rfl) (by unfold MDo; (repeat (first | rw [zu_ne (by omega)] | rw [zu_ne2 (by omega)] | rw [zfu_ne (by omega)] | rw [zu_if, if_pos (by omega)])) <;> rfl) (by unfold MDo; (repeat (first | rw [zu_ne (by omega)] | rw [zu_ne2 (by omega)] | rw [zfu_ne (by omega)] | rw [zu_if, if_pos (by omega)])) <;> rfl) (by unfold MDo; (repeat (first | rw [zu_ne (by omega)] | rw [zu_ne2 (by omega)] | rw [zfu_ne (by omega)] | rw [zu_if, if_pos (by omega)])) <;> rfl) (by unfold MDo; (repeat (first | rw [zu_ne (by omega)] | rw [zu_ne2 (by omega)] | rw [zfu_ne (by omega)] | rw [zu_if, if_pos (by omega)])) <;> rfl) (by unfold MDo; (repeat (first | rw [zu_ne (by omega)] | rw [zu_ne2 (by omega)] | rw [zfu_ne (by omega)] | rw [zu_if, if_pos (by omega)])) <;> rfl) (by unfold MDo; (repeat (first | rw [zu_ne (by omega)] | rw [zu_ne2 (by omega)] | rw [zfu_ne (by omega)] | rw [zu_if, if_pos (by omega)])) <;> rfl) (by unfold MDo; (repeat (first | rw [zu_ne (by omega)] | rw [zu_ne2 (by omega)] | rw [zfu_ne (by omega)] | rw [zu_if, if_pos (by omega)])) <;> rfl) (by unfold MDo; (repeat (first | rw [zu_ne (by omega)] | rw [zu_ne2 (by omega)] | rw [zfu_ne (by omega)] | rw [zu_if, if_pos (by omega)])) <;> rfl) (by unfold MDo; (repeat (first | rw [zu_ne (by omega)] | rw [zu_ne2 (by omega)] | rw [zfu_ne (by omega)] | rw [zu_if, if_pos (by omega)])) <;> rfl)
  have cS16 : S16 (XDo a x t y p q r) (MDo b x t y p q r) := S16_f hs.s16 (by unfold MDo; (repeat (first | rw [zu_ne (by omega)] | rw [zu_ne2 (by omega)] | rw [zfu_ne (by omega)] | rw [zu_if, if_pos (by omega)])) <;> rfl) (by unfold MDo; (repeat (first | rw [zu_ne (by omega)] | rw [zu_ne2 (by omega)] | rw [zfu_ne (by omega)] | rw [zu_if, if_pos (by omega)])) <;> rfl) (by unfold MDo; (repeat (first | rw [zu_ne (by omega)] | rw [zu_ne2 (by omega)] | rw [zfu_ne (by omega)] | rw [zu_if, if_pos (by omega)])) <;> rfl)
  exact ⟨cS1, cS2, cS3, cS4, cS5, cS6, cS7, cS8, cS9, cS10, cS11, cS12, cS13, cS14, cS15, cS16⟩
