set_option maxHeartbeats 1000000 in
theorem sm_pass {T : Int} {a b : zmem} (hs : Sim T a b) (ht : b 264 9 < 39) : Sim T (XPs a b) (MPs b b) := by
  have s1 := hs.s1
  unfold S1 at s1
  have dok := Dok_f hs (b 264 0).toNat 0 (b 279) (by omega) (by omega) (Dok_0 hs)
  have dob := Dok_b dok (by omega) (by omega) (by omega) (by omega)
  have xo : ∀ p, ¬ p = 0 → (¬ (p - 64) % 5 = 0 ∨ p < 64 ∨ 264 ≤ p) → (¬ (p - 68) % 5 = 0 ∨ p < 68 ∨ 264 ≤ p) → (¬ (p - 3) % 4 = 0 ∨ p < 3 ∨ 51 ≤ p) → XPs a b p = a p := fun p p0 x y z => by
    unfold XPs
    rw [zu_ne p0, zNX_n (by omega) x, zDX_n x, zEX_n (by omega) z, zSX_n (by omega) y]
  have x0 : ∀ k, ¬ k = 7 → XPs a b 0 k = a 0 k := fun k hk => by
    unfold XPs
    rw [zu_ne2 hk, zNX_n (by omega) (by omega), zDX_n (by omega), zEX_n (by omega) (by omega), zSX_n (by omega) (by omega)]
  have x07 : XPs a b 0 7 = b 264 9 + 1 := by unfold XPs; rw [zu_at]
  have xc : ∀ c k, 0 ≤ c → c < 40 → ¬ k = 7 → ¬ k = 8 → XPs a b (64 + 5 * c) k = a (64 + 5 * c) k := fun c k c0 c1 k7 k8 => by
    unfold XPs
    rw [zu_ne (by omega), zNX_o k7, zDX_o k8, zEX_n (by omega) (by omega), zSX_n (by omega) (by omega)]
  have xc7 : ∀ c, 0 ≤ c → c < 40 → XPs a b (64 + 5 * c) 7 = if c < b 264 10 ∧ zOv b c then 3 else a (64 + 5 * c) 7 := fun c c0 c1 => by
    unfold XPs
    rw [zu_ne (by omega), zNX_v c0, zDX_o (by omega), zEX_n (by omega) (by omega), zSX_n (by omega) (by omega)]
  have xc8 : ∀ c, 0 ≤ c → c < 40 → XPs a b (64 + 5 * c) 8 = (Dh b (b 264 0).toNat 0 (b 279)) c := fun c c0 c1 => by
    unfold XPs
    rw [zu_ne (by omega), zNX_o (by omega), zDX_v c0 c1]
  have xs : ∀ c k, 0 ≤ c → c < 40 → XPs a b (68 + 5 * c) k = if c < b 264 10 ∧ ¬ b 280 c = 0 ∧ k = b 264 9 - b 272 c then 1 else a (68 + 5 * c) k := fun c k c0 c1 => by
    unfold XPs
    rw [zu_ne (by omega), zNX_n (by omega) (by omega), zDX_n (by omega), zEX_n (by omega) (by omega), zSX_v c0]
  have xh : ∀ h k, 0 ≤ h → h < 12 → ¬ k = 5 → ¬ k = 6 → XPs a b (3 + 4 * h) k = a (3 + 4 * h) k := fun h k h0 h1 k5 k6 => by
    unfold XPs
    rw [zu_ne (by omega), zNX_n (by omega) (by omega), zDX_n (by omega), zEX_o k5 k6, zSX_n (by omega) (by omega)]
  have xh5 : ∀ h, 0 ≤ h → h < 12 → XPs a b (3 + 4 * h) 5 = if h < b 264 0 then 0 else a (3 + 4 * h) 5 := fun h h0 h1 => by
    unfold XPs
    rw [zu_ne (by omega), zNX_n (by omega) (by omega), zDX_n (by omega), zEX_5 h0, zSX_n (by omega) (by omega)]
  have xh6 : ∀ h, 0 ≤ h → h < 12 → XPs a b (3 + 4 * h) 6 = if h < b 264 0 then a (3 + 4 * h) 5 + a (3 + 4 * h) 6 else a (3 + 4 * h) 6 := fun h h0 h1 => by
    unfold XPs
    rw [zu_ne (by omega), zNX_n (by omega) (by omega), zDX_n (by omega), zEX_6 h0, zSX_n (by omega) (by omega)]
  have mo : ∀ p, ¬ p = 264 → ¬ p = 275 → ¬ p = 278 → ¬ p = 279 → ¬ p = 280 → MPs b b p = b p := fun p p1 p2 p3 p4 p5 => by
    unfold MPs
    rw [zu_ne p1, zNM_n p5 p2, zDM_n p4, zSM_n p3]
  have m4 : ∀ k, ¬ k = 9 → MPs b b 264 k = b 264 k := fun k hk => by
    unfold MPs
    rw [zu_ne2 hk, zNM_n (by omega) (by omega), zDM_n (by omega), zSM_n (by omega)]
  have m49 : MPs b b 264 9 = b 264 9 + 1 := by unfold MPs; rw [zu_at]
  have m75 : ∀ c, 0 ≤ c → MPs b b 275 c = if c < b 264 10 ∧ zOv b c then 3 else b 275 c := fun c c0 => by
    unfold MPs
    rw [zu_ne (by omega), zNM_75 c0, zDM_n (by omega), zSM_n (by omega)]
  have m80 : ∀ c, 0 ≤ c → MPs b b 280 c = if c < b 264 10 then 0 else b 280 c := fun c c0 => by
    unfold MPs
    rw [zu_ne (by omega), zNM_80 c0, zDM_n (by omega), zSM_n (by omega)]
  have m79 : ∀ c, 0 ≤ c → c < 40 → MPs b b 279 c = (Dh b (b 264 0).toNat 0 (b 279)) c := fun c c0 c1 => by
    unfold MPs
    rw [zu_ne (by omega), zNM_n (by omega) (by omega), zDM_v c0 c1]
  have m78 : ∀ c k, 0 ≤ c → 0 ≤ k → k < 7 → MPs b b 278 (7 * c + k) = if c < b 264 10 ∧ ¬ b 280 c = 0 ∧ k = b 264 9 - b 272 c then 1 else b 278 (7 * c + k) := fun c k c0 k0 k1 => by
    unfold MPs
    rw [zu_ne (by omega), zNM_n (by omega) (by omega), zDM_n (by omega), zSM_v c0 k0 k1]
  have e266 := mo 266 (by omega) (by omega) (by omega) (by omega) (by omega)
  have e267 := mo 267 (by omega) (by omega) (by omega) (by omega) (by omega)
  have e268 := mo 268 (by omega) (by omega) (by omega) (by omega) (by omega)
  have e269 := mo 269 (by omega) (by omega) (by omega) (by omega) (by omega)
  have e270 := mo 270 (by omega) (by omega) (by omega) (by omega) (by omega)
  have e265 := mo 265 (by omega) (by omega) (by omega) (by omega) (by omega)
  have e271 := mo 271 (by omega) (by omega) (by omega) (by omega) (by omega)
  have e272 := mo 272 (by omega) (by omega) (by omega) (by omega) (by omega)
  have e273 := mo 273 (by omega) (by omega) (by omega) (by omega) (by omega)
  have e274 := mo 274 (by omega) (by omega) (by omega) (by omega) (by omega)
  have e276 := mo 276 (by omega) (by omega) (by omega) (by omega) (by omega)
  have e277 := mo 277 (by omega) (by omega) (by omega) (by omega) (by omega)
  have z80 : ∀ c, 0 ≤ c → c < 40 → MPs b b 280 c = 0 := fun c c0 c1 => by
    rw [m80 c c0]
    by_cases q : c < b 264 10
    · rw [if_pos q]
    · rw [if_neg q]
      exact (((hs.s15 c c0 c1).2 0 (by omega) (by omega)).2 (by omega)).2.2.2.2.2
  have mf : MF (MPs b b) = MF b := MF_e (m4 10 (by omega)) e265 e269 e272 e273 e274 e276 e277
  have c1 : S1 T (XPs a b) (MPs b b) := by
    unfold S1
    rw [xo 1 (by omega) (by omega) (by omega) (by omega), xo 55 (by omega) (by omega) (by omega) (by omega), xo 60 (by omega) (by omega) (by omega) (by omega), x0 6 (by omega), x0 8 (by omega), x07, m4 0 (by omega), m4 7 (by omega), m4 10 (by omega), m4 6 (by omega), m4 27 (by omega), m4 24 (by omega), m49]
    omega
  have c2 : S2 (XPs a b) (MPs b b) := S2_f hs.s2 (fun h h0 h1 => xh h 3 h0 h1 (by omega) (by omega)) (fun h h0 h1 => xh h 4 h0 h1 (by omega) (by omega)) e266 e267
  have c3 : S3 (XPs a b) (MPs b b) := S3_f hs.s3 (fun h h0 h1 => xo _ (by omega) (by omega) (by omega) (by omega)) e268
  have c4 : S4 (XPs a b) (MPs b b) := S4_f hs.s4 (fun h h0 h1 => xo _ (by omega) (by omega) (by omega) (by omega)) e270
  have c5 : S5 (XPs a b) (MPs b b) := by
    intro c c0 c1
    have g := hs.s5 c c0 c1
    have d := dob c c0 c1
    rw [xc c 4 c0 c1 (by omega) (by omega), xc c 5 c0 c1 (by omega) (by omega), xc c 6 c0 c1 (by omega) (by omega), xc7 c c0 c1, xc8 c c0 c1, e271, e272, e273, m75 c c0, m79 c c0 c1, m49, m4 10 (by omega)]
    by_cases q : c < b 264 10 ∧ zOv b c
    · rw [if_pos q, if_pos q]; omega
    · rw [if_neg q, if_neg q]; omega
  have c6 : S6 (XPs a b) (MPs b b) := S6_f hs.s6 (fun c c0 c1 => xo _ (by omega) (by omega) (by omega) (by omega)) e274 e273 (m4 0 (by omega))
  have c7 : S7 (XPs a b) (MPs b b) := by
    intro c c0 c1 k k0 k1
    have g := hs.s7 c c0 c1 k k0 k1
    rw [xs c k c0 c1, m78 c k c0 k0 k1]
    by_cases q : c < b 264 10 ∧ ¬ b 280 c = 0 ∧ k = b 264 9 - b 272 c
    · rw [if_pos q, if_pos q]; omega
    · rw [if_neg q, if_neg q]; exact g
  have c8 : S8 (XPs a b) (MPs b b) := by
    intro c c0 c1
    have g := hs.s8 c c0 c1
    have k5 := hs.s5 c c0 c1
    rw [z80 c c0 c1, m49, e272, e273, e276, xo (67 + 5 * c) (by omega) (by omega) (by omega) (by omega)]
    exact ⟨Or.inl rfl, fun h => g.2.2.2.2 _ h.1 (by omega) (by omega), fun _ => rfl, fun h => absurd h (by omega), fun k k0 k1 hk => g.2.2.2.2 k k0 k1 (by omega)⟩
  have c9 : S9 (XPs a b) (MPs b b) := S9_f hs.s9 (fun c c0 c1 => xo _ (by omega) (by omega) (by omega) (by omega)) e276 e277 e273 e271
  have c10 : S10 (XPs a b) (MPs b b) := S10_c hs.s10 (fun h h0 h1 => xo _ (by omega) (by omega) (by omega) (by omega)) (m4 0 (by omega)) mf
  have c11 : S11 (XPs a b) (MPs b b) := by
    intro h h0 h1
    have g := hs.s11 h h0 h1
    have q0 := g.1 (3 * b 264 9) (by omega) (by omega)
    have q1 := g.1 (3 * b 264 9 + 1) (by omega) (by omega)
    have q2 := g.1 (3 * b 264 9 + 2) (by omega) (by omega)
    have r0 := g.1 (3 * (b 264 9 + 1)) (by omega) (by omega)
    have r1 := g.1 (3 * (b 264 9 + 1) + 1) (by omega) (by omega)
    have r2 := g.1 (3 * (b 264 9 + 1) + 2) (by omega) (by omega)
    rw [show 120 * h + (3 * b 264 9 + 1) = 120 * h + 3 * b 264 9 + 1 by omega] at q1
    rw [show 120 * h + (3 * b 264 9 + 2) = 120 * h + 3 * b 264 9 + 2 by omega] at q2
    rw [show 120 * h + (3 * (b 264 9 + 1) + 1) = 120 * h + 3 * (b 264 9 + 1) + 1 by omega] at r1
    rw [show 120 * h + (3 * (b 264 9 + 1) + 2) = 120 * h + 3 * (b 264 9 + 1) + 2 by omega] at r2
    have t0 := zsum_s (f := fun k => b 269 (120 * h + k)) (i := 3 * b 264 9) (by omega)
    have t1 := zsum_s (f := fun k => b 269 (120 * h + k)) (i := 3 * b 264 9 + 1) (by omega)
    have t2 := zsum_s (f := fun k => b 269 (120 * h + k)) (i := 3 * b 264 9 + 1 + 1) (by omega)
    rw [show 120 * h + (3 * b 264 9 + 1) = 120 * h + 3 * b 264 9 + 1 by omega] at t1
    rw [show 120 * h + (3 * b 264 9 + 1 + 1) = 120 * h + 3 * b 264 9 + 2 by omega] at t2
    have g2 := g.2.1
    have g3 := g.2.2
    rw [e269, m49, m4 0 (by omega), xh5 h h0 h1, xh6 h h0 h1]
    refine ⟨fun k k0 k1 => ?_, ?_, ?_⟩
    · have g1 := g.1 k k0 k1
      omega
    · rw [show 3 * (b 264 9 + 1) = 3 * b 264 9 + 1 + 1 + 1 by omega, t2, t1, t0]
      by_cases q : h < b 264 0
      · rw [if_pos q]; omega
      · rw [if_neg q]; omega
    · by_cases q : h < b 264 0
      · rw [if_pos q]; omega
      · rw [if_neg q]; omega
  have c12 : S12 (XPs a b) (MPs b b) := S12_f hs.s12 (xo _ (by omega) (by omega) (by omega) (by omega)) (xo _ (by omega) (by omega) (by omega) (by omega)) (xo _ (by omega) (by omega) (by omega) (by omega)) (xo _ (by omega) (by omega) (by omega) (by omega)) (mo _ (by omega) (by omega) (by omega) (by omega) (by omega)) (mo _ (by omega) (by omega) (by omega) (by omega) (by omega)) (mo _ (by omega) (by omega) (by omega) (by omega) (by omega)) (mo _ (by omega) (by omega) (by omega) (by omega) (by omega)) (m4 _ (by omega)) (m4 _ (by omega))
  have c13 : S13 (XPs a b) (MPs b b) := S13_f hs.s13 (xo _ (by omega) (by omega) (by omega) (by omega)) (xo _ (by omega) (by omega) (by omega) (by omega)) (mo _ (by omega) (by omega) (by omega) (by omega) (by omega)) (mo _ (by omega) (by omega) (by omega) (by omega) (by omega))
  have c14 : S14 (XPs a b) (MPs b b) := S14_f hs.s14 (xo _ (by omega) (by omega) (by omega) (by omega)) e265 e277
  have c15 : S15 (XPs a b) (MPs b b) := by
    intro c c0 c1
    have g := hs.s15 c c0 c1
    rw [m75 c c0, m49, m4 10 (by omega), e272, e273, e276, z80 c c0 c1, m79 c c0 c1, xo (67 + 5 * c) (by omega) (by omega) (by omega) (by omega)]
    refine ⟨fun cl st => ?_, fun k k0 k1 => ?_⟩
    · by_cases q : c < b 264 10 ∧ zOv b c
      · rw [if_pos q] at st; omega
      · rw [if_neg q] at st
        have g1 := g.1 cl st
        have q2 : ¬ b 272 c + b 273 c - 1 = b 264 9 := fun x => q ⟨cl, st, x⟩
        omega
    · have g2 := g.2 k k0 k1
      rw [m78 c k c0 k0 k1]
      refine ⟨fun st => ?_, fun cl => ?_⟩
      · by_cases q : c < b 264 10 ∧ zOv b c
        · rw [if_pos q] at st; omega
        · rw [if_neg q] at st
          exact g2.1 st
      · have g3 := g2.2 cl
        rw [if_neg (fun x => by have := x.1; omega), if_neg (fun x => by have := x.1; omega), (dok c c0 c1).2 cl]
        exact ⟨g3.1, g3.2.1, g3.2.2.1, g3.2.2.2.1, g3.2.2.2.2.1, rfl⟩
  have c16 : S16 (XPs a b) (MPs b b) := by
    intro c c0 c1 k k0 k1 hk
    rw [m49, e272] at hk
    have g := hs.s16 c c0 c1 k k0 k1 (by omega)
    rw [m78 c k c0 k0 k1, if_neg (fun x => by have := x.2.2; omega)]
    exact g
  exact ⟨c1, c2, c3, c4, c5, c6, c7, c8, c9, c10, c11, c12, c13, c14, c15, c16⟩
theorem pr_pass {L : Nat} {T : Int} {m : zmem} (hs : Sim T m m) : zPr L 62 127 [] T m := by
  have s1 := hs.s1
  unfold S1 at s1
  have gx := t_Xpass (L := L) (d := 3) hs
  by_cases h : m 264 9 < 39
  · rw [if_pos (by omega), if_pos (by omega)] at gx
    refine zPr_of gx ?_ (fun m1 ha => ?_) (Sim_T (sm_pass hs h) (by omega))
    · intro p x y z
      unfold XPs
      rw [zu_ne (by omega), zNX_n (by omega) (by omega), zDX_n (by omega), zEX_n (by omega) (by omega), zSX_n (by omega) (by omega)]
    · have gm := t_Mpass (L := L) (d := 5) hs ha
      rw [if_neg (by omega), if_neg (by omega)] at gm
      refine ⟨_, _, gm, rfl, ?_, ?_⟩
      · intro p x y z
        unfold MPs
        rw [zu_ne (by omega), zNM_n (by omega) (by omega), zDM_n (by omega), zSM_n (by omega)]
      · exact zan_w (zNM_an (zDM_an (zSM_an ha)))
  · rw [if_neg (by omega), if_neg (by omega)] at gx
    refine zPr_of gx (zan_rf m) (fun m1 ha => ?_) (Sim_T hs (by omega))
    have gm := t_Mpass (L := L) (d := 5) hs ha
    rw [if_pos (by omega), if_pos (by omega)] at gm
    exact ⟨_, _, gm, rfl, zac_rf _, ha⟩
