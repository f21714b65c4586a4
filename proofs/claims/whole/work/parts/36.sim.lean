def S1 (T : Int) (a b : zmem) : Prop := (a 1 1 = b 264 0 ∧ 0 ≤ b 264 0 ∧ b 264 0 ≤ 12) ∧ (a 1 2 = b 264 7 ∧ 0 ≤ b 264 7 ∧ b 264 7 ≤ 40) ∧ (a 0 6 = b 264 10 ∧ 0 ≤ b 264 10 ∧ b 264 10 ≤ 40) ∧ (a 0 7 = b 264 9 ∧ 0 ≤ b 264 9 ∧ b 264 9 ≤ 39) ∧ (a 0 8 = b 264 6 ∧ 0 ≤ b 264 6 ∧ b 264 6 ≤ T) ∧ (a 55 4 = b 264 27 ∧ 0 ≤ b 264 27 ∧ b 264 27 ≤ 40) ∧ (a 60 2 = b 264 24 ∧ 0 ≤ b 264 24 ∧ b 264 24 ≤ 20)
theorem S1_c {T : Int} {a b a2 b2 : zmem} (h9 : S1 T a b) (e0 : a2 (0) = a (0)) (e1 : a2 (1) = a (1)) (e2 : a2 (55) = a (55)) (e3 : a2 (60) = a (60)) (f0 : b2 264 = b 264) : S1 T a2 b2 := by
  unfold S1 at h9 ⊢
  rw [e0, e1, e2, e3, f0]
  exact h9
def S2 (a b : zmem) : Prop := ∀ h : Int, 0 ≤ h → h < 12 → a (3 + 4 * h) 3 = b 266 h ∧ a (3 + 4 * h) 4 = b 267 h ∧ 0 ≤ b 267 h ∧ b 267 h ≤ 9
theorem S2_c {a b a2 b2 : zmem} (h9 : S2 a b) (e0 : ∀ h : Int, 0 ≤ h → h < 12 → a2 (3 + 4 * h) = a (3 + 4 * h)) (f0 : b2 266 = b 266) (f1 : b2 267 = b 267) : S2 a2 b2 := by
  intro h h0 h1
  have g := h9 h h0 h1
  rw [e0 h h0 h1, f0, f1]
  exact g
def S3 (a b : zmem) : Prop := ∀ h : Int, 0 ≤ h → h < 12 → ∀ t : Int, 0 ≤ t → t < 40 → a (5 + 4 * h) t = b 268 (40 * h + t) ∧ (b 268 (40 * h + t) = 0 ∨ b 268 (40 * h + t) = 1)
theorem S3_c {a b a2 b2 : zmem} (h9 : S3 a b) (e0 : ∀ h : Int, 0 ≤ h → h < 12 → a2 (5 + 4 * h) = a (5 + 4 * h)) (f0 : b2 268 = b 268) : S3 a2 b2 := by
  intro h h0 h1
  have g := h9 h h0 h1
  rw [e0 h h0 h1, f0]
  exact g
def S4 (a b : zmem) : Prop := ∀ h : Int, 0 ≤ h → h < 12 → b 270 (12 * h + h) = 0 ∧ ∀ g : Int, 0 ≤ g → g < 12 → a (6 + 4 * h) g = b 270 (12 * h + g) ∧ 0 ≤ b 270 (12 * h + g) ∧ b 270 (12 * h + g) ≤ 40
theorem S4_c {a b a2 b2 : zmem} (h9 : S4 a b) (e0 : ∀ h : Int, 0 ≤ h → h < 12 → a2 (6 + 4 * h) = a (6 + 4 * h)) (f0 : b2 270 = b 270) : S4 a2 b2 := by
  intro h h0 h1
  have g := h9 h h0 h1
  rw [e0 h h0 h1, f0]
  exact g
def S5 (a b : zmem) : Prop := ∀ c : Int, 0 ≤ c → c < 40 → (a (64 + 5 * c) 4 = b 271 c ∧ a (64 + 5 * c) 5 = b 272 c ∧ a (64 + 5 * c) 6 = b 273 c ∧ a (64 + 5 * c) 7 = b 275 c ∧ a (64 + 5 * c) 8 = b 279 c) ∧ (0 ≤ b 271 c ∧ b 271 c ≤ 12) ∧ (0 ≤ b 272 c ∧ b 272 c ≤ 39) ∧ (0 ≤ b 273 c ∧ b 273 c ≤ 7) ∧ b 272 c + b 273 c ≤ 40 ∧ (0 ≤ b 275 c ∧ b 275 c ≤ 3) ∧ (0 ≤ b 279 c ∧ b 279 c ≤ 9 * b 264 9) ∧ (c < b 264 10 → 1 ≤ b 271 c ∧ 1 ≤ b 273 c)
theorem S5_c {a b a2 b2 : zmem} (h9 : S5 a b) (e0 : ∀ c : Int, 0 ≤ c → c < 40 → a2 (64 + 5 * c) = a (64 + 5 * c)) (f0 : b2 271 = b 271) (f1 : b2 272 = b 272) (f2 : b2 273 = b 273) (f3 : b2 275 = b 275) (f4 : b2 279 = b 279) (f5 : b2 264 = b 264) : S5 a2 b2 := by
  intro c c0 c1
  have g := h9 c c0 c1
  rw [e0 c c0 c1, f0, f1, f2, f3, f4, f5]
  exact g
def S6 (a b : zmem) : Prop := ∀ c : Int, 0 ≤ c → c < 40 → ∀ k : Int, 0 ≤ k → k < 7 → a (65 + 5 * c) k = b 274 (7 * c + k) ∧ (k < b 273 c → 0 ≤ b 274 (7 * c + k) ∧ b 274 (7 * c + k) < b 264 0)
theorem S6_c {a b a2 b2 : zmem} (h9 : S6 a b) (e0 : ∀ c : Int, 0 ≤ c → c < 40 → a2 (65 + 5 * c) = a (65 + 5 * c)) (f0 : b2 274 = b 274) (f1 : b2 273 = b 273) (f2 : b2 264 = b 264) : S6 a2 b2 := by
  intro c c0 c1
  have g := h9 c c0 c1
  rw [e0 c c0 c1, f0, f1, f2]
  exact g
def S7 (a b : zmem) : Prop := ∀ c : Int, 0 ≤ c → c < 40 → ∀ k : Int, 0 ≤ k → k < 7 → a (68 + 5 * c) k = b 278 (7 * c + k) ∧ (b 278 (7 * c + k) = 0 ∨ b 278 (7 * c + k) = 1)
theorem S7_c {a b a2 b2 : zmem} (h9 : S7 a b) (e0 : ∀ c : Int, 0 ≤ c → c < 40 → a2 (68 + 5 * c) = a (68 + 5 * c)) (f0 : b2 278 = b 278) : S7 a2 b2 := by
  intro c c0 c1
  have g := h9 c c0 c1
  rw [e0 c c0 c1, f0]
  exact g
def S8 (a b : zmem) : Prop := ∀ c : Int, 0 ≤ c → c < 40 → (b 280 c = 0 ∨ b 280 c = 1) ∧ (0 ≤ b 264 9 - b 272 c ∧ b 264 9 - b 272 c < b 273 c → a (67 + 5 * c) (b 264 9 - b 272 c) = b 280 c) ∧ (¬ (0 ≤ b 264 9 - b 272 c ∧ b 264 9 - b 272 c < b 273 c) → b 280 c = 0) ∧ (b 280 c = 1 → b 276 (7 * c + (b 264 9 - b 272 c)) = 1) ∧ ∀ k : Int, 0 ≤ k → k < 7 → b 264 9 - b 272 c < k → a (67 + 5 * c) k = 0
theorem S8_c {a b a2 b2 : zmem} (h9 : S8 a b) (e0 : ∀ c : Int, 0 ≤ c → c < 40 → a2 (67 + 5 * c) = a (67 + 5 * c)) (f0 : b2 280 = b 280) (f1 : b2 264 = b 264) (f2 : b2 272 = b 272) (f3 : b2 273 = b 273) (f4 : b2 276 = b 276) : S8 a2 b2 := by
  intro c c0 c1
  have g := h9 c c0 c1
  rw [e0 c c0 c1, f0, f1, f2, f3, f4]
  exact g
def S9 (a b : zmem) : Prop := ∀ c : Int, 0 ≤ c → c < 40 → ∀ k : Int, 0 ≤ k → k < 7 → (b 276 (7 * c + k) = 0 ∨ b 276 (7 * c + k) = 1) ∧ (b 276 (7 * c + k) = 0 → a (66 + 5 * c) (3 * k) = 0 ∧ a (66 + 5 * c) (3 * k + 1) = 0 ∧ a (66 + 5 * c) (3 * k + 2) = 0) ∧ (b 276 (7 * c + k) = 1 → k < b 273 c ∧ a (66 + 5 * c) (3 * k) = b 277 (21 * c + 3 * k) ∧ a (66 + 5 * c) (3 * k + 1) = b 277 (21 * c + 3 * k + 1) ∧ a (66 + 5 * c) (3 * k + 2) = b 277 (21 * c + 3 * k + 2) ∧ b 277 (21 * c + 3 * k) + b 277 (21 * c + 3 * k + 1) + b 277 (21 * c + 3 * k + 2) = b 271 c)
theorem S9_c {a b a2 b2 : zmem} (h9 : S9 a b) (e0 : ∀ c : Int, 0 ≤ c → c < 40 → a2 (66 + 5 * c) = a (66 + 5 * c)) (f0 : b2 276 = b 276) (f1 : b2 277 = b 277) (f2 : b2 273 = b 273) (f3 : b2 271 = b 271) : S9 a2 b2 := by
  intro c c0 c1
  have g := h9 c c0 c1
  rw [e0 c c0 c1, f0, f1, f2, f3]
  exact g
def S10 (a b : zmem) : Prop := ∀ h : Int, 0 ≤ h → h < 12 → (∀ k : Int, 0 ≤ k → k < 120 → 0 ≤ a (4 + 4 * h) k ∧ a (4 + 4 * h) k ≤ 9) ∧ (h < b 264 0 → ∀ e t : Int, 0 ≤ e → e < 3 → 0 ≤ t → t < 40 → a (4 + 4 * h) (3 * t + e) = MF b h e t)
def S11 (a b : zmem) : Prop := ∀ h : Int, 0 ≤ h → h < 12 → (∀ k : Int, 0 ≤ k → k < 120 → 0 ≤ b 269 (120 * h + k) ∧ b 269 (120 * h + k) ≤ 9 ∧ (3 * b 264 9 + 3 ≤ k → b 269 (120 * h + k) = 0) ∧ (b 264 0 ≤ h → b 269 (120 * h + k) = 0)) ∧ a (3 + 4 * h) 6 = zsum (fun k => b 269 (120 * h + k)) (3 * b 264 9) ∧ a (3 + 4 * h) 5 = b 269 (120 * h + 3 * b 264 9) + b 269 (120 * h + 3 * b 264 9 + 1) + b 269 (120 * h + 3 * b 264 9 + 2)
theorem S11_c {a b a2 b2 : zmem} (h9 : S11 a b) (e0 : ∀ h : Int, 0 ≤ h → h < 12 → a2 (3 + 4 * h) = a (3 + 4 * h)) (f0 : b2 269 = b 269) (f1 : b2 264 = b 264) : S11 a2 b2 := by
  intro h h0 h1
  have g := h9 h h0 h1
  rw [e0 h h0 h1, f0, f1]
  exact g
def S12 (a b : zmem) : Prop := ∀ k : Int, 0 ≤ k → k < 40 → a 56 k = b 286 k ∧ a 57 k = b 287 k ∧ a 58 k = b 288 k ∧ a 59 k = b 289 k ∧ (b 289 k = 0 ∨ b 289 k = 1) ∧ (k < b 264 27 → 0 ≤ b 286 k ∧ b 286 k < b 264 10)
theorem S12_c {a b a2 b2 : zmem} (h9 : S12 a b) (e0 : a2 (56) = a (56)) (e1 : a2 (57) = a (57)) (e2 : a2 (58) = a (58)) (e3 : a2 (59) = a (59)) (f0 : b2 286 = b 286) (f1 : b2 287 = b 287) (f2 : b2 288 = b 288) (f3 : b2 289 = b 289) (f4 : b2 264 = b 264) : S12 a2 b2 := by
  unfold S12 at h9 ⊢
  rw [e0, e1, e2, e3, f0, f1, f2, f3, f4]
  exact h9
def S13 (a b : zmem) : Prop := ∀ k : Int, 0 ≤ k → k < 20 → a 61 k = b 284 k ∧ a 62 k = b 285 k
theorem S13_c {a b a2 b2 : zmem} (h9 : S13 a b) (e0 : a2 (61) = a (61)) (e1 : a2 (62) = a (62)) (f0 : b2 284 = b 284) (f1 : b2 285 = b 285) : S13 a2 b2 := by
  unfold S13 at h9 ⊢
  rw [e0, e1, f0, f1]
  exact h9
def S14 (a b : zmem) : Prop := (∀ k : Int, a (-2) k = zdv k) ∧ (∀ k : Int, 0 ≤ k → k < 36 → 0 ≤ b 265 k ∧ b 265 k ≤ 9) ∧ (∀ k : Int, 0 ≤ k → k < 840 → 0 ≤ b 277 k ∧ b 277 k ≤ 9)
theorem S14_c {a b a2 b2 : zmem} (h9 : S14 a b) (e0 : a2 (-2) = a (-2)) (f0 : b2 265 = b 265) (f1 : b2 277 = b 277) : S14 a2 b2 := by
  unfold S14 at h9 ⊢
  rw [e0, f0, f1]
  exact h9
def S15 (a b : zmem) : Prop := ∀ c : Int, 0 ≤ c → c < 40 → (c < b 264 10 → b 275 c = 1 → b 264 9 ≤ b 272 c + b 273 c - 1) ∧ ∀ k : Int, 0 ≤ k → k < 7 → (b 275 c = 0 → b 276 (7 * c + k) = 0 ∧ a (67 + 5 * c) k = 0) ∧ (b 264 10 ≤ c → a (67 + 5 * c) k = 0 ∧ b 276 (7 * c + k) = 0 ∧ b 278 (7 * c + k) = 0 ∧ b 275 c = 0 ∧ b 279 c = 0 ∧ b 280 c = 0)
theorem S15_c {a b a2 b2 : zmem} (h9 : S15 a b) (e0 : ∀ c : Int, 0 ≤ c → c < 40 → a2 (67 + 5 * c) = a (67 + 5 * c)) (f0 : b2 264 = b 264) (f1 : b2 272 = b 272) (f2 : b2 273 = b 273) (f3 : b2 275 = b 275) (f4 : b2 276 = b 276) (f5 : b2 278 = b 278) (f6 : b2 279 = b 279) (f7 : b2 280 = b 280) : S15 a2 b2 := by
  intro c c0 c1
  have g := h9 c c0 c1
  rw [e0 c c0 c1, f0, f1, f2, f3, f4, f5, f6, f7]
  exact g
def S16 (a b : zmem) : Prop := ∀ c : Int, 0 ≤ c → c < 40 → ∀ k : Int, 0 ≤ k → k < 7 → b 264 9 - b 272 c ≤ k → b 278 (7 * c + k) = 0
theorem S16_c {a b a2 b2 : zmem} (h9 : S16 a b) (f0 : b2 264 = b 264) (f1 : b2 272 = b 272) (f2 : b2 278 = b 278) : S16 a2 b2 := by
  intro c c0 c1
  have g := h9 c c0 c1
  rw [f0, f1, f2]
  exact g
theorem MF_e {b b2 : zmem} (f0 : b2 264 10 = b 264 10) (f1 : b2 265 = b 265) (f2 : b2 269 = b 269) (f3 : b2 272 = b 272) (f4 : b2 273 = b 273) (f5 : b2 274 = b 274) (f6 : b2 276 = b 276) (f7 : b2 277 = b 277) : MF b2 = MF b := by
  have ee : MCf b2 = MCf b := by funext h e t i; unfold MCf MH; rw [f3, f4, f5, f6, f7]
  funext h e t
  unfold MF
  rw [ee, f0, f1, f2]
theorem S10_c {a b a2 b2 : zmem} (h9 : S10 a b) (e0 : ∀ h : Int, 0 ≤ h → h < 12 → a2 (4 + 4 * h) = a (4 + 4 * h)) (f : b2 264 0 = b 264 0) (fm : MF b2 = MF b) : S10 a2 b2 := by
  intro h h0 h1
  have g := h9 h h0 h1
  rw [e0 h h0 h1, f, fm]
  exact g
def Sim (T : Int) (a b : zmem) : Prop := S1 T a b ∧ S2 a b ∧ S3 a b ∧ S4 a b ∧ S5 a b ∧ S6 a b ∧ S7 a b ∧ S8 a b ∧ S9 a b ∧ S10 a b ∧ S11 a b ∧ S12 a b ∧ S13 a b ∧ S14 a b ∧ S15 a b ∧ S16 a b
theorem Sim.s1 {T : Int} {a b : zmem} (h : Sim T a b) : S1 T a b := h.1
theorem Sim.s2 {T : Int} {a b : zmem} (h : Sim T a b) : S2 a b := h.2.1
theorem Sim.s3 {T : Int} {a b : zmem} (h : Sim T a b) : S3 a b := h.2.2.1
theorem Sim.s4 {T : Int} {a b : zmem} (h : Sim T a b) : S4 a b := h.2.2.2.1
theorem Sim.s5 {T : Int} {a b : zmem} (h : Sim T a b) : S5 a b := h.2.2.2.2.1
theorem Sim.s6 {T : Int} {a b : zmem} (h : Sim T a b) : S6 a b := h.2.2.2.2.2.1
theorem Sim.s7 {T : Int} {a b : zmem} (h : Sim T a b) : S7 a b := h.2.2.2.2.2.2.1
theorem Sim.s8 {T : Int} {a b : zmem} (h : Sim T a b) : S8 a b := h.2.2.2.2.2.2.2.1
theorem Sim.s9 {T : Int} {a b : zmem} (h : Sim T a b) : S9 a b := h.2.2.2.2.2.2.2.2.1
theorem Sim.s10 {T : Int} {a b : zmem} (h : Sim T a b) : S10 a b := h.2.2.2.2.2.2.2.2.2.1
theorem Sim.s11 {T : Int} {a b : zmem} (h : Sim T a b) : S11 a b := h.2.2.2.2.2.2.2.2.2.2.1
theorem Sim.s12 {T : Int} {a b : zmem} (h : Sim T a b) : S12 a b := h.2.2.2.2.2.2.2.2.2.2.2.1
theorem Sim.s13 {T : Int} {a b : zmem} (h : Sim T a b) : S13 a b := h.2.2.2.2.2.2.2.2.2.2.2.2.1
theorem Sim.s14 {T : Int} {a b : zmem} (h : Sim T a b) : S14 a b := h.2.2.2.2.2.2.2.2.2.2.2.2.2.1
theorem Sim.s15 {T : Int} {a b : zmem} (h : Sim T a b) : S15 a b := h.2.2.2.2.2.2.2.2.2.2.2.2.2.2.1
theorem Sim.s16 {T : Int} {a b : zmem} (h : Sim T a b) : S16 a b := h.2.2.2.2.2.2.2.2.2.2.2.2.2.2.2
/-- the class's cells are the same, but 52, 53, 63, which are for notes alone -/
def zac (a2 a : zmem) : Prop := ∀ p : Int, (p ≠ 52 ∧ p < 264) → p ≠ 53 → p ≠ 63 → a2 p = a p
theorem zac_rf (a : zmem) : zac a a := fun _ _ _ _ => rfl
theorem zac_tr {a b c : zmem} (h1 : zac a b) (h2 : zac b c) : zac a c := fun p x y z => (h1 p x y z).trans (h2 p x y z)
theorem zac_sy {a b : zmem} (h1 : zac a b) : zac b a := fun p x y z => (h1 p x y z).symm
theorem Sim_g {T : Int} {a b a2 b2 : zmem} (h : Sim T a b) (e : zac a2 a) (f : zan b2 b) : Sim T a2 b2 := by
  exact ⟨S1_c h.s1 (e _ (by omega) (by omega) (by omega)) (e _ (by omega) (by omega) (by omega)) (e _ (by omega) (by omega) (by omega)) (e _ (by omega) (by omega) (by omega)) (f _ (by omega) (by omega) (by omega)),
    S2_c h.s2 (fun h _ _ => e _ (by omega) (by omega) (by omega)) (f _ (by omega) (by omega) (by omega)) (f _ (by omega) (by omega) (by omega)),
    S3_c h.s3 (fun h _ _ => e _ (by omega) (by omega) (by omega)) (f _ (by omega) (by omega) (by omega)),
    S4_c h.s4 (fun h _ _ => e _ (by omega) (by omega) (by omega)) (f _ (by omega) (by omega) (by omega)),
    S5_c h.s5 (fun c _ _ => e _ (by omega) (by omega) (by omega)) (f _ (by omega) (by omega) (by omega)) (f _ (by omega) (by omega) (by omega)) (f _ (by omega) (by omega) (by omega)) (f _ (by omega) (by omega) (by omega)) (f _ (by omega) (by omega) (by omega)) (f _ (by omega) (by omega) (by omega)),
    S6_c h.s6 (fun c _ _ => e _ (by omega) (by omega) (by omega)) (f _ (by omega) (by omega) (by omega)) (f _ (by omega) (by omega) (by omega)) (f _ (by omega) (by omega) (by omega)),
    S7_c h.s7 (fun c _ _ => e _ (by omega) (by omega) (by omega)) (f _ (by omega) (by omega) (by omega)),
    S8_c h.s8 (fun c _ _ => e _ (by omega) (by omega) (by omega)) (f _ (by omega) (by omega) (by omega)) (f _ (by omega) (by omega) (by omega)) (f _ (by omega) (by omega) (by omega)) (f _ (by omega) (by omega) (by omega)) (f _ (by omega) (by omega) (by omega)),
    S9_c h.s9 (fun c _ _ => e _ (by omega) (by omega) (by omega)) (f _ (by omega) (by omega) (by omega)) (f _ (by omega) (by omega) (by omega)) (f _ (by omega) (by omega) (by omega)) (f _ (by omega) (by omega) (by omega)),
    S10_c h.s10 (fun h _ _ => e _ (by omega) (by omega) (by omega)) (congrFun (f 264 (by omega) (by omega) (by omega)) 0) (MF_n f),
    S11_c h.s11 (fun h _ _ => e _ (by omega) (by omega) (by omega)) (f _ (by omega) (by omega) (by omega)) (f _ (by omega) (by omega) (by omega)),
    S12_c h.s12 (e _ (by omega) (by omega) (by omega)) (e _ (by omega) (by omega) (by omega)) (e _ (by omega) (by omega) (by omega)) (e _ (by omega) (by omega) (by omega)) (f _ (by omega) (by omega) (by omega)) (f _ (by omega) (by omega) (by omega)) (f _ (by omega) (by omega) (by omega)) (f _ (by omega) (by omega) (by omega)) (f _ (by omega) (by omega) (by omega)),
    S13_c h.s13 (e _ (by omega) (by omega) (by omega)) (e _ (by omega) (by omega) (by omega)) (f _ (by omega) (by omega) (by omega)) (f _ (by omega) (by omega) (by omega)),
    S14_c h.s14 (e _ (by omega) (by omega) (by omega)) (f _ (by omega) (by omega) (by omega)) (f _ (by omega) (by omega) (by omega)),
    S15_c h.s15 (fun c _ _ => e _ (by omega) (by omega) (by omega)) (f _ (by omega) (by omega) (by omega)) (f _ (by omega) (by omega) (by omega)) (f _ (by omega) (by omega) (by omega)) (f _ (by omega) (by omega) (by omega)) (f _ (by omega) (by omega) (by omega)) (f _ (by omega) (by omega) (by omega)) (f _ (by omega) (by omega) (by omega)) (f _ (by omega) (by omega) (by omega)),
    S16_c h.s16 (f _ (by omega) (by omega) (by omega)) (f _ (by omega) (by omega) (by omega)) (f _ (by omega) (by omega) (by omega))⟩
theorem Sim_T {T T2 : Int} {a b : zmem} (h : Sim T a b) (ht : T ≤ T2) : Sim T2 a b := by
  obtain ⟨h1, h2⟩ := h
  refine ⟨?_, h2⟩
  unfold S1 at h1 ⊢
  omega
theorem Sim_ok {T : Int} {a b : zmem} (h : Sim T a b) : MOk b := by
  have h1 := h.s1
  unfold S1 at h1
  refine ⟨by omega, by omega, fun c c0 c1 => ?_, h.s14.2.2, h.s14.2.1, fun k k0 k1 => ?_⟩
  · have := h.s5 c c0 c1
    omega
  · have g := (h.s11 (k / 120) (by omega) (by omega)).1 (k % 120) (by omega) (by omega)
    rw [show 120 * (k / 120) + k % 120 = k by omega] at g
    omega
theorem Sim_rng {T : Int} {a b : zmem} (h : Sim T a b) : MRng b := by
  intro x e t x0 x1 e0 e1 t0 t1
  have h1 := h.s1
  unfold S1 at h1
  have g := h.s10 x x0 (by omega)
  have g1 := g.1 (3 * t + e) (by omega) (by omega)
  rw [g.2 x1 e t e0 e1 t0 t1] at g1
  exact g1
