theorem Sim_J {T : Int} {a b : zmem} (hs : Sim T a b) {p q : Int} (p0 : 0 ≤ p) (p1 : p < 12) (q0 : 0 ≤ q) (q1 : q < 12) : XJ a p q ↔ MJ b p q := by
  have g := (hs.s4 p p0 p1).2 q q0 q1
  unfold XJ MJ
  rw [g.1]
theorem Sim_F {T : Int} {a b : zmem} (hs : Sim T a b) {h t : Int} (h0 : 0 ≤ h) (h1 : h < b 264 0) (t0 : 0 ≤ t) (t1 : t < 40) : XF a h t = MO b h t := by
  have s1 := hs.s1
  unfold S1 at s1
  have g := (hs.s10 h h0 (by omega)).2 h1
  have g0 := g 0 t (by omega) (by omega) t0 t1
  have g1 := g 1 t (by omega) (by omega) t0 t1
  have g2 := g 2 t (by omega) (by omega) t0 t1
  rw [show 3 * t + 0 = 3 * t by omega] at g0
  unfold XF MO
  omega
theorem Sim_R {T : Int} {a b : zmem} (hs : Sim T a b) {h t n : Int} (h0 : 0 ≤ h) (h1 : h < b 264 0) (t0 : 0 ≤ t) (t1 : t < 40) : XR a h t n ↔ MR b h t n := by
  have s1 := hs.s1
  unfold S1 at s1
  have g := hs.s3 h h0 (by omega) t t0 t1
  unfold XR MR
  rw [g.1, Sim_F hs h0 h1 t0 t1]
/-- the two ways of asking: all nights, or those behind a kept one -/
def zsq (s f q : Int) : Prop := (s = -1 ∧ f = 0 ∧ q = 1) ∨ (s = f ∧ q = 0)
theorem Sim_tab {T : Int} {a b : zmem} (hs : Sim T a b) {c : Int} (c0 : 0 ≤ c) (c1 : c < b 264 10) {s f q : Int} (hq : zsq s f q) (f0 : 0 ≤ f) {i h : Int} (i0 : f ≤ i) (i1 : i < b 273 c) (h0 : 0 ≤ h) (h1 : h < b 264 0) (hi : i = f → h = b 274 (7 * c + f)) : MGa b c f q i h = (if XGa a c s i h = 1000 then -1 else XGa a c s i h) := by
  have s1 := hs.s1
  unfold S1 at s1
  unfold zsq at hq
  have k5 := hs.s5 c c0 (by omega)
  have e6 : a (64 + 5 * c) 6 = b 273 c := by omega
  have e5 : a (64 + 5 * c) 5 = b 272 c := by omega
  have e4 : a (64 + 5 * c) 4 = b 271 c := by omega
  have e1 : a 1 1 = b 264 0 := by omega
  have hR : ∀ k g, f ≤ k → k < b 273 c → 0 ≤ g → g < b 264 0 → (XR a g (k + a (64 + 5 * c) 5) (a (64 + 5 * c) 4) ↔ MR b g (k + b 272 c) (b 271 c)) := fun k g a0 a1 g0 g1 => by
    rw [e5, e4]
    exact Sim_R hs g0 g1 (by omega) (by omega)
  have hW : ∀ k, f ≤ k → k < b 273 c → a (65 + 5 * c) k = b 274 (7 * c + k) := fun k a0 a1 => (hs.s6 c c0 (by omega) k (by omega) (by omega)).1
  unfold MGa MT XGa XT
  rw [e1, e6]
  refine zTbm (by omega) (fun x y x0 x1 y0 y1 => Sim_J hs x0 (by omega) y0 (by omega)) (b 273 c - 1 - i).toNat h (by omega) h0 h1 (fun k k0 k1 => (hW k (by omega) (by omega)).symm) (fun k g k0 k1 g0 g1 => ?_) ?_
  · have r := hR k g (by omega) (by omega) g0 g1
    have ww := hW k (by omega) (by omega)
    unfold XOp MMa
    rw [ww, r]
    constructor
    · intro x
      refine ⟨x.1.imp (fun y z => y (Or.inr z)) id, ?_⟩
      rcases x.2 with y | y
      · omega
      · exact Or.inr y
    · intro x
      refine ⟨x.1.imp (fun y z => ?_) id, ?_⟩
      · rcases z with z | z
        · omega
        · exact y z
      · rcases x.2 with y | y
        · omega
        · exact Or.inr y
  · have ei : b 273 c - 1 - (((b 273 c - 1 - i).toNat : Nat) : Int) = i := by omega
    rw [ei]
    have r := hR i h (by omega) (by omega) h0 h1
    have ww := hW i (by omega) (by omega)
    unfold XOp MMa
    rw [ww, r]
    by_cases e : i = f
    · have hh := hi e
      subst e
      constructor
      · intro x
        refine ⟨Or.inr hh.symm, ?_⟩
        rcases x.2 with y | y
        · exact Or.inl (by omega)
        · exact Or.inr y
      · intro x
        refine ⟨Or.inr hh.symm, ?_⟩
        rcases x.2 with y | y
        · exact Or.inl (by omega)
        · exact Or.inr y
    · constructor
      · intro x
        refine ⟨x.1.imp (fun y z => y (Or.inr z)) id, ?_⟩
        rcases x.2 with y | y
        · omega
        · exact Or.inr y
      · intro x
        refine ⟨x.1.imp (fun y z => ?_) id, ?_⟩
        · rcases z with z | z
          · omega
          · exact y z
        · rcases x.2 with y | y
          · omega
          · exact Or.inr y
/-- the way found is the same -/
theorem Sim_ph {T : Int} {a b : zmem} (hs : Sim T a b) {c : Int} (c0 : 0 ≤ c) (c1 : c < b 264 10) {s f q : Int} (hq : zsq s f q) (f0 : 0 ≤ f) (f1 : f < b 273 c) (hg : ¬ MGa b c f q f (b 274 (7 * c + f)) = -1) : ∀ k : Nat, f + k < b 273 c → XPh (XFn a c s f) c f k = MPh b c f q k
  | 0, _ => by
    have e : XPh (XFn a c s f) c f 0 = a (65 + 5 * c) f := congrFun (zpm_n (by omega)) f
    have s1 := hs.s1
    unfold S1 at s1
    have k5 := hs.s5 c c0 (by omega)
    rw [e]
    exact (hs.s6 c c0 (by omega) f f0 (by omega)).1
  | k + 1, hk => by
    have ih := Sim_ph hs c0 c1 hq f0 f1 hg k (by omega)
    have s1 := hs.s1
    unfold S1 at s1
    have k5 := hs.s5 c c0 (by omega)
    have hw : ∀ k, 0 ≤ k → k < b 273 c → 0 ≤ b 274 (7 * c + k) ∧ b 274 (7 * c + k) < b 264 0 := fun k a0 a1 => (hs.s6 c c0 (by omega) k a0 (by omega)).2 a1
    obtain ⟨⟨x0, x1⟩, x2⟩ := MPh_ok (by omega) hw f0 f1 hg k (by omega)
    have ex := MPh_ex (by omega) (by omega) x2
    obtain ⟨z1, z2, z3, z4⟩ := zff_spec _ 0 ex
    have eM : MPh b c f q (k + 1) = zff (MQs b c f q (f + k) (MPh b c f q k)) 0 (b 264 0).toNat := rfl
    rw [← eM] at z1 z2 z3 z4
    have e2 := MGa_s (a := f) (q := q) (h := MPh b c f q k) (show f + (k : Int) < b 273 c - 1 by omega)
    have n1 : XFn a c s f 1 1 = b 264 0 := by
      rw [show XFn a c s f 1 1 = a 1 1 from congrFun (zpm_n (by omega)) 1]
      omega
    have eX : XPh (XFn a c s f) c f (k + 1) = if XNx (XFn a c s f) (f + k) (XPh (XFn a c s f) c f k) (XFn a c s f 1 1) = -1 then XFn a c s f (65 + 5 * c) (f + k + 1) else XNx (XFn a c s f) (f + k) (XPh (XFn a c s f) c f k) (XFn a c s f 1 1) := rfl
    rw [eX, ih, n1]
    have hJ : ∀ g, 0 ≤ g → g < b 264 0 → (XJ (XFn a c s f) (MPh b c f q k) g ↔ MJ b (MPh b c f q k) g) := fun g g0 g1 => by
      rw [← Sim_J hs x0 (by omega) g0 (by omega)]
      unfold XJ
      rw [show XFn a c s f (6 + 4 * MPh b c f q k) = a (6 + 4 * MPh b c f q k) from zpm_n (by omega)]
    have hρ : ∀ g, 0 ≤ g → g < b 264 0 → XRo (XFn a c s f) (f + k) g = XGa a c s (f + k + 1) g := fun g g0 g1 => zpm_g g0 (by omega) (by omega) (by omega) (by omega) (by omega)
    have hσ : ∀ g, 0 ≤ g → g < b 264 0 → MGa b c f q (f + k + 1) g = (if XRo (XFn a c s f) (f + k) g = 1000 then -1 else XRo (XFn a c s f) (f + k) g) := fun g g0 g1 => by
      rw [hρ g g0 g1]
      exact Sim_tab hs c0 c1 hq f0 (by omega) (by omega) g0 g1 (fun e => by omega)
    have hb : ∀ g, 0 ≤ g → g < b 264 0 → (XRo (XFn a c s f) (f + k) g = 1000 ∨ (0 ≤ XRo (XFn a c s f) (f + k) g ∧ XRo (XFn a c s f) (f + k) g < 1000)) := fun g g0 g1 => by
      rw [hρ g g0 g1]
      have : XGa a c s (f + k + 1) g = 1000 ∨ (0 ≤ XGa a c s (f + k + 1) g ∧ XGa a c s (f + k + 1) g ≤ ((a (64 + 5 * c) 6 - 1 - (f + k + 1)).toNat : Nat)) := zTb_b (nh := a 1 1) (by omega) (J := XJ a) (Op := XOp a c s) (wy := a (65 + 5 * c)) (last := a (64 + 5 * c) 6 - 1) (a (64 + 5 * c) 6 - 1 - (f + k + 1)).toNat g (by omega)
      omega
    have fe := zfo_eq (ρ := XRo (XFn a c s f) (f + k)) (σ := MGa b c f q (f + k + 1)) (J := XJ (XFn a c s f) (MPh b c f q k)) (J2 := MJ b (MPh b c f q k)) (nh := b 264 0) (fun g g0 g1 => ⟨hb g g0 g1, hσ g g0 g1, hJ g g0 g1⟩) (b 264 0).toNat (by omega)
    rw [Int.toNat_of_nonneg (by omega)] at fe
    have l := zstN_lt (ρ := XRo (XFn a c s f) (f + k)) (J := XJ (XFn a c s f) (MPh b c f q k)) (i := b 264 0) (by omega)
    have mn := zstN_mn (ρ := XRo (XFn a c s f) (f + k)) (J := XJ (XFn a c s f) (MPh b c f q k)) (b 264 0).toNat
    rw [Int.toNat_of_nonneg (by omega)] at mn
    by_cases hc : MMa b c f q (f + k) (MPh b c f q k) ∧ ¬ zfd (zstM (MGa b c f q (f + k + 1)) (MJ b (MPh b c f q k))) (-1) (b 264 0) = -1
    · rw [if_pos hc, fe] at e2
      have hc2 := hc.2
      rw [fe] at hc2
      show (if XNx (XFn a c s f) (f + k) (MPh b c f q k) (b 264 0) = -1 then _ else XNx (XFn a c s f) (f + k) (MPh b c f q k) (b 264 0)) = _
      unfold XNx
      revert l mn e2 hc2
      generalize zfd (zstN (XRo (XFn a c s f) (f + k)) (XJ (XFn a c s f) (MPh b c f q k))) (-1) (b 264 0) = y
      intro e2 l mn hc2
      have hy : ¬ y = -1 := fun e => hc2 (by rw [if_pos e])
      rw [if_neg hy] at e2 hc2 ⊢
      have ly := l.resolve_left hy
      have zz := hσ (MPh b c f q (k + 1)) z2 (by omega)
      have zy := hσ y ly.1 ly.2.1
      have qz := z1.2
      rw [zz, e2] at qz
      have by1 := hb y ly.1 ly.2.1
      have bz1 := hb (MPh b c f q (k + 1)) z2 (by omega)
      have vz : XRo (XFn a c s f) (f + k) (MPh b c f q (k + 1)) = XRo (XFn a c s f) (f + k) y := by
        by_cases e : XRo (XFn a c s f) (f + k) (MPh b c f q (k + 1)) = 1000
        · rw [if_pos e] at qz
          omega
        · rw [if_neg e] at qz
          omega
      have m1 := mn (MPh b c f q (k + 1)) z2 (by omega) ((hJ _ z2 (by omega)).2 z1.1) (by omega)
      by_cases lt : y < MPh b c f q (k + 1)
      · refine absurd ?_ (z4 y ly.1 lt)
        refine ⟨(hJ y ly.1 ly.2.1).1 ly.2.2.2, ?_⟩
        rw [zy, if_neg (by omega), e2]
        omega
      · omega
    · rw [if_neg hc] at e2
      exact absurd e2 x2
