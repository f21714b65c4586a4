/-- houses of a chain written anew, of both sides -/
def zWw (b : zmem) (c f n : Int) (P : Int → Int) : zmem := fun p k => if p = 274 ∧ 7 * c + f ≤ k ∧ k < 7 * c + n then P (k - 7 * c) else b p k
def zWq (a : zmem) (c f n : Int) (P : Int → Int) : zmem := fun p k => if p = 65 + 5 * c ∧ f ≤ k ∧ k < n then P k else a p k
theorem zWw_n {b : zmem} {c f n p : Int} {P : Int → Int} (hp : ¬ p = 274) : zWw b c f n P p = b p := by
  funext k
  unfold zWw
  rw [if_neg (by omega)]
theorem zWw_i {b : zmem} {c f n k : Int} {P : Int → Int} (k0 : f ≤ k) (k1 : k < n) : zWw b c f n P 274 (7 * c + k) = P k := by
  unfold zWw
  rw [if_pos (by omega), show 7 * c + k - 7 * c = k by omega]
theorem zWw_o {b : zmem} {c f n k : Int} {P : Int → Int} (h : k < 7 * c + f ∨ 7 * c + n ≤ k) : zWw b c f n P 274 k = b 274 k := by
  unfold zWw
  rw [if_neg (by omega)]
theorem zWw_s {b : zmem} {c f i v : Int} {P : Int → Int} (h : f ≤ i) (hv : v = P i) : zu (zWw b c f i P) 274 (7 * c + i) v = zWw b c f (i + 1) P := by
  funext p k
  rw [zu_if]
  unfold zWw
  by_cases g : p = 274 ∧ k = 7 * c + i
  · rw [if_pos g, if_pos (by omega), hv, show k - 7 * c = i by omega]
  · rw [if_neg g]
    by_cases g2 : p = 274 ∧ 7 * c + f ≤ k ∧ k < 7 * c + i
    · rw [if_pos g2, if_pos (by omega)]
    · rw [if_neg g2, if_neg (by omega)]
theorem zWw_0 {b : zmem} {c f : Int} {P : Int → Int} : zWw b c f f P = b := by
  funext p k
  unfold zWw
  rw [if_neg (by omega)]
theorem zWw_h {b : zmem} {c i n v : Int} {P : Int → Int} (h : i < n) (hv : v = P i) : zWw (zu b 274 (7 * c + i) v) c (i + 1) n P = zWw b c i n P := by
  funext p k
  unfold zWw
  rw [zu_if]
  by_cases g : p = 274 ∧ k = 7 * c + i
  · rw [if_neg (by omega), if_pos g, if_pos (by omega), hv, show k - 7 * c = i by omega]
  · rw [if_neg g]
    by_cases g2 : p = 274 ∧ 7 * c + i ≤ k ∧ k < 7 * c + n
    · rw [if_pos g2, if_pos (by omega)]
    · rw [if_neg g2, if_neg (by omega)]
theorem zWw_an {a b : zmem} {c f n : Int} {P : Int → Int} (h : zan a b) : zan (zWw a c f n P) (zWw b c f n P) := by
  intro p x y z
  funext k
  unfold zWw
  rw [h p x y z]
theorem zWw_ac {a : zmem} {c f n : Int} {P : Int → Int} : zac (zWw a c f n P) a := fun p x _ _ => zWw_n (by omega)
theorem zWq_n {a : zmem} {c f n p : Int} {P : Int → Int} (hp : ¬ p = 65 + 5 * c) : zWq a c f n P p = a p := by
  funext k
  unfold zWq
  rw [if_neg (by omega)]
theorem zWq_an {a : zmem} {c f n : Int} {P : Int → Int} (c1 : c < 40) : zan (zWq a c f n P) a := fun p x _ _ => zWq_n (by omega)
theorem zWp_q {a : zmem} {c f n : Int} {P : Int → Int} (h : ∀ k, f ≤ k → k < n → a 53 k = P k) : zcp a c f n = zWq a c f n P := by
  funext p k
  unfold zcp zWq
  by_cases g : p = 65 + 5 * c ∧ f ≤ k ∧ k < n
  · rw [if_pos g, if_pos g, h k g.2.1 g.2.2]
  · rw [if_neg g, if_neg g]
theorem MF_w {b : zmem} {c f n : Int} {P : Int → Int} (hu : ∀ k, f ≤ k → k < n → b 276 (7 * c + k) = 0) : MF (zWw b c f n P) = MF b := by
  have ee : MCf (zWw b c f n P) = MCf b := by
    funext h e t i
    unfold MCf MH
    rw [zWw_n (p := 272) (by omega), zWw_n (p := 273) (by omega), zWw_n (p := 276) (by omega), zWw_n (p := 277) (by omega)]
    by_cases q : b 276 (7 * i + t - b 272 i) = 0
    · rw [if_neg (fun x => x.2.1 q), if_neg (fun x => x.2.1 q)]
    · have hi : 7 * i + t - b 272 i < 7 * c + f ∨ 7 * c + n ≤ 7 * i + t - b 272 i := by
        refine Decidable.byContradiction (fun no => q ?_)
        have g := hu (7 * i + t - b 272 i - 7 * c) (by omega) (by omega)
        rw [show 7 * c + (7 * i + t - b 272 i - 7 * c) = 7 * i + t - b 272 i by omega] at g
        exact g
      rw [zWw_o hi]
  funext h e t
  unfold MF
  rw [ee, zWw_n (p := 264) (by omega), zWw_n (p := 265) (by omega), zWw_n (p := 269) (by omega)]
theorem sm_way {T : Int} {a b : zmem} (hs : Sim T a b) {c f n : Int} {P : Int → Int} (c0 : 0 ≤ c) (c1 : c < b 264 10) (f0 : 0 ≤ f) (hn : n = b 273 c) (hu : ∀ k, f ≤ k → k < n → b 276 (7 * c + k) = 0) (hP : ∀ k, f ≤ k → k < n → 0 ≤ P k ∧ P k < b 264 0) : Sim T (zWq a c f n P) (zWw b c f n P) := by
  have s1 := hs.s1
  unfold S1 at s1
  have k5 := hs.s5 c c0 (by omega)
  have ea : ∀ p, ¬ p = 65 + 5 * c → zWq a c f n P p = a p := fun p hp => zWq_n hp
  have eb : ∀ p, ¬ p = 274 → zWw b c f n P p = b p := fun p hp => zWw_n hp
  have mf : MF (zWw b c f n P) = MF b := MF_w hu
  have c6 : S6 (zWq a c f n P) (zWw b c f n P) := by
    intro e e0 e1 k k0 k1
    have g := hs.s6 e e0 e1 k k0 k1
    rw [eb 273 (by omega), eb 264 (by omega)]
    by_cases q : e = c ∧ f ≤ k ∧ k < n
    · obtain ⟨q1, q2, q3⟩ := q
      subst q1
      rw [zWw_i q2 q3]
      have z : zWq a e f n P (65 + 5 * e) k = P k := by unfold zWq; rw [if_pos ⟨rfl, q2, q3⟩]
      exact ⟨z, fun _ => hP k q2 q3⟩
    · have z : zWq a c f n P (65 + 5 * e) k = a (65 + 5 * e) k := by unfold zWq; rw [if_neg (by omega)]
      rw [z, zWw_o (by omega)]
      exact g
  exact ⟨S1_c hs.s1 (ea _ (by omega)) (ea _ (by omega)) (ea _ (by omega)) (ea _ (by omega)) (eb _ (by omega)),
    S2_c hs.s2 (fun h _ _ => ea _ (by omega)) (eb _ (by omega)) (eb _ (by omega)),
    S3_c hs.s3 (fun h _ _ => ea _ (by omega)) (eb _ (by omega)),
    S4_c hs.s4 (fun h _ _ => ea _ (by omega)) (eb _ (by omega)),
    S5_c hs.s5 (fun c _ _ => ea _ (by omega)) (eb _ (by omega)) (eb _ (by omega)) (eb _ (by omega)) (eb _ (by omega)) (eb _ (by omega)) (eb _ (by omega)),
    c6,
    S7_c hs.s7 (fun c _ _ => ea _ (by omega)) (eb _ (by omega)),
    S8_c hs.s8 (fun c _ _ => ea _ (by omega)) (eb _ (by omega)) (eb _ (by omega)) (eb _ (by omega)) (eb _ (by omega)) (eb _ (by omega)),
    S9_c hs.s9 (fun c _ _ => ea _ (by omega)) (eb _ (by omega)) (eb _ (by omega)) (eb _ (by omega)) (eb _ (by omega)),
    S10_c hs.s10 (fun h _ _ => ea _ (by omega)) (congrFun (eb 264 (by omega)) 0) mf,
    S11_c hs.s11 (fun h _ _ => ea _ (by omega)) (eb _ (by omega)) (eb _ (by omega)),
    S12_c hs.s12 (ea _ (by omega)) (ea _ (by omega)) (ea _ (by omega)) (ea _ (by omega)) (eb _ (by omega)) (eb _ (by omega)) (eb _ (by omega)) (eb _ (by omega)) (eb _ (by omega)),
    S13_c hs.s13 (ea _ (by omega)) (ea _ (by omega)) (eb _ (by omega)) (eb _ (by omega)),
    S14_c hs.s14 (ea _ (by omega)) (eb _ (by omega)) (eb _ (by omega)),
    S15_c hs.s15 (fun c _ _ => ea _ (by omega)) (eb _ (by omega)) (eb _ (by omega)) (eb _ (by omega)) (eb _ (by omega)) (eb _ (by omega)) (eb _ (by omega)) (eb _ (by omega)) (eb _ (by omega)),
    S16_c hs.s16 (eb _ (by omega)) (eb _ (by omega)) (eb _ (by omega))⟩
theorem Lay_way {b : zmem} {c f q : Int} (kh : 0 ≤ b 264 0) (hw : ∀ k, 0 ≤ k → k < b 273 c → 0 ≤ b 274 (7 * c + k) ∧ b 274 (7 * c + k) < b 264 0) (f0 : 0 ≤ f) (f1 : f < b 273 c) (hg : ¬ MGa b c f q f (b 274 (7 * c + f)) = -1) : ∀ k, f ≤ k → k < b 273 c → (0 ≤ MPh b c f q (k - f).toNat ∧ MPh b c f q (k - f).toNat < b 264 0) ∧ (¬ (k = f ∧ q = 0) → b 271 c ≤ MO b (MPh b c f q (k - f).toNat) (k + b 272 c)) := by
  intro k k0 k1
  have g := MPh_ok kh hw f0 f1 hg (k - f).toNat (by omega)
  rw [show f + ((k - f).toNat : Int) = k by omega] at g
  refine ⟨g.1, fun no => ?_⟩
  have ma : MMa b c f q k (MPh b c f q (k - f).toNat) := by
    refine Decidable.byContradiction (fun nm => g.2 ?_)
    by_cases l : k = b 273 c - 1
    · rw [MGa_0 l, if_neg nm]
    · rw [MGa_s (by omega), if_neg (fun x => nm x.1)]
  rcases ma.2 with z | z
  · exact absurd z no
  · exact z.2

