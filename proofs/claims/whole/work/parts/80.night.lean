/-- the night passes: memories of both sides, step by step, told over the memory b that it began with -/
def zSX (a b : zmem) (i : Int) : zmem := fun p k => if ((p - 68) % 5 = 0 ∧ 0 ≤ (p - 68) / 5 ∧ (p - 68) / 5 < i) ∧ ¬ b 280 ((p - 68) / 5) = 0 ∧ k = b 264 9 - b 272 ((p - 68) / 5) then 1 else a p k
def zSM (m1 b : zmem) (i : Int) : zmem := fun p k => if (p = 278 ∧ 0 ≤ k / 7 ∧ k / 7 < i) ∧ ¬ b 280 (k / 7) = 0 ∧ k = 7 * (k / 7) + (b 264 9 - b 272 (k / 7)) then 1 else m1 p k
theorem zSX_n {a b : zmem} {i p : Int} (i1 : i ≤ 40) (h : ¬ (p - 68) % 5 = 0 ∨ p < 68 ∨ 264 ≤ p) : zSX a b i p = a p := by
  funext k
  unfold zSX
  rw [if_neg (fun x => by have := x.1; omega)]
theorem zSX_v {a b : zmem} {i c k : Int} (c0 : 0 ≤ c) : zSX a b i (68 + 5 * c) k = if c < i ∧ ¬ b 280 c = 0 ∧ k = b 264 9 - b 272 c then 1 else a (68 + 5 * c) k := by
  unfold zSX
  rw [show (68 + 5 * c - 68) / 5 = c by omega]
  by_cases h : c < i ∧ ¬ b 280 c = 0 ∧ k = b 264 9 - b 272 c
  · rw [if_pos h, if_pos ⟨⟨by omega, c0, h.1⟩, h.2⟩]
  · rw [if_neg h, if_neg (fun x => h ⟨x.1.2.2, x.2⟩)]
theorem zSX_0 {a b : zmem} : zSX a b 0 = a := by
  funext p k
  unfold zSX
  rw [if_neg (fun x => by have := x.1; omega)]
theorem zSX_s {a b : zmem} {i : Int} (i0 : 0 ≤ i) (h : ¬ b 280 i = 0) : zu (zSX a b i) (68 + 5 * i) (b 264 9 - b 272 i) 1 = zSX a b (i + 1) := by
  funext p k
  rw [zu_if]
  unfold zSX
  by_cases g : p = 68 + 5 * i ∧ k = b 264 9 - b 272 i
  · rw [if_pos g, g.1, show (68 + 5 * i - 68) / 5 = i by omega, if_pos ⟨⟨by omega, by omega, by omega⟩, h, g.2⟩]
  · rw [if_neg g]
    by_cases g2 : ((p - 68) % 5 = 0 ∧ 0 ≤ (p - 68) / 5 ∧ (p - 68) / 5 < i) ∧ ¬ b 280 ((p - 68) / 5) = 0 ∧ k = b 264 9 - b 272 ((p - 68) / 5)
    · rw [if_pos g2, if_pos ⟨⟨g2.1.1, g2.1.2.1, by have := g2.1; omega⟩, g2.2⟩]
    · rw [if_neg g2]
      refine (if_neg (fun x => ?_)).symm
      by_cases e : (p - 68) / 5 = i
      · exact g ⟨by have := x.1; omega, by rw [← e]; exact x.2.2⟩
      · exact g2 ⟨⟨x.1.1, x.1.2.1, by have := x.1; omega⟩, x.2⟩
theorem zSX_k {a b : zmem} {i : Int} (h : b 280 i = 0) : zSX a b i = zSX a b (i + 1) := by
  funext p k
  unfold zSX
  by_cases g2 : ((p - 68) % 5 = 0 ∧ 0 ≤ (p - 68) / 5 ∧ (p - 68) / 5 < i) ∧ ¬ b 280 ((p - 68) / 5) = 0 ∧ k = b 264 9 - b 272 ((p - 68) / 5)
  · rw [if_pos g2, if_pos ⟨⟨g2.1.1, g2.1.2.1, by have := g2.1; omega⟩, g2.2⟩]
  · rw [if_neg g2]
    refine (if_neg (fun x => ?_)).symm
    by_cases e : (p - 68) / 5 = i
    · exact x.2.1 (by rw [e]; exact h)
    · exact g2 ⟨⟨x.1.1, x.1.2.1, by have := x.1; omega⟩, x.2⟩
theorem zSM_n {m1 b : zmem} {i p : Int} (h : ¬ p = 278) : zSM m1 b i p = m1 p := by
  funext k
  unfold zSM
  rw [if_neg (fun x => h x.1.1)]
theorem zSM_v {m1 b : zmem} {i c k : Int} (c0 : 0 ≤ c) (k0 : 0 ≤ k) (k1 : k < 7) : zSM m1 b i 278 (7 * c + k) = if c < i ∧ ¬ b 280 c = 0 ∧ k = b 264 9 - b 272 c then 1 else m1 278 (7 * c + k) := by
  unfold zSM
  rw [show (7 * c + k) / 7 = c by omega]
  by_cases h : c < i ∧ ¬ b 280 c = 0 ∧ k = b 264 9 - b 272 c
  · rw [if_pos h, if_pos ⟨⟨rfl, c0, h.1⟩, h.2.1, by omega⟩]
  · rw [if_neg h, if_neg (fun x => h ⟨x.1.2.2, x.2.1, by have := x.2.2; omega⟩)]
theorem zSM_0 {m1 b : zmem} : zSM m1 b 0 = m1 := by
  funext p k
  unfold zSM
  rw [if_neg (fun x => by have := x.1; omega)]
theorem zSM_s {m1 b : zmem} {i : Int} (i0 : 0 ≤ i) (t0 : 0 ≤ b 264 9 - b 272 i) (t1 : b 264 9 - b 272 i < 7) (h : ¬ b 280 i = 0) : zu (zSM m1 b i) 278 (7 * i + b 264 9 - b 272 i) 1 = zSM m1 b (i + 1) := by
  funext p k
  rw [zu_if]
  unfold zSM
  by_cases g : p = 278 ∧ k = 7 * i + b 264 9 - b 272 i
  · rw [if_pos g]
    have e : k / 7 = i := by omega
    rw [e, if_pos ⟨⟨g.1, i0, by omega⟩, h, by omega⟩]
  · rw [if_neg g]
    by_cases g2 : (p = 278 ∧ 0 ≤ k / 7 ∧ k / 7 < i) ∧ ¬ b 280 (k / 7) = 0 ∧ k = 7 * (k / 7) + (b 264 9 - b 272 (k / 7))
    · rw [if_pos g2, if_pos ⟨⟨g2.1.1, g2.1.2.1, by have := g2.1; omega⟩, g2.2⟩]
    · rw [if_neg g2]
      refine (if_neg (fun x => ?_)).symm
      by_cases e : k / 7 = i
      · have x2 := x.2.2
        rw [e] at x2
        exact g ⟨x.1.1, by omega⟩
      · exact g2 ⟨⟨x.1.1, x.1.2.1, by have := x.1; omega⟩, x.2⟩
theorem zSM_k {m1 b : zmem} {i : Int} (h : b 280 i = 0) : zSM m1 b i = zSM m1 b (i + 1) := by
  funext p k
  unfold zSM
  by_cases g2 : (p = 278 ∧ 0 ≤ k / 7 ∧ k / 7 < i) ∧ ¬ b 280 (k / 7) = 0 ∧ k = 7 * (k / 7) + (b 264 9 - b 272 (k / 7))
  · rw [if_pos g2, if_pos ⟨⟨g2.1.1, g2.1.2.1, by have := g2.1; omega⟩, g2.2⟩]
  · rw [if_neg g2]
    refine (if_neg (fun x => ?_)).symm
    by_cases e : k / 7 = i
    · exact x.2.1 (by rw [e]; exact h)
    · exact g2 ⟨⟨x.1.1, x.1.2.1, by have := x.1; omega⟩, x.2⟩
theorem zSM_an {a c b : zmem} {i : Int} (h : zan a c) : zan (zSM a b i) (zSM c b i) := by
  intro p x y z
  funext k
  unfold zSM
  rw [h p x y z]
/-- chores done, by chain -/
def zDX (A : zmem) (D : Int → Int) : zmem := fun p k => if ((p - 64) % 5 = 0 ∧ 0 ≤ (p - 64) / 5 ∧ (p - 64) / 5 < 40) ∧ k = 8 then D ((p - 64) / 5) else A p k
def zDM (B : zmem) (D : Int → Int) : zmem := fun p k => if p = 279 ∧ 0 ≤ k ∧ k < 40 then D k else B p k
def zDi (D : Int → Int) (w : Int) : Int → Int := fun c => if c = w then D w + 1 else D c
theorem zDX_n {A : zmem} {D : Int → Int} {p : Int} (h : ¬ (p - 64) % 5 = 0 ∨ p < 64 ∨ 264 ≤ p) : zDX A D p = A p := by
  funext k
  unfold zDX
  rw [if_neg (fun x => by have := x.1; omega)]
theorem zDX_o {A : zmem} {D : Int → Int} {p k : Int} (h : ¬ k = 8) : zDX A D p k = A p k := by
  unfold zDX
  rw [if_neg (fun x => h x.2)]
theorem zDX_v {A : zmem} {D : Int → Int} {c : Int} (c0 : 0 ≤ c) (c1 : c < 40) : zDX A D (64 + 5 * c) 8 = D c := by
  unfold zDX
  rw [if_pos (by omega), show (64 + 5 * c - 64) / 5 = c by omega]
theorem zDX_s {A : zmem} {D : Int → Int} {c v : Int} (c0 : 0 ≤ c) (c1 : c < 40) (hv : v = D c + 1) : zu (zDX A D) (64 + 5 * c) 8 v = zDX A (zDi D c) := by
  funext p k
  rw [zu_if]
  unfold zDX zDi
  by_cases g : p = 64 + 5 * c ∧ k = 8
  · rw [if_pos g, if_pos (by omega), if_pos (by omega), hv]
  · rw [if_neg g]
    by_cases g2 : ((p - 64) % 5 = 0 ∧ 0 ≤ (p - 64) / 5 ∧ (p - 64) / 5 < 40) ∧ k = 8
    · rw [if_pos g2, if_pos g2, if_neg (by omega)]
    · rw [if_neg g2, if_neg g2]
theorem zDX_id {A : zmem} {D : Int → Int} (h : ∀ c, 0 ≤ c → c < 40 → A (64 + 5 * c) 8 = D c) : zDX A D = A := by
  funext p k
  unfold zDX
  by_cases g2 : ((p - 64) % 5 = 0 ∧ 0 ≤ (p - 64) / 5 ∧ (p - 64) / 5 < 40) ∧ k = 8
  · rw [if_pos g2, ← h _ g2.1.2.1 g2.1.2.2, show 64 + 5 * ((p - 64) / 5) = p by omega, g2.2]
  · rw [if_neg g2]
theorem zDM_n {B : zmem} {D : Int → Int} {p : Int} (h : ¬ p = 279) : zDM B D p = B p := by
  funext k
  unfold zDM
  rw [if_neg (by omega)]
theorem zDM_v {B : zmem} {D : Int → Int} {c : Int} (c0 : 0 ≤ c) (c1 : c < 40) : zDM B D 279 c = D c := by
  unfold zDM
  rw [if_pos (by omega)]
theorem zDM_s {B : zmem} {D : Int → Int} {c v : Int} (c0 : 0 ≤ c) (c1 : c < 40) (hv : v = D c + 1) : zu (zDM B D) 279 c v = zDM B (zDi D c) := by
  funext p k
  rw [zu_if]
  unfold zDM zDi
  by_cases g : p = 279 ∧ k = c
  · rw [if_pos g, if_pos (by omega), if_pos g.2, hv]
  · rw [if_neg g]
    by_cases g2 : p = 279 ∧ 0 ≤ k ∧ k < 40
    · rw [if_pos g2, if_pos g2, if_neg (by omega)]
    · rw [if_neg g2, if_neg g2]
theorem zDM_id {B : zmem} {D : Int → Int} (h : ∀ c, 0 ≤ c → c < 40 → B 279 c = D c) : zDM B D = B := by
  funext p k
  unfold zDM
  by_cases g2 : p = 279 ∧ 0 ≤ k ∧ k < 40
  · rw [if_pos g2, ← h _ g2.2.1 g2.2.2, g2.1]
  · rw [if_neg g2]
theorem zDM_an {a c : zmem} {D : Int → Int} (h : zan a c) : zan (zDM a D) (zDM c D) := by
  intro p x y z
  funext k
  unfold zDM
  rw [h p x y z]
/-- houses that ended the night -/
def zEX (A : zmem) (h : Int) : zmem := fun p k => if ((p - 3) % 4 = 0 ∧ 0 ≤ (p - 3) / 4 ∧ (p - 3) / 4 < h) ∧ k = 5 then 0 else if ((p - 3) % 4 = 0 ∧ 0 ≤ (p - 3) / 4 ∧ (p - 3) / 4 < h) ∧ k = 6 then A p 5 + A p 6 else A p k
theorem zEX_n {A : zmem} {h p : Int} (h1 : h ≤ 12) (hp : ¬ (p - 3) % 4 = 0 ∨ p < 3 ∨ 51 ≤ p) : zEX A h p = A p := by
  funext k
  unfold zEX
  rw [if_neg (fun x => by have := x.1; omega), if_neg (fun x => by have := x.1; omega)]
theorem zEX_o {A : zmem} {h p k : Int} (h5 : ¬ k = 5) (h6 : ¬ k = 6) : zEX A h p k = A p k := by
  unfold zEX
  rw [if_neg (fun x => h5 x.2), if_neg (fun x => h6 x.2)]
theorem zEX_5 {A : zmem} {h g : Int} (g0 : 0 ≤ g) : zEX A h (3 + 4 * g) 5 = if g < h then 0 else A (3 + 4 * g) 5 := by
  unfold zEX
  by_cases q : g < h
  · rw [if_pos q, if_pos (by omega)]
  · rw [if_neg q, if_neg (by omega), if_neg (by omega)]
theorem zEX_6 {A : zmem} {h g : Int} (g0 : 0 ≤ g) : zEX A h (3 + 4 * g) 6 = if g < h then A (3 + 4 * g) 5 + A (3 + 4 * g) 6 else A (3 + 4 * g) 6 := by
  unfold zEX
  by_cases q : g < h
  · rw [if_pos q, if_neg (by omega), if_pos (by omega)]
  · rw [if_neg q, if_neg (by omega), if_neg (by omega)]
theorem zEX_0 {A : zmem} : zEX A 0 = A := by
  funext p k
  unfold zEX
  rw [if_neg (fun x => by have := x.1; omega), if_neg (fun x => by have := x.1; omega)]
theorem zEX_s {A : zmem} {D : Int → Int} {h u v : Int} (h0 : 0 ≤ h) (h1 : h < 12) (hv : v = A (3 + 4 * h) 5 + A (3 + 4 * h) 6) (hu : u = 0) : zu (zu (zDX (zEX A h) D) (3 + 4 * h) 6 v) (3 + 4 * h) 5 u = zDX (zEX A (h + 1)) D := by
  funext p k
  rw [zu_if, zu_if]
  by_cases e : p = 3 + 4 * h
  · rw [e]
    have z1 : ∀ B : zmem, zDX B D (3 + 4 * h) = B (3 + 4 * h) := fun B => by
      funext k2
      unfold zDX
      rw [if_neg (fun x => by have := x.1; omega)]
    rw [z1, z1]
    by_cases k5 : k = 5
    · rw [if_pos ⟨rfl, k5⟩, k5, zEX_5 h0, if_pos (by omega), hu]
    · rw [if_neg (fun x => k5 x.2)]
      by_cases k6 : k = 6
      · rw [if_pos ⟨rfl, k6⟩, k6, zEX_6 h0, if_pos (by omega), hv]
      · rw [if_neg (fun x => k6 x.2), zEX_o k5 k6, zEX_o k5 k6]
  · rw [if_neg (fun x => e x.1), if_neg (fun x => e x.1)]
    unfold zDX
    by_cases g2 : ((p - 64) % 5 = 0 ∧ 0 ≤ (p - 64) / 5 ∧ (p - 64) / 5 < 40) ∧ k = 8
    · rw [if_pos g2, if_pos g2]
    · rw [if_neg g2, if_neg g2]
      unfold zEX
      by_cases g : ((p - 3) % 4 = 0 ∧ 0 ≤ (p - 3) / 4 ∧ (p - 3) / 4 < h)
      · have g' : ((p - 3) % 4 = 0 ∧ 0 ≤ (p - 3) / 4 ∧ (p - 3) / 4 < h + 1) := by omega
        by_cases k5 : k = 5
        · rw [if_pos ⟨g, k5⟩, if_pos ⟨g', k5⟩]
        · by_cases k6 : k = 6
          · rw [if_neg (fun x => k5 x.2), if_pos ⟨g, k6⟩, if_neg (fun x => k5 x.2), if_pos ⟨g', k6⟩]
          · rw [if_neg (fun x => k5 x.2), if_neg (fun x => k6 x.2), if_neg (fun x => k5 x.2), if_neg (fun x => k6 x.2)]
      · have g' : ¬ ((p - 3) % 4 = 0 ∧ 0 ≤ (p - 3) / 4 ∧ (p - 3) / 4 < h + 1) := by omega
        rw [if_neg (fun x => g x.1), if_neg (fun x => g x.1), if_neg (fun x => g' x.1), if_neg (fun x => g' x.1)]
/-- chains that are over -/
abbrev zOv (b : zmem) (c : Int) : Prop := b 275 c = 1 ∧ b 272 c + b 273 c - 1 = b 264 9
def zNX (A b : zmem) (i : Int) : zmem := fun p k => if ((p - 64) % 5 = 0 ∧ 0 ≤ (p - 64) / 5 ∧ (p - 64) / 5 < i) ∧ k = 7 ∧ zOv b ((p - 64) / 5) then 3 else A p k
theorem zNX_n {A b : zmem} {i p : Int} (i1 : i ≤ 40) (h : ¬ (p - 64) % 5 = 0 ∨ p < 64 ∨ 264 ≤ p) : zNX A b i p = A p := by
  funext k
  unfold zNX
  rw [if_neg (fun x => by have := x.1; omega)]
theorem zNX_o {A b : zmem} {i p k : Int} (h : ¬ k = 7) : zNX A b i p k = A p k := by
  unfold zNX
  rw [if_neg (fun x => h x.2.1)]
theorem zNX_v {A b : zmem} {i c : Int} (c0 : 0 ≤ c) : zNX A b i (64 + 5 * c) 7 = if c < i ∧ zOv b c then 3 else A (64 + 5 * c) 7 := by
  unfold zNX
  rw [show (64 + 5 * c - 64) / 5 = c by omega]
  by_cases h : c < i ∧ zOv b c
  · rw [if_pos h, if_pos ⟨⟨by omega, c0, h.1⟩, rfl, h.2⟩]
  · rw [if_neg h, if_neg (fun x => h ⟨x.1.2.2, x.2.2⟩)]
theorem zNX_0 {A b : zmem} : zNX A b 0 = A := by
  funext p k
  unfold zNX
  rw [if_neg (fun x => by have := x.1; omega)]
theorem zNX_s {A b : zmem} {i : Int} (i0 : 0 ≤ i) (h : zOv b i) : zu (zNX A b i) (64 + 5 * i) 7 3 = zNX A b (i + 1) := by
  funext p k
  rw [zu_if]
  unfold zNX
  by_cases g : p = 64 + 5 * i ∧ k = 7
  · rw [if_pos g, g.1, show (64 + 5 * i - 64) / 5 = i by omega, if_pos ⟨⟨by omega, i0, by omega⟩, g.2, h⟩]
  · rw [if_neg g]
    by_cases g2 : ((p - 64) % 5 = 0 ∧ 0 ≤ (p - 64) / 5 ∧ (p - 64) / 5 < i) ∧ k = 7 ∧ zOv b ((p - 64) / 5)
    · rw [if_pos g2, if_pos ⟨⟨g2.1.1, g2.1.2.1, by have := g2.1; omega⟩, g2.2⟩]
    · rw [if_neg g2]
      refine (if_neg (fun x => ?_)).symm
      by_cases e : (p - 64) / 5 = i
      · exact g ⟨by have := x.1; omega, x.2.1⟩
      · exact g2 ⟨⟨x.1.1, x.1.2.1, by have := x.1; omega⟩, x.2⟩
theorem zNX_k {A b : zmem} {i : Int} (h : ¬ zOv b i) : zNX A b i = zNX A b (i + 1) := by
  funext p k
  unfold zNX
  by_cases g2 : ((p - 64) % 5 = 0 ∧ 0 ≤ (p - 64) / 5 ∧ (p - 64) / 5 < i) ∧ k = 7 ∧ zOv b ((p - 64) / 5)
  · rw [if_pos g2, if_pos ⟨⟨g2.1.1, g2.1.2.1, by have := g2.1; omega⟩, g2.2⟩]
  · rw [if_neg g2]
    refine (if_neg (fun x => ?_)).symm
    by_cases e : (p - 64) / 5 = i
    · exact h (by rw [← e]; exact x.2.2)
    · exact g2 ⟨⟨x.1.1, x.1.2.1, by have := x.1; omega⟩, x.2⟩
def zNM (B b : zmem) (i : Int) : zmem := fun p k => if p = 280 ∧ 0 ≤ k ∧ k < i then 0 else if (p = 275 ∧ 0 ≤ k ∧ k < i) ∧ zOv b k then 3 else B p k
theorem zNM_n {B b : zmem} {i p : Int} (h : ¬ p = 280) (h2 : ¬ p = 275) : zNM B b i p = B p := by
  funext k
  unfold zNM
  rw [if_neg (fun x => h x.1), if_neg (fun x => h2 x.1.1)]
theorem zNM_80 {B b : zmem} {i c : Int} (c0 : 0 ≤ c) : zNM B b i 280 c = if c < i then 0 else B 280 c := by
  unfold zNM
  by_cases h : c < i
  · rw [if_pos h, if_pos (by omega)]
  · rw [if_neg h, if_neg (by omega), if_neg (fun x => by have := x.1; omega)]
theorem zNM_75 {B b : zmem} {i c : Int} (c0 : 0 ≤ c) : zNM B b i 275 c = if c < i ∧ zOv b c then 3 else B 275 c := by
  unfold zNM
  rw [if_neg (by omega)]
  by_cases h : c < i ∧ zOv b c
  · rw [if_pos h, if_pos ⟨⟨rfl, c0, h.1⟩, h.2⟩]
  · rw [if_neg h, if_neg (fun x => h ⟨x.1.2.2, x.2⟩)]
theorem zNM_0 {B b : zmem} : zNM B b 0 = B := by
  funext p k
  unfold zNM
  rw [if_neg (by omega), if_neg (fun x => by have := x.1; omega)]
theorem zNM_s {B b : zmem} {i v : Int} (i0 : 0 ≤ i) (hv : v = if zOv b i then 3 else B 275 i) : zu (zu (zNM B b i) 280 i 0) 275 i v = zNM B b (i + 1) := by
  funext p k
  rw [zu_if, zu_if]
  by_cases g : p = 275 ∧ k = i
  · rw [if_pos g, g.1, g.2, zNM_75 i0, hv]
    by_cases q : zOv b i
    · rw [if_pos q, if_pos ⟨by omega, q⟩]
    · rw [if_neg q, if_neg (fun x => q x.2)]
  · rw [if_neg g]
    by_cases g2 : p = 280 ∧ k = i
    · rw [if_pos g2, g2.1, g2.2, zNM_80 i0, if_pos (by omega)]
    · rw [if_neg g2]
      unfold zNM
      by_cases q : p = 280 ∧ 0 ≤ k ∧ k < i
      · rw [if_pos q, if_pos (by omega)]
      · rw [if_neg q, if_neg (c := p = 280 ∧ 0 ≤ k ∧ k < i + 1) (by omega)]
        by_cases q2 : (p = 275 ∧ 0 ≤ k ∧ k < i) ∧ zOv b k
        · rw [if_pos q2, if_pos ⟨by have := q2.1; omega, q2.2⟩]
        · rw [if_neg q2, if_neg (fun x => q2 ⟨by have := x.1; omega, x.2⟩)]
theorem zNM_an {a c b : zmem} {i : Int} (h : zan a c) : zan (zNM a b i) (zNM c b i) := by
  intro p x y z
  funext k
  unfold zNM
  rw [h p x y z]
