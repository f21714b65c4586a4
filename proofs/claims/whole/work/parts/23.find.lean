theorem zfd_c {f g : Int → Int → Int} {a n : Int} (h : ∀ k b, 0 ≤ k → k < n → f k b = g k b) : zfd f a n = zfd g a n := by
  unfold zfd
  have key : ∀ j : Nat, (j : Int) ≤ n → zfdn f a j = zfdn g a j := by
    intro j
    induction j with
    | zero => intro _; rfl
    | succ j ih => intro hj; rw [zfdn, zfdn, ih (by omega), h j _ (by omega) (by omega)]
  by_cases hn : 0 ≤ n
  · exact key _ (by omega)
  · rw [show n.toNat = 0 by omega]; rfl
theorem zstN_lt {ρ : Int → Int} {J : Int → Prop} [DecidablePred J] : ∀ {i : Int}, 0 ≤ i → zfd (zstN ρ J) (-1) i = -1 ∨ (0 ≤ zfd (zstN ρ J) (-1) i ∧ zfd (zstN ρ J) (-1) i < i ∧ ρ (zfd (zstN ρ J) (-1) i) < 1000 ∧ J (zfd (zstN ρ J) (-1) i)) := by
  intro i hi
  obtain ⟨n, rfl⟩ := Int.eq_ofNat_of_zero_le hi
  induction n with
  | zero => exact Or.inl rfl
  | succ n ih =>
    have ih := ih (by omega)
    rw [Int.natCast_succ, zfd_s (by omega)]
    generalize zfd (zstN ρ J) (-1) (n : Int) = b at ih
    by_cases h : (ρ n < (if b = -1 then 1000 else ρ b) ∧ J n)
    · have e : zstN ρ J n b = n := if_pos h
      rw [e]
      right
      refine ⟨by omega, by omega, ?_, h.2⟩
      rcases ih with ih | ih
      · rw [if_pos ih] at h; exact h.1
      · rw [if_neg (by omega)] at h; omega
    · have e : zstN ρ J n b = b := if_neg h
      rw [e]
      rcases ih with ih | ih
      · exact Or.inl ih
      · right; exact ⟨ih.1, by omega, ih.2.2.1, ih.2.2.2⟩
/-- the fewest partings from a night on, 1000: no way (r: nights behind it) -/
def zTb (nh : Int) (J : Int → Int → Prop) [∀ a b, Decidable (J a b)] (Op : Int → Int → Prop) [∀ a b, Decidable (Op a b)] (wy : Int → Int) (last : Int) : Nat → Int → Int
  | 0, h => if wy last = h ∧ Op last h then 0 else 1000
  | r + 1, h => if Op (last - (r + 1 : Nat)) h then (if zfd (zstN (zTb nh J Op wy last r) (J h)) (-1) nh = -1 then 1000 else (if wy (last - (r + 1 : Nat)) = h then 0 else 1) + zTb nh J Op wy last r (zfd (zstN (zTb nh J Op wy last r) (J h)) (-1) nh)) else 1000
theorem zTb_b {nh : Int} (hn : 0 ≤ nh) {J : Int → Int → Prop} [∀ a b, Decidable (J a b)] {Op : Int → Int → Prop} [∀ a b, Decidable (Op a b)] {wy : Int → Int} {last : Int} : ∀ (r : Nat) (h : Int), r < 900 → zTb nh J Op wy last r h = 1000 ∨ (0 ≤ zTb nh J Op wy last r h ∧ zTb nh J Op wy last r h ≤ r)
  | 0, h, _ => by
    unfold zTb
    split
    · right; simp
    · left; rfl
  | r + 1, h, hr => by
    unfold zTb
    split
    · split
      · left; rfl
      · next hb =>
        have h1 := zstN_lt (ρ := zTb nh J Op wy last r) (J := J h) hn
        have h2 := zTb_b hn (J := J) (Op := Op) (wy := wy) (last := last) r (zfd (zstN (zTb nh J Op wy last r) (J h)) (-1) nh) (by omega)
        right
        split <;> omega
    · left; rfl
abbrev XOp (m : zmem) (c s i h : Int) : Prop := i ≤ s ∨ XR m h (i + m (64 + 5 * c) 5) (m (64 + 5 * c) 4)
abbrev XT (m : zmem) (c s : Int) : Nat → Int → Int := zTb (m 1 1) (XJ m) (XOp m c s) (m (65 + 5 * c)) (m (64 + 5 * c) 6 - 1)
/-- cells 52 and 53 are for notes alone -/
def zag (m1 m : zmem) : Prop := ∀ p, p ≠ 52 → p ≠ 53 → m1 p = m p
theorem XNx_c {m1 m : zmem} {i h e : Int} (h0 : 0 ≤ h) (ha : zag m1 m) (hr : ∀ g, 0 ≤ g → g < e → XRo m1 i g = XRo m i g) : XNx m1 i h e = XNx m i h e := by
  have key : ∀ n : Nat, (n : Int) ≤ e → zfdn (zstN (XRo m1 i) (XJ m1 h)) (-1) n = zfdn (zstN (XRo m i) (XJ m h)) (-1) n := by
    intro n
    induction n with
    | zero => intro _; rfl
    | succ n ih =>
      intro hn
      have ih := ih (by omega)
      have hb := zfd_in (f := zstN (XRo m i) (XJ m h)) (zstN_two _ _) (i := n) (by omega)
      have hbe : zfd (zstN (XRo m i) (XJ m h)) (-1) n = zfdn (zstN (XRo m i) (XJ m h)) (-1) n := by unfold zfd; rw [Int.toNat_natCast]
      rw [hbe] at hb
      rw [zfdn, zfdn, ih]
      generalize zfdn (zstN (XRo m i) (XJ m h)) (-1) n = b at hb
      have e1 : m1 (6 + 4 * h) = m (6 + 4 * h) := ha _ (by omega) (by omega)
      have e2 : XRo m1 i n = XRo m i n := hr n (by omega) (by omega)
      have e3 : (if b = -1 then 1000 else XRo m1 i b) = (if b = -1 then 1000 else XRo m i b) := by
        by_cases hb1 : b = -1
        · rw [if_pos hb1, if_pos hb1]
        · rw [if_neg hb1, if_neg hb1, hr b (by omega) (by omega)]
      have e4 : XJ m1 h n ↔ XJ m h n := by unfold XJ; rw [e1]
      unfold zstN
      by_cases g1 : (XRo m i n < (if b = -1 then 1000 else XRo m i b) ∧ XJ m h n)
      · rw [if_pos g1, if_pos (by rw [e2, e3, e4]; exact g1)]
      · rw [if_neg g1, if_neg (by rw [e2, e3, e4]; exact g1)]
  by_cases he : 0 ≤ e
  · exact key _ (by omega)
  · show zfdn _ _ e.toNat = zfdn _ _ e.toNat
    rw [show e.toNat = 0 by omega]; rfl
/-- the table while it is written -/
def zpm (m : zmem) (G : Int → Int → Int) (nh last i h : Int) : zmem := fun p b => if p = 52 ∧ 0 ≤ b ∧ b % 12 < nh ∧ b / 12 ≤ last ∧ (i < b / 12 ∨ (b / 12 = i ∧ b % 12 < h)) then G (b / 12) (b % 12) else m p b
theorem zpm_ag {m : zmem} {G : Int → Int → Int} {nh last i h : Int} : zag (zpm m G nh last i h) m := by
  intro p h1 h2
  funext b
  unfold zpm
  rw [if_neg (by omega)]
theorem zpm_n {m : zmem} {G : Int → Int → Int} {nh last i h p : Int} (hp : ¬ p = 52) : zpm m G nh last i h p = m p := by
  funext b
  unfold zpm
  rw [if_neg (by omega)]
theorem zpm_s {m : zmem} {G : Int → Int → Int} {nh last i h : Int} (h0 : 0 ≤ h) (h1 : h < nh) (h2 : nh ≤ 12) (i0 : 0 ≤ i) (i1 : i ≤ last) : zu (zpm m G nh last i h) 52 (h + 12 * i) (G i h) = zpm m G nh last i (h + 1) := by
  funext p b
  rw [zu_if]
  unfold zpm
  by_cases g : p = 52 ∧ b = h + 12 * i
  · rw [if_pos g, if_pos (by omega), show b / 12 = i by omega, show b % 12 = h by omega]
  · rw [if_neg g]
    by_cases g2 : p = 52 ∧ 0 ≤ b ∧ b % 12 < nh ∧ b / 12 ≤ last ∧ (i < b / 12 ∨ (b / 12 = i ∧ b % 12 < h))
    · rw [if_pos g2, if_pos (by omega)]
    · rw [if_neg g2, if_neg (by omega)]
theorem zpm_r {m : zmem} {G : Int → Int → Int} {nh last i : Int} : zpm m G nh last i nh = zpm m G nh last (i - 1) 0 := by
  funext p b
  unfold zpm
  by_cases g2 : p = 52 ∧ 0 ≤ b ∧ b % 12 < nh ∧ b / 12 ≤ last ∧ (i < b / 12 ∨ (b / 12 = i ∧ b % 12 < nh))
  · rw [if_pos g2, if_pos (by omega)]
  · rw [if_neg g2, if_neg (by omega)]
theorem zpm_0 {m : zmem} {G : Int → Int → Int} {nh last : Int} : zpm m G nh last last 0 = m := by
  funext p b
  unfold zpm
  rw [if_neg (by omega)]
theorem zpm_g {m : zmem} {G : Int → Int → Int} {nh last i h g k : Int} (g0 : 0 ≤ g) (g1 : g < nh) (g2 : nh ≤ 12) (i0 : 0 ≤ k) (i1 : k + 1 ≤ last) (hk : i < k + 1 ∨ (i = k + 1 ∧ g < h)) : XRo (zpm m G nh last i h) k g = G (k + 1) g := by
  unfold XRo zpm
  rw [if_pos (by omega), show (g + 12 * k + 12) / 12 = k + 1 by omega, show (g + 12 * k + 12) % 12 = g by omega]
abbrev XGa (m : zmem) (c s : Int) (i h : Int) : Int := XT m c s (m (64 + 5 * c) 6 - 1 - i).toNat h
abbrev XPm (m : zmem) (c s i h : Int) : zmem := zpm m (XGa m c s) (m 1 1) (m (64 + 5 * c) 6 - 1) i h
theorem XLp_T {L : Nat} {m : zmem} {c : Int} (c0 : 0 ≤ c) (c1 : c < 40) (f0 : 0 ≤ m (64 + 5 * c) 5) (f1 : m (64 + 5 * c) 5 ≤ 39) (l0 : 1 ≤ m (64 + 5 * c) 6) (l1 : m (64 + 5 * c) 6 ≤ 7) (l2 : m (64 + 5 * c) 5 + m (64 + 5 * c) 6 ≤ 40) (n0 : 0 ≤ m 1 1) (n1 : m 1 1 ≤ 12) (hw : ∀ k, 0 ≤ k → k < m (64 + 5 * c) 6 → 0 ≤ m (65 + 5 * c) k ∧ m (65 + 5 * c) k < m 1 1) (hf : ∀ h k, 0 ≤ h → h < 12 → 0 ≤ k → k < 120 → 0 ≤ m (4 + 4 * h) k ∧ m (4 + 4 * h) k ≤ 9) {s i h : Int} (i0 : 0 ≤ i) (i1 : i < m (64 + 5 * c) 6) (h0 : 0 ≤ h) (h1 : h < m 1 1) : XLp (XPm m c s i h) c s i h = XGa m c s i h := by
  have ha : zag (XPm m c s i h) m := zpm_ag
  have a1 : XPm m c s i h (64 + 5 * c) = m (64 + 5 * c) := ha _ (by omega) (by omega)
  have a2 : XPm m c s i h (65 + 5 * c) = m (65 + 5 * c) := ha _ (by omega) (by omega)
  have a3 : XPm m c s i h 1 = m 1 := ha _ (by omega) (by omega)
  have a4 : XPm m c s i h (4 + 4 * h) = m (4 + 4 * h) := ha _ (by omega) (by omega)
  have a5 : XPm m c s i h (5 + 4 * h) = m (5 + 4 * h) := ha _ (by omega) (by omega)
  have eC : XCn (XPm m c s i h) c s i h ↔ XCn m c s i h := by unfold XCn XR XF; rw [a1, a2, a4, a5]
  have b1 : (i = XPm m c s i h (64 + 5 * c) 6 - 1) ↔ (i = m (64 + 5 * c) 6 - 1) := by rw [a1]
  have b2 : (XPm m c s i h (65 + 5 * c) i = h) ↔ (m (65 + 5 * c) i = h) := by rw [a2]
  unfold XLp XHe
  by_cases hl : i = m (64 + 5 * c) 6 - 1
  · have e0 : XGa m c s i h = if m (65 + 5 * c) (m (64 + 5 * c) 6 - 1) = h ∧ XOp m c s (m (64 + 5 * c) 6 - 1) h then 0 else 1000 := by
      unfold XGa XT
      rw [show (m (64 + 5 * c) 6 - 1 - i).toNat = 0 by omega]
      rfl
    rw [e0]
    by_cases hc : XCn m c s i h
    · rw [if_pos (eC.mpr hc), if_pos (b1.mpr hl), if_pos (b2.mpr (by unfold XCn at hc; omega)), if_pos (by unfold XCn at hc; unfold XOp; rw [← hl]; omega)]
    · rw [if_neg (fun g => hc (eC.mp g)), if_neg (by intro g; apply hc; unfold XOp at g; unfold XCn; rw [← hl] at g; omega)]
  · obtain ⟨r, hr⟩ : ∃ r : Nat, m (64 + 5 * c) 6 - 1 - i = (r + 1 : Nat) := ⟨(m (64 + 5 * c) 6 - 2 - i).toNat, by omega⟩
    have hN : XNx (XPm m c s i h) i h (m 1 1) = zfd (zstN (XT m c s r) (XJ m h)) (-1) (m 1 1) := by
      have e1 : XNx (XPm m c s i h) i h (m 1 1) = XNx (zpm m (XGa m c s) (m 1 1) (m (64 + 5 * c) 6 - 1) i h) i h (m 1 1) := rfl
      rw [e1]
      have key : ∀ n : Nat, (n : Int) ≤ m 1 1 → zfdn (zstN (XRo (zpm m (XGa m c s) (m 1 1) (m (64 + 5 * c) 6 - 1) i h) i) (XJ (zpm m (XGa m c s) (m 1 1) (m (64 + 5 * c) 6 - 1) i h) h)) (-1) n = zfdn (zstN (XT m c s r) (XJ m h)) (-1) n := by
        intro n
        induction n with
        | zero => intro _; rfl
        | succ n ih =>
          intro hn
          have ih := ih (by omega)
          have hb := zfd_in (f := zstN (XT m c s r) (XJ m h)) (zstN_two _ _) (i := n) (by omega)
          have hbe : zfd (zstN (XT m c s r) (XJ m h)) (-1) n = zfdn (zstN (XT m c s r) (XJ m h)) (-1) n := by unfold zfd; rw [Int.toNat_natCast]
          rw [hbe] at hb
          rw [zfdn, zfdn, ih]
          generalize zfdn (zstN (XT m c s r) (XJ m h)) (-1) n = b at hb
          have hro : ∀ g, 0 ≤ g → g < m 1 1 → XRo (zpm m (XGa m c s) (m 1 1) (m (64 + 5 * c) 6 - 1) i h) i g = XT m c s r g := by
            intro g g0 g1
            rw [zpm_g g0 g1 n1 i0 (by omega) (by omega)]
            show XT m c s (m (64 + 5 * c) 6 - 1 - (i + 1)).toNat g = _
            rw [show (m (64 + 5 * c) 6 - 1 - (i + 1)).toNat = r by omega]
          have e2 := hro n (by omega) (by omega)
          have e3 : (if b = -1 then 1000 else XRo (zpm m (XGa m c s) (m 1 1) (m (64 + 5 * c) 6 - 1) i h) i b) = (if b = -1 then 1000 else XT m c s r b) := by
            by_cases hb1 : b = -1
            · rw [if_pos hb1, if_pos hb1]
            · rw [if_neg hb1, if_neg hb1, hro b (by omega) (by omega)]
          have e4 : XJ (zpm m (XGa m c s) (m 1 1) (m (64 + 5 * c) 6 - 1) i h) h n ↔ XJ m h n := by unfold XJ; rw [zpm_n (by omega)]
          unfold zstN
          by_cases g1 : (XT m c s r n < (if b = -1 then 1000 else XT m c s r b) ∧ XJ m h n)
          · rw [if_pos g1, if_pos (by rw [e2, e3, e4]; exact g1)]
          · rw [if_neg g1, if_neg (by rw [e2, e3, e4]; exact g1)]
      exact key _ (by omega)
    have e0 : XGa m c s i h = if XOp m c s i h then (if zfd (zstN (XT m c s r) (XJ m h)) (-1) (m 1 1) = -1 then 1000 else (if m (65 + 5 * c) i = h then 0 else 1) + XT m c s r (zfd (zstN (XT m c s r) (XJ m h)) (-1) (m 1 1))) else 1000 := by
      unfold XGa XT
      rw [show (m (64 + 5 * c) 6 - 1 - i).toNat = r + 1 by omega, zTb, show m (64 + 5 * c) 6 - 1 - ((r + 1 : Nat) : Int) = i by omega]
    have hb := zfd_in (f := zstN (XT m c s r) (XJ m h)) (zstN_two _ _) (i := m 1 1) n0
    have hN2 : XNx (XPm m c s i h) i h (XPm m c s i h 1 1) = zfd (zstN (XT m c s r) (XJ m h)) (-1) (m 1 1) := (congrArg (fun q => XNx (XPm m c s i h) i h q) (congrFun a3 1)).trans hN
    rw [e0, hN2]
    generalize hbz : zfd (zstN (XT m c s r) (XJ m h)) (-1) (m 1 1) = bb at hb
    by_cases hc : XCn m c s i h
    · rw [if_pos (eC.mpr hc), if_neg (fun g => hl (b1.mp g)), if_pos (show XOp m c s i h by unfold XCn at hc; unfold XOp; omega)]
      by_cases hb1 : bb = -1
      · rw [if_pos hb1, if_pos hb1]
      · rw [if_neg hb1, if_neg hb1]
        have e9 : XRo (XPm m c s i h) i bb = XT m c s r bb := by
          rw [show XRo (XPm m c s i h) i bb = XGa m c s (i + 1) bb from zpm_g (by omega) (by omega) n1 i0 (by omega) (by omega)]
          show XT m c s (m (64 + 5 * c) 6 - 1 - (i + 1)).toNat _ = _
          rw [show (m (64 + 5 * c) 6 - 1 - (i + 1)).toNat = r by omega]
        rw [e9]
        by_cases hw1 : m (65 + 5 * c) i = h
        · rw [if_pos (b2.mpr hw1), if_pos hw1]
        · rw [if_neg (fun g => hw1 (b2.mp g)), if_neg hw1]
    · rw [if_neg (fun g => hc (eC.mp g)), if_neg (by intro g; apply hc; unfold XOp at g; unfold XCn; omega)]
