theorem zpm_v {m : zmem} {G : Int → Int → Int} {nh last i h g k : Int} (g0 : 0 ≤ g) (g1 : g < nh) (g2 : nh ≤ 12) (i0 : 0 ≤ k) (i1 : k ≤ last) (hk : i < k ∨ (i = k ∧ g < h)) : zpm m G nh last i h 52 (g + 12 * k) = G k g := by
  unfold zpm
  rw [if_pos (by omega), show (g + 12 * k) / 12 = k by omega, show (g + 12 * k) % 12 = g by omega]
/-- what a chain's methods need, over notes -/
theorem zag_f {m1 m : zmem} (ha : zag m1 m) {p : Int} (h1 : p ≠ 52) (h2 : p ≠ 53) (b : Int) : m1 p b = m p b := congrFun (ha p h1 h2) b
theorem t_lpc {L d : Nat} {m : zmem} {c : Int} (c0 : 0 ≤ c) (c1 : c < 40) (f0 : 0 ≤ m (64 + 5 * c) 5) (f1 : m (64 + 5 * c) 5 ≤ 39) (l0 : 1 ≤ m (64 + 5 * c) 6) (l1 : m (64 + 5 * c) 6 ≤ 7) (l2 : m (64 + 5 * c) 5 + m (64 + 5 * c) 6 ≤ 40) (n0 : 0 ≤ m 1 1) (n1 : m 1 1 ≤ 12) (hw : ∀ k, 0 ≤ k → k < m (64 + 5 * c) 6 → 0 ≤ m (65 + 5 * c) k ∧ m (65 + 5 * c) k < m 1 1) (hf : ∀ h k, 0 ≤ h → h < 12 → 0 ≤ k → k < 120 → 0 ≤ m (4 + 4 * h) k ∧ m (4 + 4 * h) k ≤ 9) {s i h : Int} (i0 : 0 ≤ i) (i1 : i < m (64 + 5 * c) 6) (h0 : 0 ≤ h) (h1 : h < m 1 1) : zF L (d + 3) 38 [.inr (.inl (some 51)), .inr (.inl (some (64 + 5 * c))), .inl s, .inl i, .inl h] (XPm m c s i h) (some (.inl (XGa m c s i h))) (XPm m c s i h) := by
  have ha : zag (XPm m c s i h) m := zpm_ag
  have e := XLp_T (L := L) (s := s) c0 c1 f0 f1 l0 l1 l2 n0 n1 hw hf i0 i1 h0 h1
  rw [← e]
  refine t_leastParting c0 c1 (by rw [zag_f ha (by omega) (by omega)]; exact f0) (by rw [zag_f ha (by omega) (by omega)]; exact f1) (by rw [zag_f ha (by omega) (by omega)]; exact l0) (by rw [zag_f ha (by omega) (by omega)]; exact l1) (by rw [zag_f ha (by omega) (by omega), zag_f ha (by omega) (by omega)]; exact l2) (by rw [zag_f ha (by omega) (by omega)]; exact n0) (by rw [zag_f ha (by omega) (by omega)]; exact n1) (fun k a b => by rw [zag_f ha (by omega) (by omega)] at b; rw [zag_f ha (by omega) (by omega), zag_f ha (by omega) (by omega)]; exact hw k a b) (fun g k a b e f => by rw [zag_f ha (by omega) (by omega)]; exact hf g k a b e f) i0 (by rw [zag_f ha (by omega) (by omega)]; exact i1) h0 (by rw [zag_f ha (by omega) (by omega)]; exact h1) (fun g g0 g1 g2 => ?_)
  rw [zag_f ha (by omega) (by omega)] at g1 g2
  have e9 : XRo (XPm m c s i h) i g = XGa m c s (i + 1) g := zpm_g g0 g1 n1 i0 (by omega) (by omega)
  rw [e9]
  have hb := zTb_b n0 (J := XJ m) (Op := XOp m c s) (wy := m (65 + 5 * c)) (last := m (64 + 5 * c) 6 - 1) (m (64 + 5 * c) 6 - 1 - (i + 1)).toNat g (by omega)
  show 0 ≤ zTb _ _ _ _ _ _ _ ∧ zTb _ _ _ _ _ _ _ ≤ 1000
  omega
theorem l_findh {L d : Nat} {m : zmem} {c : Int} (c0 : 0 ≤ c) (c1 : c < 40) (f0 : 0 ≤ m (64 + 5 * c) 5) (f1 : m (64 + 5 * c) 5 ≤ 39) (l0 : 1 ≤ m (64 + 5 * c) 6) (l1 : m (64 + 5 * c) 6 ≤ 7) (l2 : m (64 + 5 * c) 5 + m (64 + 5 * c) 6 ≤ 40) (n0 : 0 ≤ m 1 1) (n1 : m 1 1 ≤ 12) (hw : ∀ k, 0 ≤ k → k < m (64 + 5 * c) 6 → 0 ≤ m (65 + 5 * c) k ∧ m (65 + 5 * c) k < m 1 1) (hf : ∀ h k, 0 ≤ h → h < 12 → 0 ≤ k → k < 120 → 0 ≤ m (4 + 4 * h) k ∧ m (4 + 4 * h) k ≤ 9) {s a i : Int} (i0 : 0 ≤ i) (i1 : i < m (64 + 5 * c) 6) {Q : Option zV → zM → Prop} (hx : zR (d + 4) 37 64 [some (.inr (.inl (some 51))), some (.inr (.inl (some (64 + 5 * c)))), some (.inl s), some (.inl a), some (.inl i), some (.inl (m 1 1))] [] (zem L (XPm m c s i (m 1 1))) Q) : ∀ (n : Nat) (h : Int), 0 ≤ h → h + n = m 1 1 → zR (d + 4) 37 23 [some (.inr (.inl (some 51))), some (.inr (.inl (some (64 + 5 * c)))), some (.inl s), some (.inl a), some (.inl i), some (.inl h)] [] (zem L (XPm m c s i h)) Q := by
  intro n
  induction n with
  | zero =>
    intro h hh hn
    have ei : h = m 1 1 := by omega
    rw [ei]
    refine r_iload f37_23 rfl ?_
    refine r_aload_n f37_25 rfl ?_
    refine r_getR f37_26 o37 F5_18 g51_0 rfl ?_
    refine r_getI f37_29 o37 F5_34 g1_1 rfl ?_
    refine r_top (e := m 1 1) (congrFun (zpm_n (by omega)) _) ?_
    refine r_cge f37_32 (t := 64) (by decide) (fun _ => ?_) (fun h => absurd (by omega) h)
    exact hx
  | succ n ih =>
    intro h hh hn
    refine r_iload f37_23 rfl ?_
    refine r_aload_n f37_25 rfl ?_
    refine r_getR f37_26 o37 F5_18 g51_0 rfl ?_
    refine r_getI f37_29 o37 F5_34 g1_1 rfl ?_
    refine r_top (e := m 1 1) (congrFun (zpm_n (by omega)) _) ?_
    refine r_cge f37_32 (t := 64) (by decide) (fun h => absurd h (by omega)) (fun _ => ?_)
    refine r_aload_n f37_35 rfl ?_
    refine r_getR f37_36 o37 F5_9 g51_1 rfl ?_
    refine r_iload f37_39 rfl ?_
    refine r_bipush f37_41 (by decide) ?_
    refine r_imul f37_43 (e := 12 * i) (by omega) (by omega) (by omega) ?_
    refine r_iload f37_44 rfl ?_
    refine r_iadd f37_46 (e := h + 12 * i) (by omega) (by omega) (by omega) ?_
    refine r_aload_n f37_47 rfl ?_
    refine r_aload_n f37_48 rfl ?_
    refine r_iload_n f37_49 rfl ?_
    refine r_iload f37_50 rfl ?_
    refine r_iload f37_52 rfl ?_
    refine r_callv4i (m' := (XPm m c s i h)) (v := XGa m c s i h) f37_54 o37 M5_39 p38 o38 kd51 rfl (by simp) (t_lpc c0 c1 f0 f1 l0 l1 l2 n0 n1 hw hf i0 i1 hh (by omega)) ?_
    refine r_iast f37_57 kd52 (by omega) (by omega) (by omega) ?_
    refine r_iinc f37_58 rfl rfl rfl (e := h + 1) (by omega) (by omega) (by omega) (ls' := [some (.inr (.inl (some 51))), some (.inr (.inl (some (64 + 5 * c)))), some (.inl s), some (.inl a), some (.inl i), some (.inl (h + 1))]) rfl ?_
    refine r_goto f37_61 (t := 23) (by decide) ?_
    refine r_mem (m1 := XPm m c s i (h + 1)) (zpm_s hh (by omega) n1 i0 (by omega)).symm ?_
    exact ih (h + 1) (by omega) (by omega)
theorem l_findi {L d : Nat} {m : zmem} {c : Int} (c0 : 0 ≤ c) (c1 : c < 40) (f0 : 0 ≤ m (64 + 5 * c) 5) (f1 : m (64 + 5 * c) 5 ≤ 39) (l0 : 1 ≤ m (64 + 5 * c) 6) (l1 : m (64 + 5 * c) 6 ≤ 7) (l2 : m (64 + 5 * c) 5 + m (64 + 5 * c) 6 ≤ 40) (n0 : 0 ≤ m 1 1) (n1 : m 1 1 ≤ 12) (hw : ∀ k, 0 ≤ k → k < m (64 + 5 * c) 6 → 0 ≤ m (65 + 5 * c) k ∧ m (65 + 5 * c) k < m 1 1) (hf : ∀ h k, 0 ≤ h → h < 12 → 0 ≤ k → k < 120 → 0 ≤ m (4 + 4 * h) k ∧ m (4 + 4 * h) k ≤ 9) {s a : Int} (a0 : 0 ≤ a) {Q : Option zV → zM → Prop} (hx : zR (d + 4) 37 70 [some (.inr (.inl (some 51))), some (.inr (.inl (some (64 + 5 * c)))), some (.inl s), some (.inl a), some (.inl (a - 1)), none] [] (zem L (XPm m c s (a - 1) 0)) Q) : ∀ (n : Nat) (i : Int), i + 1 = a + n → i < m (64 + 5 * c) 6 → zR (d + 4) 37 14 [some (.inr (.inl (some 51))), some (.inr (.inl (some (64 + 5 * c)))), some (.inl s), some (.inl a), some (.inl i), none] [] (zem L (XPm m c s i 0)) Q := by
  intro n
  induction n with
  | zero =>
    intro i hn hl
    have ei : i = a - 1 := by omega
    rw [ei]
    refine r_iload f37_14 rfl ?_
    refine r_iload_n f37_16 rfl ?_
    refine r_clt f37_17 (t := 70) (by decide) (fun _ => ?_) (fun h => absurd (by omega) h)
    exact hx
  | succ n ih =>
    intro i hn hl
    refine r_iload f37_14 rfl ?_
    refine r_iload_n f37_16 rfl ?_
    refine r_clt f37_17 (t := 70) (by decide) (fun h => absurd h (by omega)) (fun _ => ?_)
    refine r_iconst f37_20 rfl ?_
    refine r_istore f37_21 rfl (ls' := [some (.inr (.inl (some 51))), some (.inr (.inl (some (64 + 5 * c)))), some (.inl s), some (.inl a), some (.inl i), some (.inl 0)]) rfl ?_
    refine l_findh c0 c1 f0 f1 l0 l1 l2 n0 n1 hw hf (s := s) (a := a) (i := i) (by omega) hl ?_ (m 1 1).toNat 0 (by omega) (by omega)
    refine r_mem (m1 := XPm m c s (i - 1) 0) zpm_r.symm ?_
    refine r_iinc f37_64 rfl rfl rfl (e := i - 1) (by omega) (by omega) (by omega) (ls' := [some (.inr (.inl (some 51))), some (.inr (.inl (some (64 + 5 * c)))), some (.inl s), some (.inl a), some (.inl (i - 1)), some (.inl (m 1 1))]) rfl ?_
    refine r_goto f37_67 (t := 14) (by decide) ?_
    refine r_forget (ls' := [some (.inr (.inl (some 51))), some (.inr (.inl (some (64 + 5 * c)))), some (.inl s), some (.inl a), some (.inl (i - 1)), none]) ⟨Or.inl rfl, ⟨Or.inl rfl, ⟨Or.inl rfl, ⟨Or.inl rfl, ⟨Or.inl rfl, ⟨Or.inr ⟨rfl, rfl⟩, trivial⟩⟩⟩⟩⟩⟩ ?_
    exact ih (i - 1) (by omega) (by omega)
def XPh (m : zmem) (c a : Int) : Nat → Int
  | 0 => m (65 + 5 * c) a
  | k + 1 => if XNx m (a + k) (XPh m c a k) (m 1 1) = -1 then m (65 + 5 * c) (a + k + 1) else XNx m (a + k) (XPh m c a k) (m 1 1)
theorem XPh_in {m : zmem} {c a : Int} (n0 : 0 ≤ m 1 1) (hw : ∀ k, 0 ≤ k → k < m (64 + 5 * c) 6 → 0 ≤ m (65 + 5 * c) k ∧ m (65 + 5 * c) k < m 1 1) (a0 : 0 ≤ a) : ∀ k : Nat, a + k < m (64 + 5 * c) 6 → 0 ≤ XPh m c a k ∧ XPh m c a k < m 1 1
  | 0, h => hw a a0 (by omega)
  | k + 1, h => by
    have hb := zfd_in (f := zstN (XRo m (a + k)) (XJ m (XPh m c a k))) (zstN_two _ _) (i := m 1 1) n0
    unfold XPh
    split
    · exact hw _ (by omega) (by omega)
    · next g =>
      have hb : -1 ≤ XNx m (a + k) (XPh m c a k) (m 1 1) ∧ (XNx m (a + k) (XPh m c a k) (m 1 1) = -1 ∨ XNx m (a + k) (XPh m c a k) (m 1 1) < m 1 1) := hb
      omega
def zfm (m : zmem) (F : Nat → Int) (a i : Int) : zmem := fun p b => if p = 53 ∧ a ≤ b ∧ b < i then F (b - a).toNat else m p b
theorem zfm_n {m : zmem} {F : Nat → Int} {a i p : Int} (hp : ¬ p = 53) : zfm m F a i p = m p := by
  funext b
  unfold zfm
  rw [if_neg (by omega)]
theorem zfm_ag {m : zmem} {F : Nat → Int} {a i : Int} : zag (zfm m F a i) m := fun p _ h2 => zfm_n h2
theorem zfm_s {m : zmem} {F : Nat → Int} {a i v : Int} (hi : a ≤ i) (hv : v = F (i - a).toNat) : zu (zfm m F a i) 53 i v = zfm m F a (i + 1) := by
  funext p b
  rw [zu_if]
  unfold zfm
  by_cases g : p = 53 ∧ b = i
  · rw [if_pos g, if_pos (by omega), hv, g.2]
  · rw [if_neg g]
    by_cases g2 : p = 53 ∧ a ≤ b ∧ b < i
    · rw [if_pos g2, if_pos (by omega)]
    · rw [if_neg g2, if_neg (by omega)]
theorem zfm_0 {m : zmem} {F : Nat → Int} {a : Int} : zfm m F a a = m := by
  funext p b
  unfold zfm
  rw [if_neg (by omega)]
theorem zfm_v {m : zmem} {F : Nat → Int} {a i b : Int} (h0 : a ≤ b) (h1 : b < i) : zfm m F a i 53 b = F (b - a).toNat := by
  unfold zfm
  rw [if_pos ⟨rfl, h0, h1⟩]
theorem l_trace {L d : Nat} {m : zmem} {c : Int} (c0 : 0 ≤ c) (c1 : c < 40) (l0 : 1 ≤ m (64 + 5 * c) 6) (l1 : m (64 + 5 * c) 6 ≤ 7) (n0 : 0 ≤ m 1 1) (n1 : m 1 1 ≤ 12) (hw : ∀ k, 0 ≤ k → k < m (64 + 5 * c) 6 → 0 ≤ m (65 + 5 * c) k ∧ m (65 + 5 * c) k < m 1 1) {a : Int} (a0 : 0 ≤ a) {Q : Option zV → zM → Prop} (hx : zR (d + 2) 41 70 [some (.inr (.inl (some 51))), some (.inr (.inl (some (64 + 5 * c)))), some (.inl a), some (.inl (m (64 + 5 * c) 6)), none] [] (zem L (zfm m (XPh m c a) a (m (64 + 5 * c) 6))) Q) : ∀ (n : Nat) (i : Int), a + 1 ≤ i → i + n = m (64 + 5 * c) 6 → zR (d + 2) 41 16 [some (.inr (.inl (some 51))), some (.inr (.inl (some (64 + 5 * c)))), some (.inl a), some (.inl i), none] [] (zem L (zfm m (XPh m c a) a i)) Q := by
  intro n
  induction n with
  | zero =>
    intro i hi hn
    have ei : i = m (64 + 5 * c) 6 := by omega
    rw [ei]
    refine r_iload_n f41_16 rfl ?_
    refine r_aload_n f41_17 rfl ?_
    refine r_getI f41_18 o41 F5_28 (gC_6 (c := c) (by omega) (by omega)) rfl ?_
    refine r_top (e := m (64 + 5 * c) 6) (congrFun (zfm_n (by omega)) _) ?_
    refine r_cge f41_21 (t := 70) (by decide) (fun _ => ?_) (fun h => absurd (by omega) h)
    exact hx
  | succ n ih =>
    intro i hi hn
    have hr := XPh_in n0 hw a0 (i - 1 - a).toNat (by omega)
    have hx9 : XNx (zfm m (XPh m c a) a i) (i - 1) (XPh m c a (i - 1 - a).toNat) (zfm m (XPh m c a) a i 1 1) = XNx m (i - 1) (XPh m c a (i - 1 - a).toNat) (m 1 1) := by
      rw [show zfm m (XPh m c a) a i 1 1 = m 1 1 from congrFun (zfm_n (by omega)) _]
      exact XNx_c hr.1 zfm_ag (fun g g0 g1 => by unfold XRo; rw [zfm_n (by omega)])
    have hs : XPh m c a (i - a).toNat = if XNx m (i - 1) (XPh m c a (i - 1 - a).toNat) (m 1 1) = -1 then m (65 + 5 * c) i else XNx m (i - 1) (XPh m c a (i - 1 - a).toNat) (m 1 1) := by
      rw [show (i - a).toNat = (i - 1 - a).toNat + 1 by omega, XPh, show a + ((i - 1 - a).toNat : Int) = i - 1 by omega, show i - 1 + 1 = i by omega]
    refine r_iload_n f41_16 rfl ?_
    refine r_aload_n f41_17 rfl ?_
    refine r_getI f41_18 o41 F5_28 (gC_6 (c := c) (by omega) (by omega)) rfl ?_
    refine r_top (e := m (64 + 5 * c) 6) (congrFun (zfm_n (by omega)) _) ?_
    refine r_cge f41_21 (t := 70) (by decide) (fun h => absurd h (by omega)) (fun _ => ?_)
    refine r_aload_n f41_24 rfl ?_
    refine r_iload_n f41_25 rfl ?_
    refine r_iconst f41_26 rfl ?_
    refine r_isub f41_27 (e := i - 1) (by omega) (by omega) (by omega) ?_
    refine r_aload_n f41_28 rfl ?_
    refine r_getR f41_29 o41 F5_15 g51_2 rfl ?_
    refine r_iload_n f41_32 rfl ?_
    refine r_iconst f41_33 rfl ?_
    refine r_isub f41_34 (e := i - 1) (by omega) (by omega) (by omega) ?_
    refine r_iald f41_35 kd53 (by omega) (by omega) ?_
    refine r_top (e := XPh m c a (i - 1 - a).toNat) (zfm_v (by omega) (by omega)) ?_
    refine r_callv2i (m' := (zfm m (XPh m c a) a i)) (v := XNx m (i - 1) (XPh m c a (i - 1 - a).toNat) (m 1 1)) f41_36 o41 M5_54 p40 o40 kd51 rfl (by simp) (by rw [← hx9]; exact t_leastNext (m := zfm m (XPh m c a) a i) (by rw [zfm_n (by omega)]; exact n0) (by rw [zfm_n (by omega)]; exact n1) (by omega) (by omega) (by omega) (by omega)) ?_
    refine r_istore f41_39 rfl (ls' := [some (.inr (.inl (some 51))), some (.inr (.inl (some (64 + 5 * c)))), some (.inl a), some (.inl i), some (.inl (XNx m (i - 1) (XPh m c a (i - 1 - a).toNat) (m 1 1)))]) rfl ?_
    refine r_aload_n f41_41 rfl ?_
    refine r_getR f41_42 o41 F5_15 g51_2 rfl ?_
    refine r_iload_n f41_45 rfl ?_
    refine r_iload f41_46 rfl ?_
    refine r_iconst f41_48 rfl ?_
    refine r_cne f41_49 (t := 61) (by decide) (fun q1 => ?_) (fun q1 => ?_)
    · refine r_iload f41_61 rfl ?_
      refine r_iast f41_63 kd53 (by omega) (by omega) (by omega) ?_
      refine r_iinc f41_64 rfl rfl rfl (e := i + 1) (by omega) (by omega) (by omega) (ls' := [some (.inr (.inl (some 51))), some (.inr (.inl (some (64 + 5 * c)))), some (.inl a), some (.inl (i + 1)), some (.inl (XNx m (i - 1) (XPh m c a (i - 1 - a).toNat) (m 1 1)))]) rfl ?_
      refine r_goto f41_67 (t := 16) (by decide) ?_
      refine r_mem (m1 := zfm m (XPh m c a) a (i + 1)) (zfm_s (by omega) (by rw [hs, if_neg (by omega)])).symm ?_
      refine r_forget (ls' := [some (.inr (.inl (some 51))), some (.inr (.inl (some (64 + 5 * c)))), some (.inl a), some (.inl (i + 1)), none]) ⟨Or.inl rfl, ⟨Or.inl rfl, ⟨Or.inl rfl, ⟨Or.inl rfl, ⟨Or.inr ⟨rfl, rfl⟩, trivial⟩⟩⟩⟩⟩ ?_
      exact ih (i + 1) (by omega) (by omega)
    · refine r_aload_n f41_52 rfl ?_
      refine r_getR f41_53 o41 F5_43 (gC_0 (c := c) (by omega) (by omega)) rfl ?_
      refine r_iload_n f41_56 rfl ?_
      refine r_iald f41_57 (kdC1 (c := c) (by omega) (by omega)) (by omega) (by omega) ?_
      refine r_top (e := m (65 + 5 * c) i) (congrFun (zfm_n (by omega)) _) ?_
      refine r_goto f41_58 (t := 63) (by decide) ?_
      refine r_iast f41_63 kd53 (by omega) (by omega) (by omega) ?_
      refine r_iinc f41_64 rfl rfl rfl (e := i + 1) (by omega) (by omega) (by omega) (ls' := [some (.inr (.inl (some 51))), some (.inr (.inl (some (64 + 5 * c)))), some (.inl a), some (.inl (i + 1)), some (.inl (XNx m (i - 1) (XPh m c a (i - 1 - a).toNat) (m 1 1)))]) rfl ?_
      refine r_goto f41_67 (t := 16) (by decide) ?_
      refine r_mem (m1 := zfm m (XPh m c a) a (i + 1)) (zfm_s (by omega) (by rw [hs, if_pos (by omega)])).symm ?_
      refine r_forget (ls' := [some (.inr (.inl (some 51))), some (.inr (.inl (some (64 + 5 * c)))), some (.inl a), some (.inl (i + 1)), none]) ⟨Or.inl rfl, ⟨Or.inl rfl, ⟨Or.inl rfl, ⟨Or.inl rfl, ⟨Or.inr ⟨rfl, rfl⟩, trivial⟩⟩⟩⟩⟩ ?_
      exact ih (i + 1) (by omega) (by omega)
theorem t_trace {L d : Nat} {m : zmem} {c : Int} (c0 : 0 ≤ c) (c1 : c < 40) (l0 : 1 ≤ m (64 + 5 * c) 6) (l1 : m (64 + 5 * c) 6 ≤ 7) (n0 : 0 ≤ m 1 1) (n1 : m 1 1 ≤ 12) (hw : ∀ k, 0 ≤ k → k < m (64 + 5 * c) 6 → 0 ≤ m (65 + 5 * c) k ∧ m (65 + 5 * c) k < m 1 1) {a : Int} (a0 : 0 ≤ a) (a1 : a < m (64 + 5 * c) 6) : zF L (d + 2) 41 [.inr (.inl (some 51)), .inr (.inl (some (64 + 5 * c))), .inl a] m none (zfm m (XPh m c a) a (m (64 + 5 * c) 6)) := by
  refine zF_of n41 (ls := [some (.inr (.inl (some 51))), some (.inr (.inl (some (64 + 5 * c)))), some (.inl a), none, none]) rfl ?_
  refine r_aload_n f41_0 rfl ?_
  refine r_getR f41_1 o41 F5_15 g51_2 rfl ?_
  refine r_iload_n f41_4 rfl ?_
  refine r_aload_n f41_5 rfl ?_
  refine r_getR f41_6 o41 F5_43 (gC_0 (c := c) (by omega) (by omega)) rfl ?_
  refine r_iload_n f41_9 rfl ?_
  refine r_iald f41_10 (kdC1 (c := c) (by omega) (by omega)) (by omega) (by omega) ?_
  refine r_iast f41_11 kd53 (by omega) (by omega) (by omega) ?_
  refine r_iload_n f41_12 rfl ?_
  refine r_iconst f41_13 rfl ?_
  refine r_iadd f41_14 (e := a + 1) (by omega) (by omega) (by omega) ?_
  refine r_istore_n f41_15 rfl (ls' := [some (.inr (.inl (some 51))), some (.inr (.inl (some (64 + 5 * c)))), some (.inl a), some (.inl (a + 1)), none]) rfl ?_
  refine r_mem (m1 := zfm m (XPh m c a) a (a + 1)) ((zfm_s (v := m (65 + 5 * c) a) (by omega) (by rw [show (a - a).toNat = 0 by omega, XPh])).symm.trans (by rw [zfm_0])) ?_
  refine l_trace c0 c1 l0 l1 n0 n1 hw a0 ?_ (m (64 + 5 * c) 6 - a - 1).toNat (a + 1) (by omega) (by omega)
  exact r_vret f41_70 v41 ⟨rfl, rfl⟩

abbrev XFv (m : zmem) (c s a : Int) : Int := XGa m c s a (m (65 + 5 * c) a)
abbrev XFn (m : zmem) (c s a : Int) : zmem := XPm m c s (a - 1) 0
abbrev XFo (m : zmem) (c s a : Int) : zmem := zfm (XFn m c s a) (XPh (XFn m c s a) c a) a (m (64 + 5 * c) 6)
theorem t_find {L d : Nat} {m : zmem} {c : Int} (c0 : 0 ≤ c) (c1 : c < 40) (f0 : 0 ≤ m (64 + 5 * c) 5) (f1 : m (64 + 5 * c) 5 ≤ 39) (l0 : 1 ≤ m (64 + 5 * c) 6) (l1 : m (64 + 5 * c) 6 ≤ 7) (l2 : m (64 + 5 * c) 5 + m (64 + 5 * c) 6 ≤ 40) (n0 : 0 ≤ m 1 1) (n1 : m 1 1 ≤ 12) (hw : ∀ k, 0 ≤ k → k < m (64 + 5 * c) 6 → 0 ≤ m (65 + 5 * c) k ∧ m (65 + 5 * c) k < m 1 1) (hf : ∀ h k, 0 ≤ h → h < 12 → 0 ≤ k → k < 120 → 0 ≤ m (4 + 4 * h) k ∧ m (4 + 4 * h) k ≤ 9) {s a : Int} (ha0 : a = if s < 0 then 0 else s) (a0 : 0 ≤ a) (a1 : a < m (64 + 5 * c) 6) : zF L (d + 4) 37 [.inr (.inl (some 51)), .inr (.inl (some (64 + 5 * c))), .inl s] m (some (.inl (if 1000 ≤ XFv m c s a then -1 else XFv m c s a))) (if 1000 ≤ XFv m c s a then XFn m c s a else XFo m c s a) := by
  have ha : zag (XFn m c s a) m := zpm_ag
  have w0 := hw a a0 a1
  have hx8 : zfm (XFn m c s a) (XPh (XFn m c s a) c a) a (XFn m c s a (64 + 5 * c) 6) = XFo m c s a := by rw [zag_f ha (by omega) (by omega)]
  refine zF_of n37 (ls := [some (.inr (.inl (some 51))), some (.inr (.inl (some (64 + 5 * c)))), some (.inl s), none, none, none]) rfl ?_
  refine r_iload_n f37_0 rfl ?_
  refine r_iconst f37_1 rfl ?_
  refine r_max f37_2 o37 M5_22 (by simp) ?_
  refine r_top (e := a) ha0.symm ?_
  refine r_istore_n f37_5 rfl (ls' := [some (.inr (.inl (some 51))), some (.inr (.inl (some (64 + 5 * c)))), some (.inl s), some (.inl a), none, none]) rfl ?_
  refine r_aload_n f37_6 rfl ?_
  refine r_getI f37_7 o37 F5_28 (gC_6 (c := c) (by omega) (by omega)) rfl ?_
  refine r_iconst f37_10 rfl ?_
  refine r_isub f37_11 (e := m (64 + 5 * c) 6 - 1) (by omega) (by omega) (by omega) ?_
  refine r_istore f37_12 rfl (ls' := [some (.inr (.inl (some 51))), some (.inr (.inl (some (64 + 5 * c)))), some (.inl s), some (.inl a), some (.inl (m (64 + 5 * c) 6 - 1)), none]) rfl ?_
  refine r_mem (m1 := XPm m c s (m (64 + 5 * c) 6 - 1) 0) zpm_0 ?_
  refine l_findi c0 c1 f0 f1 l0 l1 l2 n0 n1 hw hf a0 ?_ (m (64 + 5 * c) 6 - a).toNat (m (64 + 5 * c) 6 - 1) (by omega) (by omega)
  refine r_aload_n f37_70 rfl ?_
  refine r_getR f37_71 o37 F5_9 g51_1 rfl ?_
  refine r_iload_n f37_74 rfl ?_
  refine r_bipush f37_75 (by decide) ?_
  refine r_imul f37_77 (e := 12 * a) (by omega) (by omega) (by omega) ?_
  refine r_aload_n f37_78 rfl ?_
  refine r_getR f37_79 o37 F5_43 (gC_0 (c := c) (by omega) (by omega)) rfl ?_
  refine r_iload_n f37_82 rfl ?_
  refine r_iald f37_83 (kdC1 (c := c) (by omega) (by omega)) (by omega) (by omega) ?_
  refine r_top (e := m (65 + 5 * c) a) (congrFun (zpm_n (by omega)) _) ?_
  refine r_iadd f37_84 (e := 12 * a + m (65 + 5 * c) a) (by omega) (by omega) (by omega) ?_
  refine r_iald f37_85 kd52 (by omega) (by omega) ?_
  refine r_top (e := XFv m c s a) ((congrArg (XPm m c s (a - 1) 0 52) (show _ = m (65 + 5 * c) a + 12 * a by omega)).trans (zpm_v (by omega) (by omega) n1 a0 (by omega) (by omega))) ?_
  refine r_istore f37_86 rfl (ls' := [some (.inr (.inl (some 51))), some (.inr (.inl (some (64 + 5 * c)))), some (.inl s), some (.inl a), some (.inl (XFv m c s a)), none]) rfl ?_
  refine r_iload f37_88 rfl ?_
  refine r_sipush f37_90 (by decide) ?_
  refine r_clt f37_93 (t := 98) (by decide) (fun q1 => ?_) (fun q1 => ?_)
  · refine r_aload_n f37_98 rfl ?_
    refine r_aload_n f37_99 rfl ?_
    refine r_iload_n f37_100 rfl ?_
    refine r_callv2u (m' := (XFo m c s a)) f37_101 o37 M5_46 p41 o41 kd51 rfl (by simp) (by rw [← hx8]; exact t_trace (m := XFn m c s a) c0 c1 (by rw [zag_f ha (by omega) (by omega)]; exact l0) (by rw [zag_f ha (by omega) (by omega)]; exact l1) (by rw [zag_f ha (by omega) (by omega)]; exact n0) (by rw [zag_f ha (by omega) (by omega)]; exact n1) (fun k a b => by rw [zag_f ha (by omega) (by omega)] at b; rw [zag_f ha (by omega) (by omega), zag_f ha (by omega) (by omega)]; exact hw k a b) a0 (by rw [zag_f ha (by omega) (by omega)]; exact a1)) ?_
    refine r_iload f37_104 rfl ?_
    exact r_iret f37_106 v37 ⟨zs_eq (by rw [if_neg (by omega)]), by rw [if_neg (by omega)]⟩
  · refine r_iconst f37_96 rfl ?_
    exact r_iret f37_97 v37 ⟨zs_eq (by rw [if_pos (by omega)]), by rw [if_pos (by omega)]⟩

