/-- a call of the class and the same call of the model answer alike, and stay alike -/
def zPr (L jx jm : Nat) (as : List zV) (T : Int) (m : zmem) : Prop := ∃ (v : zV) (m1 m2 : zmem), zF L 8 jx (.inr (.inl (some 0)) :: as) m (some v) m1 ∧ zF L 8 jm (.inr (.inl (some 264)) :: as) m1 (some v) m2 ∧ Sim (T + 9) m2 m2
theorem zPr_of {L jx jm : Nat} {as : List zV} {T : Int} {m X M : zmem} {vx : Int} (hx : zF L 8 jx (.inr (.inl (some 0)) :: as) m (some (.inl vx)) X) (hX : zan X m) (hm : ∀ m1, zan m1 m → ∃ vm m2, zF L 8 jm (.inr (.inl (some 264)) :: as) m1 (some (.inl vm)) m2 ∧ vm = vx ∧ zac m2 m1 ∧ zan m2 M) (hs : Sim (T + 9) X M) : zPr L jx jm as T m := by
  obtain ⟨vm, m2, h1, h2, h3, h4⟩ := hm X hX
  subst h2
  exact ⟨_, X, m2, hx, h1, Sim_g hs h3 h4⟩
/-- facts of a chain, all at one place -/
theorem Sim_ch {T : Int} {a b : zmem} (hs : Sim T a b) (c : Int) (c0 : 0 ≤ c) (c1 : c < 40) : (a (64 + 5 * c) 4 = b 271 c ∧ a (64 + 5 * c) 5 = b 272 c ∧ a (64 + 5 * c) 6 = b 273 c ∧ a (64 + 5 * c) 7 = b 275 c ∧ a (64 + 5 * c) 8 = b 279 c) ∧ (0 ≤ b 272 c ∧ b 272 c ≤ 39) ∧ (0 ≤ b 273 c ∧ b 273 c ≤ 7) := by
  have g := hs.s5 c c0 c1
  omega
theorem Sim_hl {T : Int} {a b : zmem} (hs : Sim T a b) (c : Int) (c0 : 0 ≤ c) (c1 : c < 40) (k : Int) (k0 : 0 ≤ k) (k1 : k < 21) : 0 ≤ a (66 + 5 * c) k ∧ a (66 + 5 * c) k ≤ 9 := by
  have g := hs.s9 c c0 c1 (k / 3) (by omega) (by omega)
  have q0 := hs.s14.2.2 (21 * c + 3 * (k / 3)) (by omega) (by omega)
  have q1 := hs.s14.2.2 (21 * c + 3 * (k / 3) + 1) (by omega) (by omega)
  have q2 := hs.s14.2.2 (21 * c + 3 * (k / 3) + 2) (by omega) (by omega)
  rcases (show k = 3 * (k / 3) ∨ k = 3 * (k / 3) + 1 ∨ k = 3 * (k / 3) + 2 by omega) with r | r | r
  · rw [r]; omega
  · rw [r]; omega
  · rw [r]; omega
theorem Sim_la {T : Int} {a b : zmem} (hs : Sim T a b) (c : Int) (c0 : 0 ≤ c) (c1 : c < b 264 10) (k : Int) (k0 : 0 ≤ k) (k1 : k < 7) : XL a c k ↔ ¬ b 276 (7 * c + k) = 0 := by
  have s1 := hs.s1
  unfold S1 at s1
  have g := hs.s9 c c0 (by omega) k k0 k1
  have g5 := hs.s5 c c0 (by omega)
  unfold XL
  rcases g.1 with e | e
  · have g2 := g.2.1 e
    omega
  · have g2 := g.2.2 e
    omega
theorem pr_house {L : Nat} {T : Int} {m : zmem} (hs : Sim T m m) (x y z u : Int) : zPr L 43 89 [.inl x, .inl y, .inl z, .inl u] T m := by
  have s1 := hs.s1
  unfold S1 at s1
  by_cases hg : Ghs x y z u
  · by_cases hf : 12 ≤ m 264 0
    · have gx := t_Xhouse (L := L) (d := 6) (m := m) (by omega) (by omega) x y z u
      (repeat (first | rw [if_pos (by omega)] at gx | rw [if_neg (by omega)] at gx))
      refine zPr_of gx (by (repeat (first | exact zan_rf _ | refine zan_x ?_ (by omega) | refine zan_fu ?_ (by omega)))) (fun m1 ha => ?_) (Sim_T hs (by omega))
      have gm := t_Mhouse (L := L) (d := 6) ha (by omega) (by omega) x y z u
      (repeat (first | rw [if_pos (by omega)] at gm | rw [if_neg (by omega)] at gm))
      exact ⟨_, _, gm, by omega, (by (repeat (first | exact zac_rf _ | refine zac_u ?_ (by omega)))), (by (repeat (first | exact ha | refine zan_w ?_)))⟩
    · have gx := t_Xhouse (L := L) (d := 6) (m := m) (by omega) (by omega) x y z u
      (repeat (first | rw [if_pos (by omega)] at gx | rw [if_neg (by omega)] at gx))
      refine zPr_of gx (by unfold XBu; (repeat (first | exact zan_rf _ | refine zan_x ?_ (by omega) | refine zan_fu ?_ (by omega)))) (fun m1 ha => ?_) (sm_house hs (by omega) (by omega) (by omega) (by omega) (by omega) (by omega) (by omega))
      have gm := t_Mhouse (L := L) (d := 6) ha (by omega) (by omega) x y z u
      (repeat (first | rw [if_pos (by omega)] at gm | rw [if_neg (by omega)] at gm))
      exact ⟨_, _, gm, by omega, (by (repeat (first | exact zac_rf _ | refine zac_u ?_ (by omega)))), (by unfold MBu; (repeat (first | exact ha | refine zan_w ?_)))⟩
  · have gx := t_Xhouse (L := L) (d := 6) (m := m) (by omega) (by omega) x y z u
    (repeat (first | rw [if_pos (by omega)] at gx | rw [if_neg (by omega)] at gx))
    refine zPr_of gx (by (repeat (first | exact zan_rf _ | refine zan_x ?_ (by omega) | refine zan_fu ?_ (by omega)))) (fun m1 ha => ?_) (Sim_T hs (by omega))
    have gm := t_Mhouse (L := L) (d := 6) ha (by omega) (by omega) x y z u
    (repeat (first | rw [if_pos (by omega)] at gm | rw [if_neg (by omega)] at gm))
    exact ⟨_, _, gm, by omega, (by (repeat (first | exact zac_rf _ | refine zac_u ?_ (by omega)))), (by (repeat (first | exact ha | refine zan_w ?_)))⟩
theorem pr_stage {L : Nat} {T : Int} {m : zmem} (hs : Sim T m m) (x y z : Int) : zPr L 44 90 [.inl x, .inl y, .inl z] T m := by
  have s1 := hs.s1
  unfold S1 at s1
  have k4 : 0 ≤ x → x < 12 → 0 ≤ y → y < 12 → m (6 + 4 * x) y = m 270 (12 * x + y) := fun a b c d => ((hs.s4 x a b).2 y c d).1
  by_cases hg : Gst (m 264 0) x y z (m 270 (12 * x + y))
  · by_cases hf : 40 ≤ m 264 7
    · have gx := t_Xstage (L := L) (d := 6) (m := m) (by omega) (by omega) (by omega) (by omega) x y z
      (repeat (first | rw [if_pos (by omega)] at gx | rw [if_neg (by omega)] at gx))
      refine zPr_of gx (by (repeat (first | exact zan_rf _ | refine zan_x ?_ (by omega) | refine zan_fu ?_ (by omega)))) (fun m1 ha => ?_) (Sim_T hs (by omega))
      have gm := t_Mstage (L := L) (d := 6) ha (by omega) (by omega) (by omega) (by omega) x y z
      (repeat (first | rw [if_pos (by omega)] at gm | rw [if_neg (by omega)] at gm))
      exact ⟨_, _, gm, by omega, (by (repeat (first | exact zac_rf _ | refine zac_u ?_ (by omega)))), (by (repeat (first | exact ha | refine zan_w ?_)))⟩
    · have gx := t_Xstage (L := L) (d := 6) (m := m) (by omega) (by omega) (by omega) (by omega) x y z
      (repeat (first | rw [if_pos (by omega)] at gx | rw [if_neg (by omega)] at gx))
      refine zPr_of gx (by unfold XJn; (repeat (first | exact zan_rf _ | refine zan_x ?_ (by omega) | refine zan_fu ?_ (by omega)))) (fun m1 ha => ?_) (sm_stage hs (by omega) (by omega) (by omega) (by omega) (by omega) (by omega) (by omega) (by omega))
      have gm := t_Mstage (L := L) (d := 6) ha (by omega) (by omega) (by omega) (by omega) x y z
      (repeat (first | rw [if_pos (by omega)] at gm | rw [if_neg (by omega)] at gm))
      exact ⟨_, _, gm, by omega, (by (repeat (first | exact zac_rf _ | refine zac_u ?_ (by omega)))), (by unfold MJn; (repeat (first | exact ha | refine zan_w ?_)))⟩
  · have gx := t_Xstage (L := L) (d := 6) (m := m) (by omega) (by omega) (by omega) (by omega) x y z
    (repeat (first | rw [if_pos (by omega)] at gx | rw [if_neg (by omega)] at gx))
    refine zPr_of gx (by (repeat (first | exact zan_rf _ | refine zan_x ?_ (by omega) | refine zan_fu ?_ (by omega)))) (fun m1 ha => ?_) (Sim_T hs (by omega))
    have gm := t_Mstage (L := L) (d := 6) ha (by omega) (by omega) (by omega) (by omega) x y z
    (repeat (first | rw [if_pos (by omega)] at gm | rw [if_neg (by omega)] at gm))
    exact ⟨_, _, gm, by omega, (by (repeat (first | exact zac_rf _ | refine zac_u ?_ (by omega)))), (by (repeat (first | exact ha | refine zan_w ?_)))⟩
theorem pr_chores {L : Nat} {T : Int} {m : zmem} (hs : Sim T m m) (x y : Int) : zPr L 45 91 [.inl x, .inl y] T m := by
  have s1 := hs.s1
  unfold S1 at s1
  have k2 : 0 ≤ x → x < 12 → m (3 + 4 * x) 4 = m 267 x := fun a b => (hs.s2 x a b).2.1
  by_cases hg : Gch (m 264 0) x y
  · have gx := t_Xchores (L := L) (d := 6) (m := m) (by omega) (by omega) x y
    (repeat (first | rw [if_pos (by omega)] at gx | rw [if_neg (by omega)] at gx))
    refine zPr_of gx (by (repeat (first | exact zan_rf _ | refine zan_x ?_ (by omega) | refine zan_fu ?_ (by omega)))) (fun m1 ha => ?_) (sm_chores hs (by omega) (by omega) (by omega) (by omega))
    have gm := t_Mchores (L := L) (d := 6) ha (by omega) (by omega) x y
    (repeat (first | rw [if_pos (by omega)] at gm | rw [if_neg (by omega)] at gm))
    exact ⟨_, _, gm, by omega, (by (repeat (first | exact zac_rf _ | refine zac_u ?_ (by omega)))), (by (repeat (first | exact ha | refine zan_w ?_)))⟩
  · have gx := t_Xchores (L := L) (d := 6) (m := m) (by omega) (by omega) x y
    (repeat (first | rw [if_pos (by omega)] at gx | rw [if_neg (by omega)] at gx))
    refine zPr_of gx (by (repeat (first | exact zan_rf _ | refine zan_x ?_ (by omega) | refine zan_fu ?_ (by omega)))) (fun m1 ha => ?_) (Sim_T hs (by omega))
    have gm := t_Mchores (L := L) (d := 6) ha (by omega) (by omega) x y
    (repeat (first | rw [if_pos (by omega)] at gm | rw [if_neg (by omega)] at gm))
    exact ⟨_, _, gm, by omega, (by (repeat (first | exact zac_rf _ | refine zac_u ?_ (by omega)))), (by (repeat (first | exact ha | refine zan_w ?_)))⟩
theorem pr_free {L : Nat} {T : Int} {m : zmem} (hs : Sim T m m) (x y z : Int) : zPr L 46 95 [.inl x, .inl y, .inl z] T m := by
  have s1 := hs.s1
  unfold S1 at s1
  have k2 : 0 ≤ x → x < m 264 0 → 0 ≤ y → y < 3 → 0 ≤ z → z < 40 → m (4 + 4 * x) (y + 3 * z) = MF m x y z := fun a b c d e f => by rw [show y + 3 * z = 3 * z + y by omega]; exact (hs.s10 x a (by omega)).2 b y z c d e f
  have k3 : 0 ≤ x → x < m 264 0 → 0 ≤ z → z < 40 → XF m x z = MO m x z := fun a b e f => by
    have g := (hs.s10 x a (by omega)).2 b
    have g0 := g 0 z (by omega) (by omega) e f
    have g1 := g 1 z (by omega) (by omega) e f
    have g2 := g 2 z (by omega) (by omega) e f
    unfold XF MO
    rw [show 3 * z + 0 = 3 * z by omega] at g0
    omega
  by_cases hg : Gfr (m 264 0) x y z
  · by_cases hy : y = -1
    · have gx := t_Xfree (L := L) (d := 6) (m := m) (by omega) (by omega) (fun h k a b c d => (hs.s10 h a b).1 k c d) x y z
      (repeat (first | rw [if_pos (by omega)] at gx | rw [if_neg (by omega)] at gx))
      refine zPr_of gx (by (repeat (first | exact zan_rf _ | refine zan_x ?_ (by omega) | refine zan_fu ?_ (by omega)))) (fun m1 ha => ?_) (Sim_T hs (by omega))
      have gm := t_Mfree (L := L) (d := 4) ha (by omega) (by omega) (Sim_ok hs) (Sim_rng hs) x y z
      (repeat (first | rw [if_pos (by omega)] at gm | rw [if_neg (by omega)] at gm))
      exact ⟨_, _, gm, by omega, (by (repeat (first | exact zac_rf _ | refine zac_u ?_ (by omega)))), (by (repeat (first | exact ha | refine zan_w ?_)))⟩
    · have gx := t_Xfree (L := L) (d := 6) (m := m) (by omega) (by omega) (fun h k a b c d => (hs.s10 h a b).1 k c d) x y z
      (repeat (first | rw [if_pos (by omega)] at gx | rw [if_neg (by omega)] at gx))
      refine zPr_of gx (by (repeat (first | exact zan_rf _ | refine zan_x ?_ (by omega) | refine zan_fu ?_ (by omega)))) (fun m1 ha => ?_) (Sim_T hs (by omega))
      have gm := t_Mfree (L := L) (d := 4) ha (by omega) (by omega) (Sim_ok hs) (Sim_rng hs) x y z
      (repeat (first | rw [if_pos (by omega)] at gm | rw [if_neg (by omega)] at gm))
      exact ⟨_, _, gm, by omega, (by (repeat (first | exact zac_rf _ | refine zac_u ?_ (by omega)))), (by (repeat (first | exact ha | refine zan_w ?_)))⟩
  · have gx := t_Xfree (L := L) (d := 6) (m := m) (by omega) (by omega) (fun h k a b c d => (hs.s10 h a b).1 k c d) x y z
    (repeat (first | rw [if_pos (by omega)] at gx | rw [if_neg (by omega)] at gx))
    refine zPr_of gx (by (repeat (first | exact zan_rf _ | refine zan_x ?_ (by omega) | refine zan_fu ?_ (by omega)))) (fun m1 ha => ?_) (Sim_T hs (by omega))
    have gm := t_Mfree (L := L) (d := 4) ha (by omega) (by omega) (Sim_ok hs) (Sim_rng hs) x y z
    (repeat (first | rw [if_pos (by omega)] at gm | rw [if_neg (by omega)] at gm))
    exact ⟨_, _, gm, by omega, (by (repeat (first | exact zac_rf _ | refine zac_u ?_ (by omega)))), (by (repeat (first | exact ha | refine zan_w ?_)))⟩
theorem pr_isShut {L : Nat} {T : Int} {m : zmem} (hs : Sim T m m) (x y : Int) : zPr L 47 96 [.inl x, .inl y] T m := by
  have s1 := hs.s1
  unfold S1 at s1
  have k2 : 0 ≤ x → x < 12 → 0 ≤ y → y < 40 → m (5 + 4 * x) y = m 268 (40 * x + y) := fun a b c d => (hs.s3 x a b y c d).1
  by_cases hg : Gis (m 264 0) x y
  · by_cases hy : m 268 (40 * x + y) = 0
    · have gx := t_XisShut (L := L) (d := 6) (m := m) (by omega) (by omega) x y
      (repeat (first | rw [if_pos (by omega)] at gx | rw [if_neg (by omega)] at gx))
      refine zPr_of gx (by (repeat (first | exact zan_rf _ | refine zan_x ?_ (by omega) | refine zan_fu ?_ (by omega)))) (fun m1 ha => ?_) (Sim_T hs (by omega))
      have gm := t_MisShut (L := L) (d := 6) ha (by omega) (by omega) x y
      (repeat (first | rw [if_pos (by omega)] at gm | rw [if_neg (by omega)] at gm))
      exact ⟨_, _, gm, by omega, (by (repeat (first | exact zac_rf _ | refine zac_u ?_ (by omega)))), (by (repeat (first | exact ha | refine zan_w ?_)))⟩
    · have gx := t_XisShut (L := L) (d := 6) (m := m) (by omega) (by omega) x y
      (repeat (first | rw [if_pos (by omega)] at gx | rw [if_neg (by omega)] at gx))
      refine zPr_of gx (by (repeat (first | exact zan_rf _ | refine zan_x ?_ (by omega) | refine zan_fu ?_ (by omega)))) (fun m1 ha => ?_) (Sim_T hs (by omega))
      have gm := t_MisShut (L := L) (d := 6) ha (by omega) (by omega) x y
      (repeat (first | rw [if_pos (by omega)] at gm | rw [if_neg (by omega)] at gm))
      exact ⟨_, _, gm, by omega, (by (repeat (first | exact zac_rf _ | refine zac_u ?_ (by omega)))), (by (repeat (first | exact ha | refine zan_w ?_)))⟩
  · have gx := t_XisShut (L := L) (d := 6) (m := m) (by omega) (by omega) x y
    (repeat (first | rw [if_pos (by omega)] at gx | rw [if_neg (by omega)] at gx))
    refine zPr_of gx (by (repeat (first | exact zan_rf _ | refine zan_x ?_ (by omega) | refine zan_fu ?_ (by omega)))) (fun m1 ha => ?_) (Sim_T hs (by omega))
    have gm := t_MisShut (L := L) (d := 6) ha (by omega) (by omega) x y
    (repeat (first | rw [if_pos (by omega)] at gm | rw [if_neg (by omega)] at gm))
    exact ⟨_, _, gm, by omega, (by (repeat (first | exact zac_rf _ | refine zac_u ?_ (by omega)))), (by (repeat (first | exact ha | refine zan_w ?_)))⟩
theorem pr_chain {L : Nat} {T : Int} {m : zmem} (hs : Sim T m m) (x y z : Int) : zPr L 49 100 [.inl x, .inl y, .inl z] T m := by
  have s1 := hs.s1
  unfold S1 at s1
  by_cases hg : Gcn (m 264 0) (m 264 9) x y z
  · by_cases hf : 40 ≤ m 264 10
    · have gx := t_Xchain (L := L) (d := 6) (m := m) (by omega) (by omega) (by omega) (by omega) (by omega) (by omega) x y z
      (repeat (first | rw [if_pos (by omega)] at gx | rw [if_neg (by omega)] at gx))
      refine zPr_of gx (by (repeat (first | exact zan_rf _ | refine zan_x ?_ (by omega) | refine zan_fu ?_ (by omega)))) (fun m1 ha => ?_) (Sim_T hs (by omega))
      have gm := t_Mchain (L := L) (d := 6) ha (by omega) (by omega) (by omega) (by omega) (by omega) (by omega) x y z
      (repeat (first | rw [if_pos (by omega)] at gm | rw [if_neg (by omega)] at gm))
      exact ⟨_, _, gm, by omega, (by (repeat (first | exact zac_rf _ | refine zac_u ?_ (by omega)))), (by (repeat (first | exact ha | refine zan_w ?_)))⟩
    · have gx := t_Xchain (L := L) (d := 6) (m := m) (by omega) (by omega) (by omega) (by omega) (by omega) (by omega) x y z
      (repeat (first | rw [if_pos (by omega)] at gx | rw [if_neg (by omega)] at gx))
      refine zPr_of gx (by unfold XCh; (repeat (first | exact zan_rf _ | refine zan_x ?_ (by omega) | refine zan_fu ?_ (by omega)))) (fun m1 ha => ?_) (sm_chain hs (by omega) (by omega) (by omega) (by omega) (by omega) (by omega) (by omega))
      have gm := t_Mchain (L := L) (d := 6) ha (by omega) (by omega) (by omega) (by omega) (by omega) (by omega) x y z
      (repeat (first | rw [if_pos (by omega)] at gm | rw [if_neg (by omega)] at gm))
      exact ⟨_, _, gm, by omega, (by (repeat (first | exact zac_rf _ | refine zac_u ?_ (by omega)))), (by unfold MCh; (repeat (first | exact ha | refine zan_w ?_)))⟩
  · have gx := t_Xchain (L := L) (d := 6) (m := m) (by omega) (by omega) (by omega) (by omega) (by omega) (by omega) x y z
    (repeat (first | rw [if_pos (by omega)] at gx | rw [if_neg (by omega)] at gx))
    refine zPr_of gx (by (repeat (first | exact zan_rf _ | refine zan_x ?_ (by omega) | refine zan_fu ?_ (by omega)))) (fun m1 ha => ?_) (Sim_T hs (by omega))
    have gm := t_Mchain (L := L) (d := 6) ha (by omega) (by omega) (by omega) (by omega) (by omega) (by omega) x y z
    (repeat (first | rw [if_pos (by omega)] at gm | rw [if_neg (by omega)] at gm))
    exact ⟨_, _, gm, by omega, (by (repeat (first | exact zac_rf _ | refine zac_u ?_ (by omega)))), (by (repeat (first | exact ha | refine zan_w ?_)))⟩
theorem pr_add {L : Nat} {T : Int} {m : zmem} (hs : Sim T m m) (x y : Int) : zPr L 50 101 [.inl x, .inl y] T m := by
  have s1 := hs.s1
  unfold S1 at s1
  have k5 := Sim_ch hs x
  by_cases hg : (0 ≤ x ∧ x < m 264 10) ∧ (0 ≤ y ∧ y < m 264 0) ∧ m 272 x + m 273 x ≤ 39
  · by_cases hz : m 275 x = 0
    · by_cases hf : 7 ≤ m 273 x
      · have gx := t_Xadd (L := L) (d := 6) (m := m) (by omega) (by omega) (by omega) (by omega) (fun c a b => by have g := Sim_ch hs c a b; omega) x y
        (repeat (first | rw [if_pos (by omega)] at gx | rw [if_neg (by omega)] at gx))
        refine zPr_of gx (by (repeat (first | exact zan_rf _ | refine zan_x ?_ (by omega) | refine zan_fu ?_ (by omega)))) (fun m1 ha => ?_) (Sim_T hs (by omega))
        have gm := t_Madd (L := L) (d := 6) ha (by omega) (by omega) (by omega) (by omega) (fun c a b => by have g := Sim_ch hs c a b; omega) x y
        (repeat (first | rw [if_pos (by omega)] at gm | rw [if_neg (by omega)] at gm))
        exact ⟨_, _, gm, by omega, (by (repeat (first | exact zac_rf _ | refine zac_u ?_ (by omega)))), (by (repeat (first | exact ha | refine zan_w ?_)))⟩
      · have gx := t_Xadd (L := L) (d := 6) (m := m) (by omega) (by omega) (by omega) (by omega) (fun c a b => by have g := Sim_ch hs c a b; omega) x y
        (repeat (first | rw [if_pos (by omega)] at gx | rw [if_neg (by omega)] at gx))
        refine zPr_of gx (by unfold XAd; (repeat (first | exact zan_rf _ | refine zan_x ?_ (by omega) | refine zan_fu ?_ (by omega)))) (fun m1 ha => ?_) (sm_add hs (by omega) (by omega) (by omega) (by omega) (by omega) (by omega) (by omega))
        have gm := t_Madd (L := L) (d := 6) ha (by omega) (by omega) (by omega) (by omega) (fun c a b => by have g := Sim_ch hs c a b; omega) x y
        (repeat (first | rw [if_pos (by omega)] at gm | rw [if_neg (by omega)] at gm))
        exact ⟨_, _, gm, by omega, (by (repeat (first | exact zac_rf _ | refine zac_u ?_ (by omega)))), (by unfold MAd; (repeat (first | exact ha | refine zan_w ?_)))⟩
    · have gx := t_Xadd (L := L) (d := 6) (m := m) (by omega) (by omega) (by omega) (by omega) (fun c a b => by have g := Sim_ch hs c a b; omega) x y
      (repeat (first | rw [if_pos (by omega)] at gx | rw [if_neg (by omega)] at gx))
      refine zPr_of gx (by (repeat (first | exact zan_rf _ | refine zan_x ?_ (by omega) | refine zan_fu ?_ (by omega)))) (fun m1 ha => ?_) (Sim_T hs (by omega))
      have gm := t_Madd (L := L) (d := 6) ha (by omega) (by omega) (by omega) (by omega) (fun c a b => by have g := Sim_ch hs c a b; omega) x y
      (repeat (first | rw [if_pos (by omega)] at gm | rw [if_neg (by omega)] at gm))
      exact ⟨_, _, gm, by omega, (by (repeat (first | exact zac_rf _ | refine zac_u ?_ (by omega)))), (by (repeat (first | exact ha | refine zan_w ?_)))⟩
  · have gx := t_Xadd (L := L) (d := 6) (m := m) (by omega) (by omega) (by omega) (by omega) (fun c a b => by have g := Sim_ch hs c a b; omega) x y
    (repeat (first | rw [if_pos (by omega)] at gx | rw [if_neg (by omega)] at gx))
    refine zPr_of gx (by (repeat (first | exact zan_rf _ | refine zan_x ?_ (by omega) | refine zan_fu ?_ (by omega)))) (fun m1 ha => ?_) (Sim_T hs (by omega))
    have gm := t_Madd (L := L) (d := 6) ha (by omega) (by omega) (by omega) (by omega) (fun c a b => by have g := Sim_ch hs c a b; omega) x y
    (repeat (first | rw [if_pos (by omega)] at gm | rw [if_neg (by omega)] at gm))
    exact ⟨_, _, gm, by omega, (by (repeat (first | exact zac_rf _ | refine zac_u ?_ (by omega)))), (by (repeat (first | exact ha | refine zan_w ?_)))⟩
theorem pr_laid {L : Nat} {T : Int} {m : zmem} (hs : Sim T m m) (x y z : Int) : zPr L 57 120 [.inl x, .inl y, .inl z] T m := by
  have s1 := hs.s1
  unfold S1 at s1
  have k5 := Sim_ch hs x
  have k6 : 0 ≤ x → x < 40 → 0 ≤ y → y < 7 → 0 ≤ z → z < 3 → m (66 + 5 * x) (3 * y + z) = if m 276 (7 * x + y) = 0 then 0 else m 277 (21 * x + 3 * y + z) := fun a b c d e f => by
    have g := hs.s9 x a b y c d
    rcases (show z = 0 ∨ z = 1 ∨ z = 2 by omega) with r | r | r
    · subst r; rw [show 3 * y + 0 = 3 * y by omega, show 21 * x + 3 * y + 0 = 21 * x + 3 * y by omega]; split <;> omega
    · subst r; rw [show 3 * y + 1 = 3 * y + 1 by omega, show 21 * x + 3 * y + 1 = 21 * x + 3 * y + 1 by omega]; split <;> omega
    · subst r; rw [show 3 * y + 2 = 3 * y + 2 by omega, show 21 * x + 3 * y + 2 = 21 * x + 3 * y + 2 by omega]; split <;> omega
  by_cases hg : (0 ≤ x ∧ x < m 264 10) ∧ (0 ≤ y ∧ y < m 273 x) ∧ (0 ≤ z ∧ z ≤ 2)
  · by_cases hl : m 276 (7 * x + y) = 0
    · have gx := t_Xlaid (L := L) (d := 6) (m := m) (by omega) (by omega) (fun c a b => by have g := Sim_ch hs c a b; omega) x y z
      (repeat (first | rw [if_pos (by omega)] at gx | rw [if_neg (by omega)] at gx))
      refine zPr_of gx (by (repeat (first | exact zan_rf _ | refine zan_x ?_ (by omega) | refine zan_fu ?_ (by omega)))) (fun m1 ha => ?_) (Sim_T hs (by omega))
      have gm := t_Mlaid (L := L) (d := 6) ha (by omega) (by omega) (fun c a b => by have g := Sim_ch hs c a b; omega) x y z
      (repeat (first | rw [if_pos (by omega)] at gm | rw [if_neg (by omega)] at gm))
      exact ⟨_, _, gm, by omega, (by (repeat (first | exact zac_rf _ | refine zac_u ?_ (by omega)))), (by (repeat (first | exact ha | refine zan_w ?_)))⟩
    · have gx := t_Xlaid (L := L) (d := 6) (m := m) (by omega) (by omega) (fun c a b => by have g := Sim_ch hs c a b; omega) x y z
      (repeat (first | rw [if_pos (by omega)] at gx | rw [if_neg (by omega)] at gx))
      refine zPr_of gx (by (repeat (first | exact zan_rf _ | refine zan_x ?_ (by omega) | refine zan_fu ?_ (by omega)))) (fun m1 ha => ?_) (Sim_T hs (by omega))
      have gm := t_Mlaid (L := L) (d := 6) ha (by omega) (by omega) (fun c a b => by have g := Sim_ch hs c a b; omega) x y z
      (repeat (first | rw [if_pos (by omega)] at gm | rw [if_neg (by omega)] at gm))
      exact ⟨_, _, gm, by omega, (by (repeat (first | exact zac_rf _ | refine zac_u ?_ (by omega)))), (by (repeat (first | exact ha | refine zan_w ?_)))⟩
  · have gx := t_Xlaid (L := L) (d := 6) (m := m) (by omega) (by omega) (fun c a b => by have g := Sim_ch hs c a b; omega) x y z
    (repeat (first | rw [if_pos (by omega)] at gx | rw [if_neg (by omega)] at gx))
    refine zPr_of gx (by (repeat (first | exact zan_rf _ | refine zan_x ?_ (by omega) | refine zan_fu ?_ (by omega)))) (fun m1 ha => ?_) (Sim_T hs (by omega))
    have gm := t_Mlaid (L := L) (d := 6) ha (by omega) (by omega) (fun c a b => by have g := Sim_ch hs c a b; omega) x y z
    (repeat (first | rw [if_pos (by omega)] at gm | rw [if_neg (by omega)] at gm))
    exact ⟨_, _, gm, by omega, (by (repeat (first | exact zac_rf _ | refine zac_u ?_ (by omega)))), (by (repeat (first | exact ha | refine zan_w ?_)))⟩
theorem pr_letter {L : Nat} {T : Int} {m : zmem} (hs : Sim T m m) (x y z : Int) : zPr L 58 121 [.inl x, .inl y, .inl z] T m := by
  have s1 := hs.s1
  unfold S1 at s1
  have k5 := Sim_ch hs x
  by_cases hg : (0 ≤ x ∧ x < m 264 10) ∧ (0 ≤ y ∧ y ≤ 999) ∧ (y ≤ z ∧ z ≤ 999)
  · by_cases hz : m 275 x = 0
    · by_cases hf : 40 ≤ m 264 27
      · have gx := t_Xletter (L := L) (d := 6) (m := m) (by omega) (by omega) (by omega) (by omega) x y z
        (repeat (first | rw [if_pos (by omega)] at gx | rw [if_neg (by omega)] at gx))
        refine zPr_of gx (by (repeat (first | exact zan_rf _ | refine zan_x ?_ (by omega) | refine zan_fu ?_ (by omega)))) (fun m1 ha => ?_) (Sim_T hs (by omega))
        have gm := t_Mletter (L := L) (d := 6) ha (by omega) (by omega) (by omega) (by omega) x y z
        (repeat (first | rw [if_pos (by omega)] at gm | rw [if_neg (by omega)] at gm))
        exact ⟨_, _, gm, by omega, (by (repeat (first | exact zac_rf _ | refine zac_u ?_ (by omega)))), (by (repeat (first | exact ha | refine zan_w ?_)))⟩
      · have gx := t_Xletter (L := L) (d := 6) (m := m) (by omega) (by omega) (by omega) (by omega) x y z
        (repeat (first | rw [if_pos (by omega)] at gx | rw [if_neg (by omega)] at gx))
        refine zPr_of gx (by unfold XLe; (repeat (first | exact zan_rf _ | refine zan_x ?_ (by omega) | refine zan_fu ?_ (by omega)))) (fun m1 ha => ?_) (sm_letter hs (by omega) (by omega) (by omega))
        have gm := t_Mletter (L := L) (d := 6) ha (by omega) (by omega) (by omega) (by omega) x y z
        (repeat (first | rw [if_pos (by omega)] at gm | rw [if_neg (by omega)] at gm))
        exact ⟨_, _, gm, by omega, (by (repeat (first | exact zac_rf _ | refine zac_u ?_ (by omega)))), (by unfold MLe; (repeat (first | exact ha | refine zan_w ?_)))⟩
    · have gx := t_Xletter (L := L) (d := 6) (m := m) (by omega) (by omega) (by omega) (by omega) x y z
      (repeat (first | rw [if_pos (by omega)] at gx | rw [if_neg (by omega)] at gx))
      refine zPr_of gx (by (repeat (first | exact zan_rf _ | refine zan_x ?_ (by omega) | refine zan_fu ?_ (by omega)))) (fun m1 ha => ?_) (Sim_T hs (by omega))
      have gm := t_Mletter (L := L) (d := 6) ha (by omega) (by omega) (by omega) (by omega) x y z
      (repeat (first | rw [if_pos (by omega)] at gm | rw [if_neg (by omega)] at gm))
      exact ⟨_, _, gm, by omega, (by (repeat (first | exact zac_rf _ | refine zac_u ?_ (by omega)))), (by (repeat (first | exact ha | refine zan_w ?_)))⟩
  · have gx := t_Xletter (L := L) (d := 6) (m := m) (by omega) (by omega) (by omega) (by omega) x y z
    (repeat (first | rw [if_pos (by omega)] at gx | rw [if_neg (by omega)] at gx))
    refine zPr_of gx (by (repeat (first | exact zan_rf _ | refine zan_x ?_ (by omega) | refine zan_fu ?_ (by omega)))) (fun m1 ha => ?_) (Sim_T hs (by omega))
    have gm := t_Mletter (L := L) (d := 6) ha (by omega) (by omega) (by omega) (by omega) x y z
    (repeat (first | rw [if_pos (by omega)] at gm | rw [if_neg (by omega)] at gm))
    exact ⟨_, _, gm, by omega, (by (repeat (first | exact zac_rf _ | refine zac_u ?_ (by omega)))), (by (repeat (first | exact ha | refine zan_w ?_)))⟩
theorem pr_list {L : Nat} {T : Int} {m : zmem} (hs : Sim T m m) (x y : Int) : zPr L 64 112 [.inl x, .inl y] T m := by
  have s1 := hs.s1
  unfold S1 at s1
  by_cases hg : (0 ≤ x ∧ x ≤ 39) ∧ (0 ≤ y ∧ y ≤ 100)
  · by_cases hf : 20 ≤ m 264 24
    · have gx := t_Xlist (L := L) (d := 6) (m := m) (by omega) (by omega) x y
      (repeat (first | rw [if_pos (by omega)] at gx | rw [if_neg (by omega)] at gx))
      refine zPr_of gx (by (repeat (first | exact zan_rf _ | refine zan_x ?_ (by omega) | refine zan_fu ?_ (by omega)))) (fun m1 ha => ?_) (Sim_T hs (by omega))
      have gm := t_Mlist (L := L) (d := 6) ha (by omega) (by omega) x y
      (repeat (first | rw [if_pos (by omega)] at gm | rw [if_neg (by omega)] at gm))
      exact ⟨_, _, gm, by omega, (by (repeat (first | exact zac_rf _ | refine zac_u ?_ (by omega)))), (by (repeat (first | exact ha | refine zan_w ?_)))⟩
    · have gx := t_Xlist (L := L) (d := 6) (m := m) (by omega) (by omega) x y
      (repeat (first | rw [if_pos (by omega)] at gx | rw [if_neg (by omega)] at gx))
      refine zPr_of gx (by unfold XLi; (repeat (first | exact zan_rf _ | refine zan_x ?_ (by omega) | refine zan_fu ?_ (by omega)))) (fun m1 ha => ?_) (sm_list hs (by omega))
      have gm := t_Mlist (L := L) (d := 6) ha (by omega) (by omega) x y
      (repeat (first | rw [if_pos (by omega)] at gm | rw [if_neg (by omega)] at gm))
      exact ⟨_, _, gm, by omega, (by (repeat (first | exact zac_rf _ | refine zac_u ?_ (by omega)))), (by unfold MLi; (repeat (first | exact ha | refine zan_w ?_)))⟩
  · have gx := t_Xlist (L := L) (d := 6) (m := m) (by omega) (by omega) x y
    (repeat (first | rw [if_pos (by omega)] at gx | rw [if_neg (by omega)] at gx))
    refine zPr_of gx (by (repeat (first | exact zan_rf _ | refine zan_x ?_ (by omega) | refine zan_fu ?_ (by omega)))) (fun m1 ha => ?_) (Sim_T hs (by omega))
    have gm := t_Mlist (L := L) (d := 6) ha (by omega) (by omega) x y
    (repeat (first | rw [if_pos (by omega)] at gm | rw [if_neg (by omega)] at gm))
    exact ⟨_, _, gm, by omega, (by (repeat (first | exact zac_rf _ | refine zac_u ?_ (by omega)))), (by (repeat (first | exact ha | refine zan_w ?_)))⟩
