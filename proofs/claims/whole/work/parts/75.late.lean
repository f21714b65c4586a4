abbrev XLt (m : zmem) (c x : Int) : Prop := XA m c x (m 0 7) ∧ m (67 + 5 * c) (m 0 7 - m (64 + 5 * c) 5) = 0
abbrev MLt (m : zmem) (c x : Int) : Prop := MH m c (m 264 9) ∧ ¬ m 276 (7 * c + m 264 9 - m 272 c) = 0 ∧ m 274 (7 * c + m 264 9 - m 272 c) = x ∧ m 280 c = 0
theorem t_isLate {L d : Nat} {m : zmem} {c x : Int} (c0 : 0 ≤ c) (c1 : c < 40) (f0 : 0 ≤ m (64 + 5 * c) 5) (f1 : m (64 + 5 * c) 5 ≤ 39) (l0 : 0 ≤ m (64 + 5 * c) 6) (l1 : m (64 + 5 * c) 6 ≤ 7) (hl : ∀ k, 0 ≤ k → k < 21 → 0 ≤ m (66 + 5 * c) k ∧ m (66 + 5 * c) k ≤ 9) (w0 : 0 ≤ m 0 7) (w1 : m 0 7 ≤ 39) : zF L (d + 4) 77 [.inr (.inl (some 0)), .inr (.inl (some (64 + 5 * c))), .inl x] m (some (.inl (if XLt m c x then 1 else 0))) m := by
  refine zF_of n77 (ls := [some (.inr (.inl (some 0))), some (.inr (.inl (some (64 + 5 * c)))), some (.inl x)]) rfl ?_
  refine r_aload_n f77_0 rfl ?_
  refine r_iload_n f77_1 rfl ?_
  refine r_aload_n f77_2 rfl ?_
  refine r_getI f77_3 o77 F6_94 g0_7 rfl ?_
  refine r_callv2i (m' := m) f77_6 o77 M6_234 p6 o6 (kdC0 (c := c) (by omega) (by omega)) rfl (by simp) (t_isLaidAt (c := c) (h := x) (t := m 0 7) c0 c1 f0 f1 l0 l1 hl (by omega) (by omega)) ?_
  refine r_ite (fun q1 => ?_) (fun q1 => ?_)
  · refine r_zeq f77_9 (t := 33) (by decide) (fun h => absurd h (by omega)) (fun _ => ?_)
    have hq : 0 ≤ m 0 7 - m (64 + 5 * c) 5 ∧ m 0 7 - m (64 + 5 * c) 5 < m (64 + 5 * c) 6 := q1.1.1
    refine r_aload_n f77_12 rfl ?_
    refine r_getR f77_13 o77 F6_195 (gC_2 (c := c) (by omega) (by omega)) rfl ?_
    refine r_aload_n f77_16 rfl ?_
    refine r_getI f77_17 o77 F6_94 g0_7 rfl ?_
    refine r_aload_n f77_20 rfl ?_
    refine r_getI f77_21 o77 F6_121 (gC_5 (c := c) (by omega) (by omega)) rfl ?_
    refine r_isub f77_24 (e := m 0 7 - m (64 + 5 * c) 5) (by omega) (by omega) (by omega) ?_
    refine r_bald f77_25 (kdC3 (c := c) (by omega) (by omega)) (by omega) (by omega) ?_
    refine r_zne f77_26 (t := 33) (by decide) (fun q2 => ?_) (fun q2 => ?_)
    · refine r_iconst f77_33 rfl ?_
      exact r_zret f77_34 v77 (by omega) ⟨zs_eq (by first | exact (if_pos ⟨q1, by omega⟩).symm | exact (if_neg (fun h => q1 h.1)).symm | exact (if_neg (fun h => absurd h.2 (by omega))).symm), rfl⟩
    · refine r_iconst f77_29 rfl ?_
      refine r_goto f77_30 (t := 34) (by decide) ?_
      exact r_zret f77_34 v77 (by omega) ⟨zs_eq (by first | exact (if_pos ⟨q1, by omega⟩).symm | exact (if_neg (fun h => q1 h.1)).symm | exact (if_neg (fun h => absurd h.2 (by omega))).symm), rfl⟩
  · refine r_zeq f77_9 (t := 33) (by decide) (fun _ => ?_) (fun h => absurd (by omega) h)
    refine r_iconst f77_33 rfl ?_
    exact r_zret f77_34 v77 (by omega) ⟨zs_eq (by first | exact (if_pos ⟨q1, by omega⟩).symm | exact (if_neg (fun h => q1 h.1)).symm | exact (if_neg (fun h => absurd h.2 (by omega))).symm), rfl⟩

theorem t_mayLose {L d : Nat} {m1 m : zmem} (ha : zan m1 m) {c x : Int} (c0 : 0 ≤ c) (c1 : c < 40) (f0 : 0 ≤ m 272 c) (f1 : m 272 c ≤ 39) (l0 : 0 ≤ m 273 c) (l1 : m 273 c ≤ 7) (w0 : 0 ≤ m 264 9) (w1 : m 264 9 ≤ 39) : zF L (d + 2) 124 [.inr (.inl (some 264)), .inl c, .inl x] m1 (some (.inl (if MLt m c x then 1 else 0))) m1 := by
  refine zF_of n124 (ls := [some (.inr (.inl (some 264))), some (.inl c), some (.inl x), none]) rfl ?_
  refine r_aload_n f124_0 rfl ?_
  refine r_iload_n f124_1 rfl ?_
  refine r_aload_n f124_2 rfl ?_
  refine r_getI f124_3 o124 F7_122 g264_9 rfl ?_
  refine r_top (e := m 264 9) (zan_f ha (by omega) (by omega) (by omega) _) ?_
  refine r_callv2i (m' := m1) f124_6 o124 M7_104 p92 o92 kd264 rfl (by simp) (tN_placeOf ha (c := c) (t := m 264 9) c0 c1 f0 f1 l0 l1 (by omega) (by omega)) ?_
  refine r_ite (fun q1 => ?_) (fun q1 => ?_)
  · refine r_istore_n f124_9 rfl (ls' := [some (.inr (.inl (some 264))), some (.inl c), some (.inl x), some (.inl (7 * c + m 264 9 - m 272 c))]) rfl ?_
    refine r_iload_n f124_10 rfl ?_
    refine r_iconst f124_11 rfl ?_
    refine r_ceq f124_12 (t := 47) (by decide) (fun q2 => ?_) (fun q2 => ?_)
    · refine r_iconst f124_47 rfl ?_
      exact r_zret f124_48 v124 (by omega) ⟨zs_eq (by first | exact (if_pos ⟨q1, by omega, by omega, by omega⟩).symm | exact (if_neg (fun h => q1 h.1)).symm | exact (if_neg (fun h => absurd h.2.1 (by omega))).symm | exact (if_neg (fun h => absurd h.2.2.1 (by omega))).symm | exact (if_neg (fun h => absurd h.2.2.2 (by omega))).symm), rfl⟩
    · refine r_aload_n f124_15 rfl ?_
      refine r_getR f124_16 o124 F7_44 g264_16 rfl ?_
      refine r_iload_n f124_19 rfl ?_
      refine r_bald f124_20 kd276 (by omega) (by omega) ?_
      refine r_top (e := m 276 (7 * c + m 264 9 - m 272 c)) (zan_f ha (by omega) (by omega) (by omega) _) ?_
      refine r_zeq f124_21 (t := 47) (by decide) (fun q3 => ?_) (fun q3 => ?_)
      · refine r_iconst f124_47 rfl ?_
        exact r_zret f124_48 v124 (by omega) ⟨zs_eq (by first | exact (if_pos ⟨q1, by omega, by omega, by omega⟩).symm | exact (if_neg (fun h => q1 h.1)).symm | exact (if_neg (fun h => absurd h.2.1 (by omega))).symm | exact (if_neg (fun h => absurd h.2.2.1 (by omega))).symm | exact (if_neg (fun h => absurd h.2.2.2 (by omega))).symm), rfl⟩
      · refine r_aload_n f124_24 rfl ?_
        refine r_getR f124_25 o124 F7_38 g264_14 rfl ?_
        refine r_iload_n f124_28 rfl ?_
        refine r_iald f124_29 kd274 (by omega) (by omega) ?_
        refine r_top (e := m 274 (7 * c + m 264 9 - m 272 c)) (zan_f ha (by omega) (by omega) (by omega) _) ?_
        refine r_iload_n f124_30 rfl ?_
        refine r_cne f124_31 (t := 47) (by decide) (fun q4 => ?_) (fun q4 => ?_)
        · refine r_iconst f124_47 rfl ?_
          exact r_zret f124_48 v124 (by omega) ⟨zs_eq (by first | exact (if_pos ⟨q1, by omega, by omega, by omega⟩).symm | exact (if_neg (fun h => q1 h.1)).symm | exact (if_neg (fun h => absurd h.2.1 (by omega))).symm | exact (if_neg (fun h => absurd h.2.2.1 (by omega))).symm | exact (if_neg (fun h => absurd h.2.2.2 (by omega))).symm), rfl⟩
        · refine r_aload_n f124_34 rfl ?_
          refine r_getR f124_35 o124 F7_56 g264_20 rfl ?_
          refine r_iload_n f124_38 rfl ?_
          refine r_bald f124_39 kd280 (by omega) (by omega) ?_
          refine r_top (e := m 280 c) (zan_f ha (by omega) (by omega) (by omega) _) ?_
          refine r_zne f124_40 (t := 47) (by decide) (fun q5 => ?_) (fun q5 => ?_)
          · refine r_iconst f124_47 rfl ?_
            exact r_zret f124_48 v124 (by omega) ⟨zs_eq (by first | exact (if_pos ⟨q1, by omega, by omega, by omega⟩).symm | exact (if_neg (fun h => q1 h.1)).symm | exact (if_neg (fun h => absurd h.2.1 (by omega))).symm | exact (if_neg (fun h => absurd h.2.2.1 (by omega))).symm | exact (if_neg (fun h => absurd h.2.2.2 (by omega))).symm), rfl⟩
          · refine r_iconst f124_43 rfl ?_
            refine r_goto f124_44 (t := 48) (by decide) ?_
            exact r_zret f124_48 v124 (by omega) ⟨zs_eq (by first | exact (if_pos ⟨q1, by omega, by omega, by omega⟩).symm | exact (if_neg (fun h => q1 h.1)).symm | exact (if_neg (fun h => absurd h.2.1 (by omega))).symm | exact (if_neg (fun h => absurd h.2.2.1 (by omega))).symm | exact (if_neg (fun h => absurd h.2.2.2 (by omega))).symm), rfl⟩
  · refine r_istore_n f124_9 rfl (ls' := [some (.inr (.inl (some 264))), some (.inl c), some (.inl x), some (.inl (-1))]) rfl ?_
    refine r_iload_n f124_10 rfl ?_
    refine r_iconst f124_11 rfl ?_
    refine r_ceq f124_12 (t := 47) (by decide) (fun _ => ?_) (fun h => absurd (by omega) h)
    refine r_iconst f124_47 rfl ?_
    exact r_zret f124_48 v124 (by omega) ⟨zs_eq (by first | exact (if_pos ⟨q1, by omega, by omega, by omega⟩).symm | exact (if_neg (fun h => q1 h.1)).symm | exact (if_neg (fun h => absurd h.2.1 (by omega))).symm | exact (if_neg (fun h => absurd h.2.2.1 (by omega))).symm | exact (if_neg (fun h => absurd h.2.2.2 (by omega))).symm), rfl⟩

theorem Sim_Lt {T : Int} {a b : zmem} (hs : Sim T a b) {c x : Int} (c0 : 0 ≤ c) (c1 : c < b 264 10) : XLt a c x ↔ MLt b c x := by
  have s1 := hs.s1
  unfold S1 at s1
  have k5 := hs.s5 c c0 (by omega)
  have e5 : a (64 + 5 * c) 5 = b 272 c := by omega
  have e6 : a (64 + 5 * c) 6 = b 273 c := by omega
  have e7 : a 0 7 = b 264 9 := by omega
  have ei : 7 * c + b 264 9 - b 272 c = 7 * c + (b 264 9 - b 272 c) := by omega
  unfold XLt XA XO XH MLt MH
  rw [e5, e6, e7, ei]
  constructor
  · intro h
    have hh := h.1.1.1
    have g6 := hs.s6 c c0 (by omega) (b 264 9 - b 272 c) hh.1 (by omega)
    have gl := Sim_la hs c c0 c1 (b 264 9 - b 272 c) hh.1 (by omega)
    have g8 := (hs.s8 c c0 (by omega)).2.1 hh
    exact ⟨hh, gl.1 h.1.1.2, by rw [← g6.1]; exact h.1.2, by rw [← g8]; exact h.2⟩
  · intro h
    have hh := h.1
    have g6 := hs.s6 c c0 (by omega) (b 264 9 - b 272 c) hh.1 (by omega)
    have gl := Sim_la hs c c0 c1 (b 264 9 - b 272 c) hh.1 (by omega)
    have g8 := (hs.s8 c c0 (by omega)).2.1 hh
    exact ⟨⟨⟨hh, gl.2 h.2.1⟩, by rw [g6.1]; exact h.2.2.1⟩, by rw [g8]; exact h.2.2.2⟩
def XZf (m : zmem) (x c : Int) : Int := if XLt m c x then m (64 + 5 * c) 4 else 0
def MZf (m : zmem) (x c : Int) : Int := if MLt m c x then m 271 c else 0
theorem Sim_Z {T : Int} {a b : zmem} (hs : Sim T a b) {x c : Int} (c0 : 0 ≤ c) (c1 : c < b 264 10) : XZf a x c = MZf b x c := by
  have s1 := hs.s1
  unfold S1 at s1
  have k5 := hs.s5 c c0 (by omega)
  have q := Sim_Lt hs (x := x) c0 c1
  unfold XZf MZf
  by_cases h : XLt a c x
  · rw [if_pos h, if_pos (q.1 h)]; omega
  · rw [if_neg h, if_neg (fun z => h (q.2 z))]
theorem MZf_b {T : Int} {a b : zmem} (hs : Sim T a b) {x c : Int} (c0 : 0 ≤ c) (c1 : c < 40) : 0 ≤ MZf b x c ∧ MZf b x c ≤ 12 := by
  have k5 := hs.s5 c c0 c1
  unfold MZf
  split <;> omega
theorem l_beds {L d : Nat} {m : zmem} {T : Int} {b : zmem} (hs : Sim T m b) {x : Int}  {Q : Option zV → zM → Prop} (hx : zR (d + 5) 78 44 [some (.inr (.inl (some 0))), some (.inl x), some (.inl (zsum (XZf m x) (m 0 6))), some (.inl (m 0 6))] [] (zem L m) Q) : ∀ (n : Nat) (i : Int), 0 ≤ i → i + n = m 0 6 → zR (d + 5) 78 4 [some (.inr (.inl (some 0))), some (.inl x), some (.inl (zsum (XZf m x) i)), some (.inl i)] [] (zem L m) Q := by
  intro n
  induction n with
  | zero =>
    intro i hi hn
    have ei : i = m 0 6 := by omega
    rw [ei]
    refine r_iload_n f78_4 rfl ?_
    refine r_aload_n f78_5 rfl ?_
    refine r_getI f78_6 o78 F6_101 g0_6 rfl ?_
    refine r_cge f78_9 (t := 44) (by decide) (fun _ => ?_) (fun h => absurd (by omega) h)
    exact hx
  | succ n ih =>
    intro i hi hn
    have s1 := hs.s1
    unfold S1 at s1
    have k5 := hs.s5 i (by omega) (by omega)
    have hb := zsum_b (f := XZf m x) (A := 0) (B := 12) (n := i) (by omega) (fun k a c => by
      have w2 := hs.s5 k (by omega) (by omega)
      unfold XZf
      split <;> omega)
    refine r_iload_n f78_4 rfl ?_
    refine r_aload_n f78_5 rfl ?_
    refine r_getI f78_6 o78 F6_101 g0_6 rfl ?_
    refine r_cge f78_9 (t := 44) (by decide) (fun h => absurd h (by omega)) (fun _ => ?_)
    refine r_aload_n f78_12 rfl ?_
    refine r_aload_n f78_13 rfl ?_
    refine r_getR f78_14 o78 F6_27 g0_2 rfl ?_
    refine r_iload_n f78_17 rfl ?_
    refine r_aldC f78_18 (by omega) (by omega) ?_
    refine r_iload_n f78_19 rfl ?_
    refine r_callv2i (m' := m) f78_20 o78 M6_277 p77 o77 kd0 rfl (by simp) (t_isLate (d := d) (c := i) (x := x) (by omega) (by omega) (by omega) (by omega) (by omega) (by omega) (Sim_hl hs i (by omega) (by omega)) (by omega) (by omega)) ?_
    refine r_ite (fun q1 => ?_) (fun q1 => ?_)
    · refine r_zeq f78_23 (t := 38) (by decide) (fun h => absurd h (by omega)) (fun _ => ?_)
      refine r_iload_n f78_26 rfl ?_
      refine r_aload_n f78_27 rfl ?_
      refine r_getR f78_28 o78 F6_27 g0_2 rfl ?_
      refine r_iload_n f78_31 rfl ?_
      refine r_aldC f78_32 (by omega) (by omega) ?_
      refine r_getI f78_33 o78 F6_161 (gC_4 (c := i) (by omega) (by omega)) rfl ?_
      refine r_iadd f78_36 (e := m (64 + 5 * i) 4 + zsum (XZf m x) i) (by omega) (by omega) (by omega) ?_
      refine r_istore_n f78_37 rfl (ls' := [some (.inr (.inl (some 0))), some (.inl x), some (.inl (m (64 + 5 * i) 4 + zsum (XZf m x) i)), some (.inl i)]) rfl ?_
      refine r_iinc f78_38 rfl rfl rfl (e := i + 1) (by omega) (by omega) (by omega) (ls' := [some (.inr (.inl (some 0))), some (.inl x), some (.inl (m (64 + 5 * i) 4 + zsum (XZf m x) i)), some (.inl (i + 1))]) rfl ?_
      refine r_goto f78_41 (t := 4) (by decide) ?_
      refine r_setI (k := 2) (a := m (64 + 5 * i) 4 + zsum (XZf m x) i) (e := zsum (XZf m x) (i + 1)) (by rw [zsum_s (by omega)]; unfold XZf; first | (rw [if_pos (by assumption)]; omega) | (rw [if_neg (by assumption)]; omega)) rfl (ls' := [some (.inr (.inl (some 0))), some (.inl x), some (.inl (zsum (XZf m x) (i + 1))), some (.inl (i + 1))]) rfl ?_
      exact ih (i + 1) (by omega) (by omega)
    · refine r_zeq f78_23 (t := 38) (by decide) (fun _ => ?_) (fun h => absurd (by omega) h)
      refine r_iinc f78_38 rfl rfl rfl (e := i + 1) (by omega) (by omega) (by omega) (ls' := [some (.inr (.inl (some 0))), some (.inl x), some (.inl (zsum (XZf m x) i)), some (.inl (i + 1))]) rfl ?_
      refine r_goto f78_41 (t := 4) (by decide) ?_
      refine r_setI (k := 2) (a := zsum (XZf m x) i) (e := zsum (XZf m x) (i + 1)) (by rw [zsum_s (by omega)]; unfold XZf; first | (rw [if_pos (by assumption)]; omega) | (rw [if_neg (by assumption)]; omega)) rfl (ls' := [some (.inr (.inl (some 0))), some (.inl x), some (.inl (zsum (XZf m x) (i + 1))), some (.inl (i + 1))]) rfl ?_
      exact ih (i + 1) (by omega) (by omega)

theorem t_beds {L d : Nat} {m : zmem} {T : Int} {b : zmem} (hs : Sim T m b) {x : Int}  : zF L (d + 5) 78 [.inr (.inl (some 0)), .inl x] m (some (.inl (zsum (MZf b x) (b 264 10)))) m := by
  have s1 := hs.s1
  unfold S1 at s1
  refine zF_of n78 (ls := [some (.inr (.inl (some 0))), some (.inl x), none, none]) rfl ?_
  refine r_iconst f78_0 rfl ?_
  refine r_istore_n f78_1 rfl (ls' := [some (.inr (.inl (some 0))), some (.inl x), some (.inl 0), none]) rfl ?_
  refine r_iconst f78_2 rfl ?_
  refine r_istore_n f78_3 rfl (ls' := [some (.inr (.inl (some 0))), some (.inl x), some (.inl 0), some (.inl 0)]) rfl ?_
  refine l_beds hs ?_ (m 0 6).toNat 0 (by omega) (by omega)
  refine r_iload_n f78_44 rfl ?_
  exact r_iret f78_45 v78 ⟨zs_eq (by rw [show m 0 6 = b 264 10 by omega]; exact zsum_c (fun k k0 k1 => Sim_Z hs k0 k1)), rfl⟩

theorem l_could {L d : Nat} {m : zmem} {m1 : zmem} {T : Int} {b : zmem} (hs : Sim T m b) (ha : zan m1 b) {x y z v : Int} (v0 : 0 ≤ v) (v1 : v ≤ 27)  {Q : Option zV → zM → Prop} (hx : zR (d + 3) 125 110 [some (.inr (.inl (some 264))), some (.inl x), some (.inl y), some (.inl z), some (.inl v), some (.inl (v + zsum (MZf b x) (b 264 10))), some (.inl (b 264 10)), none] [] (zem L m1) Q) : ∀ (n : Nat) (i : Int), 0 ≤ i → i + n = b 264 10 → zR (d + 3) 125 69 [some (.inr (.inl (some 264))), some (.inl x), some (.inl y), some (.inl z), some (.inl v), some (.inl (v + zsum (MZf b x) i)), some (.inl i), none] [] (zem L m1) Q := by
  intro n
  induction n with
  | zero =>
    intro i hi hn
    have ei : i = b 264 10 := by omega
    rw [ei]
    refine r_iload f125_69 rfl ?_
    refine r_aload_n f125_71 rfl ?_
    refine r_getI f125_72 o125 F7_94 g264_10 rfl ?_
    refine r_top (e := b 264 10) (zan_f ha (by omega) (by omega) (by omega) _) ?_
    refine r_cge f125_75 (t := 110) (by decide) (fun _ => ?_) (fun h => absurd (by omega) h)
    exact hx
  | succ n ih =>
    intro i hi hn
    have s1 := hs.s1
    unfold S1 at s1
    have k5 := hs.s5 i (by omega) (by omega)
    have hb := zsum_b (f := MZf b x) (A := 0) (B := 12) (n := i) (by omega) (fun k a c => MZf_b hs (by omega) (by omega))
    refine r_iload f125_69 rfl ?_
    refine r_aload_n f125_71 rfl ?_
    refine r_getI f125_72 o125 F7_94 g264_10 rfl ?_
    refine r_top (e := b 264 10) (zan_f ha (by omega) (by omega) (by omega) _) ?_
    refine r_cge f125_75 (t := 110) (by decide) (fun h => absurd h (by omega)) (fun _ => ?_)
    refine r_iload f125_78 rfl ?_
    refine r_aload_n f125_80 rfl ?_
    refine r_iload f125_81 rfl ?_
    refine r_iload_n f125_83 rfl ?_
    refine r_callv2i (m' := m1) f125_84 o125 M7_176 p124 o124 kd264 rfl (by simp) (t_mayLose (d := d) ha (c := i) (x := x) (by omega) (by omega) (by omega) (by omega) (by omega) (by omega) (by omega) (by omega)) ?_
    refine r_ite (fun q1 => ?_) (fun q1 => ?_)
    · refine r_zeq f125_87 (t := 100) (by decide) (fun h => absurd h (by omega)) (fun _ => ?_)
      refine r_aload_n f125_90 rfl ?_
      refine r_getR f125_91 o125 F7_29 g264_11 rfl ?_
      refine r_iload f125_94 rfl ?_
      refine r_iald f125_96 kd271 (by omega) (by omega) ?_
      refine r_top (e := b 271 i) (zan_f ha (by omega) (by omega) (by omega) _) ?_
      refine r_goto f125_97 (t := 101) (by decide) ?_
      refine r_iadd f125_101 (e := b 271 i + v + zsum (MZf b x) i) (by omega) (by omega) (by omega) ?_
      refine r_istore f125_102 rfl (ls' := [some (.inr (.inl (some 264))), some (.inl x), some (.inl y), some (.inl z), some (.inl v), some (.inl (b 271 i + v + zsum (MZf b x) i)), some (.inl i), none]) rfl ?_
      refine r_iinc f125_104 rfl rfl rfl (e := i + 1) (by omega) (by omega) (by omega) (ls' := [some (.inr (.inl (some 264))), some (.inl x), some (.inl y), some (.inl z), some (.inl v), some (.inl (b 271 i + v + zsum (MZf b x) i)), some (.inl (i + 1)), none]) rfl ?_
      refine r_goto f125_107 (t := 69) (by decide) ?_
      refine r_setI (k := 5) (a := b 271 i + v + zsum (MZf b x) i) (e := v + zsum (MZf b x) (i + 1)) (by rw [zsum_s (by omega)]; unfold MZf; first | (rw [if_pos (by assumption)]; omega) | (rw [if_neg (by assumption)]; omega)) rfl (ls' := [some (.inr (.inl (some 264))), some (.inl x), some (.inl y), some (.inl z), some (.inl v), some (.inl (v + zsum (MZf b x) (i + 1))), some (.inl (i + 1)), none]) rfl ?_
      exact ih (i + 1) (by omega) (by omega)
    · refine r_zeq f125_87 (t := 100) (by decide) (fun _ => ?_) (fun h => absurd (by omega) h)
      refine r_iconst f125_100 rfl ?_
      refine r_iadd f125_101 (e := v + zsum (MZf b x) i) (by omega) (by omega) (by omega) ?_
      refine r_istore f125_102 rfl (ls' := [some (.inr (.inl (some 264))), some (.inl x), some (.inl y), some (.inl z), some (.inl v), some (.inl (v + zsum (MZf b x) i)), some (.inl i), none]) rfl ?_
      refine r_iinc f125_104 rfl rfl rfl (e := i + 1) (by omega) (by omega) (by omega) (ls' := [some (.inr (.inl (some 264))), some (.inl x), some (.inl y), some (.inl z), some (.inl v), some (.inl (v + zsum (MZf b x) i)), some (.inl (i + 1)), none]) rfl ?_
      refine r_goto f125_107 (t := 69) (by decide) ?_
      refine r_setI (k := 5) (a := v + zsum (MZf b x) i) (e := v + zsum (MZf b x) (i + 1)) (by rw [zsum_s (by omega)]; unfold MZf; first | (rw [if_pos (by assumption)]; omega) | (rw [if_neg (by assumption)]; omega)) rfl (ls' := [some (.inr (.inl (some 264))), some (.inl x), some (.inl y), some (.inl z), some (.inl v), some (.inl (v + zsum (MZf b x) (i + 1))), some (.inl (i + 1)), none]) rfl ?_
      exact ih (i + 1) (by omega) (by omega)

