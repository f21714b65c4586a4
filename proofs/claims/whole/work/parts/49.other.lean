/-- the class's search, told in the model's words -/
theorem t_findS {L d : Nat} {T : Int} {a b : zmem} (hs : Sim T a b) {c : Int} (c0 : 0 ≤ c) (c1 : c < b 264 10) {s f q : Int} (hq : zsq s f q) (f0 : 0 ≤ f) (f1 : f < b 273 c) : ∃ X, zF L (d + 4) 37 [.inr (.inl (some 51)), .inr (.inl (some (64 + 5 * c))), .inl s] a (some (.inl (MGa b c f q f (b 274 (7 * c + f))))) X ∧ zag X a ∧ (¬ (MGa b c f q f (b 274 (7 * c + f))) = -1 → ∀ k, f ≤ k → k < b 273 c → X 53 k = MPh b c f q (k - f).toNat) := by
  have s1 := hs.s1
  unfold S1 at s1
  have k5 := hs.s5 c c0 (by omega)
  have k6 := hs.s6 c c0 (by omega) f f0 (by omega)
  have g := t_find (L := L) (d := d) (m := a) (c := c) (s := s) (a := f) c0 (by omega) (by omega) (by omega) (by omega) (by omega) (by omega) (by omega) (by omega) (fun k x y => by have := hs.s6 c c0 (by omega) k x (by omega); omega) (fun h k x y z u => (hs.s10 h x y).1 k z u) (by unfold zsq at hq; rcases hq with e | e <;> split <;> omega) f0 (by omega)
  have e := Sim_tab hs c0 c1 hq f0 (i := f) (h := b 274 (7 * c + f)) (by omega) f1 (by omega) (by omega) (fun _ => rfl)
  have ev : XFv a c s f = XGa a c s f (b 274 (7 * c + f)) := by unfold XFv; rw [k6.1]
  have bd : XGa a c s f (b 274 (7 * c + f)) = 1000 ∨ (0 ≤ XGa a c s f (b 274 (7 * c + f)) ∧ XGa a c s f (b 274 (7 * c + f)) ≤ ((a (64 + 5 * c) 6 - 1 - f).toNat : Nat)) := zTb_b (nh := a 1 1) (by omega) (J := XJ a) (Op := XOp a c s) (wy := a (65 + 5 * c)) (last := a (64 + 5 * c) 6 - 1) (a (64 + 5 * c) 6 - 1 - f).toNat _ (by omega)
  rw [ev] at g
  by_cases h : XGa a c s f (b 274 (7 * c + f)) = 1000
  · rw [if_pos h] at e
    rw [if_pos (by omega), if_pos (by omega), ← e] at g
    exact ⟨_, g, zpm_ag, fun n => absurd e n⟩
  · rw [if_neg h] at e
    rw [if_neg (by omega), if_neg (by omega), ← e] at g
    refine ⟨_, g, fun p h1 h2 => ?_, fun n k k0 k1 => ?_⟩
    · rw [show XFo a c s f p = XFn a c s f p from zfm_n h2]
      exact zpm_ag p h1 h2
    · rw [show XFo a c s f 53 k = XPh (XFn a c s f) c f (k - f).toNat from zfm_v k0 (by omega)]
      exact Sim_ph hs c0 c1 hq f0 f1 n (k - f).toNat (by omega)
theorem t_waysS {L d : Nat} {T : Int} {a b : zmem} (hs : Sim T a b) {m1 : zmem} (ha : zan m1 b) {c : Int} (c0 : 0 ≤ c) (c1 : c < b 264 10) {s f q : Int} (hq : zsq s f q) (f0 : 0 ≤ f) (f1 : f < b 273 c) : ∃ X, zF L (d + 5) 108 [.inr (.inl (some 264)), .inl c, .inl f, .inl q] m1 (some (.inl (MGa b c f q f (b 274 (7 * c + f))))) X ∧ (∀ p, p ≠ 282 → p ≠ 283 → X p = m1 p) ∧ (¬ (MGa b c f q f (b 274 (7 * c + f))) = -1 → ∀ k, f ≤ k → k < b 273 c → X 283 k = MPh b c f q (k - f).toNat) := by
  have s1 := hs.s1
  unfold S1 at s1
  have k5 := hs.s5 c c0 (by omega)
  have g := t_ways (L := L) (d := d) ha (Sim_ok hs) (Sim_rng hs) (c := c) (a := f) (q := q) c0 (by omega) (by omega) (fun k x y => (hs.s6 c c0 (by omega) k x (by omega)).2 y) f0 f1 (by unfold zsq at hq; omega)
  by_cases h : (MGa b c f q f (b 274 (7 * c + f))) = -1
  · rw [if_pos h] at g
    exact ⟨_, g, fun p h1 h2 => zpn_n h1, fun n => absurd h n⟩
  · rw [if_neg h] at g
    refine ⟨_, g, fun p h1 h2 => ?_, fun n k k0 k1 => zfn_v k0 (by omega)⟩
    rw [show MFo m1 b c f q (b 273 c - 1 + 1) p = MFn m1 b c f q p from zfn_n h2]
    exact zpn_n h1
theorem t_canBeGiven {L d : Nat} {m : zmem} {c : Int} (c0 : 0 ≤ c) (c1 : c < 40) : zF L (d) 70 [.inr (.inl (some 0)), .inr (.inl (some (64 + 5 * c)))] m (some (.inl (if (m (64 + 5 * c) 7 = 0 ∧ m 0 7 ≤ m (64 + 5 * c) 5) then 1 else 0))) m := by
  refine zF_of n70 (ls := [some (.inr (.inl (some 0))), some (.inr (.inl (some (64 + 5 * c))))]) rfl ?_
  refine r_aload_n f70_0 rfl ?_
  refine r_getI f70_1 o70 F6_104 (gC_7 (c := c) (by omega) (by omega)) rfl ?_
  refine r_zne f70_4 (t := 22) (by decide) (fun q1 => ?_) (fun q1 => ?_)
  · refine r_iconst f70_22 rfl ?_
    exact r_zret f70_23 v70 (by omega) ⟨zs_eq (by first | rfl | omega | (repeat (first | rw [if_pos (by omega)] | rw [if_neg (by omega)]))), rfl⟩
  · refine r_aload_n f70_7 rfl ?_
    refine r_getI f70_8 o70 F6_121 (gC_5 (c := c) (by omega) (by omega)) rfl ?_
    refine r_aload_n f70_11 rfl ?_
    refine r_getI f70_12 o70 F6_94 g0_7 rfl ?_
    refine r_clt f70_15 (t := 22) (by decide) (fun q2 => ?_) (fun q2 => ?_)
    · refine r_iconst f70_22 rfl ?_
      exact r_zret f70_23 v70 (by omega) ⟨zs_eq (by first | rfl | omega | (repeat (first | rw [if_pos (by omega)] | rw [if_neg (by omega)]))), rfl⟩
    · refine r_iconst f70_18 rfl ?_
      refine r_goto f70_19 (t := 23) (by decide) ?_
      exact r_zret f70_23 v70 (by omega) ⟨zs_eq (by first | rfl | omega | (repeat (first | rw [if_pos (by omega)] | rw [if_neg (by omega)]))), rfl⟩

theorem t_Xother {L d : Nat} {m : zmem} (k0 : 0 ≤ m 0 6) (k1 : m 0 6 ≤ 40) {c : Int} {v : Int} {X : zmem} (hX : (0 ≤ c ∧ c < m 0 6) → (m (64 + 5 * c) 7 = 0 ∧ m 0 7 ≤ m (64 + 5 * c) 5) → zF L (d + 4) 37 [.inr (.inl (some 51)), .inr (.inl (some (64 + 5 * c))), .inl (-1)] m (some (.inl v)) X)  : zF L (d + 5) 52 [.inr (.inl (some 0)), .inl c] m (some (.inl (if (0 ≤ c ∧ c < m 0 6) then (if (m (64 + 5 * c) 7 = 0 ∧ m 0 7 ≤ m (64 + 5 * c) 5) then v else -3) else -2))) (if (0 ≤ c ∧ c < m 0 6) then (if (m (64 + 5 * c) 7 = 0 ∧ m 0 7 ≤ m (64 + 5 * c) 5) then X else m) else m) := by
  refine zF_of n52 (ls := [some (.inr (.inl (some 0))), some (.inl c)]) rfl ?_
  refine r_aload_n f52_0 rfl ?_
  refine r_iload_n f52_1 rfl ?_
  refine r_callv1i (m' := m) f52_2 o52 M6_118 p69 o69 kd0 rfl (by simp) (t_isChainX c k0 k1) ?_
  refine r_ite (fun q1 => ?_) (fun q1 => ?_)
  · refine r_zne f52_5 (t := 11) (by decide) (fun _ => ?_) (fun h => absurd (by omega) h)
    refine r_aload_n f52_11 rfl ?_
    refine r_aload_n f52_12 rfl ?_
    refine r_getR f52_13 o52 F6_27 g0_2 rfl ?_
    refine r_iload_n f52_16 rfl ?_
    refine r_aldC f52_17 (by omega) (by omega) ?_
    refine r_callv1i (m' := m) f52_18 o52 M6_130 p70 o70 kd0 rfl (by simp) (t_canBeGiven (c := c) (by omega) (by omega)) ?_
    refine r_ite (fun q2 => ?_) (fun q2 => ?_)
    · refine r_zne f52_21 (t := 27) (by decide) (fun _ => ?_) (fun h => absurd (by omega) h)
      refine r_aload_n f52_27 rfl ?_
      refine r_getR f52_28 o52 F6_21 g0_1 rfl ?_
      refine r_aload_n f52_31 rfl ?_
      refine r_getR f52_32 o52 F6_27 g0_2 rfl ?_
      refine r_iload_n f52_35 rfl ?_
      refine r_aldC f52_36 (by omega) (by omega) ?_
      refine r_iconst f52_37 rfl ?_
      refine r_callv2i (m' := X) (v := v) f52_38 o52 M6_137 p37 o37 kd51 rfl (by simp) (hX (by omega) (by omega)) ?_
      exact r_iret f52_41 v52 ⟨zs_eq (by first | rfl | omega | ((repeat (first | rw [if_pos (by omega)] | rw [if_neg (by omega)])) <;> first | rfl | omega)), (by first | rfl | ((repeat (first | rw [if_pos (by omega)] | rw [if_neg (by omega)])); done) | ((repeat (first | rw [if_pos (by omega)] | rw [if_neg (by omega)])); rfl))⟩
    · refine r_zne f52_21 (t := 27) (by decide) (fun h => absurd h (by omega)) (fun _ => ?_)
      refine r_bipush f52_24 (by decide) ?_
      exact r_iret f52_26 v52 ⟨zs_eq (by first | rfl | omega | ((repeat (first | rw [if_pos (by omega)] | rw [if_neg (by omega)])) <;> first | rfl | omega)), (by first | rfl | ((repeat (first | rw [if_pos (by omega)] | rw [if_neg (by omega)])); done) | ((repeat (first | rw [if_pos (by omega)] | rw [if_neg (by omega)])); rfl))⟩
  · refine r_zne f52_5 (t := 11) (by decide) (fun h => absurd h (by omega)) (fun _ => ?_)
    refine r_bipush f52_8 (by decide) ?_
    exact r_iret f52_10 v52 ⟨zs_eq (by first | rfl | omega | ((repeat (first | rw [if_pos (by omega)] | rw [if_neg (by omega)])) <;> first | rfl | omega)), (by first | rfl | ((repeat (first | rw [if_pos (by omega)] | rw [if_neg (by omega)])); done) | ((repeat (first | rw [if_pos (by omega)] | rw [if_neg (by omega)])); rfl))⟩

theorem tN_refuses {L d : Nat} {m1 m : zmem} (ha : zan m1 m) (k0 : 0 ≤ m 264 10) (k1 : m 264 10 ≤ 40) (c : Int) : zF L (d + 2) 106 [.inr (.inl (some 264)), .inl c] m1 (some (.inl (if (0 ≤ c ∧ c < m 264 10) then (if (m 275 c = 0 ∧ m 264 9 ≤ m 272 c) then 0 else -3) else -2))) m1 := by
  refine zF_of n106 (ls := [some (.inr (.inl (some 264))), some (.inl c)]) rfl ?_
  refine r_aload_n f106_0 rfl ?_
  refine r_iload_n f106_1 rfl ?_
  refine r_callv1i (m' := m1) f106_2 o106 M7_125 p88 o88 kd264 rfl (by simp) (tN_isChain ha k0 k1 c) ?_
  refine r_ite (fun q1 => ?_) (fun q1 => ?_)
  · refine r_zne f106_5 (t := 11) (by decide) (fun _ => ?_) (fun h => absurd (by omega) h)
    refine r_aload_n f106_11 rfl ?_
    refine r_getR f106_12 o106 F7_41 g264_15 rfl ?_
    refine r_iload_n f106_15 rfl ?_
    refine r_iald f106_16 kd275 (by omega) (by omega) ?_
    refine r_top (e := m 275 c) (zan_f ha (by omega) (by omega) (by omega) _) ?_
    refine r_zne f106_17 (t := 33) (by decide) (fun q2 => ?_) (fun q2 => ?_)
    · refine r_bipush f106_33 (by decide) ?_
      refine r_goto f106_35 (t := 39) (by decide) ?_
      exact r_iret f106_39 v106 ⟨zs_eq (by first | rfl | omega | ((repeat (first | rw [if_pos (by omega)] | rw [if_neg (by omega)])) <;> first | rfl | omega)), (by first | rfl | ((repeat (first | rw [if_pos (by omega)] | rw [if_neg (by omega)])); done) | ((repeat (first | rw [if_pos (by omega)] | rw [if_neg (by omega)])); rfl))⟩
    · refine r_aload_n f106_20 rfl ?_
      refine r_getR f106_21 o106 F7_32 g264_12 rfl ?_
      refine r_iload_n f106_24 rfl ?_
      refine r_iald f106_25 kd272 (by omega) (by omega) ?_
      refine r_top (e := m 272 c) (zan_f ha (by omega) (by omega) (by omega) _) ?_
      refine r_aload_n f106_26 rfl ?_
      refine r_getI f106_27 o106 F7_122 g264_9 rfl ?_
      refine r_top (e := m 264 9) (zan_f ha (by omega) (by omega) (by omega) _) ?_
      refine r_cge f106_30 (t := 38) (by decide) (fun q3 => ?_) (fun q3 => ?_)
      · refine r_iconst f106_38 rfl ?_
        exact r_iret f106_39 v106 ⟨zs_eq (by first | rfl | omega | ((repeat (first | rw [if_pos (by omega)] | rw [if_neg (by omega)])) <;> first | rfl | omega)), (by first | rfl | ((repeat (first | rw [if_pos (by omega)] | rw [if_neg (by omega)])); done) | ((repeat (first | rw [if_pos (by omega)] | rw [if_neg (by omega)])); rfl))⟩
      · refine r_bipush f106_33 (by decide) ?_
        refine r_goto f106_35 (t := 39) (by decide) ?_
        exact r_iret f106_39 v106 ⟨zs_eq (by first | rfl | omega | ((repeat (first | rw [if_pos (by omega)] | rw [if_neg (by omega)])) <;> first | rfl | omega)), (by first | rfl | ((repeat (first | rw [if_pos (by omega)] | rw [if_neg (by omega)])); done) | ((repeat (first | rw [if_pos (by omega)] | rw [if_neg (by omega)])); rfl))⟩
  · refine r_zne f106_5 (t := 11) (by decide) (fun h => absurd h (by omega)) (fun _ => ?_)
    refine r_bipush f106_8 (by decide) ?_
    exact r_iret f106_10 v106 ⟨zs_eq (by first | rfl | omega | ((repeat (first | rw [if_pos (by omega)] | rw [if_neg (by omega)])) <;> first | rfl | omega)), (by first | rfl | ((repeat (first | rw [if_pos (by omega)] | rw [if_neg (by omega)])); done) | ((repeat (first | rw [if_pos (by omega)] | rw [if_neg (by omega)])); rfl))⟩

theorem t_Mother {L d : Nat} {m1 m : zmem} (ha : zan m1 m) (k0 : 0 ≤ m 264 10) (k1 : m 264 10 ≤ 40) {c : Int} {v : Int} {X : zmem} (hX : (0 ≤ c ∧ c < m 264 10) → (m 275 c = 0 ∧ m 264 9 ≤ m 272 c) → zF L (d + 5) 108 [.inr (.inl (some 264)), .inl c, .inl 0, .inl 1] m1 (some (.inl v)) X)  : zF L (d + 6) 109 [.inr (.inl (some 264)), .inl c] m1 (some (.inl (if (0 ≤ c ∧ c < m 264 10) then (if (m 275 c = 0 ∧ m 264 9 ≤ m 272 c) then v else -3) else -2))) (if (0 ≤ c ∧ c < m 264 10) then (if (m 275 c = 0 ∧ m 264 9 ≤ m 272 c) then X else m1) else m1) := by
  refine zF_of n109 (ls := [some (.inr (.inl (some 264))), some (.inl c), none]) rfl ?_
  refine r_aload_n f109_0 rfl ?_
  refine r_iload_n f109_1 rfl ?_
  refine r_callv1i (m' := m1) (v := if (0 ≤ c ∧ c < m 264 10) then (if (m 275 c = 0 ∧ m 264 9 ≤ m 272 c) then 0 else -3) else -2) f109_2 o109 M7_139 p106 o106 kd264 rfl (by simp) (tN_refuses ha k0 k1 c) ?_
  by_cases q1 : (0 ≤ c ∧ c < m 264 10)
  · by_cases q2 : (m 275 c = 0 ∧ m 264 9 ≤ m 272 c)
    · refine r_top (e := 0) (by rw [if_pos q1, if_pos q2]) ?_
      refine r_istore_n f109_5 rfl (ls' := [some (.inr (.inl (some 264))), some (.inl c), some (.inl 0)]) rfl ?_
      refine r_iload_n f109_6 rfl ?_
      refine r_zeq f109_7 (t := 14) (by decide) (fun _ => ?_) (fun h => absurd (by omega) h)
      refine r_aload_n f109_14 rfl ?_
      refine r_iload_n f109_15 rfl ?_
      refine r_iconst f109_16 rfl ?_
      refine r_iconst f109_17 rfl ?_
      refine r_callv3i (m' := X) (v := v) f109_18 o109 M7_150 p108 o108 kd264 rfl (by simp) (hX (by omega) (by omega)) ?_
      exact r_iret f109_21 v109 ⟨zs_eq (by first | rfl | omega | ((repeat (first | rw [if_pos (by omega)] | rw [if_neg (by omega)])) <;> first | rfl | omega)), (by first | rfl | ((repeat (first | rw [if_pos (by omega)] | rw [if_neg (by omega)])); done) | ((repeat (first | rw [if_pos (by omega)] | rw [if_neg (by omega)])); rfl))⟩
    · refine r_top (e := -3) (by rw [if_pos q1, if_neg q2]) ?_
      refine r_istore_n f109_5 rfl (ls' := [some (.inr (.inl (some 264))), some (.inl c), some (.inl (-3))]) rfl ?_
      refine r_iload_n f109_6 rfl ?_
      refine r_zeq f109_7 (t := 14) (by decide) (fun h => absurd h (by omega)) (fun _ => ?_)
      refine r_iload_n f109_10 rfl ?_
      refine r_goto f109_11 (t := 21) (by decide) ?_
      exact r_iret f109_21 v109 ⟨zs_eq (by first | rfl | omega | ((repeat (first | rw [if_pos (by omega)] | rw [if_neg (by omega)])) <;> first | rfl | omega)), (by first | rfl | ((repeat (first | rw [if_pos (by omega)] | rw [if_neg (by omega)])); done) | ((repeat (first | rw [if_pos (by omega)] | rw [if_neg (by omega)])); rfl))⟩
  · refine r_top (e := -2) (by rw [if_neg q1]) ?_
    refine r_istore_n f109_5 rfl (ls' := [some (.inr (.inl (some 264))), some (.inl c), some (.inl (-2))]) rfl ?_
    refine r_iload_n f109_6 rfl ?_
    refine r_zeq f109_7 (t := 14) (by decide) (fun h => absurd h (by omega)) (fun _ => ?_)
    refine r_iload_n f109_10 rfl ?_
    refine r_goto f109_11 (t := 21) (by decide) ?_
    exact r_iret f109_21 v109 ⟨zs_eq (by first | rfl | omega | ((repeat (first | rw [if_pos (by omega)] | rw [if_neg (by omega)])) <;> first | rfl | omega)), (by first | rfl | ((repeat (first | rw [if_pos (by omega)] | rw [if_neg (by omega)])); done) | ((repeat (first | rw [if_pos (by omega)] | rw [if_neg (by omega)])); rfl))⟩

