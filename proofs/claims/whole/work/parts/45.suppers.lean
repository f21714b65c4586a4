def XSp (m : zmem) (x y k : Int) : Int := if XA m k x y then m (64 + 5 * k) 4 else 0
theorem l_suppX {L d : Nat} {m : zmem} {T : Int} (hs : Sim T m m) {x y : Int} (x0 : 0 ≤ x) (x1 : x < m 264 0) (y0 : 0 ≤ y) (y1 : y < 40)  {Q : Option zV → zM → Prop} (hx : zR (d + 4) 63 75 [some (.inr (.inl (some 0))), some (.inl x), some (.inl y), some (.inl (zsum (XSp m x y) (m 0 6))), some (.inl (m 0 6))] [] (zem L m) Q) : ∀ (n : Nat) (i : Int), 0 ≤ i → i + n = m 0 6 → zR (d + 4) 63 32 [some (.inr (.inl (some 0))), some (.inl x), some (.inl y), some (.inl (zsum (XSp m x y) i)), some (.inl i)] [] (zem L m) Q := by
  intro n
  induction n with
  | zero =>
    intro i hi hn
    have ei : i = m 0 6 := by omega
    rw [ei]
    refine r_iload f63_32 rfl ?_
    refine r_aload_n f63_34 rfl ?_
    refine r_getI f63_35 o63 F6_101 g0_6 rfl ?_
    refine r_cge f63_38 (t := 75) (by decide) (fun _ => ?_) (fun h => absurd (by omega) h)
    exact hx
  | succ n ih =>
    intro i hi hn
    have s1 := hs.s1
    unfold S1 at s1
    have k5 := hs.s5 i (by omega) (by omega)
    have hb := zsum_b (f := XSp m x y) (A := 0) (B := 12) (n := i) (by omega) (fun k a b => by
      have w2 := hs.s5 k (by omega) (by omega)
      unfold XSp
      split <;> omega)
    refine r_iload f63_32 rfl ?_
    refine r_aload_n f63_34 rfl ?_
    refine r_getI f63_35 o63 F6_101 g0_6 rfl ?_
    refine r_cge f63_38 (t := 75) (by decide) (fun h => absurd h (by omega)) (fun _ => ?_)
    refine r_aload_n f63_41 rfl ?_
    refine r_getR f63_42 o63 F6_27 g0_2 rfl ?_
    refine r_iload f63_45 rfl ?_
    refine r_aldC f63_47 (by omega) (by omega) ?_
    refine r_iload_n f63_48 rfl ?_
    refine r_iload_n f63_49 rfl ?_
    refine r_callv2i (m' := m) f63_50 o63 M6_234 p6 o6 (kdC0 (c := i) (by omega) (by omega)) rfl (by simp) (t_isLaidAt (c := i) (h := x) (t := y) (by omega) (by omega) (by omega) (by omega) (by omega) (by omega) (Sim_hl hs i (by omega) (by omega)) (by omega) (by omega)) ?_
    refine r_ite (fun q1 => ?_) (fun q1 => ?_)
    · refine r_zeq f63_53 (t := 69) (by decide) (fun h => absurd h (by omega)) (fun _ => ?_)
      refine r_iload_n f63_56 rfl ?_
      refine r_aload_n f63_57 rfl ?_
      refine r_getR f63_58 o63 F6_27 g0_2 rfl ?_
      refine r_iload f63_61 rfl ?_
      refine r_aldC f63_63 (by omega) (by omega) ?_
      refine r_getI f63_64 o63 F6_161 (gC_4 (c := i) (by omega) (by omega)) rfl ?_
      refine r_iadd f63_67 (e := m (64 + 5 * i) 4 + zsum (XSp m x y) i) (by omega) (by omega) (by omega) ?_
      refine r_istore_n f63_68 rfl (ls' := [some (.inr (.inl (some 0))), some (.inl x), some (.inl y), some (.inl (m (64 + 5 * i) 4 + zsum (XSp m x y) i)), some (.inl i)]) rfl ?_
      refine r_iinc f63_69 rfl rfl rfl (e := i + 1) (by omega) (by omega) (by omega) (ls' := [some (.inr (.inl (some 0))), some (.inl x), some (.inl y), some (.inl (m (64 + 5 * i) 4 + zsum (XSp m x y) i)), some (.inl (i + 1))]) rfl ?_
      refine r_goto f63_72 (t := 32) (by decide) ?_
      refine r_setI (k := 3) (a := m (64 + 5 * i) 4 + zsum (XSp m x y) i) (e := zsum (XSp m x y) (i + 1)) (by rw [zsum_s (by omega)]; unfold XSp; first | (rw [if_pos (by assumption)]; omega) | (rw [if_neg (by assumption)]; omega)) rfl (ls' := [some (.inr (.inl (some 0))), some (.inl x), some (.inl y), some (.inl (zsum (XSp m x y) (i + 1))), some (.inl (i + 1))]) rfl ?_
      exact ih (i + 1) (by omega) (by omega)
    · refine r_zeq f63_53 (t := 69) (by decide) (fun _ => ?_) (fun h => absurd (by omega) h)
      refine r_iinc f63_69 rfl rfl rfl (e := i + 1) (by omega) (by omega) (by omega) (ls' := [some (.inr (.inl (some 0))), some (.inl x), some (.inl y), some (.inl (zsum (XSp m x y) i)), some (.inl (i + 1))]) rfl ?_
      refine r_goto f63_72 (t := 32) (by decide) ?_
      refine r_setI (k := 3) (a := zsum (XSp m x y) i) (e := zsum (XSp m x y) (i + 1)) (by rw [zsum_s (by omega)]; unfold XSp; first | (rw [if_pos (by assumption)]; omega) | (rw [if_neg (by assumption)]; omega)) rfl (ls' := [some (.inr (.inl (some 0))), some (.inl x), some (.inl y), some (.inl (zsum (XSp m x y) (i + 1))), some (.inl (i + 1))]) rfl ?_
      exact ih (i + 1) (by omega) (by omega)

def XSu (m : zmem) (x y : Int) : Int := if (0 ≤ x ∧ x < m 1 1) ∧ m 0 7 ≤ y ∧ y ≤ 39 then zsum (XSp m x y) (m 0 6) + (if 0 < m 0 7 then m (3 + 4 * x) 6 / m 0 7 else 0) else -2
theorem sp_bx {T : Int} {m : zmem} (hs : Sim T m m) {x y : Int} : 0 ≤ zsum (XSp m x y) (m 0 6) ∧ zsum (XSp m x y) (m 0 6) ≤ 480 := by
  have s1 := hs.s1
  unfold S1 at s1
  have hb := zsum_b (f := XSp m x y) (A := 0) (B := 12) (n := m 0 6) (by omega) (fun k a b => by
    have w2 := hs.s5 k (by omega) (by omega)
    unfold XSp
    split <;> omega)
  omega
theorem sp_b2 {T : Int} {m : zmem} (hs : Sim T m m) {x : Int} (x0 : 0 ≤ x) (x1 : x < 12) : (0 ≤ m (3 + 4 * x) 6 ∧ m (3 + 4 * x) 6 ≤ 1053) ∧ (0 < m 264 9 → 0 ≤ m (3 + 4 * x) 6 / m 264 9 ∧ m (3 + 4 * x) 6 / m 264 9 ≤ 1053) := by
  have s1 := hs.s1
  unfold S1 at s1
  have g := hs.s11 x x0 x1
  have hb := zsum_b (f := fun k => m 269 (120 * x + k)) (A := 0) (B := 9) (n := 3 * m 264 9) (by omega) (fun k a b => by
    have w2 := g.1 k (by omega) (by omega)
    omega)
  have h1 : 0 ≤ m (3 + 4 * x) 6 ∧ m (3 + 4 * x) 6 ≤ 1053 := by omega
  exact ⟨h1, fun h => ⟨Int.ediv_nonneg h1.1 (by omega), Int.le_trans (Int.ediv_le_self _ h1.1) h1.2⟩⟩
theorem t_Xsuppers {L d : Nat} {m : zmem} {T : Int} (hs : Sim T m m) (x y : Int) : zF L (d + 4) 63 [.inr (.inl (some 0)), .inl x, .inl y] m (some (.inl (XSu m x y))) m := by
  have s1 := hs.s1
  unfold S1 at s1
  refine zF_of n63 (ls := [some (.inr (.inl (some 0))), some (.inl x), some (.inl y), none, none]) rfl ?_
  refine r_aload_n f63_0 rfl ?_
  refine r_getR f63_1 o63 F6_10 g0_0 rfl ?_
  refine r_iload_n f63_4 rfl ?_
  refine r_callv1i (m' := m) f63_5 o63 M6_58 p30 o30 kd1 rfl (by simp) (t_hasHouse (m := m) x (by omega) (by omega)) ?_
  refine r_ite (fun q1 => ?_) (fun q1 => ?_)
  · refine r_zeq f63_8 (t := 24) (by decide) (fun h => absurd h (by omega)) (fun _ => ?_)
    refine r_iload_n f63_11 rfl ?_
    refine r_aload_n f63_12 rfl ?_
    refine r_getI f63_13 o63 F6_94 g0_7 rfl ?_
    refine r_bipush f63_16 (by decide) ?_
    refine r_calls3i (m' := m) f63_18 o63 M6_50 (Or.inl rfl) p67 rfl (by simp) (t_within y (m 0 7) 39) ?_
    refine r_ite (fun q2 => ?_) (fun q2 => ?_)
    · refine r_zne f63_21 (t := 27) (by decide) (fun _ => ?_) (fun h => absurd (by omega) h)
      refine r_iconst f63_27 rfl ?_
      refine r_istore_n f63_28 rfl (ls' := [some (.inr (.inl (some 0))), some (.inl x), some (.inl y), some (.inl 0), none]) rfl ?_
      refine r_iconst f63_29 rfl ?_
      refine r_istore f63_30 rfl (ls' := [some (.inr (.inl (some 0))), some (.inl x), some (.inl y), some (.inl 0), some (.inl 0)]) rfl ?_
      refine l_suppX hs (by omega) (by omega) (by omega) (by omega) ?_ (m 0 6).toNat 0 (by omega) (by omega)
      have hb := sp_bx hs (x := x) (y := y)
      have hb2 := sp_b2 hs (x := x) (by omega) (by omega)
      have e07 : m 0 7 = m 264 9 := by omega
      rw [← e07] at hb2
      refine r_aload_n f63_75 rfl ?_
      refine r_getI f63_76 o63 F6_94 g0_7 rfl ?_
      refine r_zle f63_79 (t := 102) (by decide) (fun q3 => ?_) (fun q3 => ?_)
      · refine r_iconst f63_102 rfl ?_
        refine r_istore f63_103 rfl (ls' := [some (.inr (.inl (some 0))), some (.inl x), some (.inl y), some (.inl (zsum (XSp m x y) (m 0 6))), some (.inl 0)]) rfl ?_
        refine r_iload_n f63_105 rfl ?_
        refine r_iload f63_106 rfl ?_
        refine r_iadd f63_108 (e := zsum (XSp m x y) (m 0 6)) (by omega) (by omega) (by omega) ?_
        exact r_iret f63_109 v63 ⟨zs_eq (by unfold XSu; (repeat (first | rw [if_pos (by omega)] | rw [if_neg (by omega)])) <;> omega), rfl⟩
      · refine r_aload_n f63_82 rfl ?_
        refine r_getR f63_83 o63 F6_10 g0_0 rfl ?_
        refine r_getR f63_86 o63 F6_70 g1_0 rfl ?_
        refine r_iload_n f63_89 rfl ?_
        refine r_aldH f63_90 (by omega) (by omega) ?_
        refine r_getI f63_91 o63 F6_237 (gH_6 (h := x) (by omega) (by omega)) rfl ?_
        refine r_aload_n f63_94 rfl ?_
        refine r_getI f63_95 o63 F6_94 g0_7 rfl ?_
        refine r_idiv f63_98 (by omega) (by omega) ?_
        refine r_goto f63_99 (t := 103) (by decide) ?_
        refine r_istore f63_103 rfl (ls' := [some (.inr (.inl (some 0))), some (.inl x), some (.inl y), some (.inl (zsum (XSp m x y) (m 0 6))), some (.inl ((m (3 + 4 * x) 6) / (m 0 7)))]) rfl ?_
        refine r_iload_n f63_105 rfl ?_
        refine r_iload f63_106 rfl ?_
        refine r_iadd f63_108 (e := (m (3 + 4 * x) 6) / (m 0 7) + zsum (XSp m x y) (m 0 6)) (by omega) (by omega) (by omega) ?_
        exact r_iret f63_109 v63 ⟨zs_eq (by unfold XSu; (repeat (first | rw [if_pos (by omega)] | rw [if_neg (by omega)])) <;> omega), rfl⟩
    · refine r_zne f63_21 (t := 27) (by decide) (fun h => absurd h (by omega)) (fun _ => ?_)
      refine r_bipush f63_24 (by decide) ?_
      exact r_iret f63_26 v63 ⟨zs_eq (by unfold XSu; (repeat (first | rw [if_pos (by omega)] | rw [if_neg (by omega)])) <;> omega), rfl⟩
  · refine r_zeq f63_8 (t := 24) (by decide) (fun _ => ?_) (fun h => absurd (by omega) h)
    refine r_bipush f63_24 (by decide) ?_
    exact r_iret f63_26 v63 ⟨zs_eq (by unfold XSu; (repeat (first | rw [if_pos (by omega)] | rw [if_neg (by omega)])) <;> omega), rfl⟩

def MSp (m : zmem) (x y k : Int) : Int := if MH m k y ∧ ¬ m 276 (7 * k + y - m 272 k) = 0 ∧ m 274 (7 * k + y - m 272 k) = x then m 271 k else 0
theorem l_suppM {L d : Nat} {m : zmem} {T : Int} (hs : Sim T m m) {x y : Int} (x0 : 0 ≤ x) (x1 : x < m 264 0) (y0 : 0 ≤ y) (y1 : y < 40)  {Q : Option zV → zM → Prop} (hx : zR (d + 2) 128 94 [some (.inr (.inl (some 264))), some (.inl x), some (.inl y), some (.inl (zsum (MSp m x y) (m 264 10))), some (.inl (m 264 10)), none] [] (zem L m) Q) : ∀ (n : Nat) (i : Int), 0 ≤ i → i + n = m 264 10 → zR (d + 2) 128 29 [some (.inr (.inl (some 264))), some (.inl x), some (.inl y), some (.inl (zsum (MSp m x y) i)), some (.inl i), none] [] (zem L m) Q := by
  intro n
  induction n with
  | zero =>
    intro i hi hn
    have ei : i = m 264 10 := by omega
    rw [ei]
    refine r_iload f128_29 rfl ?_
    refine r_aload_n f128_31 rfl ?_
    refine r_getI f128_32 o128 F7_94 g264_10 rfl ?_
    refine r_cge f128_35 (t := 94) (by decide) (fun _ => ?_) (fun h => absurd (by omega) h)
    exact hx
  | succ n ih =>
    intro i hi hn
    have s1 := hs.s1
    unfold S1 at s1
    have k5 := hs.s5 i (by omega) (by omega)
    have hb := zsum_b (f := MSp m x y) (A := 0) (B := 12) (n := i) (by omega) (fun k a b => by
      have w2 := hs.s5 k (by omega) (by omega)
      unfold MSp
      split <;> omega)
    refine r_iload f128_29 rfl ?_
    refine r_aload_n f128_31 rfl ?_
    refine r_getI f128_32 o128 F7_94 g264_10 rfl ?_
    refine r_cge f128_35 (t := 94) (by decide) (fun h => absurd h (by omega)) (fun _ => ?_)
    refine r_aload_n f128_38 rfl ?_
    refine r_iload f128_39 rfl ?_
    refine r_iload_n f128_41 rfl ?_
    refine r_callv2i (m' := m) f128_42 o128 M7_104 p92 o92 kd264 rfl (by simp) (t_placeOf (c := i) (t := y) (by omega) (by omega) (by omega) (by omega) (by omega) (by omega) (by omega) (by omega)) ?_
    refine r_ite (fun q1 => ?_) (fun q1 => ?_)
    · refine r_istore f128_45 rfl (ls' := [some (.inr (.inl (some 264))), some (.inl x), some (.inl y), some (.inl (zsum (MSp m x y) i)), some (.inl i), some (.inl (7 * i + y - m 272 i))]) rfl ?_
      refine r_iload_n f128_47 rfl ?_
      refine r_iload f128_48 rfl ?_
      refine r_iconst f128_50 rfl ?_
      refine r_ceq f128_51 (t := 85) (by decide) (fun q2 => ?_) (fun q2 => ?_)
      · refine r_iconst f128_85 rfl ?_
        refine r_iadd f128_86 (e := zsum (MSp m x y) i) (by omega) (by omega) (by omega) ?_
        refine r_istore_n f128_87 rfl (ls' := [some (.inr (.inl (some 264))), some (.inl x), some (.inl y), some (.inl (zsum (MSp m x y) i)), some (.inl i), some (.inl (7 * i + y - m 272 i))]) rfl ?_
        refine r_iinc f128_88 rfl rfl rfl (e := i + 1) (by omega) (by omega) (by omega) (ls' := [some (.inr (.inl (some 264))), some (.inl x), some (.inl y), some (.inl (zsum (MSp m x y) i)), some (.inl (i + 1)), some (.inl (7 * i + y - m 272 i))]) rfl ?_
        refine r_goto f128_91 (t := 29) (by decide) ?_
        refine r_forget (ls' := [some (.inr (.inl (some 264))), some (.inl x), some (.inl y), some (.inl (zsum (MSp m x y) i)), some (.inl (i + 1)), none]) ⟨Or.inl rfl, ⟨Or.inl rfl, ⟨Or.inl rfl, ⟨Or.inl rfl, ⟨Or.inl rfl, ⟨Or.inr ⟨rfl, rfl⟩, trivial⟩⟩⟩⟩⟩⟩ ?_
        refine r_setI (k := 3) (a := zsum (MSp m x y) i) (e := zsum (MSp m x y) (i + 1)) (by rw [zsum_s (by omega)]; unfold MSp; first | (exfalso; omega) | (rw [if_pos (by omega)]; omega) | (rw [if_neg (by omega)]; omega)) rfl (ls' := [some (.inr (.inl (some 264))), some (.inl x), some (.inl y), some (.inl (zsum (MSp m x y) (i + 1))), some (.inl (i + 1)), none]) rfl ?_
        exact ih (i + 1) (by omega) (by omega)
      · refine r_aload_n f128_54 rfl ?_
        refine r_getR f128_55 o128 F7_44 g264_16 rfl ?_
        refine r_iload f128_58 rfl ?_
        refine r_bald f128_60 kd276 (by omega) (by omega) ?_
        refine r_zeq f128_61 (t := 85) (by decide) (fun q3 => ?_) (fun q3 => ?_)
        · refine r_iconst f128_85 rfl ?_
          refine r_iadd f128_86 (e := zsum (MSp m x y) i) (by omega) (by omega) (by omega) ?_
          refine r_istore_n f128_87 rfl (ls' := [some (.inr (.inl (some 264))), some (.inl x), some (.inl y), some (.inl (zsum (MSp m x y) i)), some (.inl i), some (.inl (7 * i + y - m 272 i))]) rfl ?_
          refine r_iinc f128_88 rfl rfl rfl (e := i + 1) (by omega) (by omega) (by omega) (ls' := [some (.inr (.inl (some 264))), some (.inl x), some (.inl y), some (.inl (zsum (MSp m x y) i)), some (.inl (i + 1)), some (.inl (7 * i + y - m 272 i))]) rfl ?_
          refine r_goto f128_91 (t := 29) (by decide) ?_
          refine r_forget (ls' := [some (.inr (.inl (some 264))), some (.inl x), some (.inl y), some (.inl (zsum (MSp m x y) i)), some (.inl (i + 1)), none]) ⟨Or.inl rfl, ⟨Or.inl rfl, ⟨Or.inl rfl, ⟨Or.inl rfl, ⟨Or.inl rfl, ⟨Or.inr ⟨rfl, rfl⟩, trivial⟩⟩⟩⟩⟩⟩ ?_
          refine r_setI (k := 3) (a := zsum (MSp m x y) i) (e := zsum (MSp m x y) (i + 1)) (by rw [zsum_s (by omega)]; unfold MSp; first | (exfalso; omega) | (rw [if_pos (by omega)]; omega) | (rw [if_neg (by omega)]; omega)) rfl (ls' := [some (.inr (.inl (some 264))), some (.inl x), some (.inl y), some (.inl (zsum (MSp m x y) (i + 1))), some (.inl (i + 1)), none]) rfl ?_
          exact ih (i + 1) (by omega) (by omega)
        · refine r_aload_n f128_64 rfl ?_
          refine r_getR f128_65 o128 F7_38 g264_14 rfl ?_
          refine r_iload f128_68 rfl ?_
          refine r_iald f128_70 kd274 (by omega) (by omega) ?_
          refine r_iload_n f128_71 rfl ?_
          refine r_cne f128_72 (t := 85) (by decide) (fun q4 => ?_) (fun q4 => ?_)
          · refine r_iconst f128_85 rfl ?_
            refine r_iadd f128_86 (e := zsum (MSp m x y) i) (by omega) (by omega) (by omega) ?_
            refine r_istore_n f128_87 rfl (ls' := [some (.inr (.inl (some 264))), some (.inl x), some (.inl y), some (.inl (zsum (MSp m x y) i)), some (.inl i), some (.inl (7 * i + y - m 272 i))]) rfl ?_
            refine r_iinc f128_88 rfl rfl rfl (e := i + 1) (by omega) (by omega) (by omega) (ls' := [some (.inr (.inl (some 264))), some (.inl x), some (.inl y), some (.inl (zsum (MSp m x y) i)), some (.inl (i + 1)), some (.inl (7 * i + y - m 272 i))]) rfl ?_
            refine r_goto f128_91 (t := 29) (by decide) ?_
            refine r_forget (ls' := [some (.inr (.inl (some 264))), some (.inl x), some (.inl y), some (.inl (zsum (MSp m x y) i)), some (.inl (i + 1)), none]) ⟨Or.inl rfl, ⟨Or.inl rfl, ⟨Or.inl rfl, ⟨Or.inl rfl, ⟨Or.inl rfl, ⟨Or.inr ⟨rfl, rfl⟩, trivial⟩⟩⟩⟩⟩⟩ ?_
            refine r_setI (k := 3) (a := zsum (MSp m x y) i) (e := zsum (MSp m x y) (i + 1)) (by rw [zsum_s (by omega)]; unfold MSp; first | (exfalso; omega) | (rw [if_pos (by omega)]; omega) | (rw [if_neg (by omega)]; omega)) rfl (ls' := [some (.inr (.inl (some 264))), some (.inl x), some (.inl y), some (.inl (zsum (MSp m x y) (i + 1))), some (.inl (i + 1)), none]) rfl ?_
            exact ih (i + 1) (by omega) (by omega)
          · refine r_aload_n f128_75 rfl ?_
            refine r_getR f128_76 o128 F7_29 g264_11 rfl ?_
            refine r_iload f128_79 rfl ?_
            refine r_iald f128_81 kd271 (by omega) (by omega) ?_
            refine r_goto f128_82 (t := 86) (by decide) ?_
            refine r_iadd f128_86 (e := m 271 i + zsum (MSp m x y) i) (by omega) (by omega) (by omega) ?_
            refine r_istore_n f128_87 rfl (ls' := [some (.inr (.inl (some 264))), some (.inl x), some (.inl y), some (.inl (m 271 i + zsum (MSp m x y) i)), some (.inl i), some (.inl (7 * i + y - m 272 i))]) rfl ?_
            refine r_iinc f128_88 rfl rfl rfl (e := i + 1) (by omega) (by omega) (by omega) (ls' := [some (.inr (.inl (some 264))), some (.inl x), some (.inl y), some (.inl (m 271 i + zsum (MSp m x y) i)), some (.inl (i + 1)), some (.inl (7 * i + y - m 272 i))]) rfl ?_
            refine r_goto f128_91 (t := 29) (by decide) ?_
            refine r_forget (ls' := [some (.inr (.inl (some 264))), some (.inl x), some (.inl y), some (.inl (m 271 i + zsum (MSp m x y) i)), some (.inl (i + 1)), none]) ⟨Or.inl rfl, ⟨Or.inl rfl, ⟨Or.inl rfl, ⟨Or.inl rfl, ⟨Or.inl rfl, ⟨Or.inr ⟨rfl, rfl⟩, trivial⟩⟩⟩⟩⟩⟩ ?_
            refine r_setI (k := 3) (a := m 271 i + zsum (MSp m x y) i) (e := zsum (MSp m x y) (i + 1)) (by rw [zsum_s (by omega)]; unfold MSp; first | (exfalso; omega) | (rw [if_pos (by omega)]; omega) | (rw [if_neg (by omega)]; omega)) rfl (ls' := [some (.inr (.inl (some 264))), some (.inl x), some (.inl y), some (.inl (zsum (MSp m x y) (i + 1))), some (.inl (i + 1)), none]) rfl ?_
            exact ih (i + 1) (by omega) (by omega)
    · refine r_istore f128_45 rfl (ls' := [some (.inr (.inl (some 264))), some (.inl x), some (.inl y), some (.inl (zsum (MSp m x y) i)), some (.inl i), some (.inl (-1))]) rfl ?_
      refine r_iload_n f128_47 rfl ?_
      refine r_iload f128_48 rfl ?_
      refine r_iconst f128_50 rfl ?_
      refine r_ceq f128_51 (t := 85) (by decide) (fun _ => ?_) (fun h => absurd (by omega) h)
      refine r_iconst f128_85 rfl ?_
      refine r_iadd f128_86 (e := zsum (MSp m x y) i) (by omega) (by omega) (by omega) ?_
      refine r_istore_n f128_87 rfl (ls' := [some (.inr (.inl (some 264))), some (.inl x), some (.inl y), some (.inl (zsum (MSp m x y) i)), some (.inl i), some (.inl (-1))]) rfl ?_
      refine r_iinc f128_88 rfl rfl rfl (e := i + 1) (by omega) (by omega) (by omega) (ls' := [some (.inr (.inl (some 264))), some (.inl x), some (.inl y), some (.inl (zsum (MSp m x y) i)), some (.inl (i + 1)), some (.inl (-1))]) rfl ?_
      refine r_goto f128_91 (t := 29) (by decide) ?_
      refine r_forget (ls' := [some (.inr (.inl (some 264))), some (.inl x), some (.inl y), some (.inl (zsum (MSp m x y) i)), some (.inl (i + 1)), none]) ⟨Or.inl rfl, ⟨Or.inl rfl, ⟨Or.inl rfl, ⟨Or.inl rfl, ⟨Or.inl rfl, ⟨Or.inr ⟨rfl, rfl⟩, trivial⟩⟩⟩⟩⟩⟩ ?_
      refine r_setI (k := 3) (a := zsum (MSp m x y) i) (e := zsum (MSp m x y) (i + 1)) (by rw [zsum_s (by omega)]; unfold MSp; first | (exfalso; omega) | (rw [if_pos (by omega)]; omega) | (rw [if_neg (by omega)]; omega)) rfl (ls' := [some (.inr (.inl (some 264))), some (.inl x), some (.inl y), some (.inl (zsum (MSp m x y) (i + 1))), some (.inl (i + 1)), none]) rfl ?_
      exact ih (i + 1) (by omega) (by omega)

theorem l_came {L d : Nat} {m : zmem} {T : Int} (hs : Sim T m m) {x y : Int} (x0 : 0 ≤ x) (x1 : x < m 264 0) (y0 : 0 ≤ y) (y1 : y < 40) (w0 : 0 ≤ m 264 9) (w1 : m 264 9 ≤ 39)  {Q : Option zV → zM → Prop} (hx : zR (d + 2) 128 134 [some (.inr (.inl (some 264))), some (.inl x), some (.inl y), some (.inl (zsum (MSp m x y) (m 264 10))), some (.inl (zsum (fun k => m 269 (120 * x + k)) (3 * (m 264 9)))), some (.inl (3 * (m 264 9)))] [] (zem L m) Q) : ∀ (n : Nat) (i : Int), 0 ≤ i → i + n = 3 * (m 264 9) → zR (d + 2) 128 100 [some (.inr (.inl (some 264))), some (.inl x), some (.inl y), some (.inl (zsum (MSp m x y) (m 264 10))), some (.inl (zsum (fun k => m 269 (120 * x + k)) i)), some (.inl i)] [] (zem L m) Q := by
  intro n
  induction n with
  | zero =>
    intro i hi hn
    have ei : i = 3 * (m 264 9) := by omega
    rw [ei]
    refine r_iload f128_100 rfl ?_
    refine r_iconst f128_102 rfl ?_
    refine r_aload_n f128_103 rfl ?_
    refine r_getI f128_104 o128 F7_122 g264_9 rfl ?_
    refine r_imul f128_107 (e := 3 * (m 264 9)) (by omega) (by omega) (by omega) ?_
    refine r_cge f128_108 (t := 134) (by decide) (fun _ => ?_) (fun h => absurd (by omega) h)
    exact hx
  | succ n ih =>
    intro i hi hn
    have s1 := hs.s1
    unfold S1 at s1
    have g := hs.s11 x x0 (by omega)
    have hb := zsum_b (f := fun k => m 269 (120 * x + k)) (A := 0) (B := 9) (n := i) (by omega) (fun k a b => by
      have w2 := g.1 k (by omega) (by omega)
      omega)
    have g1 := g.1 i (by omega) (by omega)
    refine r_iload f128_100 rfl ?_
    refine r_iconst f128_102 rfl ?_
    refine r_aload_n f128_103 rfl ?_
    refine r_getI f128_104 o128 F7_122 g264_9 rfl ?_
    refine r_imul f128_107 (e := 3 * (m 264 9)) (by omega) (by omega) (by omega) ?_
    refine r_cge f128_108 (t := 134) (by decide) (fun h => absurd h (by omega)) (fun _ => ?_)
    refine r_iload f128_111 rfl ?_
    refine r_aload_n f128_113 rfl ?_
    refine r_getR f128_114 o128 F7_23 g264_5 rfl ?_
    refine r_bipush f128_117 (by decide) ?_
    refine r_iload_n f128_119 rfl ?_
    refine r_imul f128_120 (e := 120 * x) (by omega) (by omega) (by omega) ?_
    refine r_iload f128_121 rfl ?_
    refine r_iadd f128_123 (e := i + 120 * x) (by omega) (by omega) (by omega) ?_
    refine r_iald f128_124 kd269 (by omega) (by omega) ?_
    refine r_top (e := m 269 (120 * x + i)) (by rw [show i + 120 * x = 120 * x + i by omega]) ?_
    refine r_iadd f128_125 (e := m 269 (120 * x + i) + zsum (fun k => m 269 (120 * x + k)) i) (by omega) (by omega) (by omega) ?_
    refine r_istore f128_126 rfl (ls' := [some (.inr (.inl (some 264))), some (.inl x), some (.inl y), some (.inl (zsum (MSp m x y) (m 264 10))), some (.inl (m 269 (120 * x + i) + zsum (fun k => m 269 (120 * x + k)) i)), some (.inl i)]) rfl ?_
    refine r_iinc f128_128 rfl rfl rfl (e := i + 1) (by omega) (by omega) (by omega) (ls' := [some (.inr (.inl (some 264))), some (.inl x), some (.inl y), some (.inl (zsum (MSp m x y) (m 264 10))), some (.inl (m 269 (120 * x + i) + zsum (fun k => m 269 (120 * x + k)) i)), some (.inl (i + 1))]) rfl ?_
    refine r_goto f128_131 (t := 100) (by decide) ?_
    refine r_setI (k := 4) (a := m 269 (120 * x + i) + zsum (fun k => m 269 (120 * x + k)) i) (e := zsum (fun k => m 269 (120 * x + k)) (i + 1)) (by rw [zsum_s (by omega)]; omega) rfl (ls' := [some (.inr (.inl (some 264))), some (.inl x), some (.inl y), some (.inl (zsum (MSp m x y) (m 264 10))), some (.inl (zsum (fun k => m 269 (120 * x + k)) (i + 1))), some (.inl (i + 1))]) rfl ?_
    exact ih (i + 1) (by omega) (by omega)

theorem sp_eq {T : Int} {m : zmem} (hs : Sim T m m) {x y : Int} : zsum (XSp m x y) (m 0 6) = zsum (MSp m x y) (m 264 10) := by
  have s1 := hs.s1
  unfold S1 at s1
  rw [show m 0 6 = m 264 10 by omega]
  refine zsum_c (fun k k0 k1 => ?_)
  have k5 := hs.s5 k k0 (by omega)
  have e5 : m (64 + 5 * k) 5 = m 272 k := by omega
  have e6 : m (64 + 5 * k) 6 = m 273 k := by omega
  have ei : 7 * k + y - m 272 k = 7 * k + (y - m 272 k) := by omega
  unfold XSp MSp
  rw [ei, show m (64 + 5 * k) 4 = m 271 k by omega]
  by_cases hh : 0 ≤ y - m 272 k ∧ y - m 272 k < m 273 k
  · have g6 := hs.s6 k k0 (by omega) (y - m 272 k) (by omega) (by omega)
    have gl := Sim_la hs k k0 k1 (y - m 272 k) (by omega) (by omega)
    have iff : XA m k x y ↔ (MH m k y ∧ ¬ m 276 (7 * k + (y - m 272 k)) = 0 ∧ m 274 (7 * k + (y - m 272 k)) = x) := by
      unfold XA XO XH MH
      rw [e5, e6, gl, g6.1]
      exact ⟨fun h => ⟨h.1.1, h.1.2, h.2⟩, fun h => ⟨⟨h.1, h.2.1⟩, h.2.2⟩⟩
    by_cases q : XA m k x y
    · rw [if_pos q, if_pos (iff.1 q)]
    · rw [if_neg q, if_neg (fun h => q (iff.2 h))]
  · rw [if_neg (fun h => hh (by have := h.1.1; unfold XH at this; omega)), if_neg (fun h => hh h.1)]
def MSu (m : zmem) (x y : Int) : Int := if (0 ≤ x ∧ x < m 264 0) ∧ m 264 9 ≤ y ∧ y ≤ 39 then zsum (MSp m x y) (m 264 10) + (if 0 < m 264 9 then m (3 + 4 * x) 6 / m 264 9 else 0) else -2
theorem t_Msuppers {L d : Nat} {m : zmem} {T : Int} (hs : Sim T m m) (x y : Int) : zF L (d + 2) 128 [.inr (.inl (some 264)), .inl x, .inl y] m (some (.inl (MSu m x y))) m := by
  have s1 := hs.s1
  unfold S1 at s1
  refine zF_of n128 (ls := [some (.inr (.inl (some 264))), some (.inl x), some (.inl y), none, none, none]) rfl ?_
  refine r_aload_n f128_0 rfl ?_
  refine r_iload_n f128_1 rfl ?_
  refine r_callv1i (m' := m) f128_2 o128 M7_97 p86 o86 kd264 rfl (by simp) (t_isHouse (m := m) x (by omega) (by omega)) ?_
  refine r_ite (fun q1 => ?_) (fun q1 => ?_)
  · refine r_zeq f128_5 (t := 21) (by decide) (fun h => absurd h (by omega)) (fun _ => ?_)
    refine r_iload_n f128_8 rfl ?_
    refine r_aload_n f128_9 rfl ?_
    refine r_getI f128_10 o128 F7_122 g264_9 rfl ?_
    refine r_bipush f128_13 (by decide) ?_
    refine r_calls3i (m' := m) f128_15 o128 M7_90 (Or.inl rfl) p85 rfl (by simp) (t_in y (m 264 9) 39) ?_
    refine r_ite (fun q2 => ?_) (fun q2 => ?_)
    · refine r_zne f128_18 (t := 24) (by decide) (fun _ => ?_) (fun h => absurd (by omega) h)
      refine r_iconst f128_24 rfl ?_
      refine r_istore_n f128_25 rfl (ls' := [some (.inr (.inl (some 264))), some (.inl x), some (.inl y), some (.inl 0), none, none]) rfl ?_
      refine r_iconst f128_26 rfl ?_
      refine r_istore f128_27 rfl (ls' := [some (.inr (.inl (some 264))), some (.inl x), some (.inl y), some (.inl 0), some (.inl 0), none]) rfl ?_
      refine l_suppM hs (by omega) (by omega) (by omega) (by omega) ?_ (m 264 10).toNat 0 (by omega) (by omega)
      refine r_iconst f128_94 rfl ?_
      refine r_istore f128_95 rfl (ls' := [some (.inr (.inl (some 264))), some (.inl x), some (.inl y), some (.inl (zsum (MSp m x y) (m 264 10))), some (.inl 0), none]) rfl ?_
      refine r_iconst f128_97 rfl ?_
      refine r_istore f128_98 rfl (ls' := [some (.inr (.inl (some 264))), some (.inl x), some (.inl y), some (.inl (zsum (MSp m x y) (m 264 10))), some (.inl 0), some (.inl 0)]) rfl ?_
      refine l_came hs (by omega) (by omega) (by omega) (by omega) (by omega) (by omega) ?_ (3 * (m 264 9)).toNat 0 (by omega) (by omega)
      have hb := sp_bx hs (x := x) (y := y)
      rw [sp_eq hs] at hb
      have hb2 := sp_b2 hs (x := x) (by omega) (by omega)
      have g11 := (hs.s11 x (by omega) (by omega)).2.1
      refine r_setI (k := 4) (a := zsum (fun k => m 269 (120 * x + k)) (3 * (m 264 9))) (e := m (3 + 4 * x) 6) g11.symm rfl (ls' := [some (.inr (.inl (some 264))), some (.inl x), some (.inl y), some (.inl (zsum (MSp m x y) (m 264 10))), some (.inl (m (3 + 4 * x) 6)), some (.inl (3 * (m 264 9)))]) rfl ?_
      refine r_iload_n f128_134 rfl ?_
      refine r_aload_n f128_135 rfl ?_
      refine r_getI f128_136 o128 F7_122 g264_9 rfl ?_
      refine r_zne f128_139 (t := 146) (by decide) (fun q3 => ?_) (fun q3 => ?_)
      · refine r_iload f128_146 rfl ?_
        refine r_aload_n f128_148 rfl ?_
        refine r_getI f128_149 o128 F7_122 g264_9 rfl ?_
        refine r_idiv f128_152 (by omega) (by omega) ?_
        refine r_iadd f128_153 (e := (m (3 + 4 * x) 6) / (m 264 9) + zsum (MSp m x y) (m 264 10)) (by omega) (by omega) (by omega) ?_
        exact r_iret f128_154 v128 ⟨zs_eq (by unfold MSu; (repeat (first | rw [if_pos (by omega)] | rw [if_neg (by omega)])) <;> omega), rfl⟩
      · refine r_iconst f128_142 rfl ?_
        refine r_goto f128_143 (t := 153) (by decide) ?_
        refine r_iadd f128_153 (e := zsum (MSp m x y) (m 264 10)) (by omega) (by omega) (by omega) ?_
        exact r_iret f128_154 v128 ⟨zs_eq (by unfold MSu; (repeat (first | rw [if_pos (by omega)] | rw [if_neg (by omega)])) <;> omega), rfl⟩
    · refine r_zne f128_18 (t := 24) (by decide) (fun h => absurd h (by omega)) (fun _ => ?_)
      refine r_bipush f128_21 (by decide) ?_
      exact r_iret f128_23 v128 ⟨zs_eq (by unfold MSu; (repeat (first | rw [if_pos (by omega)] | rw [if_neg (by omega)])) <;> omega), rfl⟩
  · refine r_zeq f128_5 (t := 21) (by decide) (fun _ => ?_) (fun h => absurd (by omega) h)
    refine r_bipush f128_21 (by decide) ?_
    exact r_iret f128_23 v128 ⟨zs_eq (by unfold MSu; (repeat (first | rw [if_pos (by omega)] | rw [if_neg (by omega)])) <;> omega), rfl⟩

theorem pr_suppers {L : Nat} {T : Int} {m : zmem} (hs : Sim T m m) (x y : Int) : zPr L 63 128 [.inl x, .inl y] T m :=
  zPr_rd hs (t_Xsuppers (d := 4) hs x y) (t_Msuppers (d := 6) hs x y) (by
    have s1 := hs.s1
    unfold S1 at s1
    unfold XSu MSu
    rw [sp_eq hs, show m 1 1 = m 264 0 by omega, show m 0 7 = m 264 9 by omega])
