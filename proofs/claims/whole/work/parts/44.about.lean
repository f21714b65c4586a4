def MMf (m : zmem) (x k : Int) : Int := if 1 ≤ k ∧ ¬ m 278 (7 * x + (k - 1)) = 0 ∧ ¬ m 278 (7 * x + k) = 0 ∧ ¬ m 274 (7 * x + (k - 1)) = m 274 (7 * x + k) then m 270 (12 * m 274 (7 * x + (k - 1)) + m 274 (7 * x + k)) else 0
theorem l_milesOf {L d : Nat} {m : zmem} {T : Int} (hs : Sim T m m) {x : Int} (x0 : 0 ≤ x) (x1 : x < m 264 10) (x2 : x < 40)  {Q : Option zV → zM → Prop} (hx : zR (d) 117 101 [some (.inr (.inl (some 264))), some (.inl x), some (.inl (zsum (MMf m x) (m 273 x))), some (.inl (m 273 x)), none] [] (zem L m) Q) : ∀ (n : Nat) (i : Int), 1 ≤ i → i + n = m 273 x → zR (d) 117 4 [some (.inr (.inl (some 264))), some (.inl x), some (.inl (zsum (MMf m x) i)), some (.inl i), none] [] (zem L m) Q := by
  intro n
  induction n with
  | zero =>
    intro i hi hn
    have ei : i = m 273 x := by omega
    rw [ei]
    refine r_iload_n f117_4 rfl ?_
    refine r_aload_n f117_5 rfl ?_
    refine r_getR f117_6 o117 F7_35 g264_13 rfl ?_
    refine r_iload_n f117_9 rfl ?_
    refine r_iald f117_10 kd273 (by omega) (by omega) ?_
    refine r_cge f117_11 (t := 101) (by decide) (fun _ => ?_) (fun h => absurd (by omega) h)
    exact hx
  | succ n ih =>
    intro i hi hn
    have s1 := hs.s1
    unfold S1 at s1
    have k5 := hs.s5 x x0 (by omega)
    have hb := zsum_b (f := MMf m x) (A := 0) (B := 40) (n := i) (by omega) (fun k a b => by
      have w2 := hs.s6 x x0 (by omega) k (by omega) (by omega)
      unfold MMf
      split
      · next e =>
        have w3 := hs.s6 x x0 (by omega) (k - 1) (by omega) (by omega)
        have w4 := (hs.s4 (m 274 (7 * x + (k - 1))) (by omega) (by omega)).2 (m 274 (7 * x + k)) (by omega) (by omega)
        omega
      · omega)
    have w2 := hs.s6 x x0 (by omega) i (by omega) (by omega)
    have w3 := hs.s6 x x0 (by omega) (i - 1) (by omega) (by omega)
    have w4 := (hs.s4 (m 274 (7 * x + (i - 1))) (by omega) (by omega)).2 (m 274 (7 * x + i)) (by omega) (by omega)
    refine r_iload_n f117_4 rfl ?_
    refine r_aload_n f117_5 rfl ?_
    refine r_getR f117_6 o117 F7_35 g264_13 rfl ?_
    refine r_iload_n f117_9 rfl ?_
    refine r_iald f117_10 kd273 (by omega) (by omega) ?_
    refine r_cge f117_11 (t := 101) (by decide) (fun h => absurd h (by omega)) (fun _ => ?_)
    refine r_bipush f117_14 (by decide) ?_
    refine r_iload_n f117_16 rfl ?_
    refine r_imul f117_17 (e := 7 * x) (by omega) (by omega) (by omega) ?_
    refine r_iload_n f117_18 rfl ?_
    refine r_iadd f117_19 (e := i + 7 * x) (by omega) (by omega) (by omega) ?_
    refine r_istore f117_20 rfl (ls' := [some (.inr (.inl (some 264))), some (.inl x), some (.inl (zsum (MMf m x) i)), some (.inl i), some (.inl (i + 7 * x))]) rfl ?_
    refine r_iload_n f117_22 rfl ?_
    refine r_aload_n f117_23 rfl ?_
    refine r_getR f117_24 o117 F7_50 g264_18 rfl ?_
    refine r_iload f117_27 rfl ?_
    refine r_iconst f117_29 rfl ?_
    refine r_isub f117_30 (e := i + 7 * x - 1) (by omega) (by omega) (by omega) ?_
    refine r_bald f117_31 kd278 (by omega) (by omega) ?_
    refine r_top (e := m 278 (7 * x + (i - 1))) (by rw [show i + 7 * x - 1 = 7 * x + (i - 1) by omega]) ?_
    refine r_zeq f117_32 (t := 92) (by decide) (fun q1 => ?_) (fun q1 => ?_)
    · refine r_iconst f117_92 rfl ?_
      refine r_iadd f117_93 (e := zsum (MMf m x) i) (by omega) (by omega) (by omega) ?_
      refine r_istore_n f117_94 rfl (ls' := [some (.inr (.inl (some 264))), some (.inl x), some (.inl (zsum (MMf m x) i)), some (.inl i), some (.inl (i + 7 * x))]) rfl ?_
      refine r_iinc f117_95 rfl rfl rfl (e := i + 1) (by omega) (by omega) (by omega) (ls' := [some (.inr (.inl (some 264))), some (.inl x), some (.inl (zsum (MMf m x) i)), some (.inl (i + 1)), some (.inl (i + 7 * x))]) rfl ?_
      refine r_goto f117_98 (t := 4) (by decide) ?_
      refine r_forget (ls' := [some (.inr (.inl (some 264))), some (.inl x), some (.inl (zsum (MMf m x) i)), some (.inl (i + 1)), none]) ⟨Or.inl rfl, ⟨Or.inl rfl, ⟨Or.inl rfl, ⟨Or.inl rfl, ⟨Or.inr ⟨rfl, rfl⟩, trivial⟩⟩⟩⟩⟩ ?_
      refine r_setI (k := 2) (a := zsum (MMf m x) i) (e := zsum (MMf m x) (i + 1)) (by rw [zsum_s (by omega)]; unfold MMf; split <;> omega) rfl (ls' := [some (.inr (.inl (some 264))), some (.inl x), some (.inl (zsum (MMf m x) (i + 1))), some (.inl (i + 1)), none]) rfl ?_
      exact ih (i + 1) (by omega) (by omega)
    · refine r_aload_n f117_35 rfl ?_
      refine r_getR f117_36 o117 F7_50 g264_18 rfl ?_
      refine r_iload f117_39 rfl ?_
      refine r_bald f117_41 kd278 (by omega) (by omega) ?_
      refine r_top (e := m 278 (7 * x + i)) (by rw [show i + 7 * x = 7 * x + i by omega]) ?_
      refine r_zeq f117_42 (t := 92) (by decide) (fun q2 => ?_) (fun q2 => ?_)
      · refine r_iconst f117_92 rfl ?_
        refine r_iadd f117_93 (e := zsum (MMf m x) i) (by omega) (by omega) (by omega) ?_
        refine r_istore_n f117_94 rfl (ls' := [some (.inr (.inl (some 264))), some (.inl x), some (.inl (zsum (MMf m x) i)), some (.inl i), some (.inl (i + 7 * x))]) rfl ?_
        refine r_iinc f117_95 rfl rfl rfl (e := i + 1) (by omega) (by omega) (by omega) (ls' := [some (.inr (.inl (some 264))), some (.inl x), some (.inl (zsum (MMf m x) i)), some (.inl (i + 1)), some (.inl (i + 7 * x))]) rfl ?_
        refine r_goto f117_98 (t := 4) (by decide) ?_
        refine r_forget (ls' := [some (.inr (.inl (some 264))), some (.inl x), some (.inl (zsum (MMf m x) i)), some (.inl (i + 1)), none]) ⟨Or.inl rfl, ⟨Or.inl rfl, ⟨Or.inl rfl, ⟨Or.inl rfl, ⟨Or.inr ⟨rfl, rfl⟩, trivial⟩⟩⟩⟩⟩ ?_
        refine r_setI (k := 2) (a := zsum (MMf m x) i) (e := zsum (MMf m x) (i + 1)) (by rw [zsum_s (by omega)]; unfold MMf; split <;> omega) rfl (ls' := [some (.inr (.inl (some 264))), some (.inl x), some (.inl (zsum (MMf m x) (i + 1))), some (.inl (i + 1)), none]) rfl ?_
        exact ih (i + 1) (by omega) (by omega)
      · refine r_aload_n f117_45 rfl ?_
        refine r_getR f117_46 o117 F7_38 g264_14 rfl ?_
        refine r_iload f117_49 rfl ?_
        refine r_iconst f117_51 rfl ?_
        refine r_isub f117_52 (e := i + 7 * x - 1) (by omega) (by omega) (by omega) ?_
        refine r_iald f117_53 kd274 (by omega) (by omega) ?_
        refine r_top (e := m 274 (7 * x + (i - 1))) (by rw [show i + 7 * x - 1 = 7 * x + (i - 1) by omega]) ?_
        refine r_aload_n f117_54 rfl ?_
        refine r_getR f117_55 o117 F7_38 g264_14 rfl ?_
        refine r_iload f117_58 rfl ?_
        refine r_iald f117_60 kd274 (by omega) (by omega) ?_
        refine r_top (e := m 274 (7 * x + i)) (by rw [show i + 7 * x = 7 * x + i by omega]) ?_
        refine r_ceq f117_61 (t := 92) (by decide) (fun q3 => ?_) (fun q3 => ?_)
        · refine r_iconst f117_92 rfl ?_
          refine r_iadd f117_93 (e := zsum (MMf m x) i) (by omega) (by omega) (by omega) ?_
          refine r_istore_n f117_94 rfl (ls' := [some (.inr (.inl (some 264))), some (.inl x), some (.inl (zsum (MMf m x) i)), some (.inl i), some (.inl (i + 7 * x))]) rfl ?_
          refine r_iinc f117_95 rfl rfl rfl (e := i + 1) (by omega) (by omega) (by omega) (ls' := [some (.inr (.inl (some 264))), some (.inl x), some (.inl (zsum (MMf m x) i)), some (.inl (i + 1)), some (.inl (i + 7 * x))]) rfl ?_
          refine r_goto f117_98 (t := 4) (by decide) ?_
          refine r_forget (ls' := [some (.inr (.inl (some 264))), some (.inl x), some (.inl (zsum (MMf m x) i)), some (.inl (i + 1)), none]) ⟨Or.inl rfl, ⟨Or.inl rfl, ⟨Or.inl rfl, ⟨Or.inl rfl, ⟨Or.inr ⟨rfl, rfl⟩, trivial⟩⟩⟩⟩⟩ ?_
          refine r_setI (k := 2) (a := zsum (MMf m x) i) (e := zsum (MMf m x) (i + 1)) (by rw [zsum_s (by omega)]; unfold MMf; split <;> omega) rfl (ls' := [some (.inr (.inl (some 264))), some (.inl x), some (.inl (zsum (MMf m x) (i + 1))), some (.inl (i + 1)), none]) rfl ?_
          exact ih (i + 1) (by omega) (by omega)
        · refine r_aload_n f117_64 rfl ?_
          refine r_getR f117_65 o117 F7_26 g264_8 rfl ?_
          refine r_bipush f117_68 (by decide) ?_
          refine r_aload_n f117_70 rfl ?_
          refine r_getR f117_71 o117 F7_38 g264_14 rfl ?_
          refine r_iload f117_74 rfl ?_
          refine r_iconst f117_76 rfl ?_
          refine r_isub f117_77 (e := i + 7 * x - 1) (by omega) (by omega) (by omega) ?_
          refine r_iald f117_78 kd274 (by omega) (by omega) ?_
          refine r_top (e := m 274 (7 * x + (i - 1))) (by rw [show i + 7 * x - 1 = 7 * x + (i - 1) by omega]) ?_
          refine r_imul f117_79 (e := 12 * (m 274 (7 * x + (i - 1)))) (by omega) (by omega) (by omega) ?_
          refine r_aload_n f117_80 rfl ?_
          refine r_getR f117_81 o117 F7_38 g264_14 rfl ?_
          refine r_iload f117_84 rfl ?_
          refine r_iald f117_86 kd274 (by omega) (by omega) ?_
          refine r_top (e := m 274 (7 * x + i)) (by rw [show i + 7 * x = 7 * x + i by omega]) ?_
          refine r_iadd f117_87 (e := 12 * (m 274 (7 * x + (i - 1))) + m 274 (7 * x + i)) (by omega) (by omega) (by omega) ?_
          refine r_iald f117_88 kd270 (by omega) (by omega) ?_
          refine r_top (e := m 270 (12 * m 274 (7 * x + (i - 1)) + m 274 (7 * x + i))) (by rw [show 12 * (m 274 (7 * x + (i - 1))) + m 274 (7 * x + i) = 12 * m 274 (7 * x + (i - 1)) + m 274 (7 * x + i) by omega]) ?_
          refine r_goto f117_89 (t := 93) (by decide) ?_
          refine r_iadd f117_93 (e := m 270 (12 * m 274 (7 * x + (i - 1)) + m 274 (7 * x + i)) + zsum (MMf m x) i) (by omega) (by omega) (by omega) ?_
          refine r_istore_n f117_94 rfl (ls' := [some (.inr (.inl (some 264))), some (.inl x), some (.inl (m 270 (12 * m 274 (7 * x + (i - 1)) + m 274 (7 * x + i)) + zsum (MMf m x) i)), some (.inl i), some (.inl (i + 7 * x))]) rfl ?_
          refine r_iinc f117_95 rfl rfl rfl (e := i + 1) (by omega) (by omega) (by omega) (ls' := [some (.inr (.inl (some 264))), some (.inl x), some (.inl (m 270 (12 * m 274 (7 * x + (i - 1)) + m 274 (7 * x + i)) + zsum (MMf m x) i)), some (.inl (i + 1)), some (.inl (i + 7 * x))]) rfl ?_
          refine r_goto f117_98 (t := 4) (by decide) ?_
          refine r_forget (ls' := [some (.inr (.inl (some 264))), some (.inl x), some (.inl (m 270 (12 * m 274 (7 * x + (i - 1)) + m 274 (7 * x + i)) + zsum (MMf m x) i)), some (.inl (i + 1)), none]) ⟨Or.inl rfl, ⟨Or.inl rfl, ⟨Or.inl rfl, ⟨Or.inl rfl, ⟨Or.inr ⟨rfl, rfl⟩, trivial⟩⟩⟩⟩⟩ ?_
          refine r_setI (k := 2) (a := m 270 (12 * m 274 (7 * x + (i - 1)) + m 274 (7 * x + i)) + zsum (MMf m x) i) (e := zsum (MMf m x) (i + 1)) (by rw [zsum_s (by omega)]; unfold MMf; split <;> omega) rfl (ls' := [some (.inr (.inl (some 264))), some (.inl x), some (.inl (zsum (MMf m x) (i + 1))), some (.inl (i + 1)), none]) rfl ?_
          exact ih (i + 1) (by omega) (by omega)

theorem t_milesOf {L d : Nat} {m : zmem} {T : Int} (hs : Sim T m m) {x : Int} (x0 : 0 ≤ x) (x1 : x < m 264 10) (x2 : x < 40)  : zF L (d) 117 [.inr (.inl (some 264)), .inl x] m (some (.inl (zsum (MMf m x) (m 273 x)))) m := by
  have s1 := hs.s1
  unfold S1 at s1
  have k5 := hs.s5 x x0 (by omega)
  refine zF_of n117 (ls := [some (.inr (.inl (some 264))), some (.inl x), none, none, none]) rfl ?_
  refine r_iconst f117_0 rfl ?_
  refine r_istore_n f117_1 rfl (ls' := [some (.inr (.inl (some 264))), some (.inl x), some (.inl 0), none, none]) rfl ?_
  refine r_iconst f117_2 rfl ?_
  refine r_istore_n f117_3 rfl (ls' := [some (.inr (.inl (some 264))), some (.inl x), some (.inl 0), some (.inl 1), none]) rfl ?_
  refine r_setI (k := 2) (a := 0) (e := zsum (MMf m x) 1) (by show (0 : Int) = zsn (MMf m x) 0 + MMf m x 0; unfold MMf; rw [if_neg (by omega)]; rfl) rfl (ls' := [some (.inr (.inl (some 264))), some (.inl x), some (.inl (zsum (MMf m x) 1)), some (.inl 1), none]) rfl ?_
  refine l_milesOf hs x0 x1 x2 ?_ (m 273 x - 1).toNat 1 (by omega) (by omega)
  refine r_iload_n f117_101 rfl ?_
  exact r_iret f117_102 v117 ⟨zs_eq (by first | rfl | omega | (repeat (first | rw [if_pos (by omega)] | rw [if_neg (by omega)]))), rfl⟩

def MNf (m : zmem) (x k : Int) : Int := if m 278 (7 * x + k) = 0 then 0 else 1
theorem l_nightsM {L d : Nat} {m : zmem} {T : Int} (hs : Sim T m m) {x : Int} (x0 : 0 ≤ x) (x1 : x < m 264 10) (x2 : x < 40)  {Q : Option zV → zM → Prop} (hx : zR (d) 118 42 [some (.inr (.inl (some 264))), some (.inl x), some (.inl (zsum (MNf m x) (m 273 x))), some (.inl (m 273 x))] [] (zem L m) Q) : ∀ (n : Nat) (i : Int), 0 ≤ i → i + n = m 273 x → zR (d) 118 4 [some (.inr (.inl (some 264))), some (.inl x), some (.inl (zsum (MNf m x) i)), some (.inl i)] [] (zem L m) Q := by
  intro n
  induction n with
  | zero =>
    intro i hi hn
    have ei : i = m 273 x := by omega
    rw [ei]
    refine r_iload_n f118_4 rfl ?_
    refine r_aload_n f118_5 rfl ?_
    refine r_getR f118_6 o118 F7_35 g264_13 rfl ?_
    refine r_iload_n f118_9 rfl ?_
    refine r_iald f118_10 kd273 (by omega) (by omega) ?_
    refine r_cge f118_11 (t := 42) (by decide) (fun _ => ?_) (fun h => absurd (by omega) h)
    exact hx
  | succ n ih =>
    intro i hi hn
    have s1 := hs.s1
    unfold S1 at s1
    have k5 := hs.s5 x x0 (by omega)
    have hb := zsum_b (f := MNf m x) (A := 0) (B := 1) hi (fun k _ _ => by unfold MNf; split <;> omega)
    refine r_iload_n f118_4 rfl ?_
    refine r_aload_n f118_5 rfl ?_
    refine r_getR f118_6 o118 F7_35 g264_13 rfl ?_
    refine r_iload_n f118_9 rfl ?_
    refine r_iald f118_10 kd273 (by omega) (by omega) ?_
    refine r_cge f118_11 (t := 42) (by decide) (fun h => absurd h (by omega)) (fun _ => ?_)
    refine r_iload_n f118_14 rfl ?_
    refine r_aload_n f118_15 rfl ?_
    refine r_getR f118_16 o118 F7_50 g264_18 rfl ?_
    refine r_bipush f118_19 (by decide) ?_
    refine r_iload_n f118_21 rfl ?_
    refine r_imul f118_22 (e := 7 * x) (by omega) (by omega) (by omega) ?_
    refine r_iload_n f118_23 rfl ?_
    refine r_iadd f118_24 (e := i + 7 * x) (by omega) (by omega) (by omega) ?_
    refine r_bald f118_25 kd278 (by omega) (by omega) ?_
    refine r_top (e := m 278 (7 * x + i)) (by rw [show i + 7 * x = 7 * x + i by omega]) ?_
    refine r_zeq f118_26 (t := 33) (by decide) (fun q1 => ?_) (fun q1 => ?_)
    · refine r_iconst f118_33 rfl ?_
      refine r_iadd f118_34 (e := zsum (MNf m x) i) (by omega) (by omega) (by omega) ?_
      refine r_istore_n f118_35 rfl (ls' := [some (.inr (.inl (some 264))), some (.inl x), some (.inl (zsum (MNf m x) i)), some (.inl i)]) rfl ?_
      refine r_iinc f118_36 rfl rfl rfl (e := i + 1) (by omega) (by omega) (by omega) (ls' := [some (.inr (.inl (some 264))), some (.inl x), some (.inl (zsum (MNf m x) i)), some (.inl (i + 1))]) rfl ?_
      refine r_goto f118_39 (t := 4) (by decide) ?_
      refine r_setI (k := 2) (a := zsum (MNf m x) i) (e := zsum (MNf m x) (i + 1)) (by rw [zsum_s (by omega)]; unfold MNf; split <;> omega) rfl (ls' := [some (.inr (.inl (some 264))), some (.inl x), some (.inl (zsum (MNf m x) (i + 1))), some (.inl (i + 1))]) rfl ?_
      exact ih (i + 1) (by omega) (by omega)
    · refine r_iconst f118_29 rfl ?_
      refine r_goto f118_30 (t := 34) (by decide) ?_
      refine r_iadd f118_34 (e := zsum (MNf m x) i + 1) (by omega) (by omega) (by omega) ?_
      refine r_istore_n f118_35 rfl (ls' := [some (.inr (.inl (some 264))), some (.inl x), some (.inl (zsum (MNf m x) i + 1)), some (.inl i)]) rfl ?_
      refine r_iinc f118_36 rfl rfl rfl (e := i + 1) (by omega) (by omega) (by omega) (ls' := [some (.inr (.inl (some 264))), some (.inl x), some (.inl (zsum (MNf m x) i + 1)), some (.inl (i + 1))]) rfl ?_
      refine r_goto f118_39 (t := 4) (by decide) ?_
      refine r_setI (k := 2) (a := zsum (MNf m x) i + 1) (e := zsum (MNf m x) (i + 1)) (by rw [zsum_s (by omega)]; unfold MNf; split <;> omega) rfl (ls' := [some (.inr (.inl (some 264))), some (.inl x), some (.inl (zsum (MNf m x) (i + 1))), some (.inl (i + 1))]) rfl ?_
      exact ih (i + 1) (by omega) (by omega)

theorem t_nightsM {L d : Nat} {m : zmem} {T : Int} (hs : Sim T m m) {x : Int} (x0 : 0 ≤ x) (x1 : x < m 264 10) (x2 : x < 40)  : zF L (d) 118 [.inr (.inl (some 264)), .inl x] m (some (.inl (zsum (MNf m x) (m 273 x)))) m := by
  have s1 := hs.s1
  unfold S1 at s1
  have k5 := hs.s5 x x0 (by omega)
  refine zF_of n118 (ls := [some (.inr (.inl (some 264))), some (.inl x), none, none]) rfl ?_
  refine r_iconst f118_0 rfl ?_
  refine r_istore_n f118_1 rfl (ls' := [some (.inr (.inl (some 264))), some (.inl x), some (.inl 0), none]) rfl ?_
  refine r_iconst f118_2 rfl ?_
  refine r_istore_n f118_3 rfl (ls' := [some (.inr (.inl (some 264))), some (.inl x), some (.inl 0), some (.inl 0)]) rfl ?_
  refine l_nightsM hs x0 x1 x2 ?_ (m 273 x).toNat 0 (by omega) (by omega)
  refine r_iload_n f118_42 rfl ?_
  exact r_iret f118_43 v118 ⟨zs_eq (by first | rfl | omega | (repeat (first | rw [if_pos (by omega)] | rw [if_neg (by omega)]))), rfl⟩

def XAb (m : zmem) (x y : Int) : Int := if 0 ≤ x ∧ x < m 0 6 then (if 10 ≤ y ∧ y < 10 + m (64 + 5 * x) 6 then m (65 + 5 * x) (y - 10) else if 20 ≤ y ∧ y < 20 + m (64 + 5 * x) 6 then (if XL m x (y - 20) then 1 else 0) else if y = 0 then m (64 + 5 * x) 4 else if y = 1 then m (64 + 5 * x) 5 else if y = 2 then m (64 + 5 * x) 6 else if y = 3 then m (64 + 5 * x) 7 else if y = 4 then zsum (XMf m x) (m (64 + 5 * x) 6) else if y = 5 then m (64 + 5 * x) 8 else if y = 6 then zsum (XNf m x) (m (64 + 5 * x) 6) else -2) else -2
def MAb (m : zmem) (x y : Int) : Int := if 0 ≤ x ∧ x < m 264 10 then (if y = 0 then m 271 x else if y = 1 then m 272 x else if y = 2 then m 273 x else if y = 3 then m 275 x else if y = 4 then zsum (MMf m x) (m 273 x) else if y = 5 then m 279 x else if y = 6 then zsum (MNf m x) (m 273 x) else if 10 ≤ y ∧ y < 10 + m 273 x then m 274 (7 * x + y - 10) else if 20 ≤ y ∧ y < 20 + m 273 x then (if m 276 (7 * x + y - 20) = 0 then 0 else 1) else -2) else -2
theorem t_Xabout {L d : Nat} {m : zmem} {T : Int} (hs : Sim T m m) (x y : Int) : zF L (d + 2) 56 [.inr (.inl (some 0)), .inl x, .inl y] m (some (.inl (XAb m x y))) m := by
  have s1 := hs.s1
  unfold S1 at s1
  refine zF_of n56 (ls := [some (.inr (.inl (some 0))), some (.inl x), some (.inl y), none]) rfl ?_
  refine r_aload_n f56_0 rfl ?_
  refine r_iload_n f56_1 rfl ?_
  refine r_callv1i (m' := m) f56_2 o56 M6_118 p69 o69 kd0 rfl (by simp) (t_isChainX (m := m) x (by omega) (by omega)) ?_
  refine r_ite (fun q1 => ?_) (fun q1 => ?_)
  · refine r_zne f56_5 (t := 11) (by decide) (fun _ => ?_) (fun h => absurd (by omega) h)
    have k5 := hs.s5 x (by omega) (by omega)
    refine r_aload_n f56_11 rfl ?_
    refine r_getR f56_12 o56 F6_27 g0_2 rfl ?_
    refine r_iload_n f56_15 rfl ?_
    refine r_aldC f56_16 (by omega) (by omega) ?_
    refine r_astore_n f56_17 rfl (ls' := [some (.inr (.inl (some 0))), some (.inl x), some (.inl y), some (.inr (.inl (some (64 + 5 * x))))]) rfl ?_
    refine r_iload_n f56_18 rfl ?_
    refine r_bipush f56_19 (by decide) ?_
    refine r_bipush f56_21 (by decide) ?_
    refine r_aload_n f56_23 rfl ?_
    refine r_getI f56_24 o56 F6_124 (gC_6 (c := x) (by omega) (by omega)) rfl ?_
    refine r_iadd f56_27 (e := m (64 + 5 * x) 6 + 10) (by omega) (by omega) (by omega) ?_
    refine r_iconst f56_28 rfl ?_
    refine r_isub f56_29 (e := m (64 + 5 * x) 6 + 9) (by omega) (by omega) (by omega) ?_
    refine r_calls3i (m' := m) f56_30 o56 M6_50 (Or.inl rfl) p67 rfl (by simp) (t_within y 10 (m (64 + 5 * x) 6 + 9)) ?_
    refine r_ite (fun q2 => ?_) (fun q2 => ?_)
    · refine r_zeq f56_33 (t := 46) (by decide) (fun h => absurd h (by omega)) (fun _ => ?_)
      refine r_aload_n f56_36 rfl ?_
      refine r_getR f56_37 o56 F6_127 (gC_0 (c := x) (by omega) (by omega)) rfl ?_
      refine r_iload_n f56_40 rfl ?_
      refine r_bipush f56_41 (by decide) ?_
      refine r_isub f56_43 (e := y - 10) (by omega) (by omega) (by omega) ?_
      refine r_iald f56_44 (kdC1 (c := x) (by omega) (by omega)) (by omega) (by omega) ?_
      exact r_iret f56_45 v56 ⟨zs_eq (by unfold XAb; (repeat (first | rw [if_pos (by omega)] | rw [if_neg (by omega)]))), rfl⟩
    · refine r_zeq f56_33 (t := 46) (by decide) (fun _ => ?_) (fun h => absurd (by omega) h)
      refine r_iload_n f56_46 rfl ?_
      refine r_bipush f56_47 (by decide) ?_
      refine r_bipush f56_49 (by decide) ?_
      refine r_aload_n f56_51 rfl ?_
      refine r_getI f56_52 o56 F6_124 (gC_6 (c := x) (by omega) (by omega)) rfl ?_
      refine r_iadd f56_55 (e := m (64 + 5 * x) 6 + 20) (by omega) (by omega) (by omega) ?_
      refine r_iconst f56_56 rfl ?_
      refine r_isub f56_57 (e := m (64 + 5 * x) 6 + 19) (by omega) (by omega) (by omega) ?_
      refine r_calls3i (m' := m) f56_58 o56 M6_50 (Or.inl rfl) p67 rfl (by simp) (t_within y 20 (m (64 + 5 * x) 6 + 19)) ?_
      refine r_ite (fun q3 => ?_) (fun q3 => ?_)
      · refine r_zeq f56_61 (t := 81) (by decide) (fun h => absurd h (by omega)) (fun _ => ?_)
        refine r_aload_n f56_64 rfl ?_
        refine r_iload_n f56_65 rfl ?_
        refine r_bipush f56_66 (by decide) ?_
        refine r_isub f56_68 (e := y - 20) (by omega) (by omega) (by omega) ?_
        refine r_callv1i (m' := m) f56_69 o56 M6_158 p3 o3 (kdC0 (c := x) (by omega) (by omega)) rfl (by simp) (t_isLaid (c := x) (i := y - 20) (by omega) (by omega) (by omega) (by omega) (Sim_hl hs x (by omega) (by omega))) ?_
        refine r_ite (fun q4 => ?_) (fun q4 => ?_)
        · refine r_zeq f56_72 (t := 79) (by decide) (fun h => absurd h (by omega)) (fun _ => ?_)
          refine r_iconst f56_75 rfl ?_
          refine r_goto f56_76 (t := 80) (by decide) ?_
          exact r_iret f56_80 v56 ⟨zs_eq (by unfold XAb; (repeat (first | rw [if_pos (by omega)] | rw [if_neg (by omega)]))), rfl⟩
        · refine r_zeq f56_72 (t := 79) (by decide) (fun _ => ?_) (fun h => absurd (by omega) h)
          refine r_iconst f56_79 rfl ?_
          exact r_iret f56_80 v56 ⟨zs_eq (by unfold XAb; (repeat (first | rw [if_pos (by omega)] | rw [if_neg (by omega)]))), rfl⟩
      · refine r_zeq f56_61 (t := 81) (by decide) (fun _ => ?_) (fun h => absurd (by omega) h)
        refine r_iload_n f56_81 rfl ?_
        rcases (show (y < 0 ∨ 6 < y) ∨ y = 0 ∨ y = 1 ∨ y = 2 ∨ y = 3 ∨ y = 4 ∨ y = 5 ∨ y = 6 by omega) with q5 | q5 | q5 | q5 | q5 | q5 | q5 | q5
        · refine r_swout f56_82 q5 (t := 163) (by decide) ?_
          refine r_bipush f56_163 (by decide) ?_
          exact r_iret f56_165 v56 ⟨zs_eq (by unfold XAb; (repeat (first | rw [if_pos (by omega)] | rw [if_neg (by omega)]))), rfl⟩
        · refine r_swin f56_82 (by omega) (by omega) (o := 42) (by rw [q5]; rfl) (t := 124) (by decide) ?_
          refine r_aload_n f56_124 rfl ?_
          refine r_getI f56_125 o56 F6_161 (gC_4 (c := x) (by omega) (by omega)) rfl ?_
          exact r_iret f56_128 v56 ⟨zs_eq (by unfold XAb; (repeat (first | rw [if_pos (by omega)] | rw [if_neg (by omega)]))), rfl⟩
        · refine r_swin f56_82 (by omega) (by omega) (o := 47) (by rw [q5]; rfl) (t := 129) (by decide) ?_
          refine r_aload_n f56_129 rfl ?_
          refine r_getI f56_130 o56 F6_121 (gC_5 (c := x) (by omega) (by omega)) rfl ?_
          exact r_iret f56_133 v56 ⟨zs_eq (by unfold XAb; (repeat (first | rw [if_pos (by omega)] | rw [if_neg (by omega)]))), rfl⟩
        · refine r_swin f56_82 (by omega) (by omega) (o := 52) (by rw [q5]; rfl) (t := 134) (by decide) ?_
          refine r_aload_n f56_134 rfl ?_
          refine r_getI f56_135 o56 F6_124 (gC_6 (c := x) (by omega) (by omega)) rfl ?_
          exact r_iret f56_138 v56 ⟨zs_eq (by unfold XAb; (repeat (first | rw [if_pos (by omega)] | rw [if_neg (by omega)]))), rfl⟩
        · refine r_swin f56_82 (by omega) (by omega) (o := 57) (by rw [q5]; rfl) (t := 139) (by decide) ?_
          refine r_aload_n f56_139 rfl ?_
          refine r_getI f56_140 o56 F6_104 (gC_7 (c := x) (by omega) (by omega)) rfl ?_
          exact r_iret f56_143 v56 ⟨zs_eq (by unfold XAb; (repeat (first | rw [if_pos (by omega)] | rw [if_neg (by omega)]))), rfl⟩
        · refine r_swin f56_82 (by omega) (by omega) (o := 62) (by rw [q5]; rfl) (t := 144) (by decide) ?_
          refine r_aload_n f56_144 rfl ?_
          refine r_getR f56_145 o56 F6_10 g0_0 rfl ?_
          refine r_aload_n f56_148 rfl ?_
          refine r_callv1i (m' := m) (v := zsum (XMf m x) (m (64 + 5 * x) 6)) f56_149 o56 M6_164 p35 o35 kd1 rfl (by simp) (t_miles (c := x) (by omega) (by omega) (by omega) (by omega) (by omega) (by omega) (by omega) (by omega) (by omega) (fun k a b => by have g := hs.s6 x (by omega) (by omega) k a (by omega); omega) (fun a b a0 a1 b0 b1 => by have g := (hs.s4 a a0 a1).2 b b0 b1; omega)) ?_
          exact r_iret f56_152 v56 ⟨zs_eq (by unfold XAb; (repeat (first | rw [if_pos (by omega)] | rw [if_neg (by omega)]))), rfl⟩
        · refine r_swin f56_82 (by omega) (by omega) (o := 71) (by rw [q5]; rfl) (t := 153) (by decide) ?_
          refine r_aload_n f56_153 rfl ?_
          refine r_getI f56_154 o56 F6_167 (gC_8 (c := x) (by omega) (by omega)) rfl ?_
          exact r_iret f56_157 v56 ⟨zs_eq (by unfold XAb; (repeat (first | rw [if_pos (by omega)] | rw [if_neg (by omega)]))), rfl⟩
        · refine r_swin f56_82 (by omega) (by omega) (o := 76) (by rw [q5]; rfl) (t := 158) (by decide) ?_
          refine r_aload_n f56_158 rfl ?_
          refine r_callv0i (m' := m) (v := zsum (XNf m x) (m (64 + 5 * x) 6)) f56_159 o56 M6_170 p10 o10 (kdC0 (c := x) (by omega) (by omega)) rfl (by simp) (t_nightsSlept (c := x) (by omega) (by omega) (by omega) (by omega)) ?_
          exact r_iret f56_162 v56 ⟨zs_eq (by unfold XAb; (repeat (first | rw [if_pos (by omega)] | rw [if_neg (by omega)]))), rfl⟩
  · refine r_zne f56_5 (t := 11) (by decide) (fun h => absurd h (by omega)) (fun _ => ?_)
    refine r_bipush f56_8 (by decide) ?_
    exact r_iret f56_10 v56 ⟨zs_eq (by unfold XAb; (repeat (first | rw [if_pos (by omega)] | rw [if_neg (by omega)]))), rfl⟩

theorem t_Mabout {L d : Nat} {m : zmem} {T : Int} (hs : Sim T m m) (x y : Int) : zF L (d + 2) 119 [.inr (.inl (some 264)), .inl x, .inl y] m (some (.inl (MAb m x y))) m := by
  have s1 := hs.s1
  unfold S1 at s1
  refine zF_of n119 (ls := [some (.inr (.inl (some 264))), some (.inl x), some (.inl y)]) rfl ?_
  refine r_aload_n f119_0 rfl ?_
  refine r_iload_n f119_1 rfl ?_
  refine r_callv1i (m' := m) f119_2 o119 M7_125 p88 o88 kd264 rfl (by simp) (t_isChainM (m := m) x (by omega) (by omega)) ?_
  refine r_ite (fun q1 => ?_) (fun q1 => ?_)
  · refine r_zne f119_5 (t := 11) (by decide) (fun _ => ?_) (fun h => absurd (by omega) h)
    have k5 := hs.s5 x (by omega) (by omega)
    refine r_iload_n f119_11 rfl ?_
    rcases (show (y < 0 ∨ 6 < y) ∨ y = 0 ∨ y = 1 ∨ y = 2 ∨ y = 3 ∨ y = 4 ∨ y = 5 ∨ y = 6 by omega) with q2 | q2 | q2 | q2 | q2 | q2 | q2 | q2
    · refine r_swout f119_12 q2 (t := 103) (by decide) ?_
      refine r_iload_n f119_103 rfl ?_
      refine r_bipush f119_104 (by decide) ?_
      refine r_bipush f119_106 (by decide) ?_
      refine r_aload_n f119_108 rfl ?_
      refine r_getR f119_109 o119 F7_35 g264_13 rfl ?_
      refine r_iload_n f119_112 rfl ?_
      refine r_iald f119_113 kd273 (by omega) (by omega) ?_
      refine r_iadd f119_114 (e := m 273 x + 9) (by omega) (by omega) (by omega) ?_
      refine r_calls3i (m' := m) f119_115 o119 M7_90 (Or.inl rfl) p85 rfl (by simp) (t_in y 10 (m 273 x + 9)) ?_
      refine r_ite (fun q3 => ?_) (fun q3 => ?_)
      · refine r_zeq f119_118 (t := 136) (by decide) (fun h => absurd h (by omega)) (fun _ => ?_)
        refine r_aload_n f119_121 rfl ?_
        refine r_getR f119_122 o119 F7_38 g264_14 rfl ?_
        refine r_bipush f119_125 (by decide) ?_
        refine r_iload_n f119_127 rfl ?_
        refine r_imul f119_128 (e := 7 * x) (by omega) (by omega) (by omega) ?_
        refine r_iload_n f119_129 rfl ?_
        refine r_iadd f119_130 (e := 7 * x + y) (by omega) (by omega) (by omega) ?_
        refine r_bipush f119_131 (by decide) ?_
        refine r_isub f119_133 (e := 7 * x + y - 10) (by omega) (by omega) (by omega) ?_
        refine r_iald f119_134 kd274 (by omega) (by omega) ?_
        exact r_iret f119_135 v119 ⟨zs_eq (by unfold MAb; (repeat (first | rw [if_pos (by omega)] | rw [if_neg (by omega)]))), rfl⟩
      · refine r_zeq f119_118 (t := 136) (by decide) (fun _ => ?_) (fun h => absurd (by omega) h)
        refine r_iload_n f119_136 rfl ?_
        refine r_bipush f119_137 (by decide) ?_
        refine r_bipush f119_139 (by decide) ?_
        refine r_aload_n f119_141 rfl ?_
        refine r_getR f119_142 o119 F7_35 g264_13 rfl ?_
        refine r_iload_n f119_145 rfl ?_
        refine r_iald f119_146 kd273 (by omega) (by omega) ?_
        refine r_iadd f119_147 (e := m 273 x + 19) (by omega) (by omega) (by omega) ?_
        refine r_calls3i (m' := m) f119_148 o119 M7_90 (Or.inl rfl) p85 rfl (by simp) (t_in y 20 (m 273 x + 19)) ?_
        refine r_ite (fun q4 => ?_) (fun q4 => ?_)
        · refine r_zeq f119_151 (t := 179) (by decide) (fun h => absurd h (by omega)) (fun _ => ?_)
          refine r_aload_n f119_154 rfl ?_
          refine r_getR f119_155 o119 F7_44 g264_16 rfl ?_
          refine r_bipush f119_158 (by decide) ?_
          refine r_iload_n f119_160 rfl ?_
          refine r_imul f119_161 (e := 7 * x) (by omega) (by omega) (by omega) ?_
          refine r_iload_n f119_162 rfl ?_
          refine r_iadd f119_163 (e := 7 * x + y) (by omega) (by omega) (by omega) ?_
          refine r_bipush f119_164 (by decide) ?_
          refine r_isub f119_166 (e := 7 * x + y - 20) (by omega) (by omega) (by omega) ?_
          refine r_bald f119_167 kd276 (by omega) (by omega) ?_
          refine r_zeq f119_168 (t := 175) (by decide) (fun q5 => ?_) (fun q5 => ?_)
          · refine r_iconst f119_175 rfl ?_
            refine r_goto f119_176 (t := 181) (by decide) ?_
            exact r_iret f119_181 v119 ⟨zs_eq (by unfold MAb; (repeat (first | rw [if_pos (by omega)] | rw [if_neg (by omega)]))), rfl⟩
          · refine r_iconst f119_171 rfl ?_
            refine r_goto f119_172 (t := 181) (by decide) ?_
            exact r_iret f119_181 v119 ⟨zs_eq (by unfold MAb; (repeat (first | rw [if_pos (by omega)] | rw [if_neg (by omega)]))), rfl⟩
        · refine r_zeq f119_151 (t := 179) (by decide) (fun _ => ?_) (fun h => absurd (by omega) h)
          refine r_bipush f119_179 (by decide) ?_
          exact r_iret f119_181 v119 ⟨zs_eq (by unfold MAb; (repeat (first | rw [if_pos (by omega)] | rw [if_neg (by omega)]))), rfl⟩
    · refine r_swin f119_12 (by omega) (by omega) (o := 44) (by rw [q2]; rfl) (t := 56) (by decide) ?_
      refine r_aload_n f119_56 rfl ?_
      refine r_getR f119_57 o119 F7_29 g264_11 rfl ?_
      refine r_iload_n f119_60 rfl ?_
      refine r_iald f119_61 kd271 (by omega) (by omega) ?_
      exact r_iret f119_62 v119 ⟨zs_eq (by unfold MAb; (repeat (first | rw [if_pos (by omega)] | rw [if_neg (by omega)]))), rfl⟩
    · refine r_swin f119_12 (by omega) (by omega) (o := 51) (by rw [q2]; rfl) (t := 63) (by decide) ?_
      refine r_aload_n f119_63 rfl ?_
      refine r_getR f119_64 o119 F7_32 g264_12 rfl ?_
      refine r_iload_n f119_67 rfl ?_
      refine r_iald f119_68 kd272 (by omega) (by omega) ?_
      exact r_iret f119_69 v119 ⟨zs_eq (by unfold MAb; (repeat (first | rw [if_pos (by omega)] | rw [if_neg (by omega)]))), rfl⟩
    · refine r_swin f119_12 (by omega) (by omega) (o := 58) (by rw [q2]; rfl) (t := 70) (by decide) ?_
      refine r_aload_n f119_70 rfl ?_
      refine r_getR f119_71 o119 F7_35 g264_13 rfl ?_
      refine r_iload_n f119_74 rfl ?_
      refine r_iald f119_75 kd273 (by omega) (by omega) ?_
      exact r_iret f119_76 v119 ⟨zs_eq (by unfold MAb; (repeat (first | rw [if_pos (by omega)] | rw [if_neg (by omega)]))), rfl⟩
    · refine r_swin f119_12 (by omega) (by omega) (o := 65) (by rw [q2]; rfl) (t := 77) (by decide) ?_
      refine r_aload_n f119_77 rfl ?_
      refine r_getR f119_78 o119 F7_41 g264_15 rfl ?_
      refine r_iload_n f119_81 rfl ?_
      refine r_iald f119_82 kd275 (by omega) (by omega) ?_
      exact r_iret f119_83 v119 ⟨zs_eq (by unfold MAb; (repeat (first | rw [if_pos (by omega)] | rw [if_neg (by omega)]))), rfl⟩
    · refine r_swin f119_12 (by omega) (by omega) (o := 72) (by rw [q2]; rfl) (t := 84) (by decide) ?_
      refine r_aload_n f119_84 rfl ?_
      refine r_iload_n f119_85 rfl ?_
      refine r_callv1i (m' := m) (v := zsum (MMf m x) (m 273 x)) f119_86 o119 M7_167 p117 o117 kd264 rfl (by simp) (t_milesOf hs (x := x) (by omega) (by omega) (by omega)) ?_
      exact r_iret f119_89 v119 ⟨zs_eq (by unfold MAb; (repeat (first | rw [if_pos (by omega)] | rw [if_neg (by omega)]))), rfl⟩
    · refine r_swin f119_12 (by omega) (by omega) (o := 78) (by rw [q2]; rfl) (t := 90) (by decide) ?_
      refine r_aload_n f119_90 rfl ?_
      refine r_getR f119_91 o119 F7_53 g264_19 rfl ?_
      refine r_iload_n f119_94 rfl ?_
      refine r_iald f119_95 kd279 (by omega) (by omega) ?_
      exact r_iret f119_96 v119 ⟨zs_eq (by unfold MAb; (repeat (first | rw [if_pos (by omega)] | rw [if_neg (by omega)]))), rfl⟩
    · refine r_swin f119_12 (by omega) (by omega) (o := 85) (by rw [q2]; rfl) (t := 97) (by decide) ?_
      refine r_aload_n f119_97 rfl ?_
      refine r_iload_n f119_98 rfl ?_
      refine r_callv1i (m' := m) (v := zsum (MNf m x) (m 273 x)) f119_99 o119 M7_170 p118 o118 kd264 rfl (by simp) (t_nightsM hs (x := x) (by omega) (by omega) (by omega)) ?_
      exact r_iret f119_102 v119 ⟨zs_eq (by unfold MAb; (repeat (first | rw [if_pos (by omega)] | rw [if_neg (by omega)]))), rfl⟩
  · refine r_zne f119_5 (t := 11) (by decide) (fun h => absurd h (by omega)) (fun _ => ?_)
    refine r_bipush f119_8 (by decide) ?_
    exact r_iret f119_10 v119 ⟨zs_eq (by unfold MAb; (repeat (first | rw [if_pos (by omega)] | rw [if_neg (by omega)]))), rfl⟩

theorem ab_eq {T : Int} {m : zmem} (hs : Sim T m m) (x y : Int) : XAb m x y = MAb m x y := by
  have s1 := hs.s1
  unfold S1 at s1
  unfold XAb MAb
  by_cases hg : 0 ≤ x ∧ x < m 264 10
  · rw [if_pos (by omega), if_pos hg]
    have k5 := hs.s5 x (by omega) (by omega)
    have e1 : zsum (XMf m x) (m (64 + 5 * x) 6) = zsum (MMf m x) (m 273 x) := by
      rw [show m (64 + 5 * x) 6 = m 273 x by omega]
      refine zsum_c (fun k k0 k1 => ?_)
      have g6 := hs.s6 x (by omega) (by omega) k k0 (by omega)
      have g7 := hs.s7 x (by omega) (by omega) k k0 (by omega)
      unfold XMf MMf
      by_cases hk : 1 ≤ k
      · have g61 := hs.s6 x (by omega) (by omega) (k - 1) (by omega) (by omega)
        have g71 := hs.s7 x (by omega) (by omega) (k - 1) (by omega) (by omega)
        rw [g6.1, g61.1, g7.1, g71.1]
        have g4 := hs.s4 (m 274 (7 * x + (k - 1))) (by omega) (by omega)
        have g42 := g4.2 (m 274 (7 * x + k)) (by omega) (by omega)
        by_cases ee : m 274 (7 * x + (k - 1)) = m 274 (7 * x + k)
        · have z : m (6 + 4 * m 274 (7 * x + (k - 1))) (m 274 (7 * x + k)) = 0 := by rw [g42.1, ← ee]; exact g4.1
          have hn : ¬ (1 ≤ k ∧ ¬ m 278 (7 * x + (k - 1)) = 0 ∧ ¬ m 278 (7 * x + k) = 0 ∧ ¬ m 274 (7 * x + (k - 1)) = m 274 (7 * x + k)) := fun h => h.2.2.2 ee
          rw [z, if_neg hn]
          split <;> rfl
        · rw [g42.1]
          by_cases c1 : m 278 (7 * x + (k - 1)) = 0
          · rw [if_neg (by omega), if_neg (by omega)]
          · by_cases c2 : m 278 (7 * x + k) = 0
            · rw [if_neg (by omega), if_neg (by omega)]
            · rw [if_pos (by omega), if_pos (by omega)]
      · rw [if_neg (by omega), if_neg (by omega)]
    have e2 : zsum (XNf m x) (m (64 + 5 * x) 6) = zsum (MNf m x) (m 273 x) := by
      rw [show m (64 + 5 * x) 6 = m 273 x by omega]
      refine zsum_c (fun k k0 k1 => ?_)
      have g7 := hs.s7 x (by omega) (by omega) k k0 (by omega)
      unfold XNf MNf
      rw [g7.1]
    rw [e1, e2, show m (64 + 5 * x) 6 = m 273 x by omega]
    by_cases h1 : 10 ≤ y ∧ y < 10 + m 273 x
    · have g6 := hs.s6 x (by omega) (by omega) (y - 10) (by omega) (by omega)
      rw [show 7 * x + y - 10 = 7 * x + (y - 10) by omega]
      (repeat (first | rw [if_pos (by omega)] | rw [if_neg (by omega)]))
      exact g6.1
    · by_cases h2 : 20 ≤ y ∧ y < 20 + m 273 x
      · have g6 := Sim_la hs x hg.1 hg.2 (y - 20) (by omega) (by omega)
        rw [show 7 * x + y - 20 = 7 * x + (y - 20) by omega]
        by_cases hl : m 276 (7 * x + (y - 20)) = 0
        · rw [if_neg h1, if_pos h2, if_neg (fun q => (g6.1 q) hl)]
          (repeat (first | rw [if_pos (by omega)] | rw [if_neg (by omega)]))
        · rw [if_neg h1, if_pos h2, if_pos (g6.2 hl)]
          (repeat (first | rw [if_pos (by omega)] | rw [if_neg (by omega)]))
      · rw [if_neg h1, if_neg h2]
        repeat (split; first | omega | rfl)
        all_goals rfl
  · rw [if_neg (by omega), if_neg hg]
theorem pr_about {L : Nat} {T : Int} {m : zmem} (hs : Sim T m m) (x y : Int) : zPr L 56 119 [.inl x, .inl y] T m :=
  zPr_rd hs (t_Xabout (d := 6) hs x y) (t_Mabout (d := 6) hs x y) (by rw [ab_eq hs x y])
