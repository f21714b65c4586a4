def Arf (b : zmem) (c : Int) : Int := if b 280 c = 0 then 0 else 1
theorem Arf_b {b : zmem} {i : Int} (i0 : 0 ≤ i) : 0 ≤ zsum (Arf b) i ∧ zsum (Arf b) i ≤ i := by
  have h := zsum_b (f := Arf b) (A := 0) (B := 1) i0 (fun k _ _ => by unfold Arf; split <;> omega)
  omega
theorem FA_E {T : Int} {a b : zmem} (hs : Sim T a b) {h : Int} (h1 : h ≤ 12) : FA (zEX (zSX a b (b 264 10)) h) b := by
  have s1 := hs.s1
  unfold S1 at s1
  have n : ∀ p, (¬ (p - 68) % 5 = 0 ∨ p < 68 ∨ 264 ≤ p) → (¬ (p - 3) % 4 = 0 ∨ p < 3 ∨ 51 ≤ p) → zEX (zSX a b (b 264 10)) h p = a p := fun p x y => by rw [zEX_n h1 y, zSX_n (by omega) x]
  refine ⟨by rw [n 0 (by omega) (by omega)]; omega, by rw [n 0 (by omega) (by omega)]; omega, fun c c0 c1 => ?_, fun c g c0 c1 => ?_, fun g g0 g1 => ?_⟩
  · have k5 := hs.s5 c c0 c1
    rw [n (64 + 5 * c) (by omega) (by omega)]
    omega
  · have k5 := hs.s5 c c0 (by omega)
    have e5 : a (64 + 5 * c) 5 = b 272 c := by omega
    have e6 : a (64 + 5 * c) 6 = b 273 c := by omega
    unfold XS XH
    rw [n (64 + 5 * c) (by omega) (by omega), n (65 + 5 * c) (by omega) (by omega), e5, e6, zEX_n (p := 68 + 5 * c) h1 (by omega), zSX_v c0]
    constructor
    · intro x
      have g6 := hs.s6 c c0 (by omega) (b 264 9 - b 272 c) x.1.1 (by omega)
      have g7 := hs.s7 c c0 (by omega) (b 264 9 - b 272 c) x.1.1 (by omega)
      have g16 := hs.s16 c c0 (by omega) (b 264 9 - b 272 c) x.1.1 (by omega) (by omega)
      refine ⟨x.1, fun z => ?_, by rw [show 7 * c + b 264 9 - b 272 c = 7 * c + (b 264 9 - b 272 c) by omega, ← g6.1]; exact x.2.2⟩
      have x2 := x.2.1
      rw [if_neg (fun y => y.2.1 z)] at x2
      omega
    · intro x
      have g6 := hs.s6 c c0 (by omega) (b 264 9 - b 272 c) x.1.1 (by omega)
      refine ⟨x.1, ?_, ?_⟩
      · rw [if_pos ⟨c1, x.2.1, rfl⟩]
        omega
      · have x3 := x.2.2
        rw [show 7 * c + b 264 9 - b 272 c = 7 * c + (b 264 9 - b 272 c) by omega] at x3
        rw [g6.1]
        exact x3
  · have k2 := hs.s2 g g0 g1
    rw [zEX_o (by omega) (by omega), zSX_n (by omega) (by omega)]
    omega
theorem l_sleep {L d : Nat} {T : Int} {a b : zmem} (hs : Sim T a b) {Q : Option zV → zM → Prop} : ∀ (n : Nat) (i : Int), 0 ≤ i → i + n = b 264 10 → zR (d + 3) 80 37 [some (.inr (.inl (some 0))), some (.inl (zsum (Arf b) (b 264 10))), some (.inl (b 264 10))] [] (zem L (zSX a b (b 264 10))) Q → zR (d + 3) 80 4 [some (.inr (.inl (some 0))), some (.inl (zsum (Arf b) i)), some (.inl i)] [] (zem L (zSX a b i)) Q
  | 0, i, i0, hn, hk => by
    have s1 := hs.s1
    unfold S1 at s1
    have ab := Arf_b (b := b) (i := i) i0
    have p06 : zSX a b i 0 6 = b 264 10 := by rw [zSX_n (by omega) (by omega)]; omega
    have p07 : zSX a b i 0 7 = b 264 9 := by rw [zSX_n (by omega) (by omega)]; omega
    have ei : i = b 264 10 := by omega
    rw [← ei] at hk
    refine r_iload_n f80_4 rfl ?_
    refine r_aload_n f80_5 rfl ?_
    refine r_getI f80_6 o80 F6_101 g0_6 rfl ?_
    refine r_top (e := b 264 10) p06 ?_
    refine r_cge f80_9 (t := 37) (by decide) (fun _ => ?_) (fun h => absurd (by omega) h)
    exact hk
  | n + 1, i, i0, hn, hk => by
    have s1 := hs.s1
    unfold S1 at s1
    have ab := Arf_b (b := b) (i := i) i0
    have p06 : zSX a b i 0 6 = b 264 10 := by rw [zSX_n (by omega) (by omega)]; omega
    have p07 : zSX a b i 0 7 = b 264 9 := by rw [zSX_n (by omega) (by omega)]; omega
    have k5 := hs.s5 i i0 (by omega)
    have k8 := hs.s8 i i0 (by omega)
    have c5 : zSX a b i (64 + 5 * i) = a (64 + 5 * i) := zSX_n (by omega) (by omega)
    have c7 : zSX a b i (67 + 5 * i) = a (67 + 5 * i) := zSX_n (by omega) (by omega)
    have e5 : a (64 + 5 * i) 5 = b 272 i := by omega
    have e6 : a (64 + 5 * i) 6 = b 273 i := by omega
    have ts := t_sleep (L := L) (d := d) (m := zSX a b i) (c := i) (t := b 264 9) i0 (by omega) (by rw [c5]; omega) (by rw [c5]; omega) (by rw [c5]; omega) (by rw [c5]; omega) (by omega) (by omega)
    unfold XP XH at ts
    rw [c5, c7, e5, e6] at ts
    have ih := l_sleep (L := L) (d := d) hs (Q := Q) n (i + 1) (by omega) (by omega) hk
    have za : zsum (Arf b) (i + 1) = zsum (Arf b) i + Arf b i := zsum_s i0
    by_cases q : b 280 i = 0
    · have nx : ¬ ((0 ≤ b 264 9 - b 272 i ∧ b 264 9 - b 272 i < b 273 i) ∧ ¬ a (67 + 5 * i) (b 264 9 - b 272 i) = 0) := fun x => x.2 (by rw [k8.2.1 x.1]; exact q)
      rw [if_neg nx, if_neg nx] at ts
      have ar : Arf b i = 0 := if_pos q
      rw [← zSX_k q] at ih
      refine r_iload_n f80_4 rfl ?_
      refine r_aload_n f80_5 rfl ?_
      refine r_getI f80_6 o80 F6_101 g0_6 rfl ?_
      refine r_top (e := b 264 10) p06 ?_
      refine r_cge f80_9 (t := 37) (by decide) (fun h => absurd h (by omega)) (fun _ => ?_)
      refine r_aload_n f80_12 rfl ?_
      refine r_getR f80_13 o80 F6_27 g0_2 rfl ?_
      refine r_iload_n f80_16 rfl ?_
      refine r_aldC f80_17 (by omega) (by omega) ?_
      refine r_aload_n f80_18 rfl ?_
      refine r_getI f80_19 o80 F6_94 g0_7 rfl ?_
      refine r_top (e := b 264 9) p07 ?_
      refine r_callv1i (m' := (zSX a b i)) (v := 0) f80_22 o80 M6_281 p8 o8 (kdC0 (c := i) (by omega) (by omega)) rfl (by simp) ts ?_
      refine r_zeq f80_25 (t := 31) (by decide) (fun _ => ?_) (fun h => absurd (by omega) h)
      refine r_iinc f80_31 rfl rfl rfl (e := i + 1) (by omega) (by omega) (by omega) (ls' := [some (.inr (.inl (some 0))), some (.inl (zsum (Arf b) i)), some (.inl (i + 1))]) rfl ?_
      refine r_goto f80_34 (t := 4) (by decide) ?_
      refine r_setI (k := 1) (a := zsum (Arf b) i) (e := zsum (Arf b) (i + 1)) (by omega) rfl (ls' := [some (.inr (.inl (some 0))), some (.inl (zsum (Arf b) (i + 1))), some (.inl (i + 1))]) rfl ?_
      exact ih
    · have yx : (0 ≤ b 264 9 - b 272 i ∧ b 264 9 - b 272 i < b 273 i) ∧ ¬ a (67 + 5 * i) (b 264 9 - b 272 i) = 0 := by
        have hh : 0 ≤ b 264 9 - b 272 i ∧ b 264 9 - b 272 i < b 273 i := Decidable.byContradiction (fun no => q (k8.2.2.1 no))
        exact ⟨hh, by rw [k8.2.1 hh]; exact q⟩
      rw [if_pos yx, if_pos yx, zSX_s i0 q] at ts
      have ar : Arf b i = 1 := if_neg q
      refine r_iload_n f80_4 rfl ?_
      refine r_aload_n f80_5 rfl ?_
      refine r_getI f80_6 o80 F6_101 g0_6 rfl ?_
      refine r_top (e := b 264 10) p06 ?_
      refine r_cge f80_9 (t := 37) (by decide) (fun h => absurd h (by omega)) (fun _ => ?_)
      refine r_aload_n f80_12 rfl ?_
      refine r_getR f80_13 o80 F6_27 g0_2 rfl ?_
      refine r_iload_n f80_16 rfl ?_
      refine r_aldC f80_17 (by omega) (by omega) ?_
      refine r_aload_n f80_18 rfl ?_
      refine r_getI f80_19 o80 F6_94 g0_7 rfl ?_
      refine r_top (e := b 264 9) p07 ?_
      refine r_callv1i (m' := (zSX a b (i + 1))) (v := 1) f80_22 o80 M6_281 p8 o8 (kdC0 (c := i) (by omega) (by omega)) rfl (by simp) ts ?_
      refine r_zeq f80_25 (t := 31) (by decide) (fun h => absurd h (by omega)) (fun _ => ?_)
      refine r_iinc f80_28 rfl rfl rfl (e := zsum (Arf b) i + 1) (by omega) (by omega) (by omega) (ls' := [some (.inr (.inl (some 0))), some (.inl (zsum (Arf b) i + 1)), some (.inl i)]) rfl ?_
      refine r_iinc f80_31 rfl rfl rfl (e := i + 1) (by omega) (by omega) (by omega) (ls' := [some (.inr (.inl (some 0))), some (.inl (zsum (Arf b) i + 1)), some (.inl (i + 1))]) rfl ?_
      refine r_goto f80_34 (t := 4) (by decide) ?_
      refine r_setI (k := 1) (a := zsum (Arf b) i + 1) (e := zsum (Arf b) (i + 1)) (by omega) rfl (ls' := [some (.inr (.inl (some 0))), some (.inl (zsum (Arf b) (i + 1))), some (.inl (i + 1))]) rfl ?_
      exact ih
theorem t_sleeps {L d : Nat} {m : zmem} {T : Int} {b : zmem} (hs : Sim T m b) : zF L (d + 3) 80 [.inr (.inl (some 0))] m (some (.inl (zsum (Arf b) (b 264 10)))) (zSX m b (b 264 10)) := by
  have s1 := hs.s1
  unfold S1 at s1
  refine zF_of n80 (ls := [some (.inr (.inl (some 0))), none, none]) rfl ?_
  refine r_iconst f80_0 rfl ?_
  refine r_istore_n f80_1 rfl (ls' := [some (.inr (.inl (some 0))), some (.inl 0), none]) rfl ?_
  refine r_iconst f80_2 rfl ?_
  refine r_istore_n f80_3 rfl (ls' := [some (.inr (.inl (some 0))), some (.inl 0), some (.inl 0)]) rfl ?_
  refine r_setI (k := 1) (a := 0) (e := zsum (Arf b) 0) (zsum_0 _).symm rfl (ls' := [some (.inr (.inl (some 0))), some (.inl (zsum (Arf b) 0)), some (.inl 0)]) rfl ?_
  refine r_mem (m1 := zSX m b 0) zSX_0 ?_
  refine l_sleep hs (b 264 10).toNat 0 (by omega) (by omega) ?_
  refine r_iload_n f80_37 rfl ?_
  exact r_iret f80_38 v80 ⟨rfl, rfl⟩

theorem l_ends {L d : Nat} {T : Int} {a A b : zmem} (hs : Sim T a b) (fa : FA A b) (h7 : ∀ c, 0 ≤ c → c < 40 → A (64 + 5 * c) 7 = b 275 c) {Q : Option zV → zM → Prop} : ∀ (n : Nat) (i : Int), 0 ≤ i → i + n = b 264 10 → zR d 83 54 [some (.inr (.inl (some 0))), some (.inl (b 264 10)), none] [] (zem L (zNX A b (b 264 10))) Q → zR d 83 2 [some (.inr (.inl (some 0))), some (.inl i), none] [] (zem L (zNX A b i)) Q
  | 0, i, i0, hn, hk => by
    have s1 := hs.s1
    unfold S1 at s1
    have p06 : zNX A b i 0 6 = b 264 10 := by rw [zNX_n (by omega) (by omega)]; exact fa.1
    have p07 : zNX A b i 0 7 = b 264 9 := by rw [zNX_n (by omega) (by omega)]; exact fa.2.1
    have ei : i = b 264 10 := by omega
    rw [← ei] at hk
    refine r_iload_n f83_2 rfl ?_
    refine r_aload_n f83_3 rfl ?_
    refine r_getI f83_4 o83 F6_101 g0_6 rfl ?_
    refine r_top (e := b 264 10) p06 ?_
    refine r_cge f83_7 (t := 54) (by decide) (fun _ => ?_) (fun h => absurd (by omega) h)
    exact hk
  | n + 1, i, i0, hn, hk => by
    have s1 := hs.s1
    unfold S1 at s1
    have p06 : zNX A b i 0 6 = b 264 10 := by rw [zNX_n (by omega) (by omega)]; exact fa.1
    have p07 : zNX A b i 0 7 = b 264 9 := by rw [zNX_n (by omega) (by omega)]; exact fa.2.1
    have k5 := hs.s5 i i0 (by omega)
    have k15 := (hs.s15 i i0 (by omega)).1 (by omega)
    have f2 := fa.2.2.1 i i0 (by omega)
    have c7 : zNX A b i (64 + 5 * i) 7 = b 275 i := by rw [zNX_v i0, if_neg (by omega)]; exact h7 i i0 (by omega)
    have c5 : zNX A b i (64 + 5 * i) 5 = b 272 i := by rw [zNX_o (by omega)]; exact f2.2.1
    have c6 : zNX A b i (64 + 5 * i) 6 = b 273 i := by rw [zNX_o (by omega)]; exact f2.2.2
    have ih := l_ends (L := L) (d := d) hs fa h7 (Q := Q) n (i + 1) (by omega) (by omega) hk
    by_cases q : zOv b i
    · have q1 := q.1
      have q2 := q.2
      rw [← zNX_s i0 q] at ih
      refine r_iload_n f83_2 rfl ?_
      refine r_aload_n f83_3 rfl ?_
      refine r_getI f83_4 o83 F6_101 g0_6 rfl ?_
      refine r_top (e := b 264 10) p06 ?_
      refine r_cge f83_7 (t := 54) (by decide) (fun h => absurd h (by omega)) (fun _ => ?_)
      refine r_aload_n f83_10 rfl ?_
      refine r_getR f83_11 o83 F6_27 g0_2 rfl ?_
      refine r_iload_n f83_14 rfl ?_
      refine r_aldC f83_15 (by omega) (by omega) ?_
      refine r_astore_n f83_16 rfl (ls' := [some (.inr (.inl (some 0))), some (.inl i), some (.inr (.inl (some (64 + 5 * i))))]) rfl ?_
      refine r_aload_n f83_17 rfl ?_
      refine r_getI f83_18 o83 F6_104 (gC_7 (c := i) (by omega) (by omega)) rfl ?_
      refine r_top (e := b 275 i) c7 ?_
      refine r_iconst f83_21 rfl ?_
      refine r_cne f83_22 (t := 48) (by decide) (fun h => absurd h (by omega)) (fun _ => ?_)
      refine r_aload_n f83_25 rfl ?_
      refine r_getI f83_26 o83 F6_121 (gC_5 (c := i) (by omega) (by omega)) rfl ?_
      refine r_top (e := b 272 i) c5 ?_
      refine r_aload_n f83_29 rfl ?_
      refine r_getI f83_30 o83 F6_124 (gC_6 (c := i) (by omega) (by omega)) rfl ?_
      refine r_top (e := b 273 i) c6 ?_
      refine r_iadd f83_33 (e := b 272 i + b 273 i) (by omega) (by omega) (by omega) ?_
      refine r_iconst f83_34 rfl ?_
      refine r_isub f83_35 (e := b 272 i + b 273 i - 1) (by omega) (by omega) (by omega) ?_
      refine r_aload_n f83_36 rfl ?_
      refine r_getI f83_37 o83 F6_94 g0_7 rfl ?_
      refine r_top (e := b 264 9) p07 ?_
      refine r_cgt f83_40 (t := 48) (by decide) (fun h => absurd h (by omega)) (fun _ => ?_)
      refine r_aload_n f83_43 rfl ?_
      refine r_iconst f83_44 rfl ?_
      refine r_put f83_45 o83 F6_104 (gC_7 (c := i) (by omega) (by omega)) rfl T0_7 U0_7 ?_
      refine r_iinc f83_48 rfl rfl rfl (e := i + 1) (by omega) (by omega) (by omega) (ls' := [some (.inr (.inl (some 0))), some (.inl (i + 1)), some (.inr (.inl (some (64 + 5 * i))))]) rfl ?_
      refine r_goto f83_51 (t := 2) (by decide) ?_
      refine r_forget (ls' := [some (.inr (.inl (some 0))), some (.inl (i + 1)), none]) ⟨Or.inl rfl, ⟨Or.inl rfl, ⟨Or.inr ⟨rfl, rfl⟩, trivial⟩⟩⟩ ?_
      exact ih
    · rw [← zNX_k q] at ih
      by_cases q1 : b 275 i = 1
      · have q2 : ¬ b 272 i + b 273 i - 1 = b 264 9 := fun x => q ⟨q1, x⟩
        refine r_iload_n f83_2 rfl ?_
        refine r_aload_n f83_3 rfl ?_
        refine r_getI f83_4 o83 F6_101 g0_6 rfl ?_
        refine r_top (e := b 264 10) p06 ?_
        refine r_cge f83_7 (t := 54) (by decide) (fun h => absurd h (by omega)) (fun _ => ?_)
        refine r_aload_n f83_10 rfl ?_
        refine r_getR f83_11 o83 F6_27 g0_2 rfl ?_
        refine r_iload_n f83_14 rfl ?_
        refine r_aldC f83_15 (by omega) (by omega) ?_
        refine r_astore_n f83_16 rfl (ls' := [some (.inr (.inl (some 0))), some (.inl i), some (.inr (.inl (some (64 + 5 * i))))]) rfl ?_
        refine r_aload_n f83_17 rfl ?_
        refine r_getI f83_18 o83 F6_104 (gC_7 (c := i) (by omega) (by omega)) rfl ?_
        refine r_top (e := b 275 i) c7 ?_
        refine r_iconst f83_21 rfl ?_
        refine r_cne f83_22 (t := 48) (by decide) (fun h => absurd h (by omega)) (fun _ => ?_)
        refine r_aload_n f83_25 rfl ?_
        refine r_getI f83_26 o83 F6_121 (gC_5 (c := i) (by omega) (by omega)) rfl ?_
        refine r_top (e := b 272 i) c5 ?_
        refine r_aload_n f83_29 rfl ?_
        refine r_getI f83_30 o83 F6_124 (gC_6 (c := i) (by omega) (by omega)) rfl ?_
        refine r_top (e := b 273 i) c6 ?_
        refine r_iadd f83_33 (e := b 272 i + b 273 i) (by omega) (by omega) (by omega) ?_
        refine r_iconst f83_34 rfl ?_
        refine r_isub f83_35 (e := b 272 i + b 273 i - 1) (by omega) (by omega) (by omega) ?_
        refine r_aload_n f83_36 rfl ?_
        refine r_getI f83_37 o83 F6_94 g0_7 rfl ?_
        refine r_top (e := b 264 9) p07 ?_
        refine r_cgt f83_40 (t := 48) (by decide) (fun _ => ?_) (fun h => absurd (by omega) h)
        refine r_iinc f83_48 rfl rfl rfl (e := i + 1) (by omega) (by omega) (by omega) (ls' := [some (.inr (.inl (some 0))), some (.inl (i + 1)), some (.inr (.inl (some (64 + 5 * i))))]) rfl ?_
        refine r_goto f83_51 (t := 2) (by decide) ?_
        refine r_forget (ls' := [some (.inr (.inl (some 0))), some (.inl (i + 1)), none]) ⟨Or.inl rfl, ⟨Or.inl rfl, ⟨Or.inr ⟨rfl, rfl⟩, trivial⟩⟩⟩ ?_
        exact ih
      · refine r_iload_n f83_2 rfl ?_
        refine r_aload_n f83_3 rfl ?_
        refine r_getI f83_4 o83 F6_101 g0_6 rfl ?_
        refine r_top (e := b 264 10) p06 ?_
        refine r_cge f83_7 (t := 54) (by decide) (fun h => absurd h (by omega)) (fun _ => ?_)
        refine r_aload_n f83_10 rfl ?_
        refine r_getR f83_11 o83 F6_27 g0_2 rfl ?_
        refine r_iload_n f83_14 rfl ?_
        refine r_aldC f83_15 (by omega) (by omega) ?_
        refine r_astore_n f83_16 rfl (ls' := [some (.inr (.inl (some 0))), some (.inl i), some (.inr (.inl (some (64 + 5 * i))))]) rfl ?_
        refine r_aload_n f83_17 rfl ?_
        refine r_getI f83_18 o83 F6_104 (gC_7 (c := i) (by omega) (by omega)) rfl ?_
        refine r_top (e := b 275 i) c7 ?_
        refine r_iconst f83_21 rfl ?_
        refine r_cne f83_22 (t := 48) (by decide) (fun _ => ?_) (fun h => absurd (by omega) h)
        refine r_iinc f83_48 rfl rfl rfl (e := i + 1) (by omega) (by omega) (by omega) (ls' := [some (.inr (.inl (some 0))), some (.inl (i + 1)), some (.inr (.inl (some (64 + 5 * i))))]) rfl ?_
        refine r_goto f83_51 (t := 2) (by decide) ?_
        refine r_forget (ls' := [some (.inr (.inl (some 0))), some (.inl (i + 1)), none]) ⟨Or.inl rfl, ⟨Or.inl rfl, ⟨Or.inr ⟨rfl, rfl⟩, trivial⟩⟩⟩ ?_
        exact ih
theorem t_ends {L d : Nat} {m : zmem} {T : Int} {a A b : zmem} (hs : Sim T a b) (fa : FA A b) (h7 : ∀ c, 0 ≤ c → c < 40 → A (64 + 5 * c) 7 = b 275 c) (em : m = A)  : zF L (d) 83 [.inr (.inl (some 0))] m none (zNX A b (b 264 10)) := by
  subst em
  have s1 := hs.s1
  unfold S1 at s1
  refine zF_of n83 (ls := [some (.inr (.inl (some 0))), none, none]) rfl ?_
  refine r_iconst f83_0 rfl ?_
  refine r_istore_n f83_1 rfl (ls' := [some (.inr (.inl (some 0))), some (.inl 0), none]) rfl ?_
  refine r_mem (m1 := zNX m b 0) zNX_0 ?_
  refine l_ends hs fa h7 (b 264 10).toNat 0 (by omega) (by omega) ?_
  exact r_vret f83_54 v83 ⟨rfl, rfl⟩

theorem l_houses {L d : Nat} {T z : Int} {a b : zmem} (hs : Sim T a b) {Q : Option zV → zM → Prop} : ∀ (n : Nat) (h : Int) (D : Int → Int), 0 ≤ h → h + n = b 264 0 → Dok b h 0 D → zR (d + 5) 62 53 [some (.inr (.inl (some 0))), some (.inl z), some (.inl (b 264 0))] [] (zem L (zDX (zEX (zSX a b (b 264 10)) (b 264 0)) (Dh b n h D))) Q → zR (d + 5) 62 19 [some (.inr (.inl (some 0))), some (.inl z), some (.inl h)] [] (zem L (zDX (zEX (zSX a b (b 264 10)) h) D)) Q
  | 0, h, D, h0, hn, hd, hk => by
    have s1 := hs.s1
    unfold S1 at s1
    have nn : ∀ p (E : Int → Int) (g : Int), g ≤ 12 → (¬ (p - 64) % 5 = 0 ∨ p < 64 ∨ 264 ≤ p) → (¬ (p - 68) % 5 = 0 ∨ p < 68 ∨ 264 ≤ p) → (¬ (p - 3) % 4 = 0 ∨ p < 3 ∨ 51 ≤ p) → zDX (zEX (zSX a b (b 264 10)) g) E p = a p := fun p E g g1 x y z => by rw [zDX_n x, zEX_n g1 z, zSX_n (by omega) y]
    have p11 : zDX (zEX (zSX a b (b 264 10)) h) D 1 1 = b 264 0 := by rw [nn 1 _ _ (by omega) (by omega) (by omega) (by omega)]; omega
    have eh : h = b 264 0 := by omega
    have hk2 : zR (d + 5) 62 53 [some (.inr (.inl (some 0))), some (.inl z), some (.inl h)] [] (zem L (zDX (zEX (zSX a b (b 264 10)) h) D)) Q := by rw [eh]; exact hk
    refine r_iload_n f62_19 rfl ?_
    refine r_aload_n f62_20 rfl ?_
    refine r_getR f62_21 o62 F6_10 g0_0 rfl ?_
    refine r_getI f62_24 o62 F6_221 g1_1 rfl ?_
    refine r_top (e := b 264 0) p11 ?_
    refine r_cge f62_27 (t := 53) (by decide) (fun _ => ?_) (fun h => absurd (by omega) h)
    exact hk2
  | n + 1, h, D, h0, hn, hd, hk => by
    have s1 := hs.s1
    unfold S1 at s1
    have nn : ∀ p (E : Int → Int) (g : Int), g ≤ 12 → (¬ (p - 64) % 5 = 0 ∨ p < 64 ∨ 264 ≤ p) → (¬ (p - 68) % 5 = 0 ∨ p < 68 ∨ 264 ≤ p) → (¬ (p - 3) % 4 = 0 ∨ p < 3 ∨ 51 ≤ p) → zDX (zEX (zSX a b (b 264 10)) g) E p = a p := fun p E g g1 x y z => by rw [zDX_n x, zEX_n g1 z, zSX_n (by omega) y]
    have p11 : zDX (zEX (zSX a b (b 264 10)) h) D 1 1 = b 264 0 := by rw [nn 1 _ _ (by omega) (by omega) (by omega) (by omega)]; omega
    have k2 := hs.s2 h h0 (by omega)
    have k11 := hs.s11 h h0 (by omega)
    have d0 := k11.1 (3 * b 264 9) (by omega) (by omega)
    have d1 := k11.1 (3 * b 264 9 + 1) (by omega) (by omega)
    have d2 := k11.1 (3 * b 264 9 + 2) (by omega) (by omega)
    rw [show 120 * h + (3 * b 264 9 + 1) = 120 * h + 3 * b 264 9 + 1 by omega] at d1
    rw [show 120 * h + (3 * b 264 9 + 2) = 120 * h + 3 * b 264 9 + 2 by omega] at d2
    have zb := zsum_b (f := fun k => b 269 (120 * h + k)) (A := 0) (B := 9) (n := 3 * b 264 9) (by omega) (fun k x y => by have := k11.1 k x (by omega); omega)
    have hR : ∀ c, 0 ≤ c → c < 40 → (0 ≤ b 272 c ∧ b 272 c ≤ 39) ∧ (0 ≤ b 273 c ∧ b 273 c ≤ 7) := fun c x y => by have := hs.s5 c x y; omega
    have hz : ∀ c, 0 ≤ c → c < 40 → 0 ≤ b 271 c ∧ b 271 c ≤ 12 := fun c x y => by have := hs.s5 c x y; omega
    have tc := t_chores (L := L) (d := d) (FA_E hs (h := h) (by omega)) h0 (by omega) (by omega) (by omega) (by omega) (by omega) hR hz (by omega) (D := D) (by omega) hd rfl
    have v5 : zDX (zEX (zSX a b (b 264 10)) h) (Dk b h (b 267 h).toNat D) (3 + 4 * h) 5 = a (3 + 4 * h) 5 := by rw [zDX_n (by omega), zEX_5 h0, if_neg (by omega), zSX_n (by omega) (by omega)]
    have v6 : zDX (zEX (zSX a b (b 264 10)) h) (Dk b h (b 267 h).toNat D) (3 + 4 * h) 6 = a (3 + 4 * h) 6 := by rw [zDX_n (by omega), zEX_6 h0, if_neg (by omega), zSX_n (by omega) (by omega)]
    have te := t_endNight (L := L) (d := d + 4) (m := zDX (zEX (zSX a b (b 264 10)) h) (Dk b h (b 267 h).toNat D)) (h := h) h0 (by omega) (by rw [v5]; omega) (by rw [v5]; omega) (by rw [v6]; omega) (by rw [v6]; omega)
    rw [v5, v6, zEX_s h0 (by omega) (by rw [zSX_n (by omega) (by omega)]) rfl] at te
    have dn := Dok_h (by omega) (by omega) (Dok_k (by omega) (b 267 h).toNat 0 D hd)
    have ih := l_houses (L := L) (d := d) (z := z) hs (Q := Q) n (h + 1) (Dk b h (b 267 h).toNat D) (by omega) (by omega) dn hk
    refine r_iload_n f62_19 rfl ?_
    refine r_aload_n f62_20 rfl ?_
    refine r_getR f62_21 o62 F6_10 g0_0 rfl ?_
    refine r_getI f62_24 o62 F6_221 g1_1 rfl ?_
    refine r_top (e := b 264 0) p11 ?_
    refine r_cge f62_27 (t := 53) (by decide) (fun h => absurd h (by omega)) (fun _ => ?_)
    refine r_aload_n f62_30 rfl ?_
    refine r_iload_n f62_31 rfl ?_
    refine r_callv1u (m' := (zDX (zEX (zSX a b (b 264 10)) h) (Dk b h (b 267 h).toNat D))) f62_32 o62 M6_224 p81 o81 kd0 rfl (by simp) tc ?_
    refine r_aload_n f62_35 rfl ?_
    refine r_getR f62_36 o62 F6_10 g0_0 rfl ?_
    refine r_getR f62_39 o62 F6_70 g1_0 rfl ?_
    refine r_iload_n f62_42 rfl ?_
    refine r_aldH f62_43 (by omega) (by omega) ?_
    refine r_callv0u (m' := (zDX (zEX (zSX a b (b 264 10)) (h + 1)) (Dk b h (b 267 h).toNat D))) f62_44 o62 M6_228 p21 o21 (kdH0 (h := h) (by omega) (by omega)) rfl (by simp) te ?_
    refine r_iinc f62_47 rfl rfl rfl (e := h + 1) (by omega) (by omega) (by omega) (ls' := [some (.inr (.inl (some 0))), some (.inl z), some (.inl (h + 1))]) rfl ?_
    refine r_goto f62_50 (t := 19) (by decide) ?_
    exact ih
abbrev XPs (m b : zmem) : zmem := zu (zNX (zDX (zEX (zSX m b (b 264 10)) (b 264 0)) (Dh b (b 264 0).toNat 0 (b 279))) b (b 264 10)) 0 7 (b 264 9 + 1)
theorem Dok_0 {T : Int} {a b : zmem} (hs : Sim T a b) : Dok b 0 0 (b 279) := by
  intro c c0 c1
  have k5 := hs.s5 c c0 c1
  refine ⟨?_, fun _ => rfl⟩
  split
  · omega
  · split <;> omega
theorem Dok_f {T : Int} {a b : zmem} (hs : Sim T a b) : ∀ (n : Nat) (h : Int) (D : Int → Int), 0 ≤ h → h + n = b 264 0 → Dok b h 0 D → Dok b (b 264 0) 0 (Dh b n h D)
  | 0, h, D, h0, hn, hd => by
    have e : h = b 264 0 := by omega
    rw [← e]
    exact hd
  | n + 1, h, D, h0, hn, hd => by
    have s1 := hs.s1
    unfold S1 at s1
    have k2 := hs.s2 h h0 (by omega)
    exact Dok_f hs n (h + 1) _ (by omega) (by omega) (Dok_h (by omega) (by omega) (Dok_k (by omega) (b 267 h).toNat 0 D hd))
theorem t_Xpass {L d : Nat} {m : zmem} {T : Int} {b : zmem} (hs : Sim T m b) : zF L (d + 5) 62 [.inr (.inl (some 0))] m (some (.inl (if m 0 7 < 39 then zsum (Arf b) (b 264 10) else -4))) (if m 0 7 < 39 then XPs m b else m) := by
  have s1 := hs.s1
  unfold S1 at s1
  refine zF_of n62 (ls := [some (.inr (.inl (some 0))), none, none]) rfl ?_
  refine r_aload_n f62_0 rfl ?_
  refine r_getI f62_1 o62 F6_94 g0_7 rfl ?_
  refine r_bipush f62_4 (by decide) ?_
  refine r_clt f62_6 (t := 12) (by decide) (fun q1 => ?_) (fun q1 => ?_)
  · refine r_aload_n f62_12 rfl ?_
    refine r_callv0i (m' := (zSX m b (b 264 10))) (v := zsum (Arf b) (b 264 10)) f62_13 o62 M6_218 p80 o80 kd0 rfl (by simp) (t_sleeps hs) ?_
    refine r_istore_n f62_16 rfl (ls' := [some (.inr (.inl (some 0))), some (.inl (zsum (Arf b) (b 264 10))), none]) rfl ?_
    refine r_iconst f62_17 rfl ?_
    refine r_istore_n f62_18 rfl (ls' := [some (.inr (.inl (some 0))), some (.inl (zsum (Arf b) (b 264 10))), some (.inl 0)]) rfl ?_
    refine r_mem (m1 := zDX (zEX (zSX m b (b 264 10)) 0) (b 279)) (by rw [zEX_0]; exact zDX_id (fun c c0 c1 => by rw [zSX_n (by omega) (by omega)]; have := hs.s5 c c0 c1; omega)) ?_
    refine l_houses hs (b 264 0).toNat 0 (b 279) (by omega) (by omega) (Dok_0 hs) ?_
    have fe := FA_E hs (h := b 264 0) (by omega)
    have tn := t_ends (L := L) (d := d + 4) (m := zDX (zEX (zSX m b (b 264 10)) (b 264 0)) (Dh b (b 264 0).toNat 0 (b 279))) hs (FA_D (D := (Dh b (b 264 0).toNat 0 (b 279))) fe) (fun c c0 c1 => by rw [zDX_o (by omega), zEX_n (by omega) (by omega), zSX_n (by omega) (by omega)]; have := hs.s5 c c0 c1; omega) rfl
    have p07 : zNX (zDX (zEX (zSX m b (b 264 10)) (b 264 0)) (Dh b (b 264 0).toNat 0 (b 279))) b (b 264 10) 0 7 = b 264 9 := by rw [zNX_n (by omega) (by omega)]; exact (FA_D (D := (Dh b (b 264 0).toNat 0 (b 279))) fe).2.1
    refine r_aload_n f62_53 rfl ?_
    refine r_callv0u (m' := (zNX (zDX (zEX (zSX m b (b 264 10)) (b 264 0)) (Dh b (b 264 0).toNat 0 (b 279))) b (b 264 10))) f62_54 o62 M6_231 p83 o83 kd0 rfl (by simp) tn ?_
    refine r_aload_n f62_57 rfl ?_
    refine r_dupR f62_58 ?_
    refine r_getI f62_59 o62 F6_94 g0_7 rfl ?_
    refine r_top (e := b 264 9) p07 ?_
    refine r_iconst f62_62 rfl ?_
    refine r_iadd f62_63 (e := b 264 9 + 1) (by omega) (by omega) (by omega) ?_
    refine r_put f62_64 o62 F6_94 g0_7 rfl T6_7 U6_7 ?_
    refine r_iload_n f62_67 rfl ?_
    exact r_iret f62_68 v62 ⟨zs_eq (by first | rfl | omega | ((repeat (first | rw [if_pos (by omega)] | rw [if_neg (by omega)])) <;> first | rfl | omega)), (by first | rfl | ((repeat (first | rw [if_pos (by omega)] | rw [if_neg (by omega)])); done) | ((repeat (first | rw [if_pos (by omega)] | rw [if_neg (by omega)])); rfl))⟩
  · refine r_bipush f62_9 (by decide) ?_
    exact r_iret f62_11 v62 ⟨zs_eq (by first | rfl | omega | ((repeat (first | rw [if_pos (by omega)] | rw [if_neg (by omega)])) <;> first | rfl | omega)), (by first | rfl | ((repeat (first | rw [if_pos (by omega)] | rw [if_neg (by omega)])); done) | ((repeat (first | rw [if_pos (by omega)] | rw [if_neg (by omega)])); rfl))⟩

