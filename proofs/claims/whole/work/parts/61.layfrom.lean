theorem l_lay {L d : Nat} {T c f : Int} {Q : Option zV → zM → Prop} : ∀ (n : Nat) (i : Int) (a b : zmem), Sim T (zu a (64 + 5 * c) 7 1) b → 0 ≤ c → c < b 264 10 → 0 ≤ i → i + n = b 273 c → ¬ b 275 c = 0 → Lay b c i → zR (d + 3) 74 50 [some (.inr (.inl (some 0))), some (.inr (.inl (some (64 + 5 * c)))), some (.inl f), some (.inl (b 273 c))] [] (zem L (XLy c n i a)) Q → zR (d + 3) 74 2 [some (.inr (.inl (some 0))), some (.inr (.inl (some (64 + 5 * c)))), some (.inl f), some (.inl i)] [] (zem L a) Q
  | 0, i, a, b, hs, c0, c1, i0, hn, hst, hl, hk => by
    have s1 := hs.s1
    unfold S1 at s1
    rw [zu_ne (a := 1) (by omega), zu_ne (a := 0) (by omega), zu_ne (a := 55) (by omega), zu_ne (a := 60) (by omega)] at s1
    have g5 := hs.s5 c c0 (by omega)
    rw [zu_ne2 (by omega), zu_ne2 (by omega), zu_ne2 (by omega), zu_ne2 (b := 8) (by omega)] at g5
    have ei : i = b 273 c := by omega
    rw [ei]
    refine r_iload_n f74_2 rfl ?_
    refine r_aload_n f74_3 rfl ?_
    refine r_getI f74_4 o74 F6_124 (gC_6 (c := c) (by omega) (by omega)) rfl ?_
    refine r_cge f74_7 (t := 50) (by decide) (fun _ => ?_) (fun h => absurd (by omega) h)
    exact hk
  | n + 1, i, a, b, hs, c0, c1, i0, hn, hst, hl, hk => by
    have s1 := hs.s1
    unfold S1 at s1
    rw [zu_ne (a := 1) (by omega), zu_ne (a := 0) (by omega), zu_ne (a := 55) (by omega), zu_ne (a := 60) (by omega)] at s1
    have g5 := hs.s5 c c0 (by omega)
    rw [zu_ne2 (by omega), zu_ne2 (by omega), zu_ne2 (by omega), zu_ne2 (b := 8) (by omega)] at g5
    have g6 := hs.s6 c c0 (by omega) i i0 (by omega)
    rw [zu_ne (by omega)] at g6
    have gw := g6.2 (by omega)
    have hf := fun k x y => (hs.s10 (a (65 + 5 * c) i) (by omega) (by omega)).1 k x y
    rw [zu_ne (by omega)] at hf
    have l1 := hl i (by omega) (by omega)
    have fe := Sim_F hs (h := b 274 (7 * c + i)) (t := i + b 272 c) gw.1 gw.2 (by omega) (by omega)
    unfold XF at fe
    rw [zu_ne (by omega)] at fe
    rw [← g6.1, show b 272 c = a (64 + 5 * c) 5 by omega] at fe l1
    refine r_iload_n f74_2 rfl ?_
    refine r_aload_n f74_3 rfl ?_
    refine r_getI f74_4 o74 F6_124 (gC_6 (c := c) (by omega) (by omega)) rfl ?_
    refine r_cge f74_7 (t := 50) (by decide) (fun h => absurd h (by omega)) (fun _ => ?_)
    refine r_aload_n f74_10 rfl ?_
    refine r_getR f74_11 o74 F6_10 g0_0 rfl ?_
    refine r_getR f74_14 o74 F6_70 g1_0 rfl ?_
    refine r_aload_n f74_17 rfl ?_
    refine r_getR f74_18 o74 F6_127 (gC_0 (c := c) (by omega) (by omega)) rfl ?_
    refine r_iload_n f74_21 rfl ?_
    refine r_iald f74_22 (kdC1 (c := c) (by omega) (by omega)) (by omega) (by omega) ?_
    refine r_aldH f74_23 (by omega) (by omega) ?_
    refine r_aload_n f74_24 rfl ?_
    refine r_getI f74_25 o74 F6_121 (gC_5 (c := c) (by omega) (by omega)) rfl ?_
    refine r_iload_n f74_28 rfl ?_
    refine r_iadd f74_29 (e := i + a (64 + 5 * c) 5) (by omega) (by omega) (by omega) ?_
    refine r_aload_n f74_30 rfl ?_
    refine r_getI f74_31 o74 F6_161 (gC_4 (c := c) (by omega) (by omega)) rfl ?_
    refine r_aload_n f74_34 rfl ?_
    refine r_getR f74_35 o74 F6_174 (gC_1 (c := c) (by omega) (by omega)) rfl ?_
    refine r_iload_n f74_38 rfl ?_
    refine r_iconst f74_39 rfl ?_
    refine r_imul f74_40 (e := 3 * i) (by omega) (by omega) (by omega) ?_
    refine r_callv4u (m' := (XL1 a c i)) f74_41 o74 M6_208 p19 o19 (kdH0 (h := a (65 + 5 * c) i) (by omega) (by omega)) rfl (by simp) (t_fillC (h := a (65 + 5 * c) i) (t := i + a (64 + 5 * c) 5) (c := c) (i := i) (n := a (64 + 5 * c) 4) (by omega) (by omega) (by omega) (by omega) hf c0 (by omega) i0 (by omega) (fun k => by have := hs.s14.1 k; rw [zu_ne (by omega)] at this; exact this) (by omega) (by omega)) ?_
    refine r_iinc f74_44 rfl rfl rfl (e := i + 1) (by omega) (by omega) (by omega) (ls' := [some (.inr (.inl (some 0))), some (.inr (.inl (some (64 + 5 * c)))), some (.inl f), some (.inl (i + 1))]) rfl ?_
    refine r_goto f74_47 (t := 2) (by decide) ?_
    have q := sm_lay1 hs c0 c1 i0 (by omega) hst hl
    rw [XL1_sh c0 (by omega) (by omega) (by omega)] at q
    have e264 : ML1 b c i 264 = b 264 := by unfold ML1 MYa; rw [zu_ne (by omega), zu_ne (by omega), zu_ne (by omega), zu_ne (by omega)]
    have e273 : ML1 b c i 273 = b 273 := by unfold ML1 MYa; rw [zu_ne (by omega), zu_ne (by omega), zu_ne (by omega), zu_ne (by omega)]
    have e275 : ML1 b c i 275 = b 275 := by unfold ML1 MYa; rw [zu_ne (by omega), zu_ne (by omega), zu_ne (by omega), zu_ne (by omega)]
    exact l_lay n (i + 1) _ _ q.1 c0 (by rw [e264]; exact c1) (by omega) (by rw [e273]; omega) (by rw [e275]; exact hst) q.2 (by rw [e273]; exact hk)
