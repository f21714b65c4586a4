/-- nights lifted one after another, of both sides -/
def XLf (c : Int) : Nat → Int → zmem → zmem
  | 0, _, a => a
  | n + 1, i, a => XLf c n (i + 1) (XV a (a (65 + 5 * c) i) (i + a (64 + 5 * c) 5) c i)
def MLf (c : Int) : Nat → Int → zmem → zmem
  | 0, _, b => b
  | n + 1, i, b => MLf c n (i + 1) (zu b 276 (7 * c + i) 0)
theorem sm_lifts {T c : Int} : ∀ (n : Nat) (i : Int) (a b : zmem), Sim T a b → 0 ≤ c → c < b 264 10 → 0 ≤ i → i + n = b 273 c → (b 264 9 - b 272 c < i ∨ b 280 c = 0) → Sim T (XLf c n i a) (MLf c n i b)
  | 0, _, _, _, hs, _, _, _, _, _ => hs
  | n + 1, i, a, b, hs, c0, c1, i0, hn, hx => by
    have s1 := hs.s1
    unfold S1 at s1
    have g5 := hs.s5 c c0 (by omega)
    have g6 := hs.s6 c c0 (by omega) i i0 (by omega)
    have q := sm_lift hs c0 c1 i0 (by omega) (h := a (65 + 5 * c) i) (t := i + a (64 + 5 * c) 5) (by omega) (by omega) (by omega)
    have e1 : zu b 276 (7 * c + i) 0 264 = b 264 := zu_ne (by omega)
    have e2 : zu b 276 (7 * c + i) 0 273 = b 273 := zu_ne (by omega)
    have e3 : zu b 276 (7 * c + i) 0 272 = b 272 := zu_ne (by omega)
    have e4 : zu b 276 (7 * c + i) 0 280 = b 280 := zu_ne (by omega)
    exact sm_lifts n (i + 1) _ _ q c0 (by rw [e1]; exact c1) (by omega) (by rw [e2]; omega) (by rw [e1, e3, e4]; omega)
theorem l_lift {L d : Nat} {T c f : Int} {Q : Option zV → zM → Prop} : ∀ (n : Nat) (i : Int) (a b : zmem), Sim T a b → 0 ≤ c → c < b 264 10 → 0 ≤ i → i + n = b 273 c → (b 264 9 - b 272 c < i ∨ b 280 c = 0) → zR (d + 1) 75 46 [some (.inr (.inl (some 0))), some (.inr (.inl (some (64 + 5 * c)))), some (.inl f), some (.inl (b 273 c))] [] (zem L (XLf c n i a)) Q → zR (d + 1) 75 2 [some (.inr (.inl (some 0))), some (.inr (.inl (some (64 + 5 * c)))), some (.inl f), some (.inl i)] [] (zem L a) Q
  | 0, i, a, b, hs, c0, c1, i0, hn, hx, hk => by
    have s1 := hs.s1
    unfold S1 at s1
    have g5 := hs.s5 c c0 (by omega)
    have ei : i = b 273 c := by omega
    rw [ei]
    refine r_iload_n f75_2 rfl ?_
    refine r_aload_n f75_3 rfl ?_
    refine r_getI f75_4 o75 F6_124 (gC_6 (c := c) (by omega) (by omega)) rfl ?_
    refine r_cge f75_7 (t := 46) (by decide) (fun _ => ?_) (fun h => absurd (by omega) h)
    exact hk
  | n + 1, i, a, b, hs, c0, c1, i0, hn, hx, hk => by
    have s1 := hs.s1
    unfold S1 at s1
    have g5 := hs.s5 c c0 (by omega)
    have g6 := hs.s6 c c0 (by omega) i i0 (by omega)
    refine r_iload_n f75_2 rfl ?_
    refine r_aload_n f75_3 rfl ?_
    refine r_getI f75_4 o75 F6_124 (gC_6 (c := c) (by omega) (by omega)) rfl ?_
    refine r_cge f75_7 (t := 46) (by decide) (fun h => absurd h (by omega)) (fun _ => ?_)
    refine r_aload_n f75_10 rfl ?_
    refine r_getR f75_11 o75 F6_10 g0_0 rfl ?_
    refine r_getR f75_14 o75 F6_70 g1_0 rfl ?_
    refine r_aload_n f75_17 rfl ?_
    refine r_getR f75_18 o75 F6_127 (gC_0 (c := c) (by omega) (by omega)) rfl ?_
    refine r_iload_n f75_21 rfl ?_
    refine r_iald f75_22 (kdC1 (c := c) (by omega) (by omega)) (by omega) (by omega) ?_
    refine r_aldH f75_23 (by omega) (by omega) ?_
    refine r_aload_n f75_24 rfl ?_
    refine r_getI f75_25 o75 F6_121 (gC_5 (c := c) (by omega) (by omega)) rfl ?_
    refine r_iload_n f75_28 rfl ?_
    refine r_iadd f75_29 (e := i + a (64 + 5 * c) 5) (by omega) (by omega) (by omega) ?_
    refine r_aload_n f75_30 rfl ?_
    refine r_getR f75_31 o75 F6_174 (gC_1 (c := c) (by omega) (by omega)) rfl ?_
    refine r_iload_n f75_34 rfl ?_
    refine r_iconst f75_35 rfl ?_
    refine r_imul f75_36 (e := 3 * i) (by omega) (by omega) (by omega) ?_
    refine r_callv3u (m' := (XV a (a (65 + 5 * c) i) (i + a (64 + 5 * c) 5) c i)) f75_37 o75 M6_268 p20 o20 (kdH0 (h := a (65 + 5 * c) i) (by omega) (by omega)) rfl (by simp) (t_clear (h := a (65 + 5 * c) i) (t := i + a (64 + 5 * c) 5) (c := c) (i := i) (by omega) (by omega) (by omega) (by omega) (fun k x y => (hs.s10 (a (65 + 5 * c) i) (by omega) (by omega)).1 k x y) c0 (by omega) i0 (by omega) (Sim_hl hs c c0 (by omega))) ?_
    refine r_iinc f75_40 rfl rfl rfl (e := i + 1) (by omega) (by omega) (by omega) (ls' := [some (.inr (.inl (some 0))), some (.inr (.inl (some (64 + 5 * c)))), some (.inl f), some (.inl (i + 1))]) rfl ?_
    refine r_goto f75_43 (t := 2) (by decide) ?_
    have q := sm_lift hs c0 c1 i0 (by omega) (h := a (65 + 5 * c) i) (t := i + a (64 + 5 * c) 5) (by omega) (by omega) (by omega)
    have e1 : zu b 276 (7 * c + i) 0 264 = b 264 := zu_ne (by omega)
    have e2 : zu b 276 (7 * c + i) 0 273 = b 273 := zu_ne (by omega)
    have e3 : zu b 276 (7 * c + i) 0 272 = b 272 := zu_ne (by omega)
    have e4 : zu b 276 (7 * c + i) 0 280 = b 280 := zu_ne (by omega)
    exact l_lift n (i + 1) _ _ q c0 (by rw [e1]; exact c1) (by omega) (by rw [e2]; omega) (by rw [e1, e3, e4]; omega) (by rw [e2]; exact hk)
