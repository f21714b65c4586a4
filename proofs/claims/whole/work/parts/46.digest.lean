def zfon (F : Int → Int64 → Int64) (h : Int64) : Nat → Int64
  | 0 => h
  | n + 1 => F n (zfon F h n)
def zfo (F : Int → Int64 → Int64) (h : Int64) (i : Int) : Int64 := zfon F h i.toNat
theorem zfo_s {F : Int → Int64 → Int64} {h : Int64} {i : Int} (hi : 0 ≤ i) : F i (zfo F h i) = zfo F h (i + 1) := by
  unfold zfo
  rw [show (i + 1).toNat = i.toNat + 1 by omega, zfon, Int.toNat_of_nonneg hi]
theorem zfon_c {F G : Int → Int64 → Int64} {h : Int64} : ∀ n : Nat, (∀ k : Int, 0 ≤ k → k < n → ∀ u, F k u = G k u) → zfon F h n = zfon G h n
  | 0, _ => rfl
  | n + 1, e => by
    rw [zfon, zfon, zfon_c n (fun k a b => e k a (by omega)), e n (by omega) (by omega)]
theorem zfo_c {F G : Int → Int64 → Int64} {h : Int64} {n : Int} (e : ∀ k : Int, 0 ≤ k → k < n → ∀ u, F k u = G k u) : zfo F h n = zfo G h n := zfon_c _ (fun k a b => e k a (by omega))
def zg (f : Int → Int) (i : Int) (h : Int64) : Int64 := 31 * h + Int64.ofInt (f i)
theorem r_setL {d j pc k : Nat} {ls ls' : zL} {st : List zV} {M : zM} {Q : Option zV → zM → Prop} {a e : Int64} (h : a = e) (h1 : ls[k]? = some (some (.inr (.inr a)))) (h2 : ls.set k (some (.inr (.inr e))) = ls') (kk : zR d j pc ls' st M Q) : zR d j pc ls st M Q := by
  subst h
  obtain ⟨hk, e1⟩ := List.getElem?_eq_some_iff.mp h1
  have e2 : ls.set k (some (.inr (.inr a))) = ls := by rw [← e1]; exact List.set_getElem_self hk
  rw [← h2, e2] at kk
  exact kk
theorem l_dgwX {L d : Nat} {m : zmem} {T : Int} (hs : Sim T m m)  {Q : Option zV → zM → Prop} (hx : zR (d + 4) 66 31 [some (.inr (.inl (some 0))), some (.inr (.inr (zfo (zg (XCt m)) 17 10))), none, some (.inl 10), none] [] (zem L m) Q) : ∀ (n : Nat) (i : Int), 0 ≤ i → i + n = 10 → zR (d + 4) 66 6 [some (.inr (.inl (some 0))), some (.inr (.inr (zfo (zg (XCt m)) 17 i))), none, some (.inl i), none] [] (zem L m) Q := by
  intro n
  induction n with
  | zero =>
    intro i hi hn
    have ei : i = 10 := by omega
    rw [ei]
    refine r_iload_n f66_6 rfl ?_
    refine r_bipush f66_7 (by decide) ?_
    refine r_cge f66_9 (t := 31) (by decide) (fun _ => ?_) (fun h => absurd (by omega) h)
    exact hx
  | succ n ih =>
    intro i hi hn
    have s1 := hs.s1
    unfold S1 at s1
    refine r_iload_n f66_6 rfl ?_
    refine r_bipush f66_7 (by decide) ?_
    refine r_cge f66_9 (t := 31) (by decide) (fun h => absurd h (by omega)) (fun _ => ?_)
    refine r_ldc2 f66_12 o66 L6_257 ?_
    refine r_lload_n f66_15 rfl ?_
    refine r_lmul f66_16 ?_
    refine r_aload_n f66_17 rfl ?_
    refine r_iload_n f66_18 rfl ?_
    refine r_callv1i (m' := m) (v := XCt m i) f66_19 o66 M6_259 p65 o65 kd0 rfl (by simp) (t_Xcount (m := m) (by omega) (by omega) (by omega) (by omega) i) ?_
    refine r_i2l f66_22 ?_
    refine r_ladd f66_23 ?_
    refine r_lstore_n f66_24 rfl (Nat.le_of_ble_eq_true rfl) (ls' := [some (.inr (.inl (some 0))), some (.inr (.inr ((31 * (zfo (zg (XCt m)) 17 i)) + (Int64.ofInt (XCt m i))))), none, some (.inl i), none]) rfl ?_
    refine r_iinc f66_25 rfl rfl rfl (e := i + 1) (by omega) (by omega) (by omega) (ls' := [some (.inr (.inl (some 0))), some (.inr (.inr ((31 * (zfo (zg (XCt m)) 17 i)) + (Int64.ofInt (XCt m i))))), none, some (.inl (i + 1)), none]) rfl ?_
    refine r_goto f66_28 (t := 6) (by decide) ?_
    refine r_setL (k := 1) (a := (31 * (zfo (zg (XCt m)) 17 i)) + (Int64.ofInt (XCt m i))) (e := zfo (zg (XCt m)) 17 (i + 1)) (zfo_s (F := zg (XCt m)) (by omega)) rfl (ls' := [some (.inr (.inl (some 0))), some (.inr (.inr (zfo (zg (XCt m)) 17 (i + 1)))), none, some (.inl (i + 1)), none]) rfl ?_
    exact ih (i + 1) (by omega) (by omega)

theorem l_dgaX {L d : Nat} {m : zmem} {T : Int} (hs : Sim T m m) {k : Int} (k0 : 0 ≤ k) (k1 : k < m 264 10) (k2 : k < 40) {u : Int64}  {Q : Option zV → zM → Prop} (hx : zR (d + 4) 66 72 [some (.inr (.inl (some 0))), some (.inr (.inr (zfo (zg (fun y => XAb m k (y + 3))) u 4))), none, some (.inl k), some (.inl 7)] [] (zem L m) Q) : ∀ (n : Nat) (i : Int), 3 ≤ i → i + n = 7 → zR (d + 4) 66 44 [some (.inr (.inl (some 0))), some (.inr (.inr (zfo (zg (fun y => XAb m k (y + 3))) u (i - 3)))), none, some (.inl k), some (.inl i)] [] (zem L m) Q := by
  intro n
  induction n with
  | zero =>
    intro i hi hn
    have ei : i = 7 := by omega
    rw [ei]
    refine r_iload f66_44 rfl ?_
    refine r_bipush f66_46 (by decide) ?_
    refine r_cgt f66_48 (t := 72) (by decide) (fun _ => ?_) (fun h => absurd (by omega) h)
    exact hx
  | succ n ih =>
    intro i hi hn
    have s1 := hs.s1
    unfold S1 at s1
    have k5 := hs.s5 k k0 k2
    refine r_iload f66_44 rfl ?_
    refine r_bipush f66_46 (by decide) ?_
    refine r_cgt f66_48 (t := 72) (by decide) (fun h => absurd h (by omega)) (fun _ => ?_)
    refine r_ldc2 f66_51 o66 L6_257 ?_
    refine r_lload_n f66_54 rfl ?_
    refine r_lmul f66_55 ?_
    refine r_aload_n f66_56 rfl ?_
    refine r_iload_n f66_57 rfl ?_
    refine r_iload f66_58 rfl ?_
    refine r_callv2i (m' := m) (v := XAb m k i) f66_60 o66 M6_262 p56 o56 kd0 rfl (by simp) (t_Xabout hs k i) ?_
    refine r_i2l f66_63 ?_
    refine r_ladd f66_64 ?_
    refine r_lstore_n f66_65 rfl (Nat.le_of_ble_eq_true rfl) (ls' := [some (.inr (.inl (some 0))), some (.inr (.inr ((31 * (zfo (zg (fun y => XAb m k (y + 3))) u (i - 3))) + (Int64.ofInt (XAb m k i))))), none, some (.inl k), some (.inl i)]) rfl ?_
    refine r_iinc f66_66 rfl rfl rfl (e := i + 1) (by omega) (by omega) (by omega) (ls' := [some (.inr (.inl (some 0))), some (.inr (.inr ((31 * (zfo (zg (fun y => XAb m k (y + 3))) u (i - 3))) + (Int64.ofInt (XAb m k i))))), none, some (.inl k), some (.inl (i + 1))]) rfl ?_
    refine r_goto f66_69 (t := 44) (by decide) ?_
    refine r_setL (k := 1) (a := (31 * (zfo (zg (fun y => XAb m k (y + 3))) u (i - 3))) + (Int64.ofInt (XAb m k i))) (e := zfo (zg (fun y => XAb m k (y + 3))) u (i + 1 - 3)) (by rw [show (i + 1 - 3 : Int) = (i - 3) + 1 by omega, ← zfo_s (by omega)]; show _ = 31 * _ + Int64.ofInt (XAb m k (i - 3 + 3)); rw [show i - 3 + 3 = i by omega]) rfl (ls' := [some (.inr (.inl (some 0))), some (.inr (.inr (zfo (zg (fun y => XAb m k (y + 3))) u (i + 1 - 3)))), none, some (.inl k), some (.inl (i + 1))]) rfl ?_
    exact ih (i + 1) (by omega) (by omega)

theorem l_dgyX {L d : Nat} {m : zmem} {T : Int} (hs : Sim T m m) {k : Int} (k0 : 0 ≤ k) (k1 : k < m 264 10) (k2 : k < 40) {u : Int64}  {Q : Option zV → zM → Prop} (hx : zR (d + 4) 66 115 [some (.inr (.inl (some 0))), some (.inr (.inr (zfo (zg (fun y => m (65 + 5 * k) y)) u (m (64 + 5 * k) 6)))), none, some (.inl k), some (.inl (m (64 + 5 * k) 6))] [] (zem L m) Q) : ∀ (n : Nat) (i : Int), 0 ≤ i → i + n = m (64 + 5 * k) 6 → zR (d + 4) 66 75 [some (.inr (.inl (some 0))), some (.inr (.inr (zfo (zg (fun y => m (65 + 5 * k) y)) u i))), none, some (.inl k), some (.inl i)] [] (zem L m) Q := by
  intro n
  induction n with
  | zero =>
    intro i hi hn
    have ei : i = m (64 + 5 * k) 6 := by omega
    rw [ei]
    refine r_iload f66_75 rfl ?_
    refine r_aload_n f66_77 rfl ?_
    refine r_getR f66_78 o66 F6_27 g0_2 rfl ?_
    refine r_iload_n f66_81 rfl ?_
    refine r_aldC f66_82 (by omega) (by omega) ?_
    refine r_getI f66_83 o66 F6_124 (gC_6 (c := k) (by omega) (by omega)) rfl ?_
    refine r_cge f66_86 (t := 115) (by decide) (fun _ => ?_) (fun h => absurd (by omega) h)
    exact hx
  | succ n ih =>
    intro i hi hn
    have s1 := hs.s1
    unfold S1 at s1
    have k5 := hs.s5 k k0 k2
    refine r_iload f66_75 rfl ?_
    refine r_aload_n f66_77 rfl ?_
    refine r_getR f66_78 o66 F6_27 g0_2 rfl ?_
    refine r_iload_n f66_81 rfl ?_
    refine r_aldC f66_82 (by omega) (by omega) ?_
    refine r_getI f66_83 o66 F6_124 (gC_6 (c := k) (by omega) (by omega)) rfl ?_
    refine r_cge f66_86 (t := 115) (by decide) (fun h => absurd h (by omega)) (fun _ => ?_)
    refine r_ldc2 f66_89 o66 L6_257 ?_
    refine r_lload_n f66_92 rfl ?_
    refine r_lmul f66_93 ?_
    refine r_aload_n f66_94 rfl ?_
    refine r_getR f66_95 o66 F6_27 g0_2 rfl ?_
    refine r_iload_n f66_98 rfl ?_
    refine r_aldC f66_99 (by omega) (by omega) ?_
    refine r_getR f66_100 o66 F6_127 (gC_0 (c := k) (by omega) (by omega)) rfl ?_
    refine r_iload f66_103 rfl ?_
    refine r_iald f66_105 (kdC1 (c := k) (by omega) (by omega)) (by omega) (by omega) ?_
    refine r_i2l f66_106 ?_
    refine r_ladd f66_107 ?_
    refine r_lstore_n f66_108 rfl (Nat.le_of_ble_eq_true rfl) (ls' := [some (.inr (.inl (some 0))), some (.inr (.inr ((31 * (zfo (zg (fun y => m (65 + 5 * k) y)) u i)) + (Int64.ofInt (m (65 + 5 * k) i))))), none, some (.inl k), some (.inl i)]) rfl ?_
    refine r_iinc f66_109 rfl rfl rfl (e := i + 1) (by omega) (by omega) (by omega) (ls' := [some (.inr (.inl (some 0))), some (.inr (.inr ((31 * (zfo (zg (fun y => m (65 + 5 * k) y)) u i)) + (Int64.ofInt (m (65 + 5 * k) i))))), none, some (.inl k), some (.inl (i + 1))]) rfl ?_
    refine r_goto f66_112 (t := 75) (by decide) ?_
    refine r_setL (k := 1) (a := (31 * (zfo (zg (fun y => m (65 + 5 * k) y)) u i)) + (Int64.ofInt (m (65 + 5 * k) i))) (e := zfo (zg (fun y => m (65 + 5 * k) y)) u (i + 1)) (zfo_s (F := zg (fun y => m (65 + 5 * k) y)) (by omega)) rfl (ls' := [some (.inr (.inl (some 0))), some (.inr (.inr (zfo (zg (fun y => m (65 + 5 * k) y)) u (i + 1)))), none, some (.inl k), some (.inl (i + 1))]) rfl ?_
    exact ih (i + 1) (by omega) (by omega)

abbrev XDc (m : zmem) : Int → Int64 → Int64 := fun k u => zfo (zg (fun y => m (65 + 5 * k) y)) (zfo (zg (fun y => XAb m k (y + 3))) u 4) (m (64 + 5 * k) 6)
theorem l_dgcX {L d : Nat} {m : zmem} {T : Int} (hs : Sim T m m) {u : Int64}  {Q : Option zV → zM → Prop} (hx : zR (d + 4) 66 121 [some (.inr (.inl (some 0))), some (.inr (.inr (zfo (XDc m) u (m 0 6)))), none, some (.inl (m 0 6)), none] [] (zem L m) Q) : ∀ (n : Nat) (i : Int), 0 ≤ i → i + n = m 0 6 → zR (d + 4) 66 33 [some (.inr (.inl (some 0))), some (.inr (.inr (zfo (XDc m) u i))), none, some (.inl i), none] [] (zem L m) Q := by
  intro n
  induction n with
  | zero =>
    intro i hi hn
    have ei : i = m 0 6 := by omega
    rw [ei]
    refine r_iload_n f66_33 rfl ?_
    refine r_aload_n f66_34 rfl ?_
    refine r_getI f66_35 o66 F6_101 g0_6 rfl ?_
    refine r_cge f66_38 (t := 121) (by decide) (fun _ => ?_) (fun h => absurd (by omega) h)
    exact hx
  | succ n ih =>
    intro i hi hn
    have s1 := hs.s1
    unfold S1 at s1
    have k5 := hs.s5 i (by omega) (by omega)
    refine r_iload_n f66_33 rfl ?_
    refine r_aload_n f66_34 rfl ?_
    refine r_getI f66_35 o66 F6_101 g0_6 rfl ?_
    refine r_cge f66_38 (t := 121) (by decide) (fun h => absurd h (by omega)) (fun _ => ?_)
    refine r_iconst f66_41 rfl ?_
    refine r_istore f66_42 rfl (ls' := [some (.inr (.inl (some 0))), some (.inr (.inr (zfo (XDc m) u i))), none, some (.inl i), some (.inl 3)]) rfl ?_
    refine l_dgaX hs (k := i) (u := zfo (XDc m) u i) (by omega) (by omega) (by omega) ?_ 4 3 (by omega) (by omega)
    refine r_iconst f66_72 rfl ?_
    refine r_istore f66_73 rfl (ls' := [some (.inr (.inl (some 0))), some (.inr (.inr (zfo (zg (fun y => XAb m i (y + 3))) (zfo (XDc m) u i) 4))), none, some (.inl i), some (.inl 0)]) rfl ?_
    refine l_dgyX hs (k := i) (u := zfo (zg (fun y => XAb m i (y + 3))) (zfo (XDc m) u i) 4) (by omega) (by omega) (by omega) ?_ (m (64 + 5 * i) 6).toNat 0 (by omega) (by omega)
    refine r_iinc f66_115 rfl rfl rfl (e := i + 1) (by omega) (by omega) (by omega) (ls' := [some (.inr (.inl (some 0))), some (.inr (.inr (zfo (zg (fun y => m (65 + 5 * i) y)) (zfo (zg (fun y => XAb m i (y + 3))) (zfo (XDc m) u i) 4) (m (64 + 5 * i) 6)))), none, some (.inl (i + 1)), some (.inl (m (64 + 5 * i) 6))]) rfl ?_
    refine r_goto f66_118 (t := 33) (by decide) ?_
    refine r_setL (k := 1) (a := zfo (zg (fun y => m (65 + 5 * i) y)) (zfo (zg (fun y => XAb m i (y + 3))) (zfo (XDc m) u i) 4) (m (64 + 5 * i) 6)) (e := zfo (XDc m) u (i + 1)) (zfo_s (F := XDc m) (by omega)) rfl (ls' := [some (.inr (.inl (some 0))), some (.inr (.inr (zfo (XDc m) u (i + 1)))), none, some (.inl (i + 1)), some (.inl (m (64 + 5 * i) 6))]) rfl ?_
    refine r_forget (ls' := [some (.inr (.inl (some 0))), some (.inr (.inr (zfo (XDc m) u (i + 1)))), none, some (.inl (i + 1)), none]) ⟨Or.inl rfl, ⟨Or.inl rfl, ⟨Or.inl rfl, ⟨Or.inl rfl, ⟨Or.inr ⟨rfl, rfl⟩, trivial⟩⟩⟩⟩⟩ ?_
    exact ih (i + 1) (by omega) (by omega)

theorem l_dghX {L d : Nat} {m : zmem} {T : Int} (hs : Sim T m m) {k : Int} (k0 : 0 ≤ k) (k1 : k < m 264 0) (k2 : k < 12) (w0 : 0 ≤ m 0 7) {u : Int64}  {Q : Option zV → zM → Prop} (hx : zR (d + 4) 66 175 [some (.inr (.inl (some 0))), some (.inr (.inr (zfo (zg (fun y => XF m k (y + m 0 7))) u (40 - m 0 7)))), none, some (.inl k), some (.inl 40)] [] (zem L m) Q) : ∀ (n : Nat) (i : Int), m 0 7 ≤ i → i + n = 40 → zR (d + 4) 66 140 [some (.inr (.inl (some 0))), some (.inr (.inr (zfo (zg (fun y => XF m k (y + m 0 7))) u (i - m 0 7)))), none, some (.inl k), some (.inl i)] [] (zem L m) Q := by
  intro n
  induction n with
  | zero =>
    intro i hi hn
    have ei : i = 40 := by omega
    rw [ei]
    refine r_iload f66_140 rfl ?_
    refine r_bipush f66_142 (by decide) ?_
    refine r_cge f66_144 (t := 175) (by decide) (fun _ => ?_) (fun h => absurd (by omega) h)
    exact hx
  | succ n ih =>
    intro i hi hn
    have s1 := hs.s1
    unfold S1 at s1
    refine r_iload f66_140 rfl ?_
    refine r_bipush f66_142 (by decide) ?_
    refine r_cge f66_144 (t := 175) (by decide) (fun h => absurd h (by omega)) (fun _ => ?_)
    refine r_ldc2 f66_147 o66 L6_257 ?_
    refine r_lload_n f66_150 rfl ?_
    refine r_lmul f66_151 ?_
    refine r_aload_n f66_152 rfl ?_
    refine r_getR f66_153 o66 F6_10 g0_0 rfl ?_
    refine r_getR f66_156 o66 F6_70 g1_0 rfl ?_
    refine r_iload_n f66_159 rfl ?_
    refine r_aldH f66_160 (by omega) (by omega) ?_
    refine r_iload f66_161 rfl ?_
    refine r_callv1i (m' := m) (v := XF m k i) f66_163 o66 M6_83 p14 o14 (kdH0 (h := k) (by omega) (by omega)) rfl (by simp) (t_freeBeds (h := k) (t := i) (by omega) (by omega) (by omega) (by omega) (fun q a b => (hs.s10 k (by omega) (by omega)).1 q a b)) ?_
    refine r_i2l f66_166 ?_
    refine r_ladd f66_167 ?_
    refine r_lstore_n f66_168 rfl (Nat.le_of_ble_eq_true rfl) (ls' := [some (.inr (.inl (some 0))), some (.inr (.inr ((31 * (zfo (zg (fun y => XF m k (y + m 0 7))) u (i - m 0 7))) + (Int64.ofInt (XF m k i))))), none, some (.inl k), some (.inl i)]) rfl ?_
    refine r_iinc f66_169 rfl rfl rfl (e := i + 1) (by omega) (by omega) (by omega) (ls' := [some (.inr (.inl (some 0))), some (.inr (.inr ((31 * (zfo (zg (fun y => XF m k (y + m 0 7))) u (i - m 0 7))) + (Int64.ofInt (XF m k i))))), none, some (.inl k), some (.inl (i + 1))]) rfl ?_
    refine r_goto f66_172 (t := 140) (by decide) ?_
    refine r_setL (k := 1) (a := (31 * (zfo (zg (fun y => XF m k (y + m 0 7))) u (i - m 0 7))) + (Int64.ofInt (XF m k i))) (e := zfo (zg (fun y => XF m k (y + m 0 7))) u (i + 1 - m 0 7)) (by rw [show (i + 1 - m 0 7 : Int) = (i - m 0 7) + 1 by omega, ← zfo_s (by omega)]; show _ = 31 * _ + Int64.ofInt (XF m k (i - m 0 7 + m 0 7)); rw [show i - m 0 7 + m 0 7 = i by omega]) rfl (ls' := [some (.inr (.inl (some 0))), some (.inr (.inr (zfo (zg (fun y => XF m k (y + m 0 7))) u (i + 1 - m 0 7)))), none, some (.inl k), some (.inl (i + 1))]) rfl ?_
    exact ih (i + 1) (by omega) (by omega)

abbrev XDh (m : zmem) : Int → Int64 → Int64 := fun k u => zfo (zg (fun y => XF m k (y + m 0 7))) u (40 - m 0 7)
theorem l_dgnX {L d : Nat} {m : zmem} {T : Int} (hs : Sim T m m) {u : Int64}  {Q : Option zV → zM → Prop} (hx : zR (d + 4) 66 181 [some (.inr (.inl (some 0))), some (.inr (.inr (zfo (XDh m) u (m 1 1)))), none, some (.inl (m 1 1)), none] [] (zem L m) Q) : ∀ (n : Nat) (i : Int), 0 ≤ i → i + n = m 1 1 → zR (d + 4) 66 123 [some (.inr (.inl (some 0))), some (.inr (.inr (zfo (XDh m) u i))), none, some (.inl i), none] [] (zem L m) Q := by
  intro n
  induction n with
  | zero =>
    intro i hi hn
    have ei : i = m 1 1 := by omega
    rw [ei]
    refine r_iload_n f66_123 rfl ?_
    refine r_aload_n f66_124 rfl ?_
    refine r_getR f66_125 o66 F6_10 g0_0 rfl ?_
    refine r_getI f66_128 o66 F6_221 g1_1 rfl ?_
    refine r_cge f66_131 (t := 181) (by decide) (fun _ => ?_) (fun h => absurd (by omega) h)
    exact hx
  | succ n ih =>
    intro i hi hn
    have s1 := hs.s1
    unfold S1 at s1
    refine r_iload_n f66_123 rfl ?_
    refine r_aload_n f66_124 rfl ?_
    refine r_getR f66_125 o66 F6_10 g0_0 rfl ?_
    refine r_getI f66_128 o66 F6_221 g1_1 rfl ?_
    refine r_cge f66_131 (t := 181) (by decide) (fun h => absurd h (by omega)) (fun _ => ?_)
    refine r_aload_n f66_134 rfl ?_
    refine r_getI f66_135 o66 F6_94 g0_7 rfl ?_
    refine r_istore f66_138 rfl (ls' := [some (.inr (.inl (some 0))), some (.inr (.inr (zfo (XDh m) u i))), none, some (.inl i), some (.inl (m 0 7))]) rfl ?_
    refine r_setL (k := 1) (a := zfo (XDh m) u i) (e := zfo (zg (fun y => XF m i (y + m 0 7))) (zfo (XDh m) u i) (m 0 7 - m 0 7)) (by rw [Int.sub_self]; rfl) rfl (ls' := [some (.inr (.inl (some 0))), some (.inr (.inr (zfo (zg (fun y => XF m i (y + m 0 7))) (zfo (XDh m) u i) (m 0 7 - m 0 7)))), none, some (.inl i), some (.inl (m 0 7))]) rfl ?_
    refine l_dghX hs (k := i) (u := zfo (XDh m) u i) (by omega) (by omega) (by omega) (by omega) ?_ (40 - m 0 7).toNat (m 0 7) (by omega) (by omega)
    refine r_iinc f66_175 rfl rfl rfl (e := i + 1) (by omega) (by omega) (by omega) (ls' := [some (.inr (.inl (some 0))), some (.inr (.inr (zfo (zg (fun y => XF m i (y + m 0 7))) (zfo (XDh m) u i) (40 - m 0 7)))), none, some (.inl (i + 1)), some (.inl 40)]) rfl ?_
    refine r_goto f66_178 (t := 123) (by decide) ?_
    refine r_setL (k := 1) (a := zfo (zg (fun y => XF m i (y + m 0 7))) (zfo (XDh m) u i) (40 - m 0 7)) (e := zfo (XDh m) u (i + 1)) (zfo_s (F := XDh m) (by omega)) rfl (ls' := [some (.inr (.inl (some 0))), some (.inr (.inr (zfo (XDh m) u (i + 1)))), none, some (.inl (i + 1)), some (.inl 40)]) rfl ?_
    refine r_forget (ls' := [some (.inr (.inl (some 0))), some (.inr (.inr (zfo (XDh m) u (i + 1)))), none, some (.inl (i + 1)), none]) ⟨Or.inl rfl, ⟨Or.inl rfl, ⟨Or.inl rfl, ⟨Or.inl rfl, ⟨Or.inr ⟨rfl, rfl⟩, trivial⟩⟩⟩⟩⟩ ?_
    exact ih (i + 1) (by omega) (by omega)

theorem t_Xdigest {L d : Nat} {m : zmem} {T : Int} (hs : Sim T m m)  : zF L (d + 4) 66 [.inr (.inl (some 0))] m (some (.inr (.inr (zfo (XDh m) (zfo (XDc m) (zfo (zg (XCt m)) 17 10) (m 0 6)) (m 1 1))))) m := by
  have s1 := hs.s1
  unfold S1 at s1
  refine zF_of n66 (ls := [some (.inr (.inl (some 0))), none, none, none, none]) rfl ?_
  refine r_ldc2 f66_0 o66 L6_255 ?_
  refine r_lstore_n f66_3 rfl (Nat.le_of_ble_eq_true rfl) (ls' := [some (.inr (.inl (some 0))), some (.inr (.inr 17)), none, none, none]) rfl ?_
  refine r_iconst f66_4 rfl ?_
  refine r_istore_n f66_5 rfl (ls' := [some (.inr (.inl (some 0))), some (.inr (.inr 17)), none, some (.inl 0), none]) rfl ?_
  refine l_dgwX hs ?_ 10 0 (by omega) (by omega)
  refine r_iconst f66_31 rfl ?_
  refine r_istore_n f66_32 rfl (ls' := [some (.inr (.inl (some 0))), some (.inr (.inr (zfo (zg (XCt m)) 17 10))), none, some (.inl 0), none]) rfl ?_
  refine l_dgcX hs (u := zfo (zg (XCt m)) 17 10) ?_ (m 0 6).toNat 0 (by omega) (by omega)
  refine r_iconst f66_121 rfl ?_
  refine r_istore_n f66_122 rfl (ls' := [some (.inr (.inl (some 0))), some (.inr (.inr (zfo (XDc m) (zfo (zg (XCt m)) 17 10) (m 0 6)))), none, some (.inl 0), none]) rfl ?_
  refine l_dgnX hs (u := zfo (XDc m) (zfo (zg (XCt m)) 17 10) (m 0 6)) ?_ (m 1 1).toNat 0 (by omega) (by omega)
  refine r_lload_n f66_181 rfl ?_
  exact r_lret f66_182 v66 ⟨rfl, rfl⟩

theorem l_dgwM {L d : Nat} {m : zmem} {T : Int} (hs : Sim T m m)  {Q : Option zV → zM → Prop} (hx : zR (d + 4) 131 31 [some (.inr (.inl (some 264))), some (.inr (.inr (zfo (zg (MCt m)) 17 10))), none, some (.inl 10), none] [] (zem L m) Q) : ∀ (n : Nat) (i : Int), 0 ≤ i → i + n = 10 → zR (d + 4) 131 6 [some (.inr (.inl (some 264))), some (.inr (.inr (zfo (zg (MCt m)) 17 i))), none, some (.inl i), none] [] (zem L m) Q := by
  intro n
  induction n with
  | zero =>
    intro i hi hn
    have ei : i = 10 := by omega
    rw [ei]
    refine r_iload_n f131_6 rfl ?_
    refine r_bipush f131_7 (by decide) ?_
    refine r_cge f131_9 (t := 31) (by decide) (fun _ => ?_) (fun h => absurd (by omega) h)
    exact hx
  | succ n ih =>
    intro i hi hn
    have s1 := hs.s1
    unfold S1 at s1
    refine r_iload_n f131_6 rfl ?_
    refine r_bipush f131_7 (by decide) ?_
    refine r_cge f131_9 (t := 31) (by decide) (fun h => absurd h (by omega)) (fun _ => ?_)
    refine r_ldc2 f131_12 o131 L7_190 ?_
    refine r_lload_n f131_15 rfl ?_
    refine r_lmul f131_16 ?_
    refine r_aload_n f131_17 rfl ?_
    refine r_iload_n f131_18 rfl ?_
    refine r_callv1i (m' := m) (v := MCt m i) f131_19 o131 M7_192 p130 o130 kd264 rfl (by simp) (t_Mcount (m := m) (by omega) (by omega) (by omega) (by omega) i) ?_
    refine r_i2l f131_22 ?_
    refine r_ladd f131_23 ?_
    refine r_lstore_n f131_24 rfl (Nat.le_of_ble_eq_true rfl) (ls' := [some (.inr (.inl (some 264))), some (.inr (.inr ((31 * (zfo (zg (MCt m)) 17 i)) + (Int64.ofInt (MCt m i))))), none, some (.inl i), none]) rfl ?_
    refine r_iinc f131_25 rfl rfl rfl (e := i + 1) (by omega) (by omega) (by omega) (ls' := [some (.inr (.inl (some 264))), some (.inr (.inr ((31 * (zfo (zg (MCt m)) 17 i)) + (Int64.ofInt (MCt m i))))), none, some (.inl (i + 1)), none]) rfl ?_
    refine r_goto f131_28 (t := 6) (by decide) ?_
    refine r_setL (k := 1) (a := (31 * (zfo (zg (MCt m)) 17 i)) + (Int64.ofInt (MCt m i))) (e := zfo (zg (MCt m)) 17 (i + 1)) (zfo_s (F := zg (MCt m)) (by omega)) rfl (ls' := [some (.inr (.inl (some 264))), some (.inr (.inr (zfo (zg (MCt m)) 17 (i + 1)))), none, some (.inl (i + 1)), none]) rfl ?_
    exact ih (i + 1) (by omega) (by omega)

theorem l_dgaM {L d : Nat} {m : zmem} {T : Int} (hs : Sim T m m) {k : Int} (k0 : 0 ≤ k) (k1 : k < m 264 10) (k2 : k < 40) {u : Int64}  {Q : Option zV → zM → Prop} (hx : zR (d + 4) 131 72 [some (.inr (.inl (some 264))), some (.inr (.inr (zfo (zg (fun y => MAb m k (y + 3))) u 4))), none, some (.inl k), some (.inl 7)] [] (zem L m) Q) : ∀ (n : Nat) (i : Int), 3 ≤ i → i + n = 7 → zR (d + 4) 131 44 [some (.inr (.inl (some 264))), some (.inr (.inr (zfo (zg (fun y => MAb m k (y + 3))) u (i - 3)))), none, some (.inl k), some (.inl i)] [] (zem L m) Q := by
  intro n
  induction n with
  | zero =>
    intro i hi hn
    have ei : i = 7 := by omega
    rw [ei]
    refine r_iload f131_44 rfl ?_
    refine r_bipush f131_46 (by decide) ?_
    refine r_cge f131_48 (t := 72) (by decide) (fun _ => ?_) (fun h => absurd (by omega) h)
    exact hx
  | succ n ih =>
    intro i hi hn
    have s1 := hs.s1
    unfold S1 at s1
    have k5 := hs.s5 k k0 k2
    refine r_iload f131_44 rfl ?_
    refine r_bipush f131_46 (by decide) ?_
    refine r_cge f131_48 (t := 72) (by decide) (fun h => absurd h (by omega)) (fun _ => ?_)
    refine r_ldc2 f131_51 o131 L7_190 ?_
    refine r_lload_n f131_54 rfl ?_
    refine r_lmul f131_55 ?_
    refine r_aload_n f131_56 rfl ?_
    refine r_iload_n f131_57 rfl ?_
    refine r_iload f131_58 rfl ?_
    refine r_callv2i (m' := m) (v := MAb m k i) f131_60 o131 M7_195 p119 o119 kd264 rfl (by simp) (t_Mabout hs k i) ?_
    refine r_i2l f131_63 ?_
    refine r_ladd f131_64 ?_
    refine r_lstore_n f131_65 rfl (Nat.le_of_ble_eq_true rfl) (ls' := [some (.inr (.inl (some 264))), some (.inr (.inr ((31 * (zfo (zg (fun y => MAb m k (y + 3))) u (i - 3))) + (Int64.ofInt (MAb m k i))))), none, some (.inl k), some (.inl i)]) rfl ?_
    refine r_iinc f131_66 rfl rfl rfl (e := i + 1) (by omega) (by omega) (by omega) (ls' := [some (.inr (.inl (some 264))), some (.inr (.inr ((31 * (zfo (zg (fun y => MAb m k (y + 3))) u (i - 3))) + (Int64.ofInt (MAb m k i))))), none, some (.inl k), some (.inl (i + 1))]) rfl ?_
    refine r_goto f131_69 (t := 44) (by decide) ?_
    refine r_setL (k := 1) (a := (31 * (zfo (zg (fun y => MAb m k (y + 3))) u (i - 3))) + (Int64.ofInt (MAb m k i))) (e := zfo (zg (fun y => MAb m k (y + 3))) u (i + 1 - 3)) (by rw [show (i + 1 - 3 : Int) = (i - 3) + 1 by omega, ← zfo_s (by omega)]; show _ = 31 * _ + Int64.ofInt (MAb m k (i - 3 + 3)); rw [show i - 3 + 3 = i by omega]) rfl (ls' := [some (.inr (.inl (some 264))), some (.inr (.inr (zfo (zg (fun y => MAb m k (y + 3))) u (i + 1 - 3)))), none, some (.inl k), some (.inl (i + 1))]) rfl ?_
    exact ih (i + 1) (by omega) (by omega)

theorem l_dgyM {L d : Nat} {m : zmem} {T : Int} (hs : Sim T m m) {k : Int} (k0 : 0 ≤ k) (k1 : k < m 264 10) (k2 : k < 40) {u : Int64}  {Q : Option zV → zM → Prop} (hx : zR (d + 4) 131 112 [some (.inr (.inl (some 264))), some (.inr (.inr (zfo (zg (fun y => m 274 (y + 7 * k))) u (m 273 k)))), none, some (.inl k), some (.inl (m 273 k))] [] (zem L m) Q) : ∀ (n : Nat) (i : Int), 0 ≤ i → i + n = m 273 k → zR (d + 4) 131 75 [some (.inr (.inl (some 264))), some (.inr (.inr (zfo (zg (fun y => m 274 (y + 7 * k))) u i))), none, some (.inl k), some (.inl i)] [] (zem L m) Q := by
  intro n
  induction n with
  | zero =>
    intro i hi hn
    have ei : i = m 273 k := by omega
    rw [ei]
    refine r_iload f131_75 rfl ?_
    refine r_aload_n f131_77 rfl ?_
    refine r_getR f131_78 o131 F7_35 g264_13 rfl ?_
    refine r_iload_n f131_81 rfl ?_
    refine r_iald f131_82 kd273 (by omega) (by omega) ?_
    refine r_cge f131_83 (t := 112) (by decide) (fun _ => ?_) (fun h => absurd (by omega) h)
    exact hx
  | succ n ih =>
    intro i hi hn
    have s1 := hs.s1
    unfold S1 at s1
    have k5 := hs.s5 k k0 k2
    refine r_iload f131_75 rfl ?_
    refine r_aload_n f131_77 rfl ?_
    refine r_getR f131_78 o131 F7_35 g264_13 rfl ?_
    refine r_iload_n f131_81 rfl ?_
    refine r_iald f131_82 kd273 (by omega) (by omega) ?_
    refine r_cge f131_83 (t := 112) (by decide) (fun h => absurd h (by omega)) (fun _ => ?_)
    refine r_ldc2 f131_86 o131 L7_190 ?_
    refine r_lload_n f131_89 rfl ?_
    refine r_lmul f131_90 ?_
    refine r_aload_n f131_91 rfl ?_
    refine r_getR f131_92 o131 F7_38 g264_14 rfl ?_
    refine r_bipush f131_95 (by decide) ?_
    refine r_iload_n f131_97 rfl ?_
    refine r_imul f131_98 (e := 7 * k) (by omega) (by omega) (by omega) ?_
    refine r_iload f131_99 rfl ?_
    refine r_iadd f131_101 (e := i + 7 * k) (by omega) (by omega) (by omega) ?_
    refine r_iald f131_102 kd274 (by omega) (by omega) ?_
    refine r_i2l f131_103 ?_
    refine r_ladd f131_104 ?_
    refine r_lstore_n f131_105 rfl (Nat.le_of_ble_eq_true rfl) (ls' := [some (.inr (.inl (some 264))), some (.inr (.inr ((31 * (zfo (zg (fun y => m 274 (y + 7 * k))) u i)) + (Int64.ofInt (m 274 (i + 7 * k)))))), none, some (.inl k), some (.inl i)]) rfl ?_
    refine r_iinc f131_106 rfl rfl rfl (e := i + 1) (by omega) (by omega) (by omega) (ls' := [some (.inr (.inl (some 264))), some (.inr (.inr ((31 * (zfo (zg (fun y => m 274 (y + 7 * k))) u i)) + (Int64.ofInt (m 274 (i + 7 * k)))))), none, some (.inl k), some (.inl (i + 1))]) rfl ?_
    refine r_goto f131_109 (t := 75) (by decide) ?_
    refine r_setL (k := 1) (a := (31 * (zfo (zg (fun y => m 274 (y + 7 * k))) u i)) + (Int64.ofInt (m 274 (i + 7 * k)))) (e := zfo (zg (fun y => m 274 (y + 7 * k))) u (i + 1)) (zfo_s (F := zg (fun y => m 274 (y + 7 * k))) (by omega)) rfl (ls' := [some (.inr (.inl (some 264))), some (.inr (.inr (zfo (zg (fun y => m 274 (y + 7 * k))) u (i + 1)))), none, some (.inl k), some (.inl (i + 1))]) rfl ?_
    exact ih (i + 1) (by omega) (by omega)

abbrev MDc (m : zmem) : Int → Int64 → Int64 := fun k u => zfo (zg (fun y => m 274 (y + 7 * k))) (zfo (zg (fun y => MAb m k (y + 3))) u 4) (m 273 k)
theorem l_dgcM {L d : Nat} {m : zmem} {T : Int} (hs : Sim T m m) {u : Int64}  {Q : Option zV → zM → Prop} (hx : zR (d + 4) 131 118 [some (.inr (.inl (some 264))), some (.inr (.inr (zfo (MDc m) u (m 264 10)))), none, some (.inl (m 264 10)), none] [] (zem L m) Q) : ∀ (n : Nat) (i : Int), 0 ≤ i → i + n = m 264 10 → zR (d + 4) 131 33 [some (.inr (.inl (some 264))), some (.inr (.inr (zfo (MDc m) u i))), none, some (.inl i), none] [] (zem L m) Q := by
  intro n
  induction n with
  | zero =>
    intro i hi hn
    have ei : i = m 264 10 := by omega
    rw [ei]
    refine r_iload_n f131_33 rfl ?_
    refine r_aload_n f131_34 rfl ?_
    refine r_getI f131_35 o131 F7_94 g264_10 rfl ?_
    refine r_cge f131_38 (t := 118) (by decide) (fun _ => ?_) (fun h => absurd (by omega) h)
    exact hx
  | succ n ih =>
    intro i hi hn
    have s1 := hs.s1
    unfold S1 at s1
    have k5 := hs.s5 i (by omega) (by omega)
    refine r_iload_n f131_33 rfl ?_
    refine r_aload_n f131_34 rfl ?_
    refine r_getI f131_35 o131 F7_94 g264_10 rfl ?_
    refine r_cge f131_38 (t := 118) (by decide) (fun h => absurd h (by omega)) (fun _ => ?_)
    refine r_iconst f131_41 rfl ?_
    refine r_istore f131_42 rfl (ls' := [some (.inr (.inl (some 264))), some (.inr (.inr (zfo (MDc m) u i))), none, some (.inl i), some (.inl 3)]) rfl ?_
    refine l_dgaM hs (k := i) (u := zfo (MDc m) u i) (by omega) (by omega) (by omega) ?_ 4 3 (by omega) (by omega)
    refine r_iconst f131_72 rfl ?_
    refine r_istore f131_73 rfl (ls' := [some (.inr (.inl (some 264))), some (.inr (.inr (zfo (zg (fun y => MAb m i (y + 3))) (zfo (MDc m) u i) 4))), none, some (.inl i), some (.inl 0)]) rfl ?_
    refine l_dgyM hs (k := i) (u := zfo (zg (fun y => MAb m i (y + 3))) (zfo (MDc m) u i) 4) (by omega) (by omega) (by omega) ?_ (m 273 i).toNat 0 (by omega) (by omega)
    refine r_iinc f131_112 rfl rfl rfl (e := i + 1) (by omega) (by omega) (by omega) (ls' := [some (.inr (.inl (some 264))), some (.inr (.inr (zfo (zg (fun y => m 274 (y + 7 * i))) (zfo (zg (fun y => MAb m i (y + 3))) (zfo (MDc m) u i) 4) (m 273 i)))), none, some (.inl (i + 1)), some (.inl (m 273 i))]) rfl ?_
    refine r_goto f131_115 (t := 33) (by decide) ?_
    refine r_setL (k := 1) (a := zfo (zg (fun y => m 274 (y + 7 * i))) (zfo (zg (fun y => MAb m i (y + 3))) (zfo (MDc m) u i) 4) (m 273 i)) (e := zfo (MDc m) u (i + 1)) (zfo_s (F := MDc m) (by omega)) rfl (ls' := [some (.inr (.inl (some 264))), some (.inr (.inr (zfo (MDc m) u (i + 1)))), none, some (.inl (i + 1)), some (.inl (m 273 i))]) rfl ?_
    refine r_forget (ls' := [some (.inr (.inl (some 264))), some (.inr (.inr (zfo (MDc m) u (i + 1)))), none, some (.inl (i + 1)), none]) ⟨Or.inl rfl, ⟨Or.inl rfl, ⟨Or.inl rfl, ⟨Or.inl rfl, ⟨Or.inr ⟨rfl, rfl⟩, trivial⟩⟩⟩⟩⟩ ?_
    exact ih (i + 1) (by omega) (by omega)

theorem l_dghM {L d : Nat} {m : zmem} {T : Int} (hs : Sim T m m) {k : Int} (k0 : 0 ≤ k) (k1 : k < m 264 0) (k2 : k < 12) (w0 : 0 ≤ m 264 9) {u : Int64}  {Q : Option zV → zM → Prop} (hx : zR (d + 4) 131 162 [some (.inr (.inl (some 264))), some (.inr (.inr (zfo (zg (fun y => MO m k (y + m 264 9))) u (40 - m 264 9)))), none, some (.inl k), some (.inl 40)] [] (zem L m) Q) : ∀ (n : Nat) (i : Int), m 264 9 ≤ i → i + n = 40 → zR (d + 4) 131 134 [some (.inr (.inl (some 264))), some (.inr (.inr (zfo (zg (fun y => MO m k (y + m 264 9))) u (i - m 264 9)))), none, some (.inl k), some (.inl i)] [] (zem L m) Q := by
  intro n
  induction n with
  | zero =>
    intro i hi hn
    have ei : i = 40 := by omega
    rw [ei]
    refine r_iload f131_134 rfl ?_
    refine r_bipush f131_136 (by decide) ?_
    refine r_cge f131_138 (t := 162) (by decide) (fun _ => ?_) (fun h => absurd (by omega) h)
    exact hx
  | succ n ih =>
    intro i hi hn
    have s1 := hs.s1
    unfold S1 at s1
    refine r_iload f131_134 rfl ?_
    refine r_bipush f131_136 (by decide) ?_
    refine r_cge f131_138 (t := 162) (by decide) (fun h => absurd h (by omega)) (fun _ => ?_)
    refine r_ldc2 f131_141 o131 L7_190 ?_
    refine r_lload_n f131_144 rfl ?_
    refine r_lmul f131_145 ?_
    refine r_aload_n f131_146 rfl ?_
    refine r_iload_n f131_147 rfl ?_
    refine r_iload f131_148 rfl ?_
    refine r_callv2i (m' := m) (v := MO m k i) f131_150 o131 M7_115 p94 o94 kd264 rfl (by simp) (t_freeOf (zan_rf m) (Sim_ok hs) (h := k) (t := i) (by omega) (by omega) (by omega) (by omega) (Sim_rng hs k 0 i (by omega) (by omega) (by omega) (by omega) (by omega) (by omega)).1 (Sim_rng hs k 0 i (by omega) (by omega) (by omega) (by omega) (by omega) (by omega)).2 (Sim_rng hs k 1 i (by omega) (by omega) (by omega) (by omega) (by omega) (by omega)).1 (Sim_rng hs k 1 i (by omega) (by omega) (by omega) (by omega) (by omega) (by omega)).2 (Sim_rng hs k 2 i (by omega) (by omega) (by omega) (by omega) (by omega) (by omega)).1 (Sim_rng hs k 2 i (by omega) (by omega) (by omega) (by omega) (by omega) (by omega)).2) ?_
    refine r_i2l f131_153 ?_
    refine r_ladd f131_154 ?_
    refine r_lstore_n f131_155 rfl (Nat.le_of_ble_eq_true rfl) (ls' := [some (.inr (.inl (some 264))), some (.inr (.inr ((31 * (zfo (zg (fun y => MO m k (y + m 264 9))) u (i - m 264 9))) + (Int64.ofInt (MO m k i))))), none, some (.inl k), some (.inl i)]) rfl ?_
    refine r_iinc f131_156 rfl rfl rfl (e := i + 1) (by omega) (by omega) (by omega) (ls' := [some (.inr (.inl (some 264))), some (.inr (.inr ((31 * (zfo (zg (fun y => MO m k (y + m 264 9))) u (i - m 264 9))) + (Int64.ofInt (MO m k i))))), none, some (.inl k), some (.inl (i + 1))]) rfl ?_
    refine r_goto f131_159 (t := 134) (by decide) ?_
    refine r_setL (k := 1) (a := (31 * (zfo (zg (fun y => MO m k (y + m 264 9))) u (i - m 264 9))) + (Int64.ofInt (MO m k i))) (e := zfo (zg (fun y => MO m k (y + m 264 9))) u (i + 1 - m 264 9)) (by rw [show (i + 1 - m 264 9 : Int) = (i - m 264 9) + 1 by omega, ← zfo_s (by omega)]; show _ = 31 * _ + Int64.ofInt (MO m k (i - m 264 9 + m 264 9)); rw [show i - m 264 9 + m 264 9 = i by omega]) rfl (ls' := [some (.inr (.inl (some 264))), some (.inr (.inr (zfo (zg (fun y => MO m k (y + m 264 9))) u (i + 1 - m 264 9)))), none, some (.inl k), some (.inl (i + 1))]) rfl ?_
    exact ih (i + 1) (by omega) (by omega)

abbrev MDh (m : zmem) : Int → Int64 → Int64 := fun k u => zfo (zg (fun y => MO m k (y + m 264 9))) u (40 - m 264 9)
theorem l_dgnM {L d : Nat} {m : zmem} {T : Int} (hs : Sim T m m) {u : Int64}  {Q : Option zV → zM → Prop} (hx : zR (d + 4) 131 168 [some (.inr (.inl (some 264))), some (.inr (.inr (zfo (MDh m) u (m 264 0)))), none, some (.inl (m 264 0)), none] [] (zem L m) Q) : ∀ (n : Nat) (i : Int), 0 ≤ i → i + n = m 264 0 → zR (d + 4) 131 120 [some (.inr (.inl (some 264))), some (.inr (.inr (zfo (MDh m) u i))), none, some (.inl i), none] [] (zem L m) Q := by
  intro n
  induction n with
  | zero =>
    intro i hi hn
    have ei : i = m 264 0 := by omega
    rw [ei]
    refine r_iload_n f131_120 rfl ?_
    refine r_aload_n f131_121 rfl ?_
    refine r_getI f131_122 o131 F7_86 g264_0 rfl ?_
    refine r_cge f131_125 (t := 168) (by decide) (fun _ => ?_) (fun h => absurd (by omega) h)
    exact hx
  | succ n ih =>
    intro i hi hn
    have s1 := hs.s1
    unfold S1 at s1
    refine r_iload_n f131_120 rfl ?_
    refine r_aload_n f131_121 rfl ?_
    refine r_getI f131_122 o131 F7_86 g264_0 rfl ?_
    refine r_cge f131_125 (t := 168) (by decide) (fun h => absurd h (by omega)) (fun _ => ?_)
    refine r_aload_n f131_128 rfl ?_
    refine r_getI f131_129 o131 F7_122 g264_9 rfl ?_
    refine r_istore f131_132 rfl (ls' := [some (.inr (.inl (some 264))), some (.inr (.inr (zfo (MDh m) u i))), none, some (.inl i), some (.inl (m 264 9))]) rfl ?_
    refine r_setL (k := 1) (a := zfo (MDh m) u i) (e := zfo (zg (fun y => MO m i (y + m 264 9))) (zfo (MDh m) u i) (m 264 9 - m 264 9)) (by rw [Int.sub_self]; rfl) rfl (ls' := [some (.inr (.inl (some 264))), some (.inr (.inr (zfo (zg (fun y => MO m i (y + m 264 9))) (zfo (MDh m) u i) (m 264 9 - m 264 9)))), none, some (.inl i), some (.inl (m 264 9))]) rfl ?_
    refine l_dghM hs (k := i) (u := zfo (MDh m) u i) (by omega) (by omega) (by omega) (by omega) ?_ (40 - m 264 9).toNat (m 264 9) (by omega) (by omega)
    refine r_iinc f131_162 rfl rfl rfl (e := i + 1) (by omega) (by omega) (by omega) (ls' := [some (.inr (.inl (some 264))), some (.inr (.inr (zfo (zg (fun y => MO m i (y + m 264 9))) (zfo (MDh m) u i) (40 - m 264 9)))), none, some (.inl (i + 1)), some (.inl 40)]) rfl ?_
    refine r_goto f131_165 (t := 120) (by decide) ?_
    refine r_setL (k := 1) (a := zfo (zg (fun y => MO m i (y + m 264 9))) (zfo (MDh m) u i) (40 - m 264 9)) (e := zfo (MDh m) u (i + 1)) (zfo_s (F := MDh m) (by omega)) rfl (ls' := [some (.inr (.inl (some 264))), some (.inr (.inr (zfo (MDh m) u (i + 1)))), none, some (.inl (i + 1)), some (.inl 40)]) rfl ?_
    refine r_forget (ls' := [some (.inr (.inl (some 264))), some (.inr (.inr (zfo (MDh m) u (i + 1)))), none, some (.inl (i + 1)), none]) ⟨Or.inl rfl, ⟨Or.inl rfl, ⟨Or.inl rfl, ⟨Or.inl rfl, ⟨Or.inr ⟨rfl, rfl⟩, trivial⟩⟩⟩⟩⟩ ?_
    exact ih (i + 1) (by omega) (by omega)

theorem t_Mdigest {L d : Nat} {m : zmem} {T : Int} (hs : Sim T m m)  : zF L (d + 4) 131 [.inr (.inl (some 264))] m (some (.inr (.inr (zfo (MDh m) (zfo (MDc m) (zfo (zg (MCt m)) 17 10) (m 264 10)) (m 264 0))))) m := by
  have s1 := hs.s1
  unfold S1 at s1
  refine zF_of n131 (ls := [some (.inr (.inl (some 264))), none, none, none, none]) rfl ?_
  refine r_ldc2 f131_0 o131 L7_188 ?_
  refine r_lstore_n f131_3 rfl (Nat.le_of_ble_eq_true rfl) (ls' := [some (.inr (.inl (some 264))), some (.inr (.inr 17)), none, none, none]) rfl ?_
  refine r_iconst f131_4 rfl ?_
  refine r_istore_n f131_5 rfl (ls' := [some (.inr (.inl (some 264))), some (.inr (.inr 17)), none, some (.inl 0), none]) rfl ?_
  refine l_dgwM hs ?_ 10 0 (by omega) (by omega)
  refine r_iconst f131_31 rfl ?_
  refine r_istore_n f131_32 rfl (ls' := [some (.inr (.inl (some 264))), some (.inr (.inr (zfo (zg (MCt m)) 17 10))), none, some (.inl 0), none]) rfl ?_
  refine l_dgcM hs (u := zfo (zg (MCt m)) 17 10) ?_ (m 264 10).toNat 0 (by omega) (by omega)
  refine r_iconst f131_118 rfl ?_
  refine r_istore_n f131_119 rfl (ls' := [some (.inr (.inl (some 264))), some (.inr (.inr (zfo (MDc m) (zfo (zg (MCt m)) 17 10) (m 264 10)))), none, some (.inl 0), none]) rfl ?_
  refine l_dgnM hs (u := zfo (MDc m) (zfo (zg (MCt m)) 17 10) (m 264 10)) ?_ (m 264 0).toNat 0 (by omega) (by omega)
  refine r_lload_n f131_168 rfl ?_
  exact r_lret f131_169 v131 ⟨rfl, rfl⟩

theorem pr_digest {L : Nat} {T : Int} {m : zmem} (hs : Sim T m m) : zPr L 66 131 [] T m := by
  refine zPr_rd hs (t_Xdigest (d := 4) hs) (t_Mdigest (d := 4) hs) ?_
  have s1 := hs.s1
  unfold S1 at s1
  have e1 : zfo (zg (MCt m)) 17 10 = zfo (zg (XCt m)) 17 10 := zfo_c (fun k _ _ u => by unfold zg; rw [ct_eq hs])
  have e2 : ∀ u, zfo (MDc m) u (m 264 10) = zfo (XDc m) u (m 264 10) := fun u => zfo_c (fun k k0 k1 u => by
    have k5 := hs.s5 k k0 (by omega)
    unfold MDc XDc
    have a1 : zfo (zg (fun y => MAb m k (y + 3))) u 4 = zfo (zg (fun y => XAb m k (y + 3))) u 4 := zfo_c (fun y _ _ u => by unfold zg; simp only []; rw [ab_eq hs])
    try simp only []
    rw [a1, show m (64 + 5 * k) 6 = m 273 k by omega]
    refine zfo_c (fun y y0 y1 u => ?_)
    have g6 := hs.s6 k k0 (by omega) y y0 (by omega)
    unfold zg
    try simp only []
    rw [g6.1, show y + 7 * k = 7 * k + y by omega])
  have e3 : ∀ u, zfo (MDh m) u (m 264 0) = zfo (XDh m) u (m 264 0) := fun u => zfo_c (fun k k0 k1 u => by
    unfold MDh XDh
    try simp only []
    rw [show m 0 7 = m 264 9 by omega]
    refine zfo_c (fun y y0 y1 u => ?_)
    have g := (hs.s10 k k0 (by omega)).2 k1
    have g0 := g 0 (y + m 264 9) (by omega) (by omega) (by omega) (by omega)
    have g1 := g 1 (y + m 264 9) (by omega) (by omega) (by omega) (by omega)
    have g2 := g 2 (y + m 264 9) (by omega) (by omega) (by omega) (by omega)
    rw [show 3 * (y + m 264 9) + 0 = 3 * (y + m 264 9) by omega] at g0
    have e : MO m k (y + m 264 9) = XF m k (y + m 264 9) := by unfold MO XF; omega
    unfold zg
    try simp only []
    rw [e])
  rw [e1, e2, e3, show m 0 6 = m 264 10 by omega, show m 1 1 = m 264 0 by omega]
