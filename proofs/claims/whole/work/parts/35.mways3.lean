abbrev MQs (m : zmem) (c a q k x g : Int) : Prop := MJ m x g ∧ MGa m c a q (k + 1) g = MGa m c a q k x - (if m 274 (7 * c + k) = x then 0 else 1)
def MPh (m : zmem) (c a q : Int) : Nat → Int
  | 0 => m 274 (7 * c + a)
  | k + 1 => zff (MQs m c a q (a + k) (MPh m c a q k)) 0 (m 264 0).toNat
theorem MPh_ex {m : zmem} {c a q i x : Int} (kh : 0 ≤ m 264 0) (hi : i < m 273 c - 1) (hg : ¬ MGa m c a q i x = -1) : ∃ k, 0 ≤ k ∧ k < 0 + ((m 264 0).toNat : Int) ∧ MQs m c a q i x k := by
  have e := MGa_s (a := a) (q := q) (h := x) hi
  by_cases hc : MMa m c a q i x ∧ ¬ zfd (zstM (MGa m c a q (i + 1)) (MJ m x)) (-1) (m 264 0) = -1
  · rw [if_pos hc] at e
    rcases zstM_ex (ρ := MGa m c a q (i + 1)) (J := MJ m x) kh with z | ⟨k, z1, z2, z3, z4, z5⟩
    · exact absurd z hc.2
    · exact ⟨k, z1, by omega, z3, by rw [z4, e]; omega⟩
  · rw [if_neg hc] at e
    exact absurd e hg
theorem MPh_ok {m : zmem} {c a q : Int} (kh : 0 ≤ m 264 0) (hw : ∀ k, 0 ≤ k → k < m 273 c → 0 ≤ m 274 (7 * c + k) ∧ m 274 (7 * c + k) < m 264 0) (a0 : 0 ≤ a) (a1 : a < m 273 c) (hg : ¬ MGa m c a q a (m 274 (7 * c + a)) = -1) : ∀ k : Nat, a + k < m 273 c → (0 ≤ MPh m c a q k ∧ MPh m c a q k < m 264 0) ∧ ¬ MGa m c a q (a + k) (MPh m c a q k) = -1
  | 0, _ => ⟨hw a a0 a1, by rw [show a + ((0 : Nat) : Int) = a by omega]; exact hg⟩
  | k + 1, h => by
    obtain ⟨b1, b2⟩ := MPh_ok kh hw a0 a1 hg k (by omega)
    have ex := MPh_ex kh (by omega) b2
    obtain ⟨c1, c2, c3, c4⟩ := zff_spec _ 0 ex
    have e : MPh m c a q (k + 1) = zff (MQs m c a q (a + k) (MPh m c a q k)) 0 (m 264 0).toNat := rfl
    rw [← e] at c1 c2 c3
    refine ⟨⟨c2, by omega⟩, ?_⟩
    rw [show a + ((k + 1 : Nat) : Int) = a + k + 1 by omega, c1.2]
    have e2 := MGa_s (a := a) (q := q) (h := MPh m c a q k) (show a + (k : Int) < m 273 c - 1 by omega)
    by_cases hc : MMa m c a q (a + k) (MPh m c a q k) ∧ ¬ zfd (zstM (MGa m c a q (a + k + 1)) (MJ m (MPh m c a q k))) (-1) (m 264 0) = -1
    · rw [if_pos hc] at e2
      rw [e2]
      have := hc.2
      omega
    · rw [if_neg hc] at e2
      exact absurd e2 b2
def zfn (m : zmem) (F : Nat → Int) (a i : Int) : zmem := fun p b => if p = 283 ∧ a ≤ b ∧ b < i then F (b - a).toNat else m p b
theorem zfn_n {m : zmem} {F : Nat → Int} {a i p : Int} (hp : ¬ p = 283) : zfn m F a i p = m p := by
  funext b
  unfold zfn
  rw [if_neg (by omega)]
theorem zfn_s {m : zmem} {F : Nat → Int} {a i v : Int} (hi : a ≤ i) (hv : v = F (i - a).toNat) : zu (zfn m F a i) 283 i v = zfn m F a (i + 1) := by
  funext p b
  rw [zu_if]
  unfold zfn
  by_cases g : p = 283 ∧ b = i
  · rw [if_pos g, if_pos (by omega), hv, g.2]
  · rw [if_neg g]
    by_cases g2 : p = 283 ∧ a ≤ b ∧ b < i
    · rw [if_pos g2, if_pos (by omega)]
    · rw [if_neg g2, if_neg (by omega)]
theorem zfn_0 {m : zmem} {F : Nat → Int} {a : Int} : zfn m F a a = m := by
  funext p b
  unfold zfn
  rw [if_neg (by omega)]
theorem zfn_v {m : zmem} {F : Nat → Int} {a i b : Int} (h0 : a ≤ b) (h1 : b < i) : zfn m F a i 283 b = F (b - a).toNat := by
  unfold zfn
  rw [if_pos ⟨rfl, h0, h1⟩]

theorem zfn_an {m1 m : zmem} (ha : zan m1 m) {F : Nat → Int} {a i : Int} : zan (zfn m1 F a i) m := by
  intro p h1 h2 h3
  rw [zfn_n h3]
  exact ha p h1 h2 h3
abbrev MFn (m1 m : zmem) (c a q : Int) : zmem := MPm m1 m c a q (a - 1) 0
abbrev MFo (m1 m : zmem) (c a q i : Int) : zmem := zfn (MFn m1 m c a q) (MPh m c a q) a i
theorem MFo_t {m1 m : zmem} {c a q i k g : Int} (g0 : 0 ≤ g) (g1 : g < m 264 0) (g2 : m 264 0 ≤ 12) (k0 : 0 ≤ k) (k1 : a ≤ k) (k2 : k < m 273 c) : MFo m1 m c a q i 282 (g + 12 * k) = MGa m c a q k g := by
  unfold MFo
  rw [zfn_n (by omega)]
  exact zpn_v g0 g1 g2 k0 (by omega) (by omega)
theorem l_seek {L d : Nat} {m1 m : zmem} (ha : zan m1 m) (hk : MOk m) (hr : MRng m) {c : Int} (c0 : 0 ≤ c) (c1 : c < 40) (l2 : m 272 c + m 273 c ≤ 40) (hw : ∀ k, 0 ≤ k → k < m 273 c → 0 ≤ m 274 (7 * c + k) ∧ m 274 (7 * c + k) < m 264 0) {a q : Int} (a0 : 0 ≤ a) (a1 : a < m 273 c) (q0 : q = 0 ∨ q = 1) {i x y z : Int} (i0 : a ≤ i) (i1 : i < m 273 c - 1) (x0 : 0 ≤ x) (x1 : x < m 264 0) (z0 : 0 ≤ z) (z1 : z < m 264 0) (hz : MQs m c a q i x z) (hl : ∀ k, 0 ≤ k → k < z → ¬ MQs m c a q i x k) {Q : Option zV → zM → Prop} (hx : zR (d + 5) 108 406 [some (.inr (.inl (some 264))), some (.inl c), some (.inl a), some (.inl q), some (.inl (m 273 c - 1)), some (.inl x), some (.inl y), some (.inl i), some (.inl (MGa m c a q i x - (if m 274 (7 * c + i) = x then 0 else 1))), some (.inl z), none, none] [] (zem L (MFo m1 m c a q (i + 1))) Q) : ∀ (n : Nat) (g : Int), 0 ≤ g → g + n = z → zR (d + 5) 108 369 [some (.inr (.inl (some 264))), some (.inl c), some (.inl a), some (.inl q), some (.inl (m 273 c - 1)), some (.inl x), some (.inl y), some (.inl i), some (.inl (MGa m c a q i x - (if m 274 (7 * c + i) = x then 0 else 1))), some (.inl g), none, none] [] (zem L (MFo m1 m c a q (i + 1))) Q := by
  have kc := hk.2.2.1 c c0 c1
  have kh := hk.2.1
  intro n
  induction n with
  | zero =>
    intro g hg hn
    have ei : g = z := by omega
    rw [ei]
    have hz1 := hz.1
    have hz2 := hz.2
    refine r_aload_n f108_369 rfl ?_
    refine r_iload f108_370 rfl ?_
    refine r_iload f108_372 rfl ?_
    refine r_callv2i (m' := (MFo m1 m c a q (i + 1))) f108_374 o108 M7_128 p102 o102 kd264 rfl (by simp) (t_joinM (zfn_an (zpn_an ha)) (a := x) (b := z) (by omega) (by omega) (by omega) (by omega)) ?_
    refine r_top (e := 1) (if_pos hz1) ?_
    refine r_zeq f108_377 (t := 400) (by decide) (fun h => absurd h (by omega)) (fun _ => ?_)
    refine r_aload_n f108_380 rfl ?_
    refine r_getR f108_381 o108 F7_62 g264_22 rfl ?_
    refine r_bipush f108_384 (by decide) ?_
    refine r_iload f108_386 rfl ?_
    refine r_iconst f108_388 rfl ?_
    refine r_iadd f108_389 (e := i + 1) (by omega) (by omega) (by omega) ?_
    refine r_imul f108_390 (e := 12 * i + 12) (by omega) (by omega) (by omega) ?_
    refine r_iload f108_391 rfl ?_
    refine r_iadd f108_393 (e := 12 * i + z + 12) (by omega) (by omega) (by omega) ?_
    refine r_iald f108_394 kd282 (by omega) (by omega) ?_
    refine r_top (e := MGa m c a q (i + 1) z) ((congrArg ((MFo m1 m c a q (i + 1)) 282) (show _ = z + 12 * (i + 1) by omega)).trans (MFo_t (by omega) (by omega) (by omega) (by omega) (by omega) (by omega))) ?_
    refine r_iload f108_395 rfl ?_
    refine r_ceq f108_397 (t := 406) (by decide) (fun _ => ?_) (fun h => absurd (by omega) h)
    exact hx
  | succ n ih =>
    intro g hg hn
    have hnl := hl g hg (by omega)
    refine r_aload_n f108_369 rfl ?_
    refine r_iload f108_370 rfl ?_
    refine r_iload f108_372 rfl ?_
    refine r_callv2i (m' := (MFo m1 m c a q (i + 1))) f108_374 o108 M7_128 p102 o102 kd264 rfl (by simp) (t_joinM (zfn_an (zpn_an ha)) (a := x) (b := g) (by omega) (by omega) (by omega) (by omega)) ?_
    refine r_ite (fun q1 => ?_) (fun q1 => ?_)
    · refine r_zeq f108_377 (t := 400) (by decide) (fun h => absurd h (by omega)) (fun _ => ?_)
      refine r_aload_n f108_380 rfl ?_
      refine r_getR f108_381 o108 F7_62 g264_22 rfl ?_
      refine r_bipush f108_384 (by decide) ?_
      refine r_iload f108_386 rfl ?_
      refine r_iconst f108_388 rfl ?_
      refine r_iadd f108_389 (e := i + 1) (by omega) (by omega) (by omega) ?_
      refine r_imul f108_390 (e := 12 * i + 12) (by omega) (by omega) (by omega) ?_
      refine r_iload f108_391 rfl ?_
      refine r_iadd f108_393 (e := g + 12 * i + 12) (by omega) (by omega) (by omega) ?_
      refine r_iald f108_394 kd282 (by omega) (by omega) ?_
      refine r_top (e := MGa m c a q (i + 1) g) ((congrArg ((MFo m1 m c a q (i + 1)) 282) (show _ = g + 12 * (i + 1) by omega)).trans (MFo_t (by omega) (by omega) (by omega) (by omega) (by omega) (by omega))) ?_
      refine r_iload f108_395 rfl ?_
      refine r_ceq f108_397 (t := 406) (by decide) (fun q2 => ?_) (fun q2 => ?_)
      · exact absurd ⟨q1, by omega⟩ hnl
      · refine r_iinc f108_400 rfl rfl rfl (e := g + 1) (by omega) (by omega) (by omega) (ls' := [some (.inr (.inl (some 264))), some (.inl c), some (.inl a), some (.inl q), some (.inl (m 273 c - 1)), some (.inl x), some (.inl y), some (.inl i), some (.inl (MGa m c a q i x - (if m 274 (7 * c + i) = x then 0 else 1))), some (.inl (g + 1)), none, none]) rfl ?_
        refine r_goto f108_403 (t := 369) (by decide) ?_
        exact ih (g + 1) (by omega) (by omega)
    · refine r_zeq f108_377 (t := 400) (by decide) (fun _ => ?_) (fun h => absurd (by omega) h)
      refine r_iinc f108_400 rfl rfl rfl (e := g + 1) (by omega) (by omega) (by omega) (ls' := [some (.inr (.inl (some 264))), some (.inl c), some (.inl a), some (.inl q), some (.inl (m 273 c - 1)), some (.inl x), some (.inl y), some (.inl i), some (.inl (MGa m c a q i x - (if m 274 (7 * c + i) = x then 0 else 1))), some (.inl (g + 1)), none, none]) rfl ?_
      refine r_goto f108_403 (t := 369) (by decide) ?_
      exact ih (g + 1) (by omega) (by omega)
theorem l_wtr {L d : Nat} {m1 m : zmem} (ha : zan m1 m) (hk : MOk m) (hr : MRng m) {c : Int} (c0 : 0 ≤ c) (c1 : c < 40) (l2 : m 272 c + m 273 c ≤ 40) (hw : ∀ k, 0 ≤ k → k < m 273 c → 0 ≤ m 274 (7 * c + k) ∧ m 274 (7 * c + k) < m 264 0) {a q : Int} (a0 : 0 ≤ a) (a1 : a < m 273 c) (q0 : q = 0 ∨ q = 1) (hg : ¬ MGa m c a q a (m 274 (7 * c + a)) = -1) {y : Int} {Q : Option zV → zM → Prop} (hx : zR (d + 5) 108 427 [some (.inr (.inl (some 264))), some (.inl c), some (.inl a), some (.inl q), some (.inl (m 273 c - 1)), some (.inl (MPh m c a q (m 273 c - 1 - a).toNat)), some (.inl y), some (.inl (m 273 c - 1)), none, none, none, none] [] (zem L (MFo m1 m c a q (m 273 c - 1 + 1))) Q) : ∀ (n : Nat) (i : Int), a ≤ i → i + n = m 273 c - 1 → zR (d + 5) 108 321 [some (.inr (.inl (some 264))), some (.inl c), some (.inl a), some (.inl q), some (.inl (m 273 c - 1)), some (.inl (MPh m c a q (i - a).toNat)), some (.inl y), some (.inl i), none, none, none, none] [] (zem L (MFo m1 m c a q (i + 1))) Q := by
  have kc := hk.2.2.1 c c0 c1
  have kh := hk.2.1
  intro n
  induction n with
  | zero =>
    intro i hi hn
    have ei : i = m 273 c - 1 := by omega
    rw [ei]
    refine r_iload f108_321 rfl ?_
    refine r_iload f108_323 rfl ?_
    refine r_cge f108_325 (t := 427) (by decide) (fun _ => ?_) (fun h => absurd (by omega) h)
    exact hx
  | succ n ih =>
    intro i hi hn
    have hp := MPh_ok kh.1 hw a0 a1 hg (i - a).toNat (by omega)
    rw [show a + ((i - a).toNat : Int) = i by omega] at hp
    have ex := MPh_ex kh.1 (show i < m 273 c - 1 by omega) hp.2
    obtain ⟨s1, s2, s3, s4⟩ := zff_spec _ 0 ex
    have eN : MPh m c a q (i + 1 - a).toNat = zff (MQs m c a q i (MPh m c a q (i - a).toNat)) 0 (m 264 0).toNat := by
      rw [show (i + 1 - a).toNat = (i - a).toNat + 1 by omega, MPh, show a + ((i - a).toNat : Int) = i by omega]
    rw [← eN] at s1 s2 s3 s4
    have hzb := zTm_b kh.1 (J := MJ m) (Ma := MMa m c a q) (wy := fun k => m 274 (7 * c + k)) (last := m 273 c - 1) (m 273 c - 1 - i).toNat (MPh m c a q (i - a).toNat)
    have hzb : MGa m c a q i (MPh m c a q (i - a).toNat) = -1 ∨ (0 ≤ MGa m c a q i (MPh m c a q (i - a).toNat) ∧ MGa m c a q i (MPh m c a q (i - a).toNat) ≤ ((m 273 c - 1 - i).toNat : Int) + 1) := hzb
    refine r_iload f108_321 rfl ?_
    refine r_iload f108_323 rfl ?_
    refine r_cge f108_325 (t := 427) (by decide) (fun h => absurd h (by omega)) (fun _ => ?_)
    refine r_aload_n f108_328 rfl ?_
    refine r_getR f108_329 o108 F7_62 g264_22 rfl ?_
    refine r_bipush f108_332 (by decide) ?_
    refine r_iload f108_334 rfl ?_
    refine r_imul f108_336 (e := 12 * i) (by omega) (by omega) (by omega) ?_
    refine r_iload f108_337 rfl ?_
    refine r_iadd f108_339 (e := 12 * i + MPh m c a q (i - a).toNat) (by omega) (by omega) (by omega) ?_
    refine r_iald f108_340 kd282 (by omega) (by omega) ?_
    refine r_top (e := MGa m c a q i (MPh m c a q (i - a).toNat)) ((congrArg ((MFo m1 m c a q (i + 1)) 282) (show _ = MPh m c a q (i - a).toNat + 12 * i by omega)).trans (MFo_t (by omega) (by omega) (by omega) (by omega) (by omega) (by omega))) ?_
    refine r_aload_n f108_341 rfl ?_
    refine r_getR f108_342 o108 F7_38 g264_14 rfl ?_
    refine r_bipush f108_345 (by decide) ?_
    refine r_iload_n f108_347 rfl ?_
    refine r_imul f108_348 (e := 7 * c) (by omega) (by omega) (by omega) ?_
    refine r_iload f108_349 rfl ?_
    refine r_iadd f108_351 (e := 7 * c + i) (by omega) (by omega) (by omega) ?_
    refine r_iald f108_352 kd274 (by omega) (by omega) ?_
    refine r_top (e := m 274 (7 * c + i)) (zan_f (zfn_an (zpn_an ha)) (by omega) (by omega) (by omega) _) ?_
    refine r_iload f108_353 rfl ?_
    refine r_cne f108_355 (t := 362) (by decide) (fun q1 => ?_) (fun q1 => ?_)
    · refine r_iconst f108_362 rfl ?_
      refine r_isub f108_363 (e := MGa m c a q i (MPh m c a q (i - a).toNat) - 1) (by omega) (by omega) (by omega) ?_
      refine r_istore f108_364 rfl (ls' := [some (.inr (.inl (some 264))), some (.inl c), some (.inl a), some (.inl q), some (.inl (m 273 c - 1)), some (.inl (MPh m c a q (i - a).toNat)), some (.inl y), some (.inl i), some (.inl (MGa m c a q i (MPh m c a q (i - a).toNat) - 1)), none, none, none]) rfl ?_
      refine r_iconst f108_366 rfl ?_
      refine r_istore f108_367 rfl (ls' := [some (.inr (.inl (some 264))), some (.inl c), some (.inl a), some (.inl q), some (.inl (m 273 c - 1)), some (.inl (MPh m c a q (i - a).toNat)), some (.inl y), some (.inl i), some (.inl (MGa m c a q i (MPh m c a q (i - a).toNat) - 1)), some (.inl 0), none, none]) rfl ?_
      refine r_setI (k := 8) (a := MGa m c a q i (MPh m c a q (i - a).toNat) - 1) (e := MGa m c a q i (MPh m c a q (i - a).toNat) - (if m 274 (7 * c + i) = MPh m c a q (i - a).toNat then 0 else 1)) (by first | (rw [if_pos (by omega)] <;> omega) | (rw [if_neg (by omega)] <;> omega)) rfl (ls' := [some (.inr (.inl (some 264))), some (.inl c), some (.inl a), some (.inl q), some (.inl (m 273 c - 1)), some (.inl (MPh m c a q (i - a).toNat)), some (.inl y), some (.inl i), some (.inl (MGa m c a q i (MPh m c a q (i - a).toNat) - (if m 274 (7 * c + i) = MPh m c a q (i - a).toNat then 0 else 1))), some (.inl 0), none, none]) rfl ?_
      refine l_seek ha hk hr c0 c1 l2 hw a0 a1 q0 (i := i) (x := MPh m c a q (i - a).toNat) (y := y) (z := MPh m c a q (i + 1 - a).toNat) hi (by omega) hp.1.1 hp.1.2 s2 (by omega) s1 s4 ?_ (MPh m c a q (i + 1 - a).toNat).toNat 0 (by omega) (by omega)
      refine r_iload f108_406 rfl ?_
      refine r_istore f108_408 rfl (ls' := [some (.inr (.inl (some 264))), some (.inl c), some (.inl a), some (.inl q), some (.inl (m 273 c - 1)), some (.inl (MPh m c a q (i + 1 - a).toNat)), some (.inl y), some (.inl i), some (.inl (MGa m c a q i (MPh m c a q (i - a).toNat) - (if m 274 (7 * c + i) = MPh m c a q (i - a).toNat then 0 else 1))), some (.inl (MPh m c a q (i + 1 - a).toNat)), none, none]) rfl ?_
      refine r_aload_n f108_410 rfl ?_
      refine r_getR f108_411 o108 F7_65 g264_23 rfl ?_
      refine r_iload f108_414 rfl ?_
      refine r_iconst f108_416 rfl ?_
      refine r_iadd f108_417 (e := i + 1) (by omega) (by omega) (by omega) ?_
      refine r_iload f108_418 rfl ?_
      refine r_iast f108_420 kd283 (by omega) (by omega) (by omega) ?_
      refine r_iinc f108_421 rfl rfl rfl (e := i + 1) (by omega) (by omega) (by omega) (ls' := [some (.inr (.inl (some 264))), some (.inl c), some (.inl a), some (.inl q), some (.inl (m 273 c - 1)), some (.inl (MPh m c a q (i + 1 - a).toNat)), some (.inl y), some (.inl (i + 1)), some (.inl (MGa m c a q i (MPh m c a q (i - a).toNat) - (if m 274 (7 * c + i) = MPh m c a q (i - a).toNat then 0 else 1))), some (.inl (MPh m c a q (i + 1 - a).toNat)), none, none]) rfl ?_
      refine r_goto f108_424 (t := 321) (by decide) ?_
      refine r_mem (m1 := MFo m1 m c a q (i + 1 + 1)) (zfn_s (by omega) (by rfl)).symm ?_
      refine r_forget (ls' := [some (.inr (.inl (some 264))), some (.inl c), some (.inl a), some (.inl q), some (.inl (m 273 c - 1)), some (.inl (MPh m c a q (i + 1 - a).toNat)), some (.inl y), some (.inl (i + 1)), none, none, none, none]) ⟨Or.inl rfl, ⟨Or.inl rfl, ⟨Or.inl rfl, ⟨Or.inl rfl, ⟨Or.inl rfl, ⟨Or.inl rfl, ⟨Or.inl rfl, ⟨Or.inl rfl, ⟨Or.inr ⟨rfl, rfl⟩, ⟨Or.inr ⟨rfl, rfl⟩, ⟨Or.inl rfl, ⟨Or.inl rfl, trivial⟩⟩⟩⟩⟩⟩⟩⟩⟩⟩⟩⟩ ?_
      exact ih (i + 1) (by omega) (by omega)
    · refine r_iconst f108_358 rfl ?_
      refine r_goto f108_359 (t := 363) (by decide) ?_
      refine r_isub f108_363 (e := MGa m c a q i (MPh m c a q (i - a).toNat)) (by omega) (by omega) (by omega) ?_
      refine r_istore f108_364 rfl (ls' := [some (.inr (.inl (some 264))), some (.inl c), some (.inl a), some (.inl q), some (.inl (m 273 c - 1)), some (.inl (MPh m c a q (i - a).toNat)), some (.inl y), some (.inl i), some (.inl (MGa m c a q i (MPh m c a q (i - a).toNat))), none, none, none]) rfl ?_
      refine r_iconst f108_366 rfl ?_
      refine r_istore f108_367 rfl (ls' := [some (.inr (.inl (some 264))), some (.inl c), some (.inl a), some (.inl q), some (.inl (m 273 c - 1)), some (.inl (MPh m c a q (i - a).toNat)), some (.inl y), some (.inl i), some (.inl (MGa m c a q i (MPh m c a q (i - a).toNat))), some (.inl 0), none, none]) rfl ?_
      refine r_setI (k := 8) (a := MGa m c a q i (MPh m c a q (i - a).toNat)) (e := MGa m c a q i (MPh m c a q (i - a).toNat) - (if m 274 (7 * c + i) = MPh m c a q (i - a).toNat then 0 else 1)) (by first | (rw [if_pos (by omega)] <;> omega) | (rw [if_neg (by omega)] <;> omega)) rfl (ls' := [some (.inr (.inl (some 264))), some (.inl c), some (.inl a), some (.inl q), some (.inl (m 273 c - 1)), some (.inl (MPh m c a q (i - a).toNat)), some (.inl y), some (.inl i), some (.inl (MGa m c a q i (MPh m c a q (i - a).toNat) - (if m 274 (7 * c + i) = MPh m c a q (i - a).toNat then 0 else 1))), some (.inl 0), none, none]) rfl ?_
      refine l_seek ha hk hr c0 c1 l2 hw a0 a1 q0 (i := i) (x := MPh m c a q (i - a).toNat) (y := y) (z := MPh m c a q (i + 1 - a).toNat) hi (by omega) hp.1.1 hp.1.2 s2 (by omega) s1 s4 ?_ (MPh m c a q (i + 1 - a).toNat).toNat 0 (by omega) (by omega)
      refine r_iload f108_406 rfl ?_
      refine r_istore f108_408 rfl (ls' := [some (.inr (.inl (some 264))), some (.inl c), some (.inl a), some (.inl q), some (.inl (m 273 c - 1)), some (.inl (MPh m c a q (i + 1 - a).toNat)), some (.inl y), some (.inl i), some (.inl (MGa m c a q i (MPh m c a q (i - a).toNat) - (if m 274 (7 * c + i) = MPh m c a q (i - a).toNat then 0 else 1))), some (.inl (MPh m c a q (i + 1 - a).toNat)), none, none]) rfl ?_
      refine r_aload_n f108_410 rfl ?_
      refine r_getR f108_411 o108 F7_65 g264_23 rfl ?_
      refine r_iload f108_414 rfl ?_
      refine r_iconst f108_416 rfl ?_
      refine r_iadd f108_417 (e := i + 1) (by omega) (by omega) (by omega) ?_
      refine r_iload f108_418 rfl ?_
      refine r_iast f108_420 kd283 (by omega) (by omega) (by omega) ?_
      refine r_iinc f108_421 rfl rfl rfl (e := i + 1) (by omega) (by omega) (by omega) (ls' := [some (.inr (.inl (some 264))), some (.inl c), some (.inl a), some (.inl q), some (.inl (m 273 c - 1)), some (.inl (MPh m c a q (i + 1 - a).toNat)), some (.inl y), some (.inl (i + 1)), some (.inl (MGa m c a q i (MPh m c a q (i - a).toNat) - (if m 274 (7 * c + i) = MPh m c a q (i - a).toNat then 0 else 1))), some (.inl (MPh m c a q (i + 1 - a).toNat)), none, none]) rfl ?_
      refine r_goto f108_424 (t := 321) (by decide) ?_
      refine r_mem (m1 := MFo m1 m c a q (i + 1 + 1)) (zfn_s (by omega) (by rfl)).symm ?_
      refine r_forget (ls' := [some (.inr (.inl (some 264))), some (.inl c), some (.inl a), some (.inl q), some (.inl (m 273 c - 1)), some (.inl (MPh m c a q (i + 1 - a).toNat)), some (.inl y), some (.inl (i + 1)), none, none, none, none]) ⟨Or.inl rfl, ⟨Or.inl rfl, ⟨Or.inl rfl, ⟨Or.inl rfl, ⟨Or.inl rfl, ⟨Or.inl rfl, ⟨Or.inl rfl, ⟨Or.inl rfl, ⟨Or.inr ⟨rfl, rfl⟩, ⟨Or.inr ⟨rfl, rfl⟩, ⟨Or.inl rfl, ⟨Or.inl rfl, trivial⟩⟩⟩⟩⟩⟩⟩⟩⟩⟩⟩⟩ ?_
      exact ih (i + 1) (by omega) (by omega)
theorem t_ways {L d : Nat} {m1 m : zmem} (ha : zan m1 m) (hk : MOk m) (hr : MRng m) {c : Int} (c0 : 0 ≤ c) (c1 : c < 40) (l2 : m 272 c + m 273 c ≤ 40) (hw : ∀ k, 0 ≤ k → k < m 273 c → 0 ≤ m 274 (7 * c + k) ∧ m 274 (7 * c + k) < m 264 0) {a q : Int} (a0 : 0 ≤ a) (a1 : a < m 273 c) (q0 : q = 0 ∨ q = 1) : zF L (d + 5) 108 [.inr (.inl (some 264)), .inl c, .inl a, .inl q] m1 (some (.inl (MGa m c a q a (m 274 (7 * c + a))))) (if MGa m c a q a (m 274 (7 * c + a)) = -1 then MFn m1 m c a q else MFo m1 m c a q (m 273 c - 1 + 1)) := by
  have kc := hk.2.2.1 c c0 c1
  have kh := hk.2.1
  have w0 := hw a a0 a1
  refine zF_of n108 (ls := [some (.inr (.inl (some 264))), some (.inl c), some (.inl a), some (.inl q), none, none, none, none, none, none, none, none]) rfl ?_
  refine r_aload_n f108_0 rfl ?_
  refine r_getR f108_1 o108 F7_35 g264_13 rfl ?_
  refine r_iload_n f108_4 rfl ?_
  refine r_iald f108_5 kd273 (by omega) (by omega) ?_
  refine r_top (e := m 273 c) (zan_f ha (by omega) (by omega) (by omega) _) ?_
  refine r_iconst f108_6 rfl ?_
  refine r_isub f108_7 (e := m 273 c - 1) (by omega) (by omega) (by omega) ?_
  refine r_istore f108_8 rfl (ls' := [some (.inr (.inl (some 264))), some (.inl c), some (.inl a), some (.inl q), some (.inl (m 273 c - 1)), none, none, none, none, none, none, none]) rfl ?_
  refine r_iload f108_10 rfl ?_
  refine r_istore f108_12 rfl (ls' := [some (.inr (.inl (some 264))), some (.inl c), some (.inl a), some (.inl q), some (.inl (m 273 c - 1)), some (.inl (m 273 c - 1)), none, none, none, none, none, none]) rfl ?_
  refine r_mem (m1 := MPm m1 m c a q (m 273 c - 1) 0) zpn_0 ?_
  refine l_waysi ha hk hr c0 c1 l2 hw a0 a1 q0 ?_ (m 273 c - a).toNat (m 273 c - 1) (by omega) (by omega)
  refine r_aload_n f108_275 rfl ?_
  refine r_getR f108_276 o108 F7_38 g264_14 rfl ?_
  refine r_bipush f108_279 (by decide) ?_
  refine r_iload_n f108_281 rfl ?_
  refine r_imul f108_282 (e := 7 * c) (by omega) (by omega) (by omega) ?_
  refine r_iload_n f108_283 rfl ?_
  refine r_iadd f108_284 (e := a + 7 * c) (by omega) (by omega) (by omega) ?_
  refine r_iald f108_285 kd274 (by omega) (by omega) ?_
  refine r_top (e := m 274 (7 * c + a)) ((zan_f (zpn_an ha) (by omega) (by omega) (by omega) _).trans (congrArg (m 274) (by omega))) ?_
  refine r_istore f108_286 rfl (ls' := [some (.inr (.inl (some 264))), some (.inl c), some (.inl a), some (.inl q), some (.inl (m 273 c - 1)), some (.inl (m 274 (7 * c + a))), none, none, none, none, none, none]) rfl ?_
  refine r_aload_n f108_288 rfl ?_
  refine r_getR f108_289 o108 F7_62 g264_22 rfl ?_
  refine r_bipush f108_292 (by decide) ?_
  refine r_iload_n f108_294 rfl ?_
  refine r_imul f108_295 (e := 12 * a) (by omega) (by omega) (by omega) ?_
  refine r_iload f108_296 rfl ?_
  refine r_iadd f108_298 (e := 12 * a + m 274 (7 * c + a)) (by omega) (by omega) (by omega) ?_
  refine r_iald f108_299 kd282 (by omega) (by omega) ?_
  refine r_top (e := MGa m c a q a (m 274 (7 * c + a))) ((congrArg (MFn m1 m c a q 282) (show _ = m 274 (7 * c + a) + 12 * a by omega)).trans (zpn_v (by omega) (by omega) (by omega) (by omega) (by omega) (by omega))) ?_
  refine r_istore f108_300 rfl (ls' := [some (.inr (.inl (some 264))), some (.inl c), some (.inl a), some (.inl q), some (.inl (m 273 c - 1)), some (.inl (m 274 (7 * c + a))), some (.inl (MGa m c a q a (m 274 (7 * c + a)))), none, none, none, none, none]) rfl ?_
  refine r_iload f108_302 rfl ?_
  refine r_iconst f108_304 rfl ?_
  refine r_cne f108_305 (t := 310) (by decide) (fun q1 => ?_) (fun q1 => ?_)
  · refine r_aload_n f108_310 rfl ?_
    refine r_getR f108_311 o108 F7_65 g264_23 rfl ?_
    refine r_iload_n f108_314 rfl ?_
    refine r_iload f108_315 rfl ?_
    refine r_iast f108_317 kd283 (by omega) (by omega) (by omega) ?_
    refine r_iload_n f108_318 rfl ?_
    refine r_istore f108_319 rfl (ls' := [some (.inr (.inl (some 264))), some (.inl c), some (.inl a), some (.inl q), some (.inl (m 273 c - 1)), some (.inl (m 274 (7 * c + a))), some (.inl (MGa m c a q a (m 274 (7 * c + a)))), some (.inl a), none, none, none, none]) rfl ?_
    refine r_mem (m1 := MFo m1 m c a q (a + 1)) ((zfn_s (v := m 274 (7 * c + a)) (by omega) (by rw [show (a - a).toNat = 0 by omega, MPh])).symm.trans (by rw [zfn_0])) ?_
    refine r_setI (k := 5) (a := m 274 (7 * c + a)) (e := MPh m c a q (a - a).toNat) (by rw [show (a - a).toNat = 0 by omega, MPh]) rfl (ls' := [some (.inr (.inl (some 264))), some (.inl c), some (.inl a), some (.inl q), some (.inl (m 273 c - 1)), some (.inl (MPh m c a q (a - a).toNat)), some (.inl (MGa m c a q a (m 274 (7 * c + a)))), some (.inl a), none, none, none, none]) rfl ?_
    refine l_wtr ha hk hr c0 c1 l2 hw a0 a1 q0 q1 (y := MGa m c a q a (m 274 (7 * c + a))) ?_ (m 273 c - 1 - a).toNat a (by omega) (by omega)
    refine r_iload f108_427 rfl ?_
    exact r_iret f108_429 v108 ⟨zs_eq (by first | rfl | omega), by rw [if_neg (by omega)]⟩
  · refine r_iconst f108_308 rfl ?_
    exact r_iret f108_309 v108 ⟨zs_eq (by first | rfl | omega), by rw [if_pos (by omega)]⟩
