theorem lead_core {L d e : Nat} {T c s f q g : Int} {a b : zmem} (hs : Sim T a b) (c0 : 0 ≤ c) (c1 : c < b 264 10) (hst : b 275 c = 1) (hq : zsq s f q) (eg : s + 1 = g) (f0 : 0 ≤ f) (f1 : f < b 273 c) (g0 : 0 ≤ g) (hx : b 264 9 - b 272 c < g) : ∃ X1 X2 W Z b1 M v,
    zF L (d + 4) 75 [.inr (.inl (some 0)), .inr (.inl (some (64 + 5 * c))), .inl g] a none X1 ∧ zF L (d + 4) 37 [.inr (.inl (some 51)), .inr (.inl (some (64 + 5 * c))), .inl s] X1 (some (.inl v)) X2 ∧ (¬ v = -1 → zF L (d + 4) 2 [.inr (.inl (some (64 + 5 * c))), .inr (.inl (some 53)), .inl g] X2 none W) ∧ (¬ v = -1 → zF L (d + 4) 74 [.inr (.inl (some 0)), .inr (.inl (some (64 + 5 * c))), .inl g] W none Z) ∧
    Sim T X2 b1 ∧ zan X2 a ∧ (∀ p, ¬ p = 276 → b1 p = b p) ∧ (∀ k, g ≤ k → k < b 273 c → b1 276 (7 * c + k) = 0) ∧ (¬ v = -1 → Sim T Z M ∧ zan Z a ∧ M 264 = b 264) ∧
    ∀ m1, zan m1 b → ∃ Y, zF L (e + 5) 108 [.inr (.inl (some 264)), .inl c, .inl f, .inl q] (MLf c (b 273 c - g).toNat g m1) (some (.inl v)) Y ∧ zac Y m1 ∧ zan Y b1 ∧ ∃ Z2, (¬ v = -1 → zac Z2 m1 ∧ zan Z2 M ∧ ∀ Q : Option zV → zM → Prop, zR (e + 6) 115 208 [some (.inr (.inl (some 264))), some (.inl c), some (.inl f), some (.inl q), some (.inl 1), some (.inl (b 273 c))] [] (zem L Z2) Q → zR (e + 6) 115 165 [some (.inr (.inl (some 264))), some (.inl c), some (.inl f), some (.inl q), some (.inl 1), some (.inl g)] [] (zem L Y) Q) := by
  have s1 := hs.s1
  unfold S1 at s1
  have k5 := hs.s5 c c0 (by omega)
  have gf : f ≤ g ∧ g ≤ b 273 c := by unfold zsq at hq; omega
  have hw : ∀ k, g ≤ k → k < g + ((b 273 c - g).toNat : Int) → 0 ≤ a (65 + 5 * c) k ∧ a (65 + 5 * c) k < 12 := fun k x y => by have := hs.s6 c c0 (by omega) k (by omega) (by omega); omega
  have x1 := t_liftFrom (L := L) (d := d + 3) (f := g) hs c0 c1 g0 gf.2 (Or.inl hx)
  have sl := sm_lifts (b 273 c - g).toNat g a b hs c0 c1 g0 (by omega) (Or.inl hx)
  obtain ⟨b1, hb1⟩ : ∃ b1, b1 = MLf c (b 273 c - g).toNat g b := ⟨_, rfl⟩
  have bo : ∀ p, ¬ p = 276 → b1 p = b p := fun p hp => by rw [hb1]; exact MLf_o hp _ _ _
  have bu : ∀ k, g ≤ k → k < b 273 c → b1 276 (7 * c + k) = 0 := fun k x y => by rw [hb1, MLf_v, if_pos (by omega)]
  rw [← hb1] at sl
  have b264 := bo 264 (by omega)
  have b271 := bo 271 (by omega)
  have b272 := bo 272 (by omega)
  have b273 := bo 273 (by omega)
  have b274 := bo 274 (by omega)
  have b275 := bo 275 (by omega)
  obtain ⟨X2, f1a, f2a, f3a⟩ := t_findS (L := L) (d := d) sl (c := c) c0 (by rw [b264]; exact c1) hq f0 (by rw [b273]; exact f1)
  have sX2 : Sim T X2 b1 := Sim_g sl (zag_ac f2a) (zan_rf _)
  have anX : zan X2 a := zan_tr (zag_an f2a) (XLf_an c0 (by omega) _ _ _ hw)
  have ways := fun (m1 : zmem) (ha : zan m1 b) => t_waysS (L := L) (d := e) sl (m1 := MLf c (b 273 c - g).toNat g m1) (by rw [hb1]; exact MLf_an _ _ _ _ ha) (c := c) c0 (by rw [b264]; exact c1) hq f0 (by rw [b273]; exact f1)
  by_cases hv : MGa b1 c f q f (b1 274 (7 * c + f)) = -1
  · refine ⟨_, X2, X2, X2, b1, b1, _, x1, f1a, fun h => absurd hv h, fun h => absurd hv h, sX2, anX, bo, bu, fun h => absurd hv h, fun m1 ha => ?_⟩
    obtain ⟨Y, w1, w2, w3⟩ := ways m1 ha
    exact ⟨Y, w1, zac_tr (zaw_ac w2) (MLf_ac _ _ _), zaw_an w2 (by rw [hb1]; exact MLf_an _ _ _ _ ha), Y, fun h => absurd hv h⟩
  · have lw := Lay_way (b := b1) (c := c) (f := f) (q := q) (by rw [b264]; omega) (fun k x y => by rw [b273] at y; rw [b274, b264]; exact (hs.s6 c c0 (by omega) k x (by omega)).2 y) f0 (by rw [b273]; exact f1) hv
    rw [b273, b264, b271, b272] at lw
    rw [b273] at f3a
    obtain ⟨P, hP⟩ : ∃ P : Int → Int, P = fun k => MPh b1 c f q (k - f).toNat := ⟨_, rfl⟩
    have hPk : ∀ k, P k = MPh b1 c f q (k - f).toNat := fun k => by rw [hP]
    have n6 : X2 (64 + 5 * c) 6 = b 273 c := by
      have := (sX2.s5 c c0 (by omega)).1.2.2.1
      rw [b273] at this
      exact this
    have fw := t_follow (L := L) (d := d + 4) (m := X2) (c := c) (a := g) c0 (by omega) (by omega) (by omega) g0 (by omega)
    rw [n6, zWp_q (P := P) (fun k x y => by rw [hPk]; exact f3a hv k (by omega) y)] at fw
    have sw := sm_way sX2 (P := P) (n := b 273 c) c0 (by rw [b264]; exact c1) g0 (by rw [b273]) bu (fun k x y => by rw [hPk, b264]; exact (lw k (by omega) y).1)
    have w264 : zWw b1 c g (b 273 c) P 264 = b 264 := (zWw_n (by omega)).trans b264
    have w271 : zWw b1 c g (b 273 c) P 271 = b 271 := (zWw_n (by omega)).trans b271
    have w272 : zWw b1 c g (b 273 c) P 272 = b 272 := (zWw_n (by omega)).trans b272
    have w273 : zWw b1 c g (b 273 c) P 273 = b 273 := (zWw_n (by omega)).trans b273
    have w275 : zWw b1 c g (b 273 c) P 275 = b 275 := (zWw_n (by omega)).trans b275
    have w276 : zWw b1 c g (b 273 c) P 276 = b1 276 := zWw_n (by omega)
    have a7 : zWq X2 c g (b 273 c) P (64 + 5 * c) 7 = 1 := by
      have := (sw.s5 c c0 (by omega)).1.2.2.2.1
      rw [w275, hst] at this
      exact this
    have sh : Sim T (zu (zWq X2 c g (b 273 c) P) (64 + 5 * c) 7 1) (zWw b1 c g (b 273 c) P) := by rw [zu_id a7]; exact sw
    have lay : Lay (zWw b1 c g (b 273 c) P) c g := by
      intro k x y
      rw [w273] at y
      refine ⟨by rw [w276]; exact bu k x y, ?_⟩
      unfold MO
      rw [MF_w bu, w271, w272, zWw_i x y, hPk]
      exact (lw k (by omega) y).2 (by unfold zsq at hq; omega)
    have lf := t_layFrom (L := L) (d := d + 1) (f := g) sh c0 (by rw [w264]; exact c1) g0 (by rw [w273]; exact gf.2) (by rw [w275]; omega) lay
    rw [w273] at lf
    have fin := sm_lays (b 273 c - g).toNat g _ _ sw c0 (by rw [w264]; exact c1) g0 (by rw [w273]; omega) (by rw [w275]; omega) lay
    have hww : ∀ k, g ≤ k → k < g + ((b 273 c - g).toNat : Int) → 0 ≤ zWq X2 c g (b 273 c) P (65 + 5 * c) k ∧ zWq X2 c g (b 273 c) P (65 + 5 * c) k < 12 := fun k x y => by
      have g1 := sw.s6 c c0 (by omega) k (by omega) (by omega)
      rw [w273, w264] at g1
      omega
    refine ⟨_, X2, _, _, b1, _, _, x1, f1a, fun _ => fw, fun _ => lf, sX2, anX, bo, bu, fun _ => ⟨fin, zan_tr (XLy_an c0 (by omega) _ _ _ hww) (zan_tr (zWq_an (by omega)) anX), by rw [MLy_o (by omega) (by omega)]; exact w264⟩, fun m1 ha => ?_⟩
    obtain ⟨Y, w1, w2, w3⟩ := ways m1 ha
    have anY : zan Y b1 := zaw_an w2 (by rw [hb1]; exact MLf_an _ _ _ _ ha)
    have acY : zac Y m1 := zac_tr (zaw_ac w2) (MLf_ac _ _ _)
    rw [b273] at w3
    obtain ⟨Z2, z1, z2, z3⟩ := l_leadlay (L := L) (d := e + 1) (f := f) (q := q) (P := P) (b 273 c - g).toNat g Y _ _ sw (by rw [w273]; exact zWw_an anY) (fun k x y => by rw [w273] at y; rw [hPk]; exact w3 hv k (by omega) y) c0 (by rw [w264]; exact c1) g0 (by rw [w273]; omega) (by rw [w275]; omega) lay
    rw [w273] at z3
    exact ⟨Y, w1, acY, anY, Z2, fun _ => ⟨zac_tr z1 acY, z2, z3⟩⟩
theorem lead_both {L d e : Nat} {T c : Int} {a b : zmem} (hs : Sim T a b) (c0 : 0 ≤ c) (c1 : c < b 264 10) (hst : b 275 c = 1) : ∃ X M v, Sim T X M ∧ zan X a ∧ M 264 = b 264 ∧ (v = 0 ∨ v = 1) ∧ zF L (d + 5) 76 [.inr (.inl (some 0)), .inr (.inl (some (64 + 5 * c)))] a (some (.inl v)) X ∧ ∀ m1, zan m1 b → ∃ Y, zF L (e + 6) 115 [.inr (.inl (some 264)), .inl c] m1 (some (.inl v)) Y ∧ zac Y m1 ∧ zan Y M := by
  have s1 := hs.s1
  unfold S1 at s1
  have k5 := hs.s5 c c0 (by omega)
  have k15 := (hs.s15 c c0 (by omega)).1 c1 hst
  by_cases h : b 264 9 < b 272 c
  · obtain ⟨X1, X2, W, Z, b1, M, v, r1, r2, r3, r4, r5, r6, r7, r8, r9, r10⟩ := lead_core (L := L) (d := d) (e := e) (s := -1) (f := 0) (q := 1) (g := 0) hs c0 c1 hst (Or.inl ⟨rfl, rfl, rfl⟩) (by omega) (by omega) (by omega) (by omega) (by omega)
    have gx := t_leadRound (L := L) (d := d) (m := a) (c := c) (s := -1) (g := 0) (by omega) c0 (by omega) (by omega) (by omega) (by omega) (by omega) (by split <;> omega) (by omega) (by omega) r1 r2 r3 r4
    have gm := fun (m1 : zmem) (ha : zan m1 b) (Y Z2 : zmem) => t_leadsW (L := L) (d := e) ha (c := c) (v := v) (N := b 273 c) (Y := Y) (Z := Z2) c0 (by omega) (by omega) (by omega) (by omega) (by omega) rfl (by omega) (by omega) h
    by_cases hv : v = -1
    · rw [if_pos hv, if_pos hv, if_pos rfl] at gx
      refine ⟨_, zu b1 275 c 2, 0, sm_refused r5 c0 (by rw [r7 264 (by omega)]; exact c1), zan_x r6 (by omega), by rw [zu_ne (by omega)]; exact r7 264 (by omega), Or.inl rfl, gx, fun m1 ha => ?_⟩
      obtain ⟨Y, y1, y2, y3, Z2, y4⟩ := r10 m1 ha
      have g2 := gm m1 ha Y Y y1 (fun hn => absurd hv hn)
      rw [if_pos hv, if_pos hv, zu_id (m := zu Y 275 c 2) (by rw [zu_ne (by omega)])] at g2
      exact ⟨_, g2, zac_u y2 (by omega), zan_w y3⟩
    · rw [if_neg hv, if_neg hv] at gx
      obtain ⟨q1, q2, q3⟩ := r9 hv
      refine ⟨_, M, 1, q1, q2, q3, Or.inr rfl, gx, fun m1 ha => ?_⟩
      obtain ⟨Y, y1, y2, y3, Z2, y4⟩ := r10 m1 ha
      obtain ⟨z1, z2, z3⟩ := y4 hv
      have g2 := gm m1 ha Y Z2 y1 (fun _ => z3)
      rw [if_neg hv, if_neg hv] at g2
      exact ⟨_, g2, z1, z2⟩
  · obtain ⟨f, ef⟩ : ∃ f, f = b 264 9 - b 272 c := ⟨_, rfl⟩
    obtain ⟨X1, X2, W, Z, b1, M, v, r1, r2, r3, r4, r5, r6, r7, r8, r9, r10⟩ := lead_core (L := L) (d := d) (e := e) (s := f) (f := f) (q := 0) (g := f + 1) hs c0 c1 hst (Or.inr ⟨rfl, rfl⟩) rfl (by omega) (by omega) (by omega) (by omega)
    have gx := t_leadRound (L := L) (d := d) (m := a) (c := c) (s := f) (g := f + 1) rfl c0 (by omega) (by omega) (by omega) (by omega) (by omega) (by split <;> omega) (by omega) (by omega) r1 r2 r3 r4
    have gm := fun (m1 : zmem) (ha : zan m1 b) (Y Z2 : zmem) => t_leadsN (L := L) (d := e) ha (c := c) (v := v) (N := b 273 c) (f := f) (Y := Y) (Z := Z2) c0 (by omega) (by omega) (by omega) (by omega) (by omega) rfl (by omega) (by omega) (by omega) ef (by omega) (by omega)
    by_cases hv : v = -1
    · rw [if_pos hv, if_pos hv, if_neg (by omega)] at gx
      refine ⟨_, zu b1 273 c (f + 1), 0, sm_cut r5 c0 (by rw [r7 264 (by omega)]; exact c1) (by omega) (by rw [r7 273 (by omega)]; omega) (by rw [r7 264 (by omega), r7 272 (by omega)]; exact ef) (by rw [r7 273 (by omega)]; exact r8), zan_x r6 (by omega), by rw [zu_ne (by omega)]; exact r7 264 (by omega), Or.inl rfl, gx, fun m1 ha => ?_⟩
      obtain ⟨Y, y1, y2, y3, Z2, y4⟩ := r10 m1 ha
      have g2 := gm m1 ha Y Y y1 (fun hn => absurd hv hn)
      rw [if_pos hv, if_pos hv, zu_id (m := Y) (p := 275) rfl] at g2
      exact ⟨_, g2, zac_u y2 (by omega), zan_w y3⟩
    · rw [if_neg hv, if_neg hv] at gx
      obtain ⟨q1, q2, q3⟩ := r9 hv
      refine ⟨_, M, 1, q1, q2, q3, Or.inr rfl, gx, fun m1 ha => ?_⟩
      obtain ⟨Y, y1, y2, y3, Z2, y4⟩ := r10 m1 ha
      obtain ⟨z1, z2, z3⟩ := y4 hv
      have g2 := gm m1 ha Y Z2 y1 (fun _ => z3)
      rw [if_neg hv, if_neg hv] at g2
      exact ⟨_, g2, z1, z2⟩
