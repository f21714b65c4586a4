/-- nights shut, of both sides -/
def zms (b : zmem) (h f n : Int) : zmem := fun p k => if p = 268 ∧ 40 * h + f ≤ k ∧ k < 40 * h + n then 1 else b p k
theorem zms_n {b : zmem} {h f n p : Int} (hp : ¬ p = 268) : zms b h f n p = b p := by
  funext k
  unfold zms
  rw [if_neg (by omega)]
theorem zms_s {b : zmem} {h f i : Int} (hi : f ≤ i) : zu (zms b h f i) 268 (40 * h + i) 1 = zms b h f (i + 1) := by
  funext p k
  rw [zu_if]
  unfold zms
  by_cases g : p = 268 ∧ k = 40 * h + i
  · rw [if_pos g, if_pos (by omega)]
  · rw [if_neg g]
    by_cases g2 : p = 268 ∧ 40 * h + f ≤ k ∧ k < 40 * h + i
    · rw [if_pos g2, if_pos (by omega)]
    · rw [if_neg g2, if_neg (by omega)]
theorem zms_0 {b : zmem} {h f : Int} : zms b h f f = b := by
  funext p k
  unfold zms
  rw [if_neg (by omega)]
theorem zms_an {a b : zmem} {h f n : Int} (hh : zan a b) : zan (zms a h f n) (zms b h f n) := by
  intro p x y z
  funext k
  unfold zms
  rw [hh p x y z]
theorem zms_ac {a : zmem} {h f n : Int} : zac (zms a h f n) a := fun p x _ _ => zms_n (by omega)
theorem zcs_n {a : zmem} {h f n p : Int} (hp : ¬ p = 5 + 4 * h) : zcs a h f n p = a p := by
  funext k
  unfold zcs
  rw [if_neg (by omega)]
theorem sm_shut {T : Int} {a b : zmem} (hs : Sim T a b) {h f n : Int} (h0 : 0 ≤ h) (h1 : h < 12) (f0 : 0 ≤ f) (n1 : n ≤ 40) : Sim T (zcs a h f n) (zms b h f n) := by
  have ea : ∀ p, ¬ p = 5 + 4 * h → zcs a h f n p = a p := fun p hp => zcs_n hp
  have eb : ∀ p, ¬ p = 268 → zms b h f n p = b p := fun p hp => zms_n hp
  have mf : MF (zms b h f n) = MF b := MF_e (by rw [eb 264 (by omega)]) (eb _ (by omega)) (eb _ (by omega)) (eb _ (by omega)) (eb _ (by omega)) (eb _ (by omega)) (eb _ (by omega)) (eb _ (by omega))
  have c3 : S3 (zcs a h f n) (zms b h f n) := by
    intro e e0 e1 t t0 t1
    have g := hs.s3 e e0 e1 t t0 t1
    by_cases q : e = h ∧ f ≤ t ∧ t < n
    · have z1 : zcs a h f n (5 + 4 * e) t = 1 := by unfold zcs; rw [if_pos (by omega)]
      have z2 : zms b h f n 268 (40 * e + t) = 1 := by unfold zms; rw [if_pos (by omega)]
      rw [z1, z2]
      exact ⟨rfl, Or.inr rfl⟩
    · have z1 : zcs a h f n (5 + 4 * e) t = a (5 + 4 * e) t := by unfold zcs; rw [if_neg (by omega)]
      have z2 : zms b h f n 268 (40 * e + t) = b 268 (40 * e + t) := by unfold zms; rw [if_neg (by omega)]
      rw [z1, z2]
      exact g
  exact ⟨S1_c hs.s1 (ea _ (by omega)) (ea _ (by omega)) (ea _ (by omega)) (ea _ (by omega)) (eb _ (by omega)),
    S2_c hs.s2 (fun h _ _ => ea _ (by omega)) (eb _ (by omega)) (eb _ (by omega)),
    c3,
    S4_c hs.s4 (fun h _ _ => ea _ (by omega)) (eb _ (by omega)),
    S5_c hs.s5 (fun c _ _ => ea _ (by omega)) (eb _ (by omega)) (eb _ (by omega)) (eb _ (by omega)) (eb _ (by omega)) (eb _ (by omega)) (eb _ (by omega)),
    S6_c hs.s6 (fun c _ _ => ea _ (by omega)) (eb _ (by omega)) (eb _ (by omega)) (eb _ (by omega)),
    S7_c hs.s7 (fun c _ _ => ea _ (by omega)) (eb _ (by omega)),
    S8_c hs.s8 (fun c _ _ => ea _ (by omega)) (eb _ (by omega)) (eb _ (by omega)) (eb _ (by omega)) (eb _ (by omega)) (eb _ (by omega)),
    S9_c hs.s9 (fun c _ _ => ea _ (by omega)) (eb _ (by omega)) (eb _ (by omega)) (eb _ (by omega)) (eb _ (by omega)),
    S10_c hs.s10 (fun h _ _ => ea _ (by omega)) (congrFun (eb 264 (by omega)) 0) mf,
    S11_c hs.s11 (fun h _ _ => ea _ (by omega)) (eb _ (by omega)) (eb _ (by omega)),
    S12_c hs.s12 (ea _ (by omega)) (ea _ (by omega)) (ea _ (by omega)) (ea _ (by omega)) (eb _ (by omega)) (eb _ (by omega)) (eb _ (by omega)) (eb _ (by omega)) (eb _ (by omega)),
    S13_c hs.s13 (ea _ (by omega)) (ea _ (by omega)) (eb _ (by omega)) (eb _ (by omega)),
    S14_c hs.s14 (ea _ (by omega)) (eb _ (by omega)) (eb _ (by omega)),
    S15_c hs.s15 (fun c _ _ => ea _ (by omega)) (eb _ (by omega)) (eb _ (by omega)) (eb _ (by omega)) (eb _ (by omega)) (eb _ (by omega)) (eb _ (by omega)) (eb _ (by omega)) (eb _ (by omega)),
    S16_c hs.s16 (eb _ (by omega)) (eb _ (by omega)) (eb _ (by omega))⟩
abbrev MBk (m : zmem) (c h f t k : Int) : Prop := ¬ m 276 (7 * c + k) = 0 ∧ m 274 (7 * c + k) = h ∧ f ≤ k + m 272 c ∧ k + m 272 c ≤ t
abbrev MB (m : zmem) (c h f t : Int) : Prop := ∃ k, 0 ≤ k ∧ k < m 273 c ∧ MBk m c h f t k
theorem Sim_B {T : Int} {a b : zmem} (hs : Sim T a b) {c h f t : Int} (c0 : 0 ≤ c) (c1 : c < b 264 10) : XB a c h f t ↔ MB b c h f t := by
  have s1 := hs.s1
  unfold S1 at s1
  have k5 := hs.s5 c c0 (by omega)
  have e5 : a (64 + 5 * c) 5 = b 272 c := by omega
  have e6 : a (64 + 5 * c) 6 = b 273 c := by omega
  constructor
  · intro ⟨u, u0, u1, hx⟩
    unfold XA XO XH at hx
    rw [e5, e6] at hx
    have g6 := hs.s6 c c0 (by omega) (u - b 272 c) hx.1.1.1 (by omega)
    have gl := Sim_la hs c c0 c1 (u - b 272 c) hx.1.1.1 (by omega)
    rw [g6.1] at hx
    exact ⟨u - b 272 c, hx.1.1.1, hx.1.1.2, gl.1 hx.1.2, hx.2, by omega, by omega⟩
  · intro ⟨k, k0, k1, l1, l2, l3, l4⟩
    have g6 := hs.s6 c c0 (by omega) k k0 (by omega)
    have gl := Sim_la hs c c0 c1 k k0 (by omega)
    refine ⟨k + b 272 c, l3, l4, ?_⟩
    unfold XA XO XH
    rw [e5, e6, show k + b 272 c - b 272 c = k by omega, g6.1]
    exact ⟨⟨⟨k0, k1⟩, gl.2 l1⟩, l2⟩
theorem l_shuts {L d : Nat} {m : zmem} {m1 : zmem} {h f t : Int} (h0 : 0 ≤ h) (h1 : h < 12) (f0 : 0 ≤ f) (t1 : t < 40) {Q : Option zV → zM → Prop} (hx : zR (d) 116 58 [some (.inr (.inl (some 264))), some (.inl h), some (.inl f), some (.inl t), some (.inl (t + 1)), none] [] (zem L (zms m1 h f (t + 1))) Q) : ∀ (n : Nat) (i : Int), f ≤ i → i + n = t + 1 → zR (d) 116 33 [some (.inr (.inl (some 264))), some (.inl h), some (.inl f), some (.inl t), some (.inl i), none] [] (zem L (zms m1 h f i)) Q := by
  intro n
  induction n with
  | zero =>
    intro i hi hn
    have ei : i = t + 1 := by omega
    rw [ei]
    refine r_iload f116_33 rfl ?_
    refine r_iload_n f116_35 rfl ?_
    refine r_cgt f116_36 (t := 58) (by decide) (fun _ => ?_) (fun h => absurd (by omega) h)
    exact hx
  | succ n ih =>
    intro i hi hn
    refine r_iload f116_33 rfl ?_
    refine r_iload_n f116_35 rfl ?_
    refine r_cgt f116_36 (t := 58) (by decide) (fun h => absurd h (by omega)) (fun _ => ?_)
    refine r_aload_n f116_39 rfl ?_
    refine r_getR f116_40 o116 F7_19 g264_4 rfl ?_
    refine r_bipush f116_43 (by decide) ?_
    refine r_iload_n f116_45 rfl ?_
    refine r_imul f116_46 (e := 40 * h) (by omega) (by omega) (by omega) ?_
    refine r_iload f116_47 rfl ?_
    refine r_iadd f116_49 (e := 40 * h + i) (by omega) (by omega) (by omega) ?_
    refine r_iconst f116_50 rfl ?_
    refine r_bast f116_51 kd268 (by omega) (by omega) (by omega) (by omega) ?_
    refine r_iinc f116_52 rfl rfl rfl (e := i + 1) (by omega) (by omega) (by omega) (ls' := [some (.inr (.inl (some 264))), some (.inl h), some (.inl f), some (.inl t), some (.inl (i + 1)), none]) rfl ?_
    refine r_goto f116_55 (t := 33) (by decide) ?_
    refine r_mem (m1 := (zms m1 h f (i + 1))) (Eq.symm (by exact zms_s (by omega))) ?_
    exact ih (i + 1) (by omega) (by omega)

theorem l_there {L d : Nat} {m1 m : zmem} (ha : zan m1 m) {c h f t : Int} (c0 : 0 ≤ c) (c1 : c < 40) (f0 : 0 ≤ m 272 c) (f1 : m 272 c ≤ 39) (l1 : m 273 c ≤ 7) {e : Int} (he : (e = 1 ∧ MB m c h f t) ∨ (e = 0 ∧ ¬ MB m c h f t)) : ∀ (n : Nat) (i : Int), 0 ≤ i → i + n = m 273 c → (∀ k, 0 ≤ k → k < i → ¬ MBk m c h f t k) → zR (d + 1) 114 3 [some (.inr (.inl (some 264))), some (.inl c), some (.inl h), some (.inl f), some (.inl t), some (.inl i)] [] (zem L m1) (fun r M => r = some (.inl e) ∧ M = zem L m1)
  | 0, i, i0, hn, hw => by
    have e0 : 0 = e := by
      rcases he with z | z
      · obtain ⟨k, k0, k1, k2⟩ := z.2
        exact absurd k2 (hw k k0 (by omega))
      · exact z.1.symm
    refine r_iload f114_3 rfl ?_
    refine r_aload_n f114_5 rfl ?_
    refine r_getR f114_6 o114 F7_35 g264_13 rfl ?_
    refine r_iload_n f114_9 rfl ?_
    refine r_iald f114_10 kd273 (by omega) (by omega) ?_
    refine r_top (e := m 273 c) (zan_f ha (by omega) (by omega) (by omega) _) ?_
    refine r_cge f114_11 (t := 71) (by decide) (fun _ => ?_) (fun h => absurd (by omega) h)
    refine r_iconst f114_71 rfl ?_
    exact r_zret f114_72 v114 (by omega) ⟨zs_eq e0, rfl⟩
  | n + 1, i, i0, hn, hw => by
    refine r_iload f114_3 rfl ?_
    refine r_aload_n f114_5 rfl ?_
    refine r_getR f114_6 o114 F7_35 g264_13 rfl ?_
    refine r_iload_n f114_9 rfl ?_
    refine r_iald f114_10 kd273 (by omega) (by omega) ?_
    refine r_top (e := m 273 c) (zan_f ha (by omega) (by omega) (by omega) _) ?_
    refine r_cge f114_11 (t := 71) (by decide) (fun h => absurd h (by omega)) (fun _ => ?_)
    refine r_aload_n f114_14 rfl ?_
    refine r_getR f114_15 o114 F7_44 g264_16 rfl ?_
    refine r_bipush f114_18 (by decide) ?_
    refine r_iload_n f114_20 rfl ?_
    refine r_imul f114_21 (e := 7 * c) (by omega) (by omega) (by omega) ?_
    refine r_iload f114_22 rfl ?_
    refine r_iadd f114_24 (e := 7 * c + i) (by omega) (by omega) (by omega) ?_
    refine r_bald f114_25 kd276 (by omega) (by omega) ?_
    refine r_top (e := m 276 (7 * c + i)) (zan_f ha (by omega) (by omega) (by omega) _) ?_
    refine r_zeq f114_26 (t := 65) (by decide) (fun q1 => ?_) (fun q1 => ?_)
    · refine r_iinc f114_65 rfl rfl rfl (e := i + 1) (by omega) (by omega) (by omega) (ls' := [some (.inr (.inl (some 264))), some (.inl c), some (.inl h), some (.inl f), some (.inl t), some (.inl (i + 1))]) rfl ?_
      refine r_goto f114_68 (t := 3) (by decide) ?_
      exact l_there ha c0 c1 f0 f1 l1 he n (i + 1) (by omega) (by omega) (fun k x y hh => if z : k = i then (by rw [z] at hh; have h2 : ¬ m 276 (7 * c + i) = 0 ∧ m 274 (7 * c + i) = h ∧ f ≤ i + m 272 c ∧ i + m 272 c ≤ t := hh; omega) else hw k x (by omega) hh)
    · refine r_aload_n f114_29 rfl ?_
      refine r_getR f114_30 o114 F7_38 g264_14 rfl ?_
      refine r_bipush f114_33 (by decide) ?_
      refine r_iload_n f114_35 rfl ?_
      refine r_imul f114_36 (e := 7 * c) (by omega) (by omega) (by omega) ?_
      refine r_iload f114_37 rfl ?_
      refine r_iadd f114_39 (e := 7 * c + i) (by omega) (by omega) (by omega) ?_
      refine r_iald f114_40 kd274 (by omega) (by omega) ?_
      refine r_top (e := m 274 (7 * c + i)) (zan_f ha (by omega) (by omega) (by omega) _) ?_
      refine r_iload_n f114_41 rfl ?_
      refine r_cne f114_42 (t := 65) (by decide) (fun q2 => ?_) (fun q2 => ?_)
      · refine r_iinc f114_65 rfl rfl rfl (e := i + 1) (by omega) (by omega) (by omega) (ls' := [some (.inr (.inl (some 264))), some (.inl c), some (.inl h), some (.inl f), some (.inl t), some (.inl (i + 1))]) rfl ?_
        refine r_goto f114_68 (t := 3) (by decide) ?_
        exact l_there ha c0 c1 f0 f1 l1 he n (i + 1) (by omega) (by omega) (fun k x y hh => if z : k = i then (by rw [z] at hh; have h2 : ¬ m 276 (7 * c + i) = 0 ∧ m 274 (7 * c + i) = h ∧ f ≤ i + m 272 c ∧ i + m 272 c ≤ t := hh; omega) else hw k x (by omega) hh)
      · refine r_aload_n f114_45 rfl ?_
        refine r_getR f114_46 o114 F7_32 g264_12 rfl ?_
        refine r_iload_n f114_49 rfl ?_
        refine r_iald f114_50 kd272 (by omega) (by omega) ?_
        refine r_top (e := m 272 c) (zan_f ha (by omega) (by omega) (by omega) _) ?_
        refine r_iload f114_51 rfl ?_
        refine r_iadd f114_53 (e := i + m 272 c) (by omega) (by omega) (by omega) ?_
        refine r_iload_n f114_54 rfl ?_
        refine r_iload f114_55 rfl ?_
        refine r_calls3i (m' := m1) f114_57 o114 M7_90 (Or.inl rfl) p85 rfl (by simp) (t_in (i + m 272 c) f t) ?_
        refine r_ite (fun q3 => ?_) (fun q3 => ?_)
        · refine r_zeq f114_60 (t := 65) (by decide) (fun h => absurd h (by omega)) (fun _ => ?_)
          refine r_iconst f114_63 rfl ?_
          have e1 : 1 = e := by
            rcases he with z | z
            · exact z.1.symm
            · exact absurd ⟨i, i0, by omega, by omega, by omega, by omega, by omega⟩ z.2
          exact r_zret f114_64 v114 (by omega) ⟨zs_eq e1, rfl⟩
        · refine r_zeq f114_60 (t := 65) (by decide) (fun _ => ?_) (fun h => absurd (by omega) h)
          refine r_iinc f114_65 rfl rfl rfl (e := i + 1) (by omega) (by omega) (by omega) (ls' := [some (.inr (.inl (some 264))), some (.inl c), some (.inl h), some (.inl f), some (.inl t), some (.inl (i + 1))]) rfl ?_
          refine r_goto f114_68 (t := 3) (by decide) ?_
          exact l_there ha c0 c1 f0 f1 l1 he n (i + 1) (by omega) (by omega) (fun k x y hh => if z : k = i then (by rw [z] at hh; have h2 : ¬ m 276 (7 * c + i) = 0 ∧ m 274 (7 * c + i) = h ∧ f ≤ i + m 272 c ∧ i + m 272 c ≤ t := hh; omega) else hw k x (by omega) hh)
theorem t_there {L d : Nat} {m1 m : zmem} (ha : zan m1 m) {c h f t : Int} (c0 : 0 ≤ c) (c1 : c < 40) (f0 : 0 ≤ m 272 c) (f1 : m 272 c ≤ 39) (l0 : 0 ≤ m 273 c) (l1 : m 273 c ≤ 7) {e : Int} (he : (e = 1 ∧ MB m c h f t) ∨ (e = 0 ∧ ¬ MB m c h f t)) : zF L (d + 1) 114 [.inr (.inl (some 264)), .inl c, .inl h, .inl f, .inl t] m1 (some (.inl e)) m1 := by
  refine zF_of n114 (ls := [some (.inr (.inl (some 264))), some (.inl c), some (.inl h), some (.inl f), some (.inl t), none]) rfl ?_
  refine r_iconst f114_0 rfl ?_
  refine r_istore f114_1 rfl (ls' := [some (.inr (.inl (some 264))), some (.inl c), some (.inl h), some (.inl f), some (.inl t), some (.inl 0)]) rfl ?_
  exact l_there ha c0 c1 f0 f1 l1 he (m 273 c).toNat 0 (by omega) (by omega) (fun k x y => by omega)

theorem l_shut {L d e : Nat} {T h f t N : Int} (f0 : 0 ≤ f) (ft : f ≤ t) (t1 : t < 40) : ∀ (n : Nat) (k : Int) (a b : zmem), Sim T a b → b 264 10 = N → 0 ≤ k → k + n = N → ∃ (X M : zmem) (w : Int), Sim T X M ∧ zan X a ∧ (0 ≤ w ∧ w ≤ n) ∧ (∀ (Q : Option zV → zM → Prop) (z : Int), 0 ≤ z → z + n ≤ 40 → zR (d + 6) 48 109 [some (.inr (.inl (some 0))), some (.inl h), some (.inl f), some (.inl t), some (.inl (z + w)), some (.inl N), none] [] (zem L X) Q → zR (d + 6) 48 53 [some (.inr (.inl (some 0))), some (.inl h), some (.inl f), some (.inl t), some (.inl z), some (.inl k), none] [] (zem L a) Q) ∧ ∀ m1, zan m1 b → ∃ Y, zac Y m1 ∧ zan Y M ∧ ∀ (Q : Option zV → zM → Prop) (z : Int), 0 ≤ z → z + n ≤ 40 → zR (e + 7) 116 121 [some (.inr (.inl (some 264))), some (.inl h), some (.inl f), some (.inl t), some (.inl (z + w)), some (.inl N)] [] (zem L Y) Q → zR (e + 7) 116 64 [some (.inr (.inl (some 264))), some (.inl h), some (.inl f), some (.inl t), some (.inl z), some (.inl k)] [] (zem L m1) Q
  | 0, k, a, b, hs, hN, k0, hn => by
    have s1 := hs.s1
    unfold S1 at s1
    have ek : k = N := by omega
    refine ⟨a, b, 0, hs, zan_rf a, by omega, fun Q z z0 z1 hk => ?_, fun m1 ha => ⟨m1, zac_rf m1, ha, fun Q z z0 z1 hk => ?_⟩⟩
    · rw [ek]
      rw [Int.add_zero] at hk
      refine r_iload f48_53 rfl ?_
      refine r_aload_n f48_55 rfl ?_
      refine r_getI f48_56 o48 F6_101 g0_6 rfl ?_
      refine r_cge f48_59 (t := 109) (by decide) (fun _ => ?_) (fun h => absurd (by omega) h)
      exact hk
    · rw [ek]
      rw [Int.add_zero] at hk
      refine r_iload f116_64 rfl ?_
      refine r_aload_n f116_66 rfl ?_
      refine r_getI f116_67 o116 F7_94 g264_10 rfl ?_
      refine r_top (e := b 264 10) (zan_f ha (by omega) (by omega) (by omega) _) ?_
      refine r_cge f116_70 (t := 121) (by decide) (fun _ => ?_) (fun h => absurd (by omega) h)
      exact hk
  | n + 1, k, a, b, hs, hN, k0, hn => by
    have s1 := hs.s1
    unfold S1 at s1
    have k5 := hs.s5 k k0 (by omega)
    by_cases hst : b 275 k = 1
    · have lx := fun (ev : Int) (he : (ev = 1 ∧ XB a k h f t) ∨ (ev = 0 ∧ ¬ XB a k h f t)) => t_isLaidBetween (L := L) (d := d + 1) (m := a) (c := k) (h := h) (a := f) (b := t) k0 (by omega) (by omega) (by omega) (by omega) (by omega) (Sim_hl hs k k0 (by omega)) f0 ft t1 ev he
      have lm := fun (ev : Int) (he : (ev = 1 ∧ MB b k h f t) ∨ (ev = 0 ∧ ¬ MB b k h f t)) (m1 : zmem) (ha : zan m1 b) => t_there (L := L) (d := e + 5) ha (c := k) (h := h) (f := f) (t := t) k0 (by omega) (by omega) (by omega) (by omega) (by omega) he
      have sb := Sim_B hs (c := k) (h := h) (f := f) (t := t) k0 (by omega)
      rcases Classical.em (MB b k h f t) with hb | hb
      · replace lx := lx 1 (Or.inl ⟨rfl, sb.2 hb⟩)
        replace lm := lm 1 (Or.inl ⟨rfl, hb⟩)
        obtain ⟨X1, M1, v, h1, h2, h3, h4, h5, h6⟩ := lead_both (L := L) (d := d) (e := e) hs k0 (by omega) hst
        obtain ⟨X, M, w, i1, i2, i3, i4, i5⟩ := l_shut (L := L) (d := d) (e := e) (N := N) f0 ft t1 n (k + 1) X1 M1 h1 (by rw [h3]; exact hN) (by omega) (by omega)
        refine ⟨X, M, w + (1 - v), i1, zan_tr i2 h2, by omega, fun Q z z0 z1 hk => ?_, fun m1 ha => ?_⟩
        · refine r_iload f48_53 rfl ?_
          refine r_aload_n f48_55 rfl ?_
          refine r_getI f48_56 o48 F6_101 g0_6 rfl ?_
          refine r_cge f48_59 (t := 109) (by decide) (fun h => absurd h (by omega)) (fun _ => ?_)
          refine r_aload_n f48_62 rfl ?_
          refine r_getR f48_63 o48 F6_27 g0_2 rfl ?_
          refine r_iload f48_66 rfl ?_
          refine r_aldC f48_68 (by omega) (by omega) ?_
          refine r_astore f48_69 rfl (ls' := [some (.inr (.inl (some 0))), some (.inl h), some (.inl f), some (.inl t), some (.inl z), some (.inl k), some (.inr (.inl (some (64 + 5 * k))))]) rfl ?_
          refine r_aload f48_71 rfl ?_
          refine r_getI f48_73 o48 F6_104 (gC_7 (c := k) (by omega) (by omega)) rfl ?_
          refine r_iconst f48_76 rfl ?_
          refine r_cne f48_77 (t := 103) (by decide) (fun h => absurd h (by omega)) (fun _ => ?_)
          refine r_aload f48_80 rfl ?_
          refine r_iload_n f48_82 rfl ?_
          refine r_iload_n f48_83 rfl ?_
          refine r_iload_n f48_84 rfl ?_
          refine r_callv3i (m' := a) (v := 1) f48_85 o48 M6_107 p7 o7 (kdC0 (c := k) (by omega) (by omega)) rfl (by simp) lx ?_
          refine r_zeq f48_88 (t := 103) (by decide) (fun h => absurd h (by omega)) (fun _ => ?_)
          refine r_aload_n f48_91 rfl ?_
          refine r_aload f48_92 rfl ?_
          refine r_callv1i (m' := X1) (v := v) f48_94 o48 M6_110 p76 o76 kd0 rfl (by simp) h5 ?_
          refine r_zne f48_97 (t := 103) (by decide) (fun q1 => ?_) (fun q1 => ?_)
          · refine r_iinc f48_103 rfl rfl rfl (e := k + 1) (by omega) (by omega) (by omega) (ls' := [some (.inr (.inl (some 0))), some (.inl h), some (.inl f), some (.inl t), some (.inl z), some (.inl (k + 1)), some (.inr (.inl (some (64 + 5 * k))))]) rfl ?_
            refine r_goto f48_106 (t := 53) (by decide) ?_
            refine r_forget (ls' := [some (.inr (.inl (some 0))), some (.inl h), some (.inl f), some (.inl t), some (.inl z), some (.inl (k + 1)), none]) ⟨Or.inl rfl, ⟨Or.inl rfl, ⟨Or.inl rfl, ⟨Or.inl rfl, ⟨Or.inl rfl, ⟨Or.inl rfl, ⟨Or.inr ⟨rfl, rfl⟩, trivial⟩⟩⟩⟩⟩⟩⟩ ?_
            exact i4 Q (z) (by omega) (by omega) (by rw [show z + w = z + (w + (1 - v)) by omega]; exact hk)
          · refine r_iinc f48_100 rfl rfl rfl (e := z + 1) (by omega) (by omega) (by omega) (ls' := [some (.inr (.inl (some 0))), some (.inl h), some (.inl f), some (.inl t), some (.inl (z + 1)), some (.inl k), some (.inr (.inl (some (64 + 5 * k))))]) rfl ?_
            refine r_iinc f48_103 rfl rfl rfl (e := k + 1) (by omega) (by omega) (by omega) (ls' := [some (.inr (.inl (some 0))), some (.inl h), some (.inl f), some (.inl t), some (.inl (z + 1)), some (.inl (k + 1)), some (.inr (.inl (some (64 + 5 * k))))]) rfl ?_
            refine r_goto f48_106 (t := 53) (by decide) ?_
            refine r_forget (ls' := [some (.inr (.inl (some 0))), some (.inl h), some (.inl f), some (.inl t), some (.inl (z + 1)), some (.inl (k + 1)), none]) ⟨Or.inl rfl, ⟨Or.inl rfl, ⟨Or.inl rfl, ⟨Or.inl rfl, ⟨Or.inl rfl, ⟨Or.inl rfl, ⟨Or.inr ⟨rfl, rfl⟩, trivial⟩⟩⟩⟩⟩⟩⟩ ?_
            exact i4 Q (z + 1) (by omega) (by omega) (by rw [show z + 1 + w = z + (w + (1 - v)) by omega]; exact hk)
        · obtain ⟨Y1, y1, y2, y3⟩ := h6 m1 ha
          obtain ⟨Y, y4, y5, y6⟩ := i5 Y1 y3
          refine ⟨Y, zac_tr y4 y2, y5, fun Q z z0 z1 hk => ?_⟩
          refine r_iload f116_64 rfl ?_
          refine r_aload_n f116_66 rfl ?_
          refine r_getI f116_67 o116 F7_94 g264_10 rfl ?_
          refine r_top (e := b 264 10) (zan_f ha (by omega) (by omega) (by omega) _) ?_
          refine r_cge f116_70 (t := 121) (by decide) (fun h => absurd h (by omega)) (fun _ => ?_)
          refine r_aload_n f116_73 rfl ?_
          refine r_getR f116_74 o116 F7_41 g264_15 rfl ?_
          refine r_iload f116_77 rfl ?_
          refine r_iald f116_79 kd275 (by omega) (by omega) ?_
          refine r_top (e := b 275 k) (zan_f ha (by omega) (by omega) (by omega) _) ?_
          refine r_iconst f116_80 rfl ?_
          refine r_cne f116_81 (t := 115) (by decide) (fun h => absurd h (by omega)) (fun _ => ?_)
          refine r_aload_n f116_84 rfl ?_
          refine r_iload f116_85 rfl ?_
          refine r_iload_n f116_87 rfl ?_
          refine r_iload_n f116_88 rfl ?_
          refine r_iload_n f116_89 rfl ?_
          refine r_callv4i (m' := m1) (v := 1) f116_90 o116 M7_160 p114 o114 kd264 rfl (by simp) (lm m1 ha) ?_
          refine r_zeq f116_93 (t := 115) (by decide) (fun h => absurd h (by omega)) (fun _ => ?_)
          refine r_iload f116_96 rfl ?_
          refine r_aload_n f116_98 rfl ?_
          refine r_iload f116_99 rfl ?_
          refine r_callv1i (m' := Y1) (v := v) f116_101 o116 M7_164 p115 o115 kd264 rfl (by simp) y1 ?_
          refine r_zeq f116_104 (t := 111) (by decide) (fun q1 => ?_) (fun q1 => ?_)
          · refine r_iconst f116_111 rfl ?_
            refine r_iadd f116_112 (e := z + 1) (by omega) (by omega) (by omega) ?_
            refine r_istore f116_113 rfl (ls' := [some (.inr (.inl (some 264))), some (.inl h), some (.inl f), some (.inl t), some (.inl (z + 1)), some (.inl k)]) rfl ?_
            refine r_iinc f116_115 rfl rfl rfl (e := k + 1) (by omega) (by omega) (by omega) (ls' := [some (.inr (.inl (some 264))), some (.inl h), some (.inl f), some (.inl t), some (.inl (z + 1)), some (.inl (k + 1))]) rfl ?_
            refine r_goto f116_118 (t := 64) (by decide) ?_
            exact y6 Q (z + 1) (by omega) (by omega) (by rw [show z + 1 + w = z + (w + (1 - v)) by omega]; exact hk)
          · refine r_iconst f116_107 rfl ?_
            refine r_goto f116_108 (t := 112) (by decide) ?_
            refine r_iadd f116_112 (e := z) (by omega) (by omega) (by omega) ?_
            refine r_istore f116_113 rfl (ls' := [some (.inr (.inl (some 264))), some (.inl h), some (.inl f), some (.inl t), some (.inl z), some (.inl k)]) rfl ?_
            refine r_iinc f116_115 rfl rfl rfl (e := k + 1) (by omega) (by omega) (by omega) (ls' := [some (.inr (.inl (some 264))), some (.inl h), some (.inl f), some (.inl t), some (.inl z), some (.inl (k + 1))]) rfl ?_
            refine r_goto f116_118 (t := 64) (by decide) ?_
            exact y6 Q (z) (by omega) (by omega) (by rw [show z + w = z + (w + (1 - v)) by omega]; exact hk)
      · replace lx := lx 0 (Or.inr ⟨rfl, fun x => hb (sb.1 x)⟩)
        replace lm := lm 0 (Or.inr ⟨rfl, hb⟩)
        obtain ⟨X, M, w, i1, i2, i3, i4, i5⟩ := l_shut (L := L) (d := d) (e := e) (N := N) f0 ft t1 n (k + 1) a b hs hN (by omega) (by omega)
        refine ⟨X, M, w, i1, i2, by omega, fun Q z z0 z1 hk => ?_, fun m1 ha => ?_⟩
        · refine r_iload f48_53 rfl ?_
          refine r_aload_n f48_55 rfl ?_
          refine r_getI f48_56 o48 F6_101 g0_6 rfl ?_
          refine r_cge f48_59 (t := 109) (by decide) (fun h => absurd h (by omega)) (fun _ => ?_)
          refine r_aload_n f48_62 rfl ?_
          refine r_getR f48_63 o48 F6_27 g0_2 rfl ?_
          refine r_iload f48_66 rfl ?_
          refine r_aldC f48_68 (by omega) (by omega) ?_
          refine r_astore f48_69 rfl (ls' := [some (.inr (.inl (some 0))), some (.inl h), some (.inl f), some (.inl t), some (.inl z), some (.inl k), some (.inr (.inl (some (64 + 5 * k))))]) rfl ?_
          refine r_aload f48_71 rfl ?_
          refine r_getI f48_73 o48 F6_104 (gC_7 (c := k) (by omega) (by omega)) rfl ?_
          refine r_iconst f48_76 rfl ?_
          refine r_cne f48_77 (t := 103) (by decide) (fun h => absurd h (by omega)) (fun _ => ?_)
          refine r_aload f48_80 rfl ?_
          refine r_iload_n f48_82 rfl ?_
          refine r_iload_n f48_83 rfl ?_
          refine r_iload_n f48_84 rfl ?_
          refine r_callv3i (m' := a) (v := 0) f48_85 o48 M6_107 p7 o7 (kdC0 (c := k) (by omega) (by omega)) rfl (by simp) lx ?_
          refine r_zeq f48_88 (t := 103) (by decide) (fun _ => ?_) (fun h => absurd (by omega) h)
          refine r_iinc f48_103 rfl rfl rfl (e := k + 1) (by omega) (by omega) (by omega) (ls' := [some (.inr (.inl (some 0))), some (.inl h), some (.inl f), some (.inl t), some (.inl z), some (.inl (k + 1)), some (.inr (.inl (some (64 + 5 * k))))]) rfl ?_
          refine r_goto f48_106 (t := 53) (by decide) ?_
          refine r_forget (ls' := [some (.inr (.inl (some 0))), some (.inl h), some (.inl f), some (.inl t), some (.inl z), some (.inl (k + 1)), none]) ⟨Or.inl rfl, ⟨Or.inl rfl, ⟨Or.inl rfl, ⟨Or.inl rfl, ⟨Or.inl rfl, ⟨Or.inl rfl, ⟨Or.inr ⟨rfl, rfl⟩, trivial⟩⟩⟩⟩⟩⟩⟩ ?_
          exact i4 Q z z0 (by omega) hk
        · obtain ⟨Y, y2, y3, y4⟩ := i5 m1 ha
          refine ⟨Y, y2, y3, fun Q z z0 z1 hk => ?_⟩
          refine r_iload f116_64 rfl ?_
          refine r_aload_n f116_66 rfl ?_
          refine r_getI f116_67 o116 F7_94 g264_10 rfl ?_
          refine r_top (e := b 264 10) (zan_f ha (by omega) (by omega) (by omega) _) ?_
          refine r_cge f116_70 (t := 121) (by decide) (fun h => absurd h (by omega)) (fun _ => ?_)
          refine r_aload_n f116_73 rfl ?_
          refine r_getR f116_74 o116 F7_41 g264_15 rfl ?_
          refine r_iload f116_77 rfl ?_
          refine r_iald f116_79 kd275 (by omega) (by omega) ?_
          refine r_top (e := b 275 k) (zan_f ha (by omega) (by omega) (by omega) _) ?_
          refine r_iconst f116_80 rfl ?_
          refine r_cne f116_81 (t := 115) (by decide) (fun h => absurd h (by omega)) (fun _ => ?_)
          refine r_aload_n f116_84 rfl ?_
          refine r_iload f116_85 rfl ?_
          refine r_iload_n f116_87 rfl ?_
          refine r_iload_n f116_88 rfl ?_
          refine r_iload_n f116_89 rfl ?_
          refine r_callv4i (m' := m1) (v := 0) f116_90 o116 M7_160 p114 o114 kd264 rfl (by simp) (lm m1 ha) ?_
          refine r_zeq f116_93 (t := 115) (by decide) (fun _ => ?_) (fun h => absurd (by omega) h)
          refine r_iinc f116_115 rfl rfl rfl (e := k + 1) (by omega) (by omega) (by omega) (ls' := [some (.inr (.inl (some 264))), some (.inl h), some (.inl f), some (.inl t), some (.inl z), some (.inl (k + 1))]) rfl ?_
          refine r_goto f116_118 (t := 64) (by decide) ?_
          exact y4 Q z z0 (by omega) hk
    · obtain ⟨X, M, w, i1, i2, i3, i4, i5⟩ := l_shut (L := L) (d := d) (e := e) (N := N) f0 ft t1 n (k + 1) a b hs hN (by omega) (by omega)
      refine ⟨X, M, w, i1, i2, by omega, fun Q z z0 z1 hk => ?_, fun m1 ha => ?_⟩
      · refine r_iload f48_53 rfl ?_
        refine r_aload_n f48_55 rfl ?_
        refine r_getI f48_56 o48 F6_101 g0_6 rfl ?_
        refine r_cge f48_59 (t := 109) (by decide) (fun h => absurd h (by omega)) (fun _ => ?_)
        refine r_aload_n f48_62 rfl ?_
        refine r_getR f48_63 o48 F6_27 g0_2 rfl ?_
        refine r_iload f48_66 rfl ?_
        refine r_aldC f48_68 (by omega) (by omega) ?_
        refine r_astore f48_69 rfl (ls' := [some (.inr (.inl (some 0))), some (.inl h), some (.inl f), some (.inl t), some (.inl z), some (.inl k), some (.inr (.inl (some (64 + 5 * k))))]) rfl ?_
        refine r_aload f48_71 rfl ?_
        refine r_getI f48_73 o48 F6_104 (gC_7 (c := k) (by omega) (by omega)) rfl ?_
        refine r_iconst f48_76 rfl ?_
        refine r_cne f48_77 (t := 103) (by decide) (fun _ => ?_) (fun h => absurd (by omega) h)
        refine r_iinc f48_103 rfl rfl rfl (e := k + 1) (by omega) (by omega) (by omega) (ls' := [some (.inr (.inl (some 0))), some (.inl h), some (.inl f), some (.inl t), some (.inl z), some (.inl (k + 1)), some (.inr (.inl (some (64 + 5 * k))))]) rfl ?_
        refine r_goto f48_106 (t := 53) (by decide) ?_
        refine r_forget (ls' := [some (.inr (.inl (some 0))), some (.inl h), some (.inl f), some (.inl t), some (.inl z), some (.inl (k + 1)), none]) ⟨Or.inl rfl, ⟨Or.inl rfl, ⟨Or.inl rfl, ⟨Or.inl rfl, ⟨Or.inl rfl, ⟨Or.inl rfl, ⟨Or.inr ⟨rfl, rfl⟩, trivial⟩⟩⟩⟩⟩⟩⟩ ?_
        exact i4 Q z z0 (by omega) hk
      · obtain ⟨Y, y2, y3, y4⟩ := i5 m1 ha
        refine ⟨Y, y2, y3, fun Q z z0 z1 hk => ?_⟩
        refine r_iload f116_64 rfl ?_
        refine r_aload_n f116_66 rfl ?_
        refine r_getI f116_67 o116 F7_94 g264_10 rfl ?_
        refine r_top (e := b 264 10) (zan_f ha (by omega) (by omega) (by omega) _) ?_
        refine r_cge f116_70 (t := 121) (by decide) (fun h => absurd h (by omega)) (fun _ => ?_)
        refine r_aload_n f116_73 rfl ?_
        refine r_getR f116_74 o116 F7_41 g264_15 rfl ?_
        refine r_iload f116_77 rfl ?_
        refine r_iald f116_79 kd275 (by omega) (by omega) ?_
        refine r_top (e := b 275 k) (zan_f ha (by omega) (by omega) (by omega) _) ?_
        refine r_iconst f116_80 rfl ?_
        refine r_cne f116_81 (t := 115) (by decide) (fun _ => ?_) (fun h => absurd (by omega) h)
        refine r_iinc f116_115 rfl rfl rfl (e := k + 1) (by omega) (by omega) (by omega) (ls' := [some (.inr (.inl (some 264))), some (.inl h), some (.inl f), some (.inl t), some (.inl z), some (.inl (k + 1))]) rfl ?_
        refine r_goto f116_118 (t := 64) (by decide) ?_
        exact y4 Q z z0 (by omega) hk
