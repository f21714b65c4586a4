theorem zff_c {P Q : Int → Prop} [DecidablePred P] [DecidablePred Q] : ∀ (n : Nat) (i : Int), (∀ k, i ≤ k → k < i + n → (P k ↔ Q k)) → zff P i n = zff Q i n
  | 0, _, _ => rfl
  | n + 1, i, h => by
    have e := h i (by omega) (by omega)
    unfold zff
    by_cases p : P i
    · rw [if_pos p, if_pos (e.1 p)]
    · rw [if_neg p, if_neg (fun q => p (e.2 q))]
      exact zff_c n (i + 1) (fun k a b => h k (by omega) (by omega))
theorem zff_no {P : Int → Prop} [DecidablePred P] : ∀ (n : Nat) (i : Int), 0 ≤ i → zff P i n = -1 → ∀ k, i ≤ k → k < i + n → ¬ P k
  | 0, i, _, _, k, a, b => by omega
  | n + 1, i, i0, h, k, a, b => by
    unfold zff at h
    by_cases p : P i
    · rw [if_pos p] at h; omega
    · rw [if_neg p] at h
      by_cases e : k = i
      · rw [e]; exact p
      · exact zff_no n (i + 1) (by omega) h k (by omega) (by omega)
theorem Sim_bar {T : Int} {a b : zmem} (hs : Sim T a b) {c : Int} (c0 : 0 ≤ c) (c1 : c < b 264 10) : zff (XBr a c) 0 (a (64 + 5 * c) 6).toNat = zff (MBr b c) 0 (b 273 c).toNat := by
  have s1 := hs.s1
  unfold S1 at s1
  have k5 := hs.s5 c c0 (by omega)
  have e6 : a (64 + 5 * c) 6 = b 273 c := by omega
  have e5 : a (64 + 5 * c) 5 = b 272 c := by omega
  have e4 : a (64 + 5 * c) 4 = b 271 c := by omega
  rw [e6]
  refine zff_c _ _ (fun k k0 k1 => ?_)
  have g6 := hs.s6 c c0 (by omega) k k0 (by omega)
  have gw := g6.2 (by omega)
  have r : XR a (a (65 + 5 * c) k) (k + a (64 + 5 * c) 5) (a (64 + 5 * c) 4) ↔ MR b (b 274 (7 * c + k)) (k + b 272 c) (b 271 c) := by
    rw [g6.1, e5, e4]; exact Sim_R hs gw.1 gw.2 (by omega) (by omega)
  by_cases z : k = 0
  · exact not_congr (and_congr ⟨fun _ => Or.inl z, fun _ => Or.inl z⟩ r)
  · have g7 := hs.s6 c c0 (by omega) (k - 1) (by omega) (by omega)
    have gv := g7.2 (by omega)
    have j : XJ a (a (65 + 5 * c) (k - 1)) (a (65 + 5 * c) k) ↔ MJ b (b 274 (7 * c + k - 1)) (b 274 (7 * c + k)) := by
      rw [g6.1, g7.1, show 7 * c + k - 1 = 7 * c + (k - 1) by omega]; exact Sim_J hs gv.1 (by omega) gw.1 (by omega)
    exact not_congr (and_congr (or_congr Iff.rfl j) r)
theorem MF_st {b : zmem} {c v : Int} : MF (zu b 275 c v) = MF b := MF_e (by rw [zu_ne (by omega)]) (zu_ne (by omega)) (zu_ne (by omega)) (zu_ne (by omega)) (zu_ne (by omega)) (zu_ne (by omega)) (zu_ne (by omega)) (zu_ne (by omega))
theorem Lay_bar {T : Int} {a b : zmem} (hs : Sim T a b) {c : Int} (c0 : 0 ≤ c) (c1 : c < b 264 10) (h0 : b 275 c = 0) (hb : zff (MBr b c) 0 (b 273 c).toNat = -1) : Lay (zu b 275 c 1) c 0 := by
  have s1 := hs.s1
  unfold S1 at s1
  have k5 := hs.s5 c c0 (by omega)
  intro k k0 k1
  rw [zu_ne (by omega)] at k1
  have nb := zff_no _ 0 (by omega) hb k k0 (by omega)
  have nb2 := (Decidable.not_not.mp nb).2
  refine ⟨?_, ?_⟩
  · rw [zu_ne (by omega)]
    exact (((hs.s15 c c0 (by omega)).2 k k0 (by omega)).1 h0).1
  · unfold MO
    rw [MF_st, zu_ne (a := 271) (by omega), zu_ne (a := 274) (by omega), zu_ne (a := 272) (by omega)]
    exact nb2.2
theorem XL1_w {a : zmem} {c i p : Int} (h0 : 0 ≤ a (65 + 5 * c) i) (h1 : a (65 + 5 * c) i < 12) (hp : ¬ p = 66 + 5 * c) (hq : 50 < p ∨ p = 1 ∨ p = 0) : XL1 a c i p = a p := by
  unfold XL1
  rw [XWC_Y]
  unfold XYa
  rw [zu_ne (by omega), zu_ne (by omega), zu_ne (by omega), zu_ne (by omega), zu_ne (by omega), zu_ne (by omega)]
theorem XL1_an {a : zmem} {c i : Int} (c0 : 0 ≤ c) (c1 : c < 40) (h0 : 0 ≤ a (65 + 5 * c) i) (h1 : a (65 + 5 * c) i < 12) : zan (XL1 a c i) a := by
  unfold XL1
  rw [XWC_Y]
  unfold XYa
  exact zan_x (zan_x (zan_x (zan_x (zan_x (zan_x (zan_rf a) (by omega)) (by omega)) (by omega)) (by omega)) (by omega)) (by omega)
theorem XLy_sh {c s : Int} (c0 : 0 ≤ c) (c1 : c < 40) : ∀ (n : Nat) (i : Int) (a : zmem), (∀ k, i ≤ k → k < i + n → 0 ≤ a (65 + 5 * c) k ∧ a (65 + 5 * c) k < 12) → XLy c n i (zu a (64 + 5 * c) 7 s) = zu (XLy c n i a) (64 + 5 * c) 7 s
  | 0, _, _, _ => rfl
  | n + 1, i, a, hw => by
    have h := hw i (by omega) (by omega)
    show XLy c n (i + 1) (XL1 (zu a (64 + 5 * c) 7 s) c i) = zu (XLy c n (i + 1) (XL1 a c i)) (64 + 5 * c) 7 s
    rw [XL1_sh c0 c1 h.1 h.2]
    exact XLy_sh c0 c1 n (i + 1) _ (fun k x y => by rw [XL1_w h.1 h.2 (by omega) (by omega)]; exact hw k (by omega) (by omega))
theorem XLy_an {c : Int} (c0 : 0 ≤ c) (c1 : c < 40) : ∀ (n : Nat) (i : Int) (a : zmem), (∀ k, i ≤ k → k < i + n → 0 ≤ a (65 + 5 * c) k ∧ a (65 + 5 * c) k < 12) → zan (XLy c n i a) a
  | 0, _, a, _ => zan_rf a
  | n + 1, i, a, hw => by
    have h := hw i (by omega) (by omega)
    exact zan_tr (XLy_an c0 c1 n (i + 1) (XL1 a c i) (fun k x y => by rw [XL1_w h.1 h.2 (by omega) (by omega)]; exact hw k (by omega) (by omega))) (XL1_an c0 c1 h.1 h.2)
theorem MLy_o {c : Int} {p : Int} (h1 : ¬ p = 276) (h2 : ¬ p = 277) : ∀ (n : Nat) (i : Int) (b : zmem), MLy c n i b p = b p
  | 0, _, _ => rfl
  | n + 1, i, b => by
    show MLy c n (i + 1) (ML1 b c i) p = b p
    rw [MLy_o h1 h2 n]
    unfold ML1 MYa
    rw [zu_ne (by omega), zu_ne (by omega), zu_ne (by omega), zu_ne (by omega)]
theorem t_layFrom {L d : Nat} {T c f : Int} {a b : zmem} (hs : Sim T (zu a (64 + 5 * c) 7 1) b) (c0 : 0 ≤ c) (c1 : c < b 264 10) (f0 : 0 ≤ f) (f1 : f ≤ b 273 c) (hst : ¬ b 275 c = 0) (hl : Lay b c f) : zF L (d + 3) 74 [.inr (.inl (some 0)), .inr (.inl (some (64 + 5 * c))), .inl f] a none (XLy c (b 273 c - f).toNat f a) := by
  refine zF_of n74 (ls := [some (.inr (.inl (some 0))), some (.inr (.inl (some (64 + 5 * c)))), some (.inl f), none]) rfl ?_
  refine r_iload_n f74_0 rfl ?_
  refine r_istore_n f74_1 rfl (ls' := [some (.inr (.inl (some 0))), some (.inr (.inl (some (64 + 5 * c)))), some (.inl f), some (.inl f)]) rfl ?_
  refine l_lay (T := T) (b 273 c - f).toNat f a b hs c0 c1 f0 (by omega) hst hl ?_
  exact r_vret f74_50 v74 ⟨rfl, rfl⟩
theorem t_giveOwn {L d : Nat} {m : zmem} {T c : Int} {b : zmem} (hs : Sim T m b) (c0 : 0 ≤ c) (c1 : c < b 264 10) (hst : b 275 c = 0) (hf : b 264 9 ≤ b 272 c) : zF L (d + 4) 72 [.inr (.inl (some 0)), .inr (.inl (some (64 + 5 * c)))] m (some (.inl (zff (MBr b c) 0 (b 273 c).toNat))) (if zff (MBr b c) 0 (b 273 c).toNat = -1 then zu (XLy c (b 273 c).toNat 0 m) (64 + 5 * c) 7 1 else m) := by
  have s1 := hs.s1
  unfold S1 at s1
  have k5 := hs.s5 c c0 (by omega)
  have sh := sm_given hs c0 c1 hf
  have hb := t_firstBar (L := L) (d := d + 1) (m := m) (c := c) c0 (by omega) (by omega) (by omega) (by omega) (by omega) (by omega) (by omega) (by omega) (fun k x y => by have := hs.s6 c c0 (by omega) k x (by omega); omega) (fun h k x y z u => (hs.s10 h x y).1 k z u)
  rw [Sim_bar hs c0 c1] at hb
  refine zF_of n72 (ls := [some (.inr (.inl (some 0))), some (.inr (.inl (some (64 + 5 * c)))), none]) rfl ?_
  refine r_aload_n f72_0 rfl ?_
  refine r_getR f72_1 o72 F6_10 g0_0 rfl ?_
  refine r_aload_n f72_4 rfl ?_
  refine r_callv1i (m' := m) (v := zff (MBr b c) 0 (b 273 c).toNat) f72_5 o72 M6_265 p34 o34 kd1 rfl (by simp) hb ?_
  refine r_istore_n f72_8 rfl (ls' := [some (.inr (.inl (some 0))), some (.inr (.inl (some (64 + 5 * c)))), some (.inl (zff (MBr b c) 0 (b 273 c).toNat))]) rfl ?_
  refine r_iload_n f72_9 rfl ?_
  refine r_iconst f72_10 rfl ?_
  refine r_cne f72_11 (t := 25) (by decide) (fun q1 => ?_) (fun q1 => ?_)
  · refine r_iload_n f72_25 rfl ?_
    exact r_iret f72_26 v72 ⟨zs_eq (by first | rfl | omega | ((repeat (first | rw [if_pos (by omega)] | rw [if_neg (by omega)])) <;> first | rfl | omega)), (by first | rfl | ((repeat (first | rw [if_pos (by omega)] | rw [if_neg (by omega)])); done) | ((repeat (first | rw [if_pos (by omega)] | rw [if_neg (by omega)])); rfl))⟩
  · refine r_aload_n f72_14 rfl ?_
    refine r_aload_n f72_15 rfl ?_
    refine r_iconst f72_16 rfl ?_
    refine r_callv2u (m' := (XLy c (b 273 c).toNat 0 m)) f72_17 o72 M6_148 p74 o74 kd0 rfl (by simp) (by have q := t_layFrom (L := L) (d := d) (f := 0) sh c0 (by rw [zu_ne (by omega)]; exact c1) (by omega) (by rw [zu_ne (by omega)]; omega) (by rw [zu_at]; omega) (Lay_bar hs c0 c1 hst (by omega)); rw [zu_ne (by omega), show b 273 c - 0 = b 273 c by omega] at q; exact q) ?_
    refine r_aload_n f72_20 rfl ?_
    refine r_iconst f72_21 rfl ?_
    refine r_put f72_22 o72 F6_104 (gC_7 (c := c) (by omega) (by omega)) rfl T0_7 U0_7 ?_
    refine r_iload_n f72_25 rfl ?_
    exact r_iret f72_26 v72 ⟨zs_eq (by first | rfl | omega | ((repeat (first | rw [if_pos (by omega)] | rw [if_neg (by omega)])) <;> first | rfl | omega)), (by first | rfl | ((repeat (first | rw [if_pos (by omega)] | rw [if_neg (by omega)])); done) | ((repeat (first | rw [if_pos (by omega)] | rw [if_neg (by omega)])); rfl))⟩

/-- a chain given or not, of both sides -/
theorem give_both {L d e : Nat} {T c : Int} {a b : zmem} (hs : Sim T a b) (c0 : 0 ≤ c) (c1 : c < b 264 10) (hst : b 275 c = 0) (hf : b 264 9 ≤ b 272 c) : ∃ X M, Sim T X M ∧ zan X a ∧ (∀ p, ¬ p = 275 → ¬ p = 276 → ¬ p = 277 → M p = b p) ∧ zF L (d + 4) 72 [.inr (.inl (some 0)), .inr (.inl (some (64 + 5 * c)))] a (some (.inl (zff (MBr b c) 0 (b 273 c).toNat))) X ∧ ∀ m1, zan m1 b → zF L (e + 5) 104 [.inr (.inl (some 264)), .inl c] m1 (some (.inl (zff (MBr b c) 0 (b 273 c).toNat))) m1 ∧ ∃ Y, (zff (MBr b c) 0 (b 273 c).toNat = -1 → zF L (e + 5) 105 [.inr (.inl (some 264)), .inl c] m1 none Y) ∧ (¬ zff (MBr b c) 0 (b 273 c).toNat = -1 → Y = m1) ∧ zac Y m1 ∧ zan Y M := by
  have s1 := hs.s1
  unfold S1 at s1
  have k5 := hs.s5 c c0 (by omega)
  have gx := t_giveOwn (L := L) (d := d) hs c0 c1 hst hf
  have gb := fun (m1 : zmem) (ha : zan m1 b) => t_bar (L := L) (d := e) ha (Sim_ok hs) (Sim_rng hs) (c := c) c0 (by omega) (by omega) (fun k x y => (hs.s6 c c0 (by omega) k x (by omega)).2 y)
  by_cases hv : zff (MBr b c) 0 (b 273 c).toNat = -1
  · rw [if_pos hv] at gx
    have sh := sm_given hs c0 c1 hf
    have lay := Lay_bar hs c0 c1 hst hv
    have e3 : zu b 275 c 1 273 = b 273 := zu_ne (by omega)
    have e4 : zu b 275 c 1 264 = b 264 := zu_ne (by omega)
    have hw : ∀ k, (0 : Int) ≤ k → k < 0 + ((b 273 c).toNat : Int) → 0 ≤ a (65 + 5 * c) k ∧ a (65 + 5 * c) k < 12 := fun k x y => by have := hs.s6 c c0 (by omega) k x (by omega); omega
    have fin := sm_lays (b 273 c).toNat 0 _ _ sh c0 (by rw [e4]; exact c1) (by omega) (by rw [e3]; omega) (by rw [zu_at]; omega) lay
    rw [XLy_sh c0 (by omega) _ _ _ hw] at fin
    refine ⟨_, _, fin, zan_x (XLy_an c0 (by omega) _ _ _ hw) (by omega), fun p p1 p2 p3 => by rw [MLy_o p2 p3, zu_ne p1], gx, fun m1 ha => ⟨gb m1 ha, ?_⟩⟩
    obtain ⟨Y, y1, y2, y3⟩ := t_gives (L := L) (d := e) sh (zan_w ha) c0 (by rw [e4]; exact c1) (by rw [zu_at]; omega) lay
    rw [e3] at y3
    exact ⟨Y, fun _ => y1, fun h => absurd hv h, y2, y3⟩
  · rw [if_neg hv] at gx
    exact ⟨_, _, hs, zan_rf a, fun _ _ _ _ => rfl, gx, fun m1 ha => ⟨gb m1 ha, m1, fun h => absurd h hv, fun _ => rfl, zac_rf m1, ha⟩⟩
theorem t_Xgive {L d : Nat} {m : zmem} (k0 : 0 ≤ m 0 6) (k1 : m 0 6 ≤ 40) {c : Int} {v : Int} {X : zmem} (hX : (0 ≤ c ∧ c < m 0 6) → (m (64 + 5 * c) 7 = 0 ∧ m 0 7 ≤ m (64 + 5 * c) 5) → zF L (d + 4) 72 [.inr (.inl (some 0)), .inr (.inl (some (64 + 5 * c)))] m (some (.inl v)) X)  : zF L (d + 5) 51 [.inr (.inl (some 0)), .inl c] m (some (.inl (if (0 ≤ c ∧ c < m 0 6) then (if (m (64 + 5 * c) 7 = 0 ∧ m 0 7 ≤ m (64 + 5 * c) 5) then v else -3) else -2))) (if (0 ≤ c ∧ c < m 0 6) then (if (m (64 + 5 * c) 7 = 0 ∧ m 0 7 ≤ m (64 + 5 * c) 5) then X else m) else m) := by
  refine zF_of n51 (ls := [some (.inr (.inl (some 0))), some (.inl c)]) rfl ?_
  refine r_aload_n f51_0 rfl ?_
  refine r_iload_n f51_1 rfl ?_
  refine r_callv1i (m' := m) f51_2 o51 M6_118 p69 o69 kd0 rfl (by simp) (t_isChainX c k0 k1) ?_
  refine r_ite (fun q1 => ?_) (fun q1 => ?_)
  · refine r_zne f51_5 (t := 11) (by decide) (fun _ => ?_) (fun h => absurd (by omega) h)
    refine r_aload_n f51_11 rfl ?_
    refine r_aload_n f51_12 rfl ?_
    refine r_getR f51_13 o51 F6_27 g0_2 rfl ?_
    refine r_iload_n f51_16 rfl ?_
    refine r_aldC f51_17 (by omega) (by omega) ?_
    refine r_callv1i (m' := m) f51_18 o51 M6_130 p70 o70 kd0 rfl (by simp) (t_canBeGiven (c := c) (by omega) (by omega)) ?_
    refine r_ite (fun q2 => ?_) (fun q2 => ?_)
    · refine r_zne f51_21 (t := 27) (by decide) (fun _ => ?_) (fun h => absurd (by omega) h)
      refine r_aload_n f51_27 rfl ?_
      refine r_aload_n f51_28 rfl ?_
      refine r_getR f51_29 o51 F6_27 g0_2 rfl ?_
      refine r_iload_n f51_32 rfl ?_
      refine r_aldC f51_33 (by omega) (by omega) ?_
      refine r_callv1i (m' := X) (v := v) f51_34 o51 M6_133 p72 o72 kd0 rfl (by simp) (hX (by omega) (by omega)) ?_
      exact r_iret f51_37 v51 ⟨zs_eq (by first | rfl | omega | ((repeat (first | rw [if_pos (by omega)] | rw [if_neg (by omega)])) <;> first | rfl | omega)), (by first | rfl | ((repeat (first | rw [if_pos (by omega)] | rw [if_neg (by omega)])); done) | ((repeat (first | rw [if_pos (by omega)] | rw [if_neg (by omega)])); rfl))⟩
    · refine r_zne f51_21 (t := 27) (by decide) (fun h => absurd h (by omega)) (fun _ => ?_)
      refine r_bipush f51_24 (by decide) ?_
      exact r_iret f51_26 v51 ⟨zs_eq (by first | rfl | omega | ((repeat (first | rw [if_pos (by omega)] | rw [if_neg (by omega)])) <;> first | rfl | omega)), (by first | rfl | ((repeat (first | rw [if_pos (by omega)] | rw [if_neg (by omega)])); done) | ((repeat (first | rw [if_pos (by omega)] | rw [if_neg (by omega)])); rfl))⟩
  · refine r_zne f51_5 (t := 11) (by decide) (fun h => absurd h (by omega)) (fun _ => ?_)
    refine r_bipush f51_8 (by decide) ?_
    exact r_iret f51_10 v51 ⟨zs_eq (by first | rfl | omega | ((repeat (first | rw [if_pos (by omega)] | rw [if_neg (by omega)])) <;> first | rfl | omega)), (by first | rfl | ((repeat (first | rw [if_pos (by omega)] | rw [if_neg (by omega)])); done) | ((repeat (first | rw [if_pos (by omega)] | rw [if_neg (by omega)])); rfl))⟩

theorem t_Mgive {L d : Nat} {m1 m : zmem} (ha : zan m1 m) (k0 : 0 ≤ m 264 10) (k1 : m 264 10 ≤ 40) {c : Int} {v : Int} {Y : zmem} (hX : (0 ≤ c ∧ c < m 264 10) → (m 275 c = 0 ∧ m 264 9 ≤ m 272 c) → zF L (d + 5) 104 [.inr (.inl (some 264)), .inl c] m1 (some (.inl v)) m1) (hY : (0 ≤ c ∧ c < m 264 10) → (m 275 c = 0 ∧ m 264 9 ≤ m 272 c) → v = -1 → zF L (d + 5) 105 [.inr (.inl (some 264)), .inl c] m1 none Y)  : zF L (d + 6) 107 [.inr (.inl (some 264)), .inl c] m1 (some (.inl (if (0 ≤ c ∧ c < m 264 10) then (if (m 275 c = 0 ∧ m 264 9 ≤ m 272 c) then v else -3) else -2))) (if (0 ≤ c ∧ c < m 264 10) then (if (m 275 c = 0 ∧ m 264 9 ≤ m 272 c) then (if v = -1 then Y else m1) else m1) else m1) := by
  refine zF_of n107 (ls := [some (.inr (.inl (some 264))), some (.inl c), none, none]) rfl ?_
  refine r_aload_n f107_0 rfl ?_
  refine r_iload_n f107_1 rfl ?_
  refine r_callv1i (m' := m1) (v := if (0 ≤ c ∧ c < m 264 10) then (if (m 275 c = 0 ∧ m 264 9 ≤ m 272 c) then 0 else -3) else -2) f107_2 o107 M7_139 p106 o106 kd264 rfl (by simp) (tN_refuses ha k0 k1 c) ?_
  by_cases q1 : (0 ≤ c ∧ c < m 264 10)
  · by_cases q2 : (m 275 c = 0 ∧ m 264 9 ≤ m 272 c)
    · refine r_top (e := 0) (by rw [if_pos q1, if_pos q2]) ?_
      refine r_istore_n f107_5 rfl (ls' := [some (.inr (.inl (some 264))), some (.inl c), some (.inl 0), none]) rfl ?_
      refine r_iload_n f107_6 rfl ?_
      refine r_zeq f107_7 (t := 12) (by decide) (fun _ => ?_) (fun h => absurd (by omega) h)
      refine r_aload_n f107_12 rfl ?_
      refine r_iload_n f107_13 rfl ?_
      refine r_callv1i (m' := m1) (v := v) f107_14 o107 M7_143 p104 o104 kd264 rfl (by simp) (hX (by omega) (by omega)) ?_
      refine r_istore_n f107_17 rfl (ls' := [some (.inr (.inl (some 264))), some (.inl c), some (.inl 0), some (.inl v)]) rfl ?_
      refine r_iload_n f107_18 rfl ?_
      refine r_iconst f107_19 rfl ?_
      refine r_cne f107_20 (t := 28) (by decide) (fun q3 => ?_) (fun q3 => ?_)
      · refine r_iload_n f107_28 rfl ?_
        exact r_iret f107_29 v107 ⟨zs_eq (by first | rfl | omega | ((repeat (first | rw [if_pos (by omega)] | rw [if_neg (by omega)])) <;> first | rfl | omega)), (by first | rfl | ((repeat (first | rw [if_pos (by omega)] | rw [if_neg (by omega)])); done) | ((repeat (first | rw [if_pos (by omega)] | rw [if_neg (by omega)])); rfl))⟩
      · refine r_aload_n f107_23 rfl ?_
        refine r_iload_n f107_24 rfl ?_
        refine r_callv1u (m' := Y) f107_25 o107 M7_146 p105 o105 kd264 rfl (by simp) (hY (by omega) (by omega) (by omega)) ?_
        refine r_iload_n f107_28 rfl ?_
        exact r_iret f107_29 v107 ⟨zs_eq (by first | rfl | omega | ((repeat (first | rw [if_pos (by omega)] | rw [if_neg (by omega)])) <;> first | rfl | omega)), (by first | rfl | ((repeat (first | rw [if_pos (by omega)] | rw [if_neg (by omega)])); done) | ((repeat (first | rw [if_pos (by omega)] | rw [if_neg (by omega)])); rfl))⟩
    · refine r_top (e := -3) (by rw [if_pos q1, if_neg q2]) ?_
      refine r_istore_n f107_5 rfl (ls' := [some (.inr (.inl (some 264))), some (.inl c), some (.inl (-3)), none]) rfl ?_
      refine r_iload_n f107_6 rfl ?_
      refine r_zeq f107_7 (t := 12) (by decide) (fun h => absurd h (by omega)) (fun _ => ?_)
      refine r_iload_n f107_10 rfl ?_
      exact r_iret f107_11 v107 ⟨zs_eq (by first | rfl | omega | ((repeat (first | rw [if_pos (by omega)] | rw [if_neg (by omega)])) <;> first | rfl | omega)), (by first | rfl | ((repeat (first | rw [if_pos (by omega)] | rw [if_neg (by omega)])); done) | ((repeat (first | rw [if_pos (by omega)] | rw [if_neg (by omega)])); rfl))⟩
  · refine r_top (e := -2) (by rw [if_neg q1]) ?_
    refine r_istore_n f107_5 rfl (ls' := [some (.inr (.inl (some 264))), some (.inl c), some (.inl (-2)), none]) rfl ?_
    refine r_iload_n f107_6 rfl ?_
    refine r_zeq f107_7 (t := 12) (by decide) (fun h => absurd h (by omega)) (fun _ => ?_)
    refine r_iload_n f107_10 rfl ?_
    exact r_iret f107_11 v107 ⟨zs_eq (by first | rfl | omega | ((repeat (first | rw [if_pos (by omega)] | rw [if_neg (by omega)])) <;> first | rfl | omega)), (by first | rfl | ((repeat (first | rw [if_pos (by omega)] | rw [if_neg (by omega)])); done) | ((repeat (first | rw [if_pos (by omega)] | rw [if_neg (by omega)])); rfl))⟩

theorem pr_give {L : Nat} {T : Int} {m : zmem} (hs : Sim T m m) (c : Int) : zPr L 51 107 [.inl c] T m := by
  have s1 := hs.s1
  unfold S1 at s1
  by_cases hg : (0 ≤ c ∧ c < m 264 10)
  · have k5 := hs.s5 c (by omega) (by omega)
    have hg2 : (0 ≤ c ∧ c < m 0 6) := by omega
    by_cases hc : (m 275 c = 0 ∧ m 264 9 ≤ m 272 c)
    · have hc2 : (m (64 + 5 * c) 7 = 0 ∧ m 0 7 ≤ m (64 + 5 * c) 5) := by omega
      obtain ⟨X, M, h1, h2, h3, h4, h5⟩ := give_both (L := L) (d := 3) (e := 2) hs hg.1 hg.2 hc.1 hc.2
      have gx := t_Xgive (L := L) (d := 3) (m := m) (c := c) (by omega) (by omega) (fun _ _ => h4)
      rw [if_pos hg2, if_pos hg2, if_pos hc2, if_pos hc2] at gx
      refine zPr_of gx h2 (fun m1 ha => ?_) (Sim_T h1 (by omega))
      obtain ⟨w1, Y, w2, w3, w4, w5⟩ := h5 m1 ha
      have gm := t_Mgive (L := L) (d := 2) ha (c := c) (by omega) (by omega) (fun _ _ => w1) (fun _ _ => w2)
      rw [if_pos hg, if_pos hg, if_pos hc, if_pos hc] at gm
      by_cases hv : zff (MBr m c) 0 (m 273 c).toNat = -1
      · rw [if_pos hv] at gm
        exact ⟨_, _, gm, rfl, w4, w5⟩
      · rw [if_neg hv] at gm
        rw [w3 hv] at w4 w5
        exact ⟨_, _, gm, rfl, w4, w5⟩
    · have hc2 : ¬ (m (64 + 5 * c) 7 = 0 ∧ m 0 7 ≤ m (64 + 5 * c) 5) := by omega
      have gx := t_Xgive (L := L) (d := 3) (m := m) (c := c) (v := 0) (X := m) (by omega) (by omega) (fun _ h => absurd h hc2)
      rw [if_pos hg2, if_pos hg2, if_neg hc2, if_neg hc2] at gx
      refine zPr_of gx (zan_rf m) (fun m1 ha => ?_) (Sim_T hs (by omega))
      have gm := t_Mgive (L := L) (d := 2) ha (c := c) (v := 0) (Y := m) (by omega) (by omega) (fun _ h => absurd h hc) (fun _ h => absurd h hc)
      rw [if_pos hg, if_pos hg, if_neg hc, if_neg hc] at gm
      exact ⟨_, _, gm, rfl, zac_rf _, ha⟩
  · have hg2 : ¬ (0 ≤ c ∧ c < m 0 6) := by omega
    have gx := t_Xgive (L := L) (d := 3) (m := m) (c := c) (v := 0) (X := m) (by omega) (by omega) (fun h => absurd h hg2)
    rw [if_neg hg2, if_neg hg2] at gx
    refine zPr_of gx (zan_rf m) (fun m1 ha => ?_) (Sim_T hs (by omega))
    have gm := t_Mgive (L := L) (d := 2) ha (c := c) (v := 0) (Y := m) (by omega) (by omega) (fun h => absurd h hg) (fun h => absurd h hg)
    rw [if_neg hg, if_neg hg] at gm
    exact ⟨_, _, gm, rfl, zac_rf _, ha⟩
