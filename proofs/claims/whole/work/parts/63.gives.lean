/-- the model's memory with a status set agrees with b -/
theorem zas_p {m1 b : zmem} {c v : Int} (hz : zan (zu m1 275 c v) b) {p : Int} (h : p ≠ 281 ∧ 264 ≤ p) (h2 : p ≠ 282) (h3 : p ≠ 283) (h4 : p ≠ 275) : m1 p = b p := by
  rw [← hz p h h2 h3, zu_ne h4]
theorem zas_F {m1 b : zmem} {c v : Int} (hz : zan (zu m1 275 c v) b) : MF m1 = MF b :=
  MF_e (congrFun (zas_p hz (by omega) (by omega) (by omega) (by omega)) 10) (zas_p hz (by omega) (by omega) (by omega) (by omega)) (zas_p hz (by omega) (by omega) (by omega) (by omega)) (zas_p hz (by omega) (by omega) (by omega) (by omega)) (zas_p hz (by omega) (by omega) (by omega) (by omega)) (zas_p hz (by omega) (by omega) (by omega) (by omega)) (zas_p hz (by omega) (by omega) (by omega) (by omega)) (zas_p hz (by omega) (by omega) (by omega) (by omega))
theorem zas_ok {m1 b : zmem} {c v : Int} (hz : zan (zu m1 275 c v) b) (h : MOk b) : MOk m1 := by
  unfold MOk at h ⊢
  rw [zas_p hz (p := 264) (by omega) (by omega) (by omega) (by omega), zas_p hz (p := 272) (by omega) (by omega) (by omega) (by omega), zas_p hz (p := 273) (by omega) (by omega) (by omega) (by omega), zas_p hz (p := 277) (by omega) (by omega) (by omega) (by omega), zas_p hz (p := 265) (by omega) (by omega) (by omega) (by omega), zas_p hz (p := 269) (by omega) (by omega) (by omega) (by omega)]
  exact h
theorem zas_rng {m1 b : zmem} {c v : Int} (hz : zan (zu m1 275 c v) b) (h : MRng b) : MRng m1 := by
  unfold MRng at h ⊢
  rw [zas_p hz (p := 264) (by omega) (by omega) (by omega) (by omega), zas_F hz]
  exact h
theorem zas_1 {m1 b : zmem} {c i : Int} (hz : zan (zu m1 275 c 1) b) : zan (zu (MLs m1 m1 c i) 275 c 1) (ML1 b c i) := by
  have h1 : zan (zu (MLs m1 m1 c i) 275 c 1) (zu (ML1 m1 c i) 275 c 1) := zan_w (MLs_an (zan_rf m1))
  refine zan_tr h1 ?_
  unfold ML1
  rw [← MYa_sh, zas_F hz, zas_p hz (p := 274) (by omega) (by omega) (by omega) (by omega), zas_p hz (p := 272) (by omega) (by omega) (by omega) (by omega), zas_p hz (p := 271) (by omega) (by omega) (by omega) (by omega)]
  unfold MYa
  exact zan_w (zan_w (zan_w (zan_w hz)))
theorem l_gives {L d : Nat} {T c : Int} : ∀ (n : Nat) (i : Int) (m1 a b : zmem), Sim T a b → zan (zu m1 275 c 1) b → 0 ≤ c → c < b 264 10 → 0 ≤ i → i + n = b 273 c → ¬ b 275 c = 0 → Lay b c i → ∃ M, zac M m1 ∧ zan (zu M 275 c 1) (MLy c n i b) ∧ ∀ Q : Option zV → zM → Prop, zR (d + 5) 105 24 [some (.inr (.inl (some 264))), some (.inl c), some (.inl (b 273 c))] [] (zem L M) Q → zR (d + 5) 105 2 [some (.inr (.inl (some 264))), some (.inl c), some (.inl i)] [] (zem L m1) Q
  | 0, i, m1, a, b, hs, hz, c0, c1, i0, hn, hst, hl => by
    have s1 := hs.s1
    unfold S1 at s1
    have g5 := hs.s5 c c0 (by omega)
    have e273 : m1 273 c = b 273 c := congrFun (zas_p hz (by omega) (by omega) (by omega) (by omega)) c
    refine ⟨m1, zac_rf m1, hz, fun Q hk => ?_⟩
    have ei : i = b 273 c := by omega
    rw [ei]
    refine r_iload_n f105_2 rfl ?_
    refine r_aload_n f105_3 rfl ?_
    refine r_getR f105_4 o105 F7_35 g264_13 rfl ?_
    refine r_iload_n f105_7 rfl ?_
    refine r_iald f105_8 kd273 (by omega) (by omega) ?_
    refine r_top (e := b 273 c) e273 ?_
    refine r_cge f105_9 (t := 24) (by decide) (fun _ => ?_) (fun h => absurd (by omega) h)
    exact hk
  | n + 1, i, m1, a, b, hs, hz, c0, c1, i0, hn, hst, hl => by
    have s1 := hs.s1
    unfold S1 at s1
    have g5 := hs.s5 c c0 (by omega)
    have e273 : m1 273 c = b 273 c := congrFun (zas_p hz (by omega) (by omega) (by omega) (by omega)) c
    have gw := (hs.s6 c c0 (by omega) i i0 (by omega)).2 (by omega)
    have l1 := hl i (by omega) (by omega)
    have p264 : m1 264 = b 264 := zas_p hz (by omega) (by omega) (by omega) (by omega)
    have p271 : m1 271 = b 271 := zas_p hz (by omega) (by omega) (by omega) (by omega)
    have p272 : m1 272 = b 272 := zas_p hz (by omega) (by omega) (by omega) (by omega)
    have p274 : m1 274 = b 274 := zas_p hz (by omega) (by omega) (by omega) (by omega)
    have pF := zas_F hz
    have q := sm_lay1 hs c0 c1 i0 (by omega) hst hl
    have e2640 : ML1 b c i 264 = b 264 := by unfold ML1 MYa; rw [zu_ne (by omega), zu_ne (by omega), zu_ne (by omega), zu_ne (by omega)]
    have e2730 : ML1 b c i 273 = b 273 := by unfold ML1 MYa; rw [zu_ne (by omega), zu_ne (by omega), zu_ne (by omega), zu_ne (by omega)]
    have e2750 : ML1 b c i 275 = b 275 := by unfold ML1 MYa; rw [zu_ne (by omega), zu_ne (by omega), zu_ne (by omega), zu_ne (by omega)]
    obtain ⟨M, z1, z2, z3⟩ := l_gives (L := L) (d := d) n (i + 1) (MLs m1 m1 c i) _ _ q.1 (zas_1 hz) c0 (by rw [e2640]; exact c1) (by omega) (by rw [e2730]; omega) (by rw [e2750]; exact hst) q.2
    refine ⟨M, zac_tr z1 MLs_ac, z2, fun Q hk => ?_⟩
    rw [e2730] at z3
    have z4 := z3 Q hk
    refine r_iload_n f105_2 rfl ?_
    refine r_aload_n f105_3 rfl ?_
    refine r_getR f105_4 o105 F7_35 g264_13 rfl ?_
    refine r_iload_n f105_7 rfl ?_
    refine r_iald f105_8 kd273 (by omega) (by omega) ?_
    refine r_top (e := b 273 c) e273 ?_
    refine r_cge f105_9 (t := 24) (by decide) (fun h => absurd h (by omega)) (fun _ => ?_)
    refine r_aload_n f105_12 rfl ?_
    refine r_iload_n f105_13 rfl ?_
    refine r_iload_n f105_14 rfl ?_
    refine r_callv2u (m' := MLs m1 m1 c i) f105_15 o105 M7_135 p98 o98 kd264 rfl (by simp) (tN_lays (zan_rf m1) (zas_ok hz (Sim_ok hs)) (zas_rng hz (Sim_rng hs)) c0 (by omega) i0 (by omega) (by rw [p274]; exact gw.1) (by rw [p274, p264]; exact gw.2) (by rw [p272]; omega) (by rw [p272]; omega) (by rw [p271]; omega) (by rw [p271, p272, p274, pF]; exact l1.2)) ?_
    refine r_iinc f105_18 rfl rfl rfl (e := i + 1) (by omega) (by omega) (by omega) (ls' := [some (.inr (.inl (some 264))), some (.inl c), some (.inl (i + 1))]) rfl ?_
    refine r_goto f105_21 (t := 2) (by decide) ?_
    exact z4
theorem t_gives {L d : Nat} {T c : Int} {m1 a b : zmem} (hs : Sim T a b) (hz : zan (zu m1 275 c 1) b) (c0 : 0 ≤ c) (c1 : c < b 264 10) (hst : ¬ b 275 c = 0) (hl : Lay b c 0) : ∃ X, zF L (d + 5) 105 [.inr (.inl (some 264)), .inl c] m1 none X ∧ zac X m1 ∧ zan X (MLy c (b 273 c).toNat 0 b) := by
  have s1 := hs.s1
  unfold S1 at s1
  have g5 := hs.s5 c c0 (by omega)
  have e273 : m1 273 c = b 273 c := congrFun (zas_p hz (by omega) (by omega) (by omega) (by omega)) c
  obtain ⟨M, z1, z2, z3⟩ := l_gives (L := L) (d := d) (b 273 c).toNat 0 m1 a b hs hz c0 c1 (by omega) (by omega) hst hl
  refine ⟨zu M 275 c 1, ?_, zac_u z1 (by omega), z2⟩
  refine zF_of n105 (ls := [some (.inr (.inl (some 264))), some (.inl c), none]) rfl ?_
  refine r_iconst f105_0 rfl ?_
  refine r_istore_n f105_1 rfl (ls' := [some (.inr (.inl (some 264))), some (.inl c), some (.inl 0)]) rfl ?_
  refine z3 _ ?_
  refine r_aload_n f105_24 rfl ?_
  refine r_getR f105_25 o105 F7_41 g264_15 rfl ?_
  refine r_iload_n f105_28 rfl ?_
  refine r_iconst f105_29 rfl ?_
  refine r_iast f105_30 kd275 (by omega) (by omega) (by omega) ?_
  exact r_vret f105_31 v105 ⟨rfl, rfl⟩
