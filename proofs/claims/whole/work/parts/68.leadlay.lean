theorem zu_id {m : zmem} {p k v : Int} (h : m p k = v) : zu m p k v = m := by
  funext x y
  rw [zu_if]
  by_cases e : x = p ∧ y = k
  · rw [if_pos e, e.1, e.2, h]
  · rw [if_neg e]
theorem zWw_zu {m : zmem} {p k v c f n : Int} {P : Int → Int} (hp : ¬ p = 274) : zWw (zu m p k v) c f n P = zu (zWw m c f n P) p k v := by
  funext x y
  unfold zWw
  rw [zu_if, zu_if]
  by_cases e : x = 274 ∧ 7 * c + f ≤ y ∧ y < 7 * c + n
  · rw [if_pos e, if_neg (by omega), if_pos e]
  · rw [if_neg e, if_neg e]
/-- a chain cut short behind its last laid night -/
theorem MF_cut {T : Int} {a b : zmem} (hs : Sim T a b) {c f : Int} (c0 : 0 ≤ c) (c1 : c < 40) (f0 : 0 ≤ f) (f1 : f < b 273 c) (hu : ∀ k, f + 1 ≤ k → k < b 273 c → b 276 (7 * c + k) = 0) : MF (zu b 273 c (f + 1)) = MF b := by
  have g5 := hs.s5 c c0 c1
  have ee : MCf (zu b 273 c (f + 1)) = MCf b := by
    funext h e t i
    unfold MCf MH
    rw [zu_ne (a := 272) (by omega), zu_ne (a := 274) (by omega), zu_ne (a := 276) (by omega), zu_ne (a := 277) (by omega)]
    by_cases q : i = c
    · have ev : zu b 273 c (f + 1) 273 i = f + 1 := by rw [q]; exact zu_at
      rw [ev]
      subst q
      by_cases z : b 276 (7 * i + t - b 272 i) = 0
      · rw [if_neg (fun x => x.2.1 z), if_neg (fun x => x.2.1 z)]
      · by_cases y : 0 ≤ t - b 272 i ∧ t - b 272 i < b 273 i
        · have y2 : t - b 272 i < f + 1 := by
            refine Decidable.byContradiction (fun no => z ?_)
            have g := hu (t - b 272 i) (by omega) y.2
            rw [show 7 * i + (t - b 272 i) = 7 * i + t - b 272 i by omega] at g
            exact g
          by_cases x : b 274 (7 * i + t - b 272 i) = h
          · rw [if_pos ⟨⟨y.1, y2⟩, z, x⟩, if_pos ⟨y, z, x⟩]
          · rw [if_neg (fun u => x u.2.2), if_neg (fun u => x u.2.2)]
        · rw [if_neg (fun x => y ⟨x.1.1, by have := x.1.2; omega⟩), if_neg (fun x => y x.1)]
    · rw [zu_ne2 q]
  funext h e t
  unfold MF
  rw [ee, zu_ne (a := 264) (by omega), zu_ne (a := 265) (by omega), zu_ne (a := 269) (by omega)]
theorem sm_cut {T : Int} {a b : zmem} (hs : Sim T a b) {c f : Int} (c0 : 0 ≤ c) (c1 : c < b 264 10) (f0 : 0 ≤ f) (f1 : f < b 273 c) (ef : f = b 264 9 - b 272 c) (hu : ∀ k, f + 1 ≤ k → k < b 273 c → b 276 (7 * c + k) = 0) : Sim (T) (zu a (64 + 5 * c) 6 (f + 1)) (zu b 273 c (f + 1)) := by
  have s1 := hs.s1
  unfold S1 at s1
  have cS1 : S1 (T) (zu a (64 + 5 * c) 6 (f + 1)) (zu b 273 c (f + 1)) := by
    unfold S1
    (repeat (first | rw [zu_ne (by omega)] | rw [zu_ne2 (by omega)] | rw [zfu_ne (by omega)] | rw [zu_if, if_pos (by omega)]))
    omega
  have cS2 : S2 (zu a (64 + 5 * c) 6 (f + 1)) (zu b 273 c (f + 1)) := S2_f hs.s2 (fun h h0 h1 => by (repeat (first | rw [zu_ne (by omega)] | rw [zu_ne2 (by omega)] | rw [zfu_ne (by omega)] | rw [zu_if, if_pos (by omega)])) <;> rfl) (fun h h0 h1 => by (repeat (first | rw [zu_ne (by omega)] | rw [zu_ne2 (by omega)] | rw [zfu_ne (by omega)] | rw [zu_if, if_pos (by omega)])) <;> rfl) (by (repeat (first | rw [zu_ne (by omega)] | rw [zu_ne2 (by omega)] | rw [zfu_ne (by omega)] | rw [zu_if, if_pos (by omega)])) <;> rfl) (by (repeat (first | rw [zu_ne (by omega)] | rw [zu_ne2 (by omega)] | rw [zfu_ne (by omega)] | rw [zu_if, if_pos (by omega)])) <;> rfl)
  have cS3 : S3 (zu a (64 + 5 * c) 6 (f + 1)) (zu b 273 c (f + 1)) := S3_f hs.s3 (fun h h0 h1 => by (repeat (first | rw [zu_ne (by omega)] | rw [zu_ne2 (by omega)] | rw [zfu_ne (by omega)] | rw [zu_if, if_pos (by omega)])) <;> rfl) (by (repeat (first | rw [zu_ne (by omega)] | rw [zu_ne2 (by omega)] | rw [zfu_ne (by omega)] | rw [zu_if, if_pos (by omega)])) <;> rfl)
  have cS4 : S4 (zu a (64 + 5 * c) 6 (f + 1)) (zu b 273 c (f + 1)) := S4_f hs.s4 (fun h h0 h1 => by (repeat (first | rw [zu_ne (by omega)] | rw [zu_ne2 (by omega)] | rw [zfu_ne (by omega)] | rw [zu_if, if_pos (by omega)])) <;> rfl) (by (repeat (first | rw [zu_ne (by omega)] | rw [zu_ne2 (by omega)] | rw [zfu_ne (by omega)] | rw [zu_if, if_pos (by omega)])) <;> rfl)
  have cS5 : S5 (zu a (64 + 5 * c) 6 (f + 1)) (zu b 273 c (f + 1)) := by
    intro k k0 k1
    have g := hs.s5 k k0 k1
    by_cases e : k = c
    · subst e
      (repeat (first | rw [zu_ne (by omega)] | rw [zu_ne2 (by omega)] | rw [zfu_ne (by omega)] | rw [zu_if, if_pos (by omega)])); omega
    · (repeat (first | rw [zu_ne (by omega)] | rw [zu_ne2 (by omega)] | rw [zfu_ne (by omega)] | rw [zu_if, if_pos (by omega)])); omega
  have cS6 : S6 (zu a (64 + 5 * c) 6 (f + 1)) (zu b 273 c (f + 1)) := by
    intro k k0 k1 u u0 u1
    have g := hs.s6 k k0 k1 u u0 u1
    by_cases e : k = c
    · subst e
      (repeat (first | rw [zu_ne (by omega)] | rw [zu_ne2 (by omega)] | rw [zfu_ne (by omega)] | rw [zu_if, if_pos (by omega)])); omega
    · (repeat (first | rw [zu_ne (by omega)] | rw [zu_ne2 (by omega)] | rw [zfu_ne (by omega)] | rw [zu_if, if_pos (by omega)])); omega
  have cS7 : S7 (zu a (64 + 5 * c) 6 (f + 1)) (zu b 273 c (f + 1)) := S7_f hs.s7 (fun c c0 c1 => by (repeat (first | rw [zu_ne (by omega)] | rw [zu_ne2 (by omega)] | rw [zfu_ne (by omega)] | rw [zu_if, if_pos (by omega)])) <;> rfl) (by (repeat (first | rw [zu_ne (by omega)] | rw [zu_ne2 (by omega)] | rw [zfu_ne (by omega)] | rw [zu_if, if_pos (by omega)])) <;> rfl)
  have cS8 : S8 (zu a (64 + 5 * c) 6 (f + 1)) (zu b 273 c (f + 1)) := by
    intro k k0 k1
    have g := hs.s8 k k0 k1
    by_cases e : k = c
    · subst e
      (repeat (first | rw [zu_ne (by omega)] | rw [zu_ne2 (by omega)] | rw [zfu_ne (by omega)] | rw [zu_if, if_pos (by omega)]))
      refine ⟨g.1, fun h => g.2.1 ⟨h.1, by omega⟩, fun h => absurd (by omega) h, g.2.2.2.1, g.2.2.2.2⟩
    · (repeat (first | rw [zu_ne (by omega)] | rw [zu_ne2 (by omega)] | rw [zfu_ne (by omega)] | rw [zu_if, if_pos (by omega)])); exact g
  have cS9 : S9 (zu a (64 + 5 * c) 6 (f + 1)) (zu b 273 c (f + 1)) := by
    intro k k0 k1 u u0 u1
    have g := hs.s9 k k0 k1 u u0 u1
    by_cases e : k = c
    · subst e
      have g2 := hu u
      (repeat (first | rw [zu_ne (by omega)] | rw [zu_ne2 (by omega)] | rw [zfu_ne (by omega)] | rw [zu_if, if_pos (by omega)]))
      refine ⟨g.1, g.2.1, fun h => ?_⟩
      have g3 := g.2.2 h
      exact ⟨by omega, g3.2⟩
    · (repeat (first | rw [zu_ne (by omega)] | rw [zu_ne2 (by omega)] | rw [zfu_ne (by omega)] | rw [zu_if, if_pos (by omega)])); exact g
  have cS10 : S10 (zu a (64 + 5 * c) 6 (f + 1)) (zu b 273 c (f + 1)) := by
    exact S10_c hs.s10 (fun h h0 h1 => by (repeat (first | rw [zu_ne (by omega)] | rw [zu_ne2 (by omega)] | rw [zfu_ne (by omega)] | rw [zu_if, if_pos (by omega)]))) (by rw [zu_ne (by omega)]) (MF_cut hs c0 (by omega) f0 f1 hu)
  have cS11 : S11 (zu a (64 + 5 * c) 6 (f + 1)) (zu b 273 c (f + 1)) := S11_f hs.s11 (fun h h0 h1 => by (repeat (first | rw [zu_ne (by omega)] | rw [zu_ne2 (by omega)] | rw [zfu_ne (by omega)] | rw [zu_if, if_pos (by omega)])) <;> rfl) (fun h h0 h1 => by (repeat (first | rw [zu_ne (by omega)] | rw [zu_ne2 (by omega)] | rw [zfu_ne (by omega)] | rw [zu_if, if_pos (by omega)])) <;> rfl) (by (repeat (first | rw [zu_ne (by omega)] | rw [zu_ne2 (by omega)] | rw [zfu_ne (by omega)] | rw [zu_if, if_pos (by omega)])) <;> rfl) (by (repeat (first | rw [zu_ne (by omega)] | rw [zu_ne2 (by omega)] | rw [zfu_ne (by omega)] | rw [zu_if, if_pos (by omega)])) <;> rfl) (by (repeat (first | rw [zu_ne (by omega)] | rw [zu_ne2 (by omega)] | rw [zfu_ne (by omega)] | rw [zu_if, if_pos (by omega)])) <;> rfl)
  have cS12 : S12 (zu a (64 + 5 * c) 6 (f + 1)) (zu b 273 c (f + 1)) := S12_f hs.s12 (by (repeat (first | rw [zu_ne (by omega)] | rw [zu_ne2 (by omega)] | rw [zfu_ne (by omega)] | rw [zu_if, if_pos (by omega)])) <;> rfl) (by (repeat (first | rw [zu_ne (by omega)] | rw [zu_ne2 (by omega)] | rw [zfu_ne (by omega)] | rw [zu_if, if_pos (by omega)])) <;> rfl) (by (repeat (first | rw [zu_ne (by omega)] | rw [zu_ne2 (by omega)] | rw [zfu_ne (by omega)] | rw [zu_if, if_pos (by omega)])) <;> rfl) (by (repeat (first | rw [zu_ne (by omega)] | rw [zu_ne2 (by omega)] | rw [zfu_ne (by omega)] | rw [zu_if, if_pos (by omega)])) <;> rfl) (by (repeat (first | rw [zu_ne (by omega)] | rw [zu_ne2 (by omega)] | rw [zfu_ne (by omega)] | rw [zu_if, if_pos (by omega)])) <;> rfl) (by (repeat (first | rw [zu_ne (by omega)] | rw [zu_ne2 (by omega)] | rw [zfu_ne (by omega)] | rw [zu_if, if_pos (by omega)])) <;> rfl) (by (repeat (first | rw [zu_ne (by omega)] | rw [zu_ne2 (by omega)] | rw [zfu_ne (by omega)] | rw [zu_if, if_pos (by omega)])) <;> rfl) (by (repeat (first | rw [zu_ne (by omega)] | rw [zu_ne2 (by omega)] | rw [zfu_ne (by omega)] | rw [zu_if, if_pos (by omega)])) <;> rfl) (by (repeat (first | rw [zu_ne (by omega)] | rw [zu_ne2 (by omega)] | rw [zfu_ne (by omega)] | rw [zu_if, if_pos (by omega)])) <;> rfl) (by (repeat (first | rw [zu_ne (by omega)] | rw [zu_ne2 (by omega)] | rw [zfu_ne (by omega)] | rw [zu_if, if_pos (by omega)])) <;> rfl)
  have cS13 : S13 (zu a (64 + 5 * c) 6 (f + 1)) (zu b 273 c (f + 1)) := S13_f hs.s13 (by (repeat (first | rw [zu_ne (by omega)] | rw [zu_ne2 (by omega)] | rw [zfu_ne (by omega)] | rw [zu_if, if_pos (by omega)])) <;> rfl) (by (repeat (first | rw [zu_ne (by omega)] | rw [zu_ne2 (by omega)] | rw [zfu_ne (by omega)] | rw [zu_if, if_pos (by omega)])) <;> rfl) (by (repeat (first | rw [zu_ne (by omega)] | rw [zu_ne2 (by omega)] | rw [zfu_ne (by omega)] | rw [zu_if, if_pos (by omega)])) <;> rfl) (by (repeat (first | rw [zu_ne (by omega)] | rw [zu_ne2 (by omega)] | rw [zfu_ne (by omega)] | rw [zu_if, if_pos (by omega)])) <;> rfl)
  have cS14 : S14 (zu a (64 + 5 * c) 6 (f + 1)) (zu b 273 c (f + 1)) := S14_f hs.s14 (by (repeat (first | rw [zu_ne (by omega)] | rw [zu_ne2 (by omega)] | rw [zfu_ne (by omega)] | rw [zu_if, if_pos (by omega)])) <;> rfl) (by (repeat (first | rw [zu_ne (by omega)] | rw [zu_ne2 (by omega)] | rw [zfu_ne (by omega)] | rw [zu_if, if_pos (by omega)])) <;> rfl) (by (repeat (first | rw [zu_ne (by omega)] | rw [zu_ne2 (by omega)] | rw [zfu_ne (by omega)] | rw [zu_if, if_pos (by omega)])) <;> rfl)
  have cS15 : S15 (zu a (64 + 5 * c) 6 (f + 1)) (zu b 273 c (f + 1)) := by
    intro k k0 k1
    have g := hs.s15 k k0 k1
    by_cases e : k = c
    · subst e
      (repeat (first | rw [zu_ne (by omega)] | rw [zu_ne2 (by omega)] | rw [zfu_ne (by omega)] | rw [zu_if, if_pos (by omega)]))
      exact ⟨fun _ _ => by omega, g.2⟩
    · (repeat (first | rw [zu_ne (by omega)] | rw [zu_ne2 (by omega)] | rw [zfu_ne (by omega)] | rw [zu_if, if_pos (by omega)])); exact g
  have cS16 : S16 (zu a (64 + 5 * c) 6 (f + 1)) (zu b 273 c (f + 1)) := S16_f hs.s16 (by (repeat (first | rw [zu_ne (by omega)] | rw [zu_ne2 (by omega)] | rw [zfu_ne (by omega)] | rw [zu_if, if_pos (by omega)])) <;> rfl) (by (repeat (first | rw [zu_ne (by omega)] | rw [zu_ne2 (by omega)] | rw [zfu_ne (by omega)] | rw [zu_if, if_pos (by omega)])) <;> rfl) (by (repeat (first | rw [zu_ne (by omega)] | rw [zu_ne2 (by omega)] | rw [zfu_ne (by omega)] | rw [zu_if, if_pos (by omega)])) <;> rfl)
  exact ⟨cS1, cS2, cS3, cS4, cS5, cS6, cS7, cS8, cS9, cS10, cS11, cS12, cS13, cS14, cS15, cS16⟩
theorem zaw_p {m1 b : zmem} {c i N : Int} {P : Int → Int} (hz : zan (zWw m1 c i N P) b) {p : Int} (h : p ≠ 281 ∧ 264 ≤ p) (h2 : p ≠ 282) (h3 : p ≠ 283) (h4 : ¬ p = 274) : m1 p = b p := by
  rw [← hz p h h2 h3, zWw_n h4]
theorem zaw_1 {m1 b : zmem} {c i N : Int} {P : Int → Int} (i1 : i < N) (hz : zan (zWw m1 c i N P) b) (pF : MF (zu m1 274 (7 * c + i) (P i)) = MF b) : zan (zWw (MLs (zu m1 274 (7 * c + i) (P i)) (zu m1 274 (7 * c + i) (P i)) c i) c (i + 1) N P) (ML1 b c i) := by
  refine zan_tr (zWw_an (MLs_an (zan_rf _))) ?_
  have e4 : (zu m1 274 (7 * c + i) (P i)) 274 (7 * c + i) = b 274 (7 * c + i) := by
    rw [zu_at, ← hz 274 (by omega) (by omega) (by omega), zWw_i (by omega) i1]
  have e2 : (zu m1 274 (7 * c + i) (P i)) 272 = b 272 := by rw [zu_ne (by omega)]; exact zaw_p hz (by omega) (by omega) (by omega) (by omega)
  have e1 : (zu m1 274 (7 * c + i) (P i)) 271 = b 271 := by rw [zu_ne (by omega)]; exact zaw_p hz (by omega) (by omega) (by omega) (by omega)
  unfold ML1
  rw [pF, e4, e2, e1]
  unfold MYa
  rw [zWw_zu (by omega), zWw_zu (by omega), zWw_zu (by omega), zWw_zu (by omega), zWw_h i1 rfl]
  exact zan_w (zan_w (zan_w (zan_w hz)))
theorem l_leadlay {L d : Nat} {T c f q : Int} {P : Int → Int} : ∀ (n : Nat) (i : Int) (m1 a b : zmem), Sim T a b → zan (zWw m1 c i (b 273 c) P) b → (∀ k, i ≤ k → k < b 273 c → m1 283 k = P k) → 0 ≤ c → c < b 264 10 → 0 ≤ i → i + n = b 273 c → ¬ b 275 c = 0 → Lay b c i → ∃ M, zac M m1 ∧ zan M (MLy c n i b) ∧ ∀ Q : Option zV → zM → Prop, zR (d + 5) 115 208 [some (.inr (.inl (some 264))), some (.inl c), some (.inl f), some (.inl q), some (.inl 1), some (.inl (b 273 c))] [] (zem L M) Q → zR (d + 5) 115 165 [some (.inr (.inl (some 264))), some (.inl c), some (.inl f), some (.inl q), some (.inl 1), some (.inl i)] [] (zem L m1) Q
  | 0, i, m1, a, b, hs, hz, hP, c0, c1, i0, hn, hst, hl => by
    have s1 := hs.s1
    unfold S1 at s1
    have g5 := hs.s5 c c0 (by omega)
    have e273 : m1 273 c = b 273 c := congrFun (zaw_p hz (by omega) (by omega) (by omega) (by omega)) c
    have ei : i = b 273 c := by omega
    refine ⟨m1, zac_rf m1, (by rw [ei, zWw_0] at hz; exact hz), fun Q hk => ?_⟩
    rw [ei]
    refine r_iload f115_165 rfl ?_
    refine r_aload_n f115_167 rfl ?_
    refine r_getR f115_168 o115 F7_35 g264_13 rfl ?_
    refine r_iload_n f115_171 rfl ?_
    refine r_iald f115_172 kd273 (by omega) (by omega) ?_
    refine r_top (e := b 273 c) e273 ?_
    refine r_cge f115_173 (t := 208) (by decide) (fun _ => ?_) (fun h => absurd (by omega) h)
    exact hk
  | n + 1, i, m1, a, b, hs, hz, hP, c0, c1, i0, hn, hst, hl => by
    have s1 := hs.s1
    unfold S1 at s1
    have g5 := hs.s5 c c0 (by omega)
    have e273 : m1 273 c = b 273 c := congrFun (zaw_p hz (by omega) (by omega) (by omega) (by omega)) c
    have gw := (hs.s6 c c0 (by omega) i i0 (by omega)).2 (by omega)
    have l1 := hl i (by omega) (by omega)
    have p264 : (zu m1 274 (7 * c + i) (P i)) 264 = b 264 := by rw [zu_ne (by omega)]; exact zaw_p hz (by omega) (by omega) (by omega) (by omega)
    have p265 : (zu m1 274 (7 * c + i) (P i)) 265 = b 265 := by rw [zu_ne (by omega)]; exact zaw_p hz (by omega) (by omega) (by omega) (by omega)
    have p269 : (zu m1 274 (7 * c + i) (P i)) 269 = b 269 := by rw [zu_ne (by omega)]; exact zaw_p hz (by omega) (by omega) (by omega) (by omega)
    have p271 : (zu m1 274 (7 * c + i) (P i)) 271 = b 271 := by rw [zu_ne (by omega)]; exact zaw_p hz (by omega) (by omega) (by omega) (by omega)
    have p272 : (zu m1 274 (7 * c + i) (P i)) 272 = b 272 := by rw [zu_ne (by omega)]; exact zaw_p hz (by omega) (by omega) (by omega) (by omega)
    have p273 : (zu m1 274 (7 * c + i) (P i)) 273 = b 273 := by rw [zu_ne (by omega)]; exact zaw_p hz (by omega) (by omega) (by omega) (by omega)
    have p276 : (zu m1 274 (7 * c + i) (P i)) 276 = b 276 := by rw [zu_ne (by omega)]; exact zaw_p hz (by omega) (by omega) (by omega) (by omega)
    have p277 : (zu m1 274 (7 * c + i) (P i)) 277 = b 277 := by rw [zu_ne (by omega)]; exact zaw_p hz (by omega) (by omega) (by omega) (by omega)
    have p274 : (zu m1 274 (7 * c + i) (P i)) 274 (7 * c + i) = b 274 (7 * c + i) := by rw [zu_at, ← hz 274 (by omega) (by omega) (by omega), zWw_i (by omega) (by omega)]
    have pF : MF (zu m1 274 (7 * c + i) (P i)) = MF b := by
      rw [← MF_w (b := (zu m1 274 (7 * c + i) (P i))) (c := c) (f := i + 1) (n := b 273 c) (P := P) (fun k x y => by rw [p276]; exact (hl k (by omega) y).1), zWw_h (by omega) rfl]
      exact MF_n hz
    have ok : MOk (zu m1 274 (7 * c + i) (P i)) := by
      have h := Sim_ok hs
      unfold MOk at h ⊢
      rw [p264, p272, p273, p277, p265, p269]
      exact h
    have rg : MRng (zu m1 274 (7 * c + i) (P i)) := by
      have h := Sim_rng hs
      unfold MRng at h ⊢
      rw [p264, pF]
      exact h
    have qq := sm_lay1 hs c0 c1 i0 (by omega) hst hl
    have e2640 : ML1 b c i 264 = b 264 := by unfold ML1 MYa; rw [zu_ne (by omega), zu_ne (by omega), zu_ne (by omega), zu_ne (by omega)]
    have e2730 : ML1 b c i 273 = b 273 := by unfold ML1 MYa; rw [zu_ne (by omega), zu_ne (by omega), zu_ne (by omega), zu_ne (by omega)]
    have e2750 : ML1 b c i 275 = b 275 := by unfold ML1 MYa; rw [zu_ne (by omega), zu_ne (by omega), zu_ne (by omega), zu_ne (by omega)]
    have l283 : ∀ k, i + 1 ≤ k → k < ML1 b c i 273 c → MLs (zu m1 274 (7 * c + i) (P i)) (zu m1 274 (7 * c + i) (P i)) c i 283 k = P k := fun k x y => by
      rw [e2730] at y
      unfold MLs MPt
      rw [zu_ne (by omega), zu_ne (by omega), zu_ne (by omega), zu_ne (by omega), zu_ne (by omega), zu_ne (by omega), zu_ne (by omega), zu_ne (by omega)]
      exact hP k (by omega) y
    obtain ⟨M, z1, z2, z3⟩ := l_leadlay (L := L) (d := d) (f := f) (q := q) (P := P) n (i + 1) (MLs (zu m1 274 (7 * c + i) (P i)) (zu m1 274 (7 * c + i) (P i)) c i) _ _ qq.1 (by rw [e2730]; exact zaw_1 (by omega) hz pF) l283 c0 (by rw [e2640]; exact c1) (by omega) (by rw [e2730]; omega) (by rw [e2750]; exact hst) qq.2
    refine ⟨M, zac_tr z1 (zac_tr MLs_ac (zac_u (zac_rf _) (by omega))), z2, fun Q hk => ?_⟩
    rw [e2730] at z3
    have z4 := z3 Q hk
    refine r_iload f115_165 rfl ?_
    refine r_aload_n f115_167 rfl ?_
    refine r_getR f115_168 o115 F7_35 g264_13 rfl ?_
    refine r_iload_n f115_171 rfl ?_
    refine r_iald f115_172 kd273 (by omega) (by omega) ?_
    refine r_top (e := b 273 c) e273 ?_
    refine r_cge f115_173 (t := 208) (by decide) (fun h => absurd h (by omega)) (fun _ => ?_)
    refine r_aload_n f115_176 rfl ?_
    refine r_getR f115_177 o115 F7_38 g264_14 rfl ?_
    refine r_bipush f115_180 (by decide) ?_
    refine r_iload_n f115_182 rfl ?_
    refine r_imul f115_183 (e := 7 * c) (by omega) (by omega) (by omega) ?_
    refine r_iload f115_184 rfl ?_
    refine r_iadd f115_186 (e := 7 * c + i) (by omega) (by omega) (by omega) ?_
    refine r_aload_n f115_187 rfl ?_
    refine r_getR f115_188 o115 F7_65 g264_23 rfl ?_
    refine r_iload f115_191 rfl ?_
    refine r_iald f115_193 kd283 (by omega) (by omega) ?_
    refine r_top (e := P i) (hP i (by omega) (by omega)) ?_
    refine r_iast f115_194 kd274 (by omega) (by omega) (by omega) ?_
    refine r_aload_n f115_195 rfl ?_
    refine r_iload_n f115_196 rfl ?_
    refine r_iload f115_197 rfl ?_
    refine r_callv2u (m' := MLs (zu m1 274 (7 * c + i) (P i)) (zu m1 274 (7 * c + i) (P i)) c i) f115_199 o115 M7_135 p98 o98 kd264 rfl (by simp) (tN_lays (zan_rf _) ok rg c0 (by omega) i0 (by omega) (by rw [p274]; exact gw.1) (by rw [p274, p264]; exact gw.2) (by rw [p272]; omega) (by rw [p272]; omega) (by rw [p271]; omega) (by rw [p271, p272, p274, pF]; exact l1.2)) ?_
    refine r_iinc f115_202 rfl rfl rfl (e := i + 1) (by omega) (by omega) (by omega) (ls' := [some (.inr (.inl (some 264))), some (.inl c), some (.inl f), some (.inl q), some (.inl 1), some (.inl (i + 1))]) rfl ?_
    refine r_goto f115_205 (t := 165) (by decide) ?_
    exact z4
