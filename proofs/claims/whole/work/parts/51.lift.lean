theorem zsum_1 {f g : Int → Int} {c : Int} (c0 : 0 ≤ c) (h : ∀ k, 0 ≤ k → ¬ k = c → f k = g k) : ∀ n : Nat, c < n → zsum f n = zsum g n + (f c - g c)
  | 0, q => by omega
  | n + 1, q => by
    have e : ((n + 1 : Nat) : Int) = (n : Int) + 1 := by omega
    rw [e, zsum_s (by omega), zsum_s (by omega)]
    by_cases hc : c = n
    · have e2 : zsum f (n : Int) = zsum g (n : Int) := zsum_c (fun k k0 k1 => h k k0 (by omega))
      rw [e2, hc]
      omega
    · have ih := zsum_1 c0 h n (by omega)
      have e3 := h n (by omega) (fun x => hc x.symm)
      omega
theorem MF_9 {b : zmem} (ok : MOk b) {h e t : Int} (h0 : 0 ≤ h) (h1 : h < 12) (e0 : 0 ≤ e) (e1 : e < 3) (t0 : 0 ≤ t) (t1 : t < 40) : MF b h e t ≤ 9 := by
  have b1 := ok.2.2.2.2.1 (e + 3 * h) (by omega) (by omega)
  have b2 := ok.2.2.2.2.2 (e + 120 * h + 3 * t) (by omega) (by omega)
  have b3 := zsum_b (f := MCf b h e t) (A := 0) (B := 9) (n := b 264 10) ok.1.1 (fun k k0 k1 => by
    have ok1 := ok.1
    have g := ok.2.2.1 k k0 (by omega)
    unfold MCf MH
    split
    · next q =>
      exact ok.2.2.2.1 _ (by omega) (by omega)
    · omega)
  have ok1 := ok.1
  unfold MF
  omega
theorem sm_lift {T : Int} {a b : zmem} (hs : Sim T a b) {c i h t : Int} (c0 : 0 ≤ c) (c1 : c < b 264 10) (i0 : 0 ≤ i) (i1 : i < b 273 c) (eh : h = b 274 (7 * c + i)) (et : t = i + b 272 c) (hx : ¬ (i = b 264 9 - b 272 c ∧ b 280 c = 1)) : Sim (T) (XV a h t c i) (zu b 276 (7 * c + i) 0) := by
  have s1 := hs.s1
  unfold S1 at s1
  have p5 := hs.s5 c c0 (by omega)
  have p6 := (hs.s6 c c0 (by omega) i i0 (by omega)).2 i1
  have ph : 0 ≤ h ∧ h < 12 := by omega
  have pt : 0 ≤ t ∧ t < 40 := by omega
  have cS1 : S1 (T) (XV a h t c i) (zu b 276 (7 * c + i) 0) := by
    unfold S1 XV
    (repeat (first | rw [zu_ne (by omega)] | rw [zu_ne2 (by omega)] | rw [zfu_ne (by omega)] | rw [zu_if, if_pos (by omega)]))
    omega
  have cS2 : S2 (XV a h t c i) (zu b 276 (7 * c + i) 0) := S2_f hs.s2 (fun h h0 h1 => by unfold XV; (repeat (first | rw [zu_ne (by omega)] | rw [zu_ne2 (by omega)] | rw [zfu_ne (by omega)] | rw [zu_if, if_pos (by omega)])) <;> rfl) (fun h h0 h1 => by unfold XV; (repeat (first | rw [zu_ne (by omega)] | rw [zu_ne2 (by omega)] | rw [zfu_ne (by omega)] | rw [zu_if, if_pos (by omega)])) <;> rfl) (by (repeat (first | rw [zu_ne (by omega)] | rw [zu_ne2 (by omega)] | rw [zfu_ne (by omega)] | rw [zu_if, if_pos (by omega)])) <;> rfl) (by (repeat (first | rw [zu_ne (by omega)] | rw [zu_ne2 (by omega)] | rw [zfu_ne (by omega)] | rw [zu_if, if_pos (by omega)])) <;> rfl)
  have cS3 : S3 (XV a h t c i) (zu b 276 (7 * c + i) 0) := S3_f hs.s3 (fun h h0 h1 => by unfold XV; (repeat (first | rw [zu_ne (by omega)] | rw [zu_ne2 (by omega)] | rw [zfu_ne (by omega)] | rw [zu_if, if_pos (by omega)])) <;> rfl) (by (repeat (first | rw [zu_ne (by omega)] | rw [zu_ne2 (by omega)] | rw [zfu_ne (by omega)] | rw [zu_if, if_pos (by omega)])) <;> rfl)
  have cS4 : S4 (XV a h t c i) (zu b 276 (7 * c + i) 0) := S4_f hs.s4 (fun h h0 h1 => by unfold XV; (repeat (first | rw [zu_ne (by omega)] | rw [zu_ne2 (by omega)] | rw [zfu_ne (by omega)] | rw [zu_if, if_pos (by omega)])) <;> rfl) (by (repeat (first | rw [zu_ne (by omega)] | rw [zu_ne2 (by omega)] | rw [zfu_ne (by omega)] | rw [zu_if, if_pos (by omega)])) <;> rfl)
  have cS5 : S5 (XV a h t c i) (zu b 276 (7 * c + i) 0) := S5_f hs.s5 (fun c c0 c1 => by unfold XV; (repeat (first | rw [zu_ne (by omega)] | rw [zu_ne2 (by omega)] | rw [zfu_ne (by omega)] | rw [zu_if, if_pos (by omega)])) <;> rfl) (by (repeat (first | rw [zu_ne (by omega)] | rw [zu_ne2 (by omega)] | rw [zfu_ne (by omega)] | rw [zu_if, if_pos (by omega)])) <;> rfl) (by (repeat (first | rw [zu_ne (by omega)] | rw [zu_ne2 (by omega)] | rw [zfu_ne (by omega)] | rw [zu_if, if_pos (by omega)])) <;> rfl) (by (repeat (first | rw [zu_ne (by omega)] | rw [zu_ne2 (by omega)] | rw [zfu_ne (by omega)] | rw [zu_if, if_pos (by omega)])) <;> rfl) (by (repeat (first | rw [zu_ne (by omega)] | rw [zu_ne2 (by omega)] | rw [zfu_ne (by omega)] | rw [zu_if, if_pos (by omega)])) <;> rfl) (by (repeat (first | rw [zu_ne (by omega)] | rw [zu_ne2 (by omega)] | rw [zfu_ne (by omega)] | rw [zu_if, if_pos (by omega)])) <;> rfl) (by (repeat (first | rw [zu_ne (by omega)] | rw [zu_ne2 (by omega)] | rw [zfu_ne (by omega)] | rw [zu_if, if_pos (by omega)])) <;> rfl) (by (repeat (first | rw [zu_ne (by omega)] | rw [zu_ne2 (by omega)] | rw [zfu_ne (by omega)] | rw [zu_if, if_pos (by omega)])) <;> rfl)
  have cS6 : S6 (XV a h t c i) (zu b 276 (7 * c + i) 0) := S6_f hs.s6 (fun c c0 c1 => by unfold XV; (repeat (first | rw [zu_ne (by omega)] | rw [zu_ne2 (by omega)] | rw [zfu_ne (by omega)] | rw [zu_if, if_pos (by omega)])) <;> rfl) (by (repeat (first | rw [zu_ne (by omega)] | rw [zu_ne2 (by omega)] | rw [zfu_ne (by omega)] | rw [zu_if, if_pos (by omega)])) <;> rfl) (by (repeat (first | rw [zu_ne (by omega)] | rw [zu_ne2 (by omega)] | rw [zfu_ne (by omega)] | rw [zu_if, if_pos (by omega)])) <;> rfl) (by (repeat (first | rw [zu_ne (by omega)] | rw [zu_ne2 (by omega)] | rw [zfu_ne (by omega)] | rw [zu_if, if_pos (by omega)])) <;> rfl)
  have cS7 : S7 (XV a h t c i) (zu b 276 (7 * c + i) 0) := S7_f hs.s7 (fun c c0 c1 => by unfold XV; (repeat (first | rw [zu_ne (by omega)] | rw [zu_ne2 (by omega)] | rw [zfu_ne (by omega)] | rw [zu_if, if_pos (by omega)])) <;> rfl) (by (repeat (first | rw [zu_ne (by omega)] | rw [zu_ne2 (by omega)] | rw [zfu_ne (by omega)] | rw [zu_if, if_pos (by omega)])) <;> rfl)
  have cS8 : S8 (XV a h t c i) (zu b 276 (7 * c + i) 0) := by
    intro k k0 k1
    have g := hs.s8 k k0 k1
    have g5 := hs.s5 k k0 k1
    have e9 : zu b 276 (7 * c + i) 0 264 = b 264 := zu_ne (by omega)
    have e2 : zu b 276 (7 * c + i) 0 272 = b 272 := zu_ne (by omega)
    have e3 : zu b 276 (7 * c + i) 0 273 = b 273 := zu_ne (by omega)
    have e0 : zu b 276 (7 * c + i) 0 280 = b 280 := zu_ne (by omega)
    rw [e9, e2, e3, e0]
    refine ⟨g.1, ?_, g.2.2.1, ?_, fun u u0 u1 => ?_⟩
    · unfold XV; (repeat (first | rw [zu_ne (by omega)] | rw [zu_ne2 (by omega)] | rw [zfu_ne (by omega)] | rw [zu_if, if_pos (by omega)])); exact g.2.1
    · intro hh
      have g4 := g.2.2.2.1 hh
      by_cases ec : k = c
      · subst ec
        rw [zu_ne2 (by omega)]
        exact g4
      · have g9 := g.2.2.1
        rw [zu_ne2 (by omega)]
        exact g4
    · have q1 := g.2.2.2.2 u u0 u1
      unfold XV; (repeat (first | rw [zu_ne (by omega)] | rw [zu_ne2 (by omega)] | rw [zfu_ne (by omega)] | rw [zu_if, if_pos (by omega)])); exact q1
  have cS9 : S9 (XV a h t c i) (zu b 276 (7 * c + i) 0) := by
    intro k k0 k1 u u0 u1
    have g := hs.s9 k k0 k1 u u0 u1
    unfold XV
    by_cases ec : k = c
    · subst ec
      by_cases ei : u = i
      · subst ei
        (repeat (first | rw [zu_ne (by omega)] | rw [zu_ne2 (by omega)] | rw [zfu_ne (by omega)] | rw [zu_if, if_pos (by omega)])); omega
      · (repeat (first | rw [zu_ne (by omega)] | rw [zu_ne2 (by omega)] | rw [zfu_ne (by omega)] | rw [zu_if, if_pos (by omega)])); omega
    · (repeat (first | rw [zu_ne (by omega)] | rw [zu_ne2 (by omega)] | rw [zfu_ne (by omega)] | rw [zu_if, if_pos (by omega)])); omega
  have cS10 : S10 (XV a h t c i) (zu b 276 (7 * c + i) 0) := by
    have k6 := hs.s6 c c0 (by omega) i i0 (by have := hs.s5 c c0 (by omega); omega)
    have k5 := hs.s5 c c0 (by omega)
    have k9 := hs.s9 c c0 (by omega) i i0 (by omega)
    have r0 := hs.s14.2.2 (21 * c + 3 * i) (by omega) (by omega)
    have r1 := hs.s14.2.2 (21 * c + 3 * i + 1) (by omega) (by omega)
    have r2 := hs.s14.2.2 (21 * c + 3 * i + 2) (by omega) (by omega)
    have e9 : zu b 276 (7 * c + i) 0 264 = b 264 := zu_ne (by omega)
    have e2 : zu b 276 (7 * c + i) 0 272 = b 272 := zu_ne (by omega)
    have e3 : zu b 276 (7 * c + i) 0 273 = b 273 := zu_ne (by omega)
    have e4 : zu b 276 (7 * c + i) 0 274 = b 274 := zu_ne (by omega)
    have e5 : zu b 276 (7 * c + i) 0 265 = b 265 := zu_ne (by omega)
    have e6 : zu b 276 (7 * c + i) 0 269 = b 269 := zu_ne (by omega)
    have e7 : zu b 276 (7 * c + i) 0 277 = b 277 := zu_ne (by omega)
    have fz : ∀ g e u, zsum (MCf (zu b 276 (7 * c + i) 0) g e u) (b 264 10) = zsum (MCf b g e u) (b 264 10) + (MCf (zu b 276 (7 * c + i) 0) g e u c - MCf b g e u c) := fun g e u => by
      have q := zsum_1 (f := fun k => if k < 40 then MCf (zu b 276 (7 * c + i) 0) g e u k else 0) (g := fun k => if k < 40 then MCf b g e u k else 0) c0 (fun k k0 kc => by
        try simp only []
        by_cases k4 : k < 40
        · rw [if_pos k4, if_pos k4]
          have g5 := hs.s5 k k0 k4
          unfold MCf MH
          rw [e2, e3, e4, e7]
          by_cases hh : 0 ≤ u - b 272 k ∧ u - b 272 k < b 273 k
          · rw [zu_ne2 (by omega)]
          · rw [if_neg (fun q => hh q.1), if_neg (fun q => hh q.1)]
        · rw [if_neg k4, if_neg k4]) (b 264 10).toNat (by omega)
      rw [Int.toNat_of_nonneg (by omega), if_pos (by omega), if_pos (by omega)] at q
      have a1 : zsum (fun k => if k < 40 then MCf (zu b 276 (7 * c + i) 0) g e u k else 0) (b 264 10) = zsum (MCf (zu b 276 (7 * c + i) 0) g e u) (b 264 10) := zsum_c (fun k k0 k1 => by (try simp only []); rw [if_pos (by omega)])
      have a2 : zsum (fun k => if k < 40 then MCf b g e u k else 0) (b 264 10) = zsum (MCf b g e u) (b 264 10) := zsum_c (fun k k0 k1 => by (try simp only []); rw [if_pos (by omega)])
      rw [a1, a2] at q
      exact q
    have ec : ∀ g e u, 0 ≤ e → e < 3 → MCf (zu b 276 (7 * c + i) 0) g e u c - MCf b g e u c = (if g = h ∧ u = t then 0 - a (66 + 5 * c) (3 * i + e) else 0) := fun g e u q0 q1 => by
      have le : a (66 + 5 * c) (3 * i + e) = (if b 276 (7 * c + i) = 0 then 0 else b 277 (21 * c + (3 * i + e))) := by
        rcases (show e = 0 ∨ e = 1 ∨ e = 2 by omega) with r | r | r
        · subst r
          rw [show 3 * i + 0 = 3 * i by omega]
          split <;> omega
        · subst r
          rw [show 21 * c + (3 * i + 1) = 21 * c + 3 * i + 1 by omega]
          split <;> omega
        · subst r
          rw [show 21 * c + (3 * i + 2) = 21 * c + 3 * i + 2 by omega]
          split <;> omega
      unfold MCf MH
      rw [e2, e3, e4, e7]
      by_cases hu : u = t
      · rw [show 7 * c + u - b 272 c = 7 * c + i by omega]
        have z : zu b 276 (7 * c + i) 0 276 (7 * c + i) = 0 := zu_at
        rw [z, if_neg (fun q => q.2.1 rfl)]
        rw [show e + 21 * c + 3 * u - 3 * b 272 c = 21 * c + (3 * i + e) by omega]
        by_cases hg : g = h
        · rw [if_pos (c := g = h ∧ u = t) ⟨hg, hu⟩, le]
          by_cases hl : b 276 (7 * c + i) = 0
          · rw [if_pos hl, if_neg (fun q => q.2.1 hl)]
          · rw [if_neg hl, if_pos ⟨by omega, hl, by omega⟩]
        · rw [if_neg (c := g = h ∧ u = t) (fun q => hg q.1), if_neg (fun q => hg (by omega))]
          rfl
      · rw [if_neg (c := g = h ∧ u = t) (fun q => hu q.2), zu_ne2 (by omega)]
        omega
    intro g g0 g1
    have gg := hs.s10 g g0 g1
    have mf : ∀ e u, 0 ≤ e → e < 3 → MF (zu b 276 (7 * c + i) 0) g e u = MF b g e u - (if g = h ∧ u = t then 0 - a (66 + 5 * c) (3 * i + e) else 0) := fun e u q0 q1 => by
      have f1 := fz g e u
      have f2 := ec g e u q0 q1
      unfold MF
      rw [e5, e6, e9]
      omega
    have rd : ∀ k, 0 ≤ k → k < 120 → XV a h t c i (4 + 4 * g) k = a (4 + 4 * g) k + (if g = h ∧ k / 3 = t then a (66 + 5 * c) (3 * i + k % 3) else 0) := fun k q0 q1 => by
      unfold XV
      by_cases eg : g = h
      · subst eg
        rcases (show k = 3 * t ∨ k = 3 * t + 1 ∨ k = 3 * t + 2 ∨ ¬ k / 3 = t by omega) with r | r | r | r
        · rw [if_pos (by omega), show k % 3 = 0 by omega, r, show 3 * i + 0 = 3 * i by omega]
          (repeat (first | rw [zu_ne (by omega)] | rw [zu_ne2 (by omega)] | rw [zfu_ne (by omega)] | rw [zu_if, if_pos (by omega)]))
        · rw [if_pos (by omega), show k % 3 = 1 by omega, r]
          (repeat (first | rw [zu_ne (by omega)] | rw [zu_ne2 (by omega)] | rw [zfu_ne (by omega)] | rw [zu_if, if_pos (by omega)]))
        · rw [if_pos (by omega), show k % 3 = 2 by omega, r]
          (repeat (first | rw [zu_ne (by omega)] | rw [zu_ne2 (by omega)] | rw [zfu_ne (by omega)] | rw [zu_if, if_pos (by omega)]))
        · rw [if_neg (by omega)]
          (repeat (first | rw [zu_ne (by omega)] | rw [zu_ne2 (by omega)] | rw [zfu_ne (by omega)] | rw [zu_if, if_pos (by omega)]))
          omega
      · rw [if_neg (by omega)]
        (repeat (first | rw [zu_ne (by omega)] | rw [zu_ne2 (by omega)] | rw [zfu_ne (by omega)] | rw [zu_if, if_pos (by omega)]))
        omega
    have up : g < b 264 0 → ∀ e u, 0 ≤ e → e < 3 → 0 ≤ u → u < 40 → XV a h t c i (4 + 4 * g) (3 * u + e) = MF (zu b 276 (7 * c + i) 0) g e u := fun gl e u q0 q1 q2 q3 => by
      rw [rd _ (by omega) (by omega), mf e u q0 q1, gg.2 gl e u q0 q1 q2 q3, show (3 * u + e) / 3 = u by omega, show (3 * u + e) % 3 = e by omega]
      split <;> omega
    refine ⟨fun k q0 q1 => ?_, fun gl => ?_⟩
    · have g1 := gg.1 k q0 q1
      rw [rd k q0 q1]
      by_cases eq : g = h ∧ k / 3 = t
      · have gl : g < b 264 0 := by omega
        have u1 := up gl (k % 3) (k / 3) (by omega) (by omega) (by omega) (by omega)
        rw [rd _ (by omega) (by omega), show 3 * (k / 3) + k % 3 = k by omega] at u1
        have lo := mf (k % 3) (k / 3) (by omega) (by omega)
        rw [if_pos eq] at lo u1 ⊢
        have okb : MOk (zu b 276 (7 * c + i) 0) := by
          have o := Sim_ok hs
          unfold MOk at o ⊢
          rw [e9, e2, e3, e7, e5, e6]
          exact o
        have n9 := MF_9 okb (h := g) (e := k % 3) (t := k / 3) g0 (by omega) (by omega) (by omega) (by omega) (by omega)
        have l0 := Sim_hl hs c c0 (by omega) (3 * i + k % 3) (by omega) (by omega)
        omega
      · rw [if_neg eq]
        omega
    · rw [e9] at gl
      exact up gl
  have cS11 : S11 (XV a h t c i) (zu b 276 (7 * c + i) 0) := S11_f hs.s11 (fun h h0 h1 => by unfold XV; (repeat (first | rw [zu_ne (by omega)] | rw [zu_ne2 (by omega)] | rw [zfu_ne (by omega)] | rw [zu_if, if_pos (by omega)])) <;> rfl) (fun h h0 h1 => by unfold XV; (repeat (first | rw [zu_ne (by omega)] | rw [zu_ne2 (by omega)] | rw [zfu_ne (by omega)] | rw [zu_if, if_pos (by omega)])) <;> rfl) (by (repeat (first | rw [zu_ne (by omega)] | rw [zu_ne2 (by omega)] | rw [zfu_ne (by omega)] | rw [zu_if, if_pos (by omega)])) <;> rfl) (by (repeat (first | rw [zu_ne (by omega)] | rw [zu_ne2 (by omega)] | rw [zfu_ne (by omega)] | rw [zu_if, if_pos (by omega)])) <;> rfl) (by (repeat (first | rw [zu_ne (by omega)] | rw [zu_ne2 (by omega)] | rw [zfu_ne (by omega)] | rw [zu_if, if_pos (by omega)])) <;> rfl)
  have cS12 : S12 (XV a h t c i) (zu b 276 (7 * c + i) 0) := S12_f hs.s12 (by unfold XV; (repeat (first | rw [zu_ne (by omega)] | rw [zu_ne2 (by omega)] | rw [zfu_ne (by omega)] | rw [zu_if, if_pos (by omega)])) <;> rfl) (by unfold XV; (repeat (first | rw [zu_ne (by omega)] | rw [zu_ne2 (by omega)] | rw [zfu_ne (by omega)] | rw [zu_if, if_pos (by omega)])) <;> rfl) (by unfold XV; (repeat (first | rw [zu_ne (by omega)] | rw [zu_ne2 (by omega)] | rw [zfu_ne (by omega)] | rw [zu_if, if_pos (by omega)])) <;> rfl) (by unfold XV; (repeat (first | rw [zu_ne (by omega)] | rw [zu_ne2 (by omega)] | rw [zfu_ne (by omega)] | rw [zu_if, if_pos (by omega)])) <;> rfl) (by (repeat (first | rw [zu_ne (by omega)] | rw [zu_ne2 (by omega)] | rw [zfu_ne (by omega)] | rw [zu_if, if_pos (by omega)])) <;> rfl) (by (repeat (first | rw [zu_ne (by omega)] | rw [zu_ne2 (by omega)] | rw [zfu_ne (by omega)] | rw [zu_if, if_pos (by omega)])) <;> rfl) (by (repeat (first | rw [zu_ne (by omega)] | rw [zu_ne2 (by omega)] | rw [zfu_ne (by omega)] | rw [zu_if, if_pos (by omega)])) <;> rfl) (by (repeat (first | rw [zu_ne (by omega)] | rw [zu_ne2 (by omega)] | rw [zfu_ne (by omega)] | rw [zu_if, if_pos (by omega)])) <;> rfl) (by (repeat (first | rw [zu_ne (by omega)] | rw [zu_ne2 (by omega)] | rw [zfu_ne (by omega)] | rw [zu_if, if_pos (by omega)])) <;> rfl) (by (repeat (first | rw [zu_ne (by omega)] | rw [zu_ne2 (by omega)] | rw [zfu_ne (by omega)] | rw [zu_if, if_pos (by omega)])) <;> rfl)
  have cS13 : S13 (XV a h t c i) (zu b 276 (7 * c + i) 0) := S13_f hs.s13 (by unfold XV; (repeat (first | rw [zu_ne (by omega)] | rw [zu_ne2 (by omega)] | rw [zfu_ne (by omega)] | rw [zu_if, if_pos (by omega)])) <;> rfl) (by unfold XV; (repeat (first | rw [zu_ne (by omega)] | rw [zu_ne2 (by omega)] | rw [zfu_ne (by omega)] | rw [zu_if, if_pos (by omega)])) <;> rfl) (by (repeat (first | rw [zu_ne (by omega)] | rw [zu_ne2 (by omega)] | rw [zfu_ne (by omega)] | rw [zu_if, if_pos (by omega)])) <;> rfl) (by (repeat (first | rw [zu_ne (by omega)] | rw [zu_ne2 (by omega)] | rw [zfu_ne (by omega)] | rw [zu_if, if_pos (by omega)])) <;> rfl)
  have cS14 : S14 (XV a h t c i) (zu b 276 (7 * c + i) 0) := S14_f hs.s14 (by unfold XV; (repeat (first | rw [zu_ne (by omega)] | rw [zu_ne2 (by omega)] | rw [zfu_ne (by omega)] | rw [zu_if, if_pos (by omega)])) <;> rfl) (by (repeat (first | rw [zu_ne (by omega)] | rw [zu_ne2 (by omega)] | rw [zfu_ne (by omega)] | rw [zu_if, if_pos (by omega)])) <;> rfl) (by (repeat (first | rw [zu_ne (by omega)] | rw [zu_ne2 (by omega)] | rw [zfu_ne (by omega)] | rw [zu_if, if_pos (by omega)])) <;> rfl)
  have cS15 : S15 (XV a h t c i) (zu b 276 (7 * c + i) 0) := by
    intro k k0 k1
    have g := hs.s15 k k0 k1
    refine ⟨?_, fun u u0 u1 => ?_⟩
    · have g1 := g.1
      (repeat (first | rw [zu_ne (by omega)] | rw [zu_ne2 (by omega)] | rw [zfu_ne (by omega)] | rw [zu_if, if_pos (by omega)]))
      exact g1
    · have g1 := g.2 u u0 u1
      unfold XV
      by_cases ec : k = c
      · subst ec
        by_cases ei : u = i
        · subst ei
          (repeat (first | rw [zu_ne (by omega)] | rw [zu_ne2 (by omega)] | rw [zfu_ne (by omega)] | rw [zu_if, if_pos (by omega)])); omega
        · (repeat (first | rw [zu_ne (by omega)] | rw [zu_ne2 (by omega)] | rw [zfu_ne (by omega)] | rw [zu_if, if_pos (by omega)])); omega
      · (repeat (first | rw [zu_ne (by omega)] | rw [zu_ne2 (by omega)] | rw [zfu_ne (by omega)] | rw [zu_if, if_pos (by omega)])); omega
  have cS16 : S16 (XV a h t c i) (zu b 276 (7 * c + i) 0) := S16_f hs.s16 (by (repeat (first | rw [zu_ne (by omega)] | rw [zu_ne2 (by omega)] | rw [zfu_ne (by omega)] | rw [zu_if, if_pos (by omega)])) <;> rfl) (by (repeat (first | rw [zu_ne (by omega)] | rw [zu_ne2 (by omega)] | rw [zfu_ne (by omega)] | rw [zu_if, if_pos (by omega)])) <;> rfl) (by (repeat (first | rw [zu_ne (by omega)] | rw [zu_ne2 (by omega)] | rw [zfu_ne (by omega)] | rw [zu_if, if_pos (by omega)])) <;> rfl)
  exact ⟨cS1, cS2, cS3, cS4, cS5, cS6, cS7, cS8, cS9, cS10, cS11, cS12, cS13, cS14, cS15, cS16⟩
