theorem sm_opened {T : Int} {a b : zmem} (hs : Sim T a b) {p : Int} (p0 : 0 ≤ p) (p1 : p < b 264 27) : Sim (T) (zu a 59 p 1) (zu b 289 p 1) := by
  have s1 := hs.s1
  unfold S1 at s1
  have cS1 : S1 (T) (zu a 59 p 1) (zu b 289 p 1) := by
    unfold S1
    (repeat (first | rw [zu_ne (by omega)] | rw [zu_ne2 (by omega)] | rw [zfu_ne (by omega)] | rw [zu_if, if_pos (by omega)]))
    omega
  have cS2 : S2 (zu a 59 p 1) (zu b 289 p 1) := S2_f hs.s2 (fun h h0 h1 => by (repeat (first | rw [zu_ne (by omega)] | rw [zu_ne2 (by omega)] | rw [zfu_ne (by omega)] | rw [zu_if, if_pos (by omega)])) <;> rfl) (fun h h0 h1 => by (repeat (first | rw [zu_ne (by omega)] | rw [zu_ne2 (by omega)] | rw [zfu_ne (by omega)] | rw [zu_if, if_pos (by omega)])) <;> rfl) (by (repeat (first | rw [zu_ne (by omega)] | rw [zu_ne2 (by omega)] | rw [zfu_ne (by omega)] | rw [zu_if, if_pos (by omega)])) <;> rfl) (by (repeat (first | rw [zu_ne (by omega)] | rw [zu_ne2 (by omega)] | rw [zfu_ne (by omega)] | rw [zu_if, if_pos (by omega)])) <;> rfl)
  have cS3 : S3 (zu a 59 p 1) (zu b 289 p 1) := S3_f hs.s3 (fun h h0 h1 => by (repeat (first | rw [zu_ne (by omega)] | rw [zu_ne2 (by omega)] | rw [zfu_ne (by omega)] | rw [zu_if, if_pos (by omega)])) <;> rfl) (by (repeat (first | rw [zu_ne (by omega)] | rw [zu_ne2 (by omega)] | rw [zfu_ne (by omega)] | rw [zu_if, if_pos (by omega)])) <;> rfl)
  have cS4 : S4 (zu a 59 p 1) (zu b 289 p 1) := S4_f hs.s4 (fun h h0 h1 => by (repeat (first | rw [zu_ne (by omega)] | rw [zu_ne2 (by omega)] | rw [zfu_ne (by omega)] | rw [zu_if, if_pos (by omega)])) <;> rfl) (by (repeat (first | rw [zu_ne (by omega)] | rw [zu_ne2 (by omega)] | rw [zfu_ne (by omega)] | rw [zu_if, if_pos (by omega)])) <;> rfl)
  have cS5 : S5 (zu a 59 p 1) (zu b 289 p 1) := S5_f hs.s5 (fun c c0 c1 => by (repeat (first | rw [zu_ne (by omega)] | rw [zu_ne2 (by omega)] | rw [zfu_ne (by omega)] | rw [zu_if, if_pos (by omega)])) <;> rfl) (by (repeat (first | rw [zu_ne (by omega)] | rw [zu_ne2 (by omega)] | rw [zfu_ne (by omega)] | rw [zu_if, if_pos (by omega)])) <;> rfl) (by (repeat (first | rw [zu_ne (by omega)] | rw [zu_ne2 (by omega)] | rw [zfu_ne (by omega)] | rw [zu_if, if_pos (by omega)])) <;> rfl) (by (repeat (first | rw [zu_ne (by omega)] | rw [zu_ne2 (by omega)] | rw [zfu_ne (by omega)] | rw [zu_if, if_pos (by omega)])) <;> rfl) (by (repeat (first | rw [zu_ne (by omega)] | rw [zu_ne2 (by omega)] | rw [zfu_ne (by omega)] | rw [zu_if, if_pos (by omega)])) <;> rfl) (by (repeat (first | rw [zu_ne (by omega)] | rw [zu_ne2 (by omega)] | rw [zfu_ne (by omega)] | rw [zu_if, if_pos (by omega)])) <;> rfl) (by (repeat (first | rw [zu_ne (by omega)] | rw [zu_ne2 (by omega)] | rw [zfu_ne (by omega)] | rw [zu_if, if_pos (by omega)])) <;> rfl) (by (repeat (first | rw [zu_ne (by omega)] | rw [zu_ne2 (by omega)] | rw [zfu_ne (by omega)] | rw [zu_if, if_pos (by omega)])) <;> rfl)
  have cS6 : S6 (zu a 59 p 1) (zu b 289 p 1) := S6_f hs.s6 (fun c c0 c1 => by (repeat (first | rw [zu_ne (by omega)] | rw [zu_ne2 (by omega)] | rw [zfu_ne (by omega)] | rw [zu_if, if_pos (by omega)])) <;> rfl) (by (repeat (first | rw [zu_ne (by omega)] | rw [zu_ne2 (by omega)] | rw [zfu_ne (by omega)] | rw [zu_if, if_pos (by omega)])) <;> rfl) (by (repeat (first | rw [zu_ne (by omega)] | rw [zu_ne2 (by omega)] | rw [zfu_ne (by omega)] | rw [zu_if, if_pos (by omega)])) <;> rfl) (by (repeat (first | rw [zu_ne (by omega)] | rw [zu_ne2 (by omega)] | rw [zfu_ne (by omega)] | rw [zu_if, if_pos (by omega)])) <;> rfl)
  have cS7 : S7 (zu a 59 p 1) (zu b 289 p 1) := S7_f hs.s7 (fun c c0 c1 => by (repeat (first | rw [zu_ne (by omega)] | rw [zu_ne2 (by omega)] | rw [zfu_ne (by omega)] | rw [zu_if, if_pos (by omega)])) <;> rfl) (by (repeat (first | rw [zu_ne (by omega)] | rw [zu_ne2 (by omega)] | rw [zfu_ne (by omega)] | rw [zu_if, if_pos (by omega)])) <;> rfl)
  have cS8 : S8 (zu a 59 p 1) (zu b 289 p 1) := S8_f hs.s8 (fun c c0 c1 => by (repeat (first | rw [zu_ne (by omega)] | rw [zu_ne2 (by omega)] | rw [zfu_ne (by omega)] | rw [zu_if, if_pos (by omega)])) <;> rfl) (by (repeat (first | rw [zu_ne (by omega)] | rw [zu_ne2 (by omega)] | rw [zfu_ne (by omega)] | rw [zu_if, if_pos (by omega)])) <;> rfl) (by (repeat (first | rw [zu_ne (by omega)] | rw [zu_ne2 (by omega)] | rw [zfu_ne (by omega)] | rw [zu_if, if_pos (by omega)])) <;> rfl) (by (repeat (first | rw [zu_ne (by omega)] | rw [zu_ne2 (by omega)] | rw [zfu_ne (by omega)] | rw [zu_if, if_pos (by omega)])) <;> rfl) (by (repeat (first | rw [zu_ne (by omega)] | rw [zu_ne2 (by omega)] | rw [zfu_ne (by omega)] | rw [zu_if, if_pos (by omega)])) <;> rfl) (by (repeat (first | rw [zu_ne (by omega)] | rw [zu_ne2 (by omega)] | rw [zfu_ne (by omega)] | rw [zu_if, if_pos (by omega)])) <;> rfl)
  have cS9 : S9 (zu a 59 p 1) (zu b 289 p 1) := S9_f hs.s9 (fun c c0 c1 => by (repeat (first | rw [zu_ne (by omega)] | rw [zu_ne2 (by omega)] | rw [zfu_ne (by omega)] | rw [zu_if, if_pos (by omega)])) <;> rfl) (by (repeat (first | rw [zu_ne (by omega)] | rw [zu_ne2 (by omega)] | rw [zfu_ne (by omega)] | rw [zu_if, if_pos (by omega)])) <;> rfl) (by (repeat (first | rw [zu_ne (by omega)] | rw [zu_ne2 (by omega)] | rw [zfu_ne (by omega)] | rw [zu_if, if_pos (by omega)])) <;> rfl) (by (repeat (first | rw [zu_ne (by omega)] | rw [zu_ne2 (by omega)] | rw [zfu_ne (by omega)] | rw [zu_if, if_pos (by omega)])) <;> rfl) (by (repeat (first | rw [zu_ne (by omega)] | rw [zu_ne2 (by omega)] | rw [zfu_ne (by omega)] | rw [zu_if, if_pos (by omega)])) <;> rfl)
  have cS10 : S10 (zu a 59 p 1) (zu b 289 p 1) := S10_c hs.s10 (fun h h0 h1 => by (repeat (first | rw [zu_ne (by omega)] | rw [zu_ne2 (by omega)] | rw [zfu_ne (by omega)] | rw [zu_if, if_pos (by omega)])) <;> rfl) (by (repeat (first | rw [zu_ne (by omega)] | rw [zu_ne2 (by omega)] | rw [zfu_ne (by omega)] | rw [zu_if, if_pos (by omega)])) <;> rfl) (MF_e (by (repeat (first | rw [zu_ne (by omega)] | rw [zu_ne2 (by omega)] | rw [zfu_ne (by omega)] | rw [zu_if, if_pos (by omega)])) <;> rfl) (by (repeat (first | rw [zu_ne (by omega)] | rw [zu_ne2 (by omega)] | rw [zfu_ne (by omega)] | rw [zu_if, if_pos (by omega)])) <;> rfl) (by (repeat (first | rw [zu_ne (by omega)] | rw [zu_ne2 (by omega)] | rw [zfu_ne (by omega)] | rw [zu_if, if_pos (by omega)])) <;> rfl) (by (repeat (first | rw [zu_ne (by omega)] | rw [zu_ne2 (by omega)] | rw [zfu_ne (by omega)] | rw [zu_if, if_pos (by omega)])) <;> rfl) (by (repeat (first | rw [zu_ne (by omega)] | rw [zu_ne2 (by omega)] | rw [zfu_ne (by omega)] | rw [zu_if, if_pos (by omega)])) <;> rfl) (by (repeat (first | rw [zu_ne (by omega)] | rw [zu_ne2 (by omega)] | rw [zfu_ne (by omega)] | rw [zu_if, if_pos (by omega)])) <;> rfl) (by (repeat (first | rw [zu_ne (by omega)] | rw [zu_ne2 (by omega)] | rw [zfu_ne (by omega)] | rw [zu_if, if_pos (by omega)])) <;> rfl) (by (repeat (first | rw [zu_ne (by omega)] | rw [zu_ne2 (by omega)] | rw [zfu_ne (by omega)] | rw [zu_if, if_pos (by omega)])) <;> rfl))
  have cS11 : S11 (zu a 59 p 1) (zu b 289 p 1) := S11_f hs.s11 (fun h h0 h1 => by (repeat (first | rw [zu_ne (by omega)] | rw [zu_ne2 (by omega)] | rw [zfu_ne (by omega)] | rw [zu_if, if_pos (by omega)])) <;> rfl) (fun h h0 h1 => by (repeat (first | rw [zu_ne (by omega)] | rw [zu_ne2 (by omega)] | rw [zfu_ne (by omega)] | rw [zu_if, if_pos (by omega)])) <;> rfl) (by (repeat (first | rw [zu_ne (by omega)] | rw [zu_ne2 (by omega)] | rw [zfu_ne (by omega)] | rw [zu_if, if_pos (by omega)])) <;> rfl) (by (repeat (first | rw [zu_ne (by omega)] | rw [zu_ne2 (by omega)] | rw [zfu_ne (by omega)] | rw [zu_if, if_pos (by omega)])) <;> rfl) (by (repeat (first | rw [zu_ne (by omega)] | rw [zu_ne2 (by omega)] | rw [zfu_ne (by omega)] | rw [zu_if, if_pos (by omega)])) <;> rfl)
  have cS12 : S12 (zu a 59 p 1) (zu b 289 p 1) := by
    intro k k0 k1
    have g := hs.s12 k k0 k1
    by_cases ek : k = p
    · (repeat (first | rw [zu_ne (by omega)] | rw [zu_ne2 (by omega)] | rw [zfu_ne (by omega)] | rw [zu_if, if_pos (by omega)]))
      omega
    · (repeat (first | rw [zu_ne (by omega)] | rw [zu_ne2 (by omega)] | rw [zfu_ne (by omega)] | rw [zu_if, if_pos (by omega)]))
      omega
  have cS13 : S13 (zu a 59 p 1) (zu b 289 p 1) := S13_f hs.s13 (by (repeat (first | rw [zu_ne (by omega)] | rw [zu_ne2 (by omega)] | rw [zfu_ne (by omega)] | rw [zu_if, if_pos (by omega)])) <;> rfl) (by (repeat (first | rw [zu_ne (by omega)] | rw [zu_ne2 (by omega)] | rw [zfu_ne (by omega)] | rw [zu_if, if_pos (by omega)])) <;> rfl) (by (repeat (first | rw [zu_ne (by omega)] | rw [zu_ne2 (by omega)] | rw [zfu_ne (by omega)] | rw [zu_if, if_pos (by omega)])) <;> rfl) (by (repeat (first | rw [zu_ne (by omega)] | rw [zu_ne2 (by omega)] | rw [zfu_ne (by omega)] | rw [zu_if, if_pos (by omega)])) <;> rfl)
  have cS14 : S14 (zu a 59 p 1) (zu b 289 p 1) := S14_f hs.s14 (by (repeat (first | rw [zu_ne (by omega)] | rw [zu_ne2 (by omega)] | rw [zfu_ne (by omega)] | rw [zu_if, if_pos (by omega)])) <;> rfl) (by (repeat (first | rw [zu_ne (by omega)] | rw [zu_ne2 (by omega)] | rw [zfu_ne (by omega)] | rw [zu_if, if_pos (by omega)])) <;> rfl) (by (repeat (first | rw [zu_ne (by omega)] | rw [zu_ne2 (by omega)] | rw [zfu_ne (by omega)] | rw [zu_if, if_pos (by omega)])) <;> rfl)
  have cS15 : S15 (zu a 59 p 1) (zu b 289 p 1) := S15_f hs.s15 (fun c c0 c1 => by (repeat (first | rw [zu_ne (by omega)] | rw [zu_ne2 (by omega)] | rw [zfu_ne (by omega)] | rw [zu_if, if_pos (by omega)])) <;> rfl) (by (repeat (first | rw [zu_ne (by omega)] | rw [zu_ne2 (by omega)] | rw [zfu_ne (by omega)] | rw [zu_if, if_pos (by omega)])) <;> rfl) (by (repeat (first | rw [zu_ne (by omega)] | rw [zu_ne2 (by omega)] | rw [zfu_ne (by omega)] | rw [zu_if, if_pos (by omega)])) <;> rfl) (by (repeat (first | rw [zu_ne (by omega)] | rw [zu_ne2 (by omega)] | rw [zfu_ne (by omega)] | rw [zu_if, if_pos (by omega)])) <;> rfl) (by (repeat (first | rw [zu_ne (by omega)] | rw [zu_ne2 (by omega)] | rw [zfu_ne (by omega)] | rw [zu_if, if_pos (by omega)])) <;> rfl) (by (repeat (first | rw [zu_ne (by omega)] | rw [zu_ne2 (by omega)] | rw [zfu_ne (by omega)] | rw [zu_if, if_pos (by omega)])) <;> rfl) (by (repeat (first | rw [zu_ne (by omega)] | rw [zu_ne2 (by omega)] | rw [zfu_ne (by omega)] | rw [zu_if, if_pos (by omega)])) <;> rfl) (by (repeat (first | rw [zu_ne (by omega)] | rw [zu_ne2 (by omega)] | rw [zfu_ne (by omega)] | rw [zu_if, if_pos (by omega)])) <;> rfl) (by (repeat (first | rw [zu_ne (by omega)] | rw [zu_ne2 (by omega)] | rw [zfu_ne (by omega)] | rw [zu_if, if_pos (by omega)])) <;> rfl) (by (repeat (first | rw [zu_ne (by omega)] | rw [zu_ne2 (by omega)] | rw [zfu_ne (by omega)] | rw [zu_if, if_pos (by omega)])) <;> rfl)
  have cS16 : S16 (zu a 59 p 1) (zu b 289 p 1) := S16_f hs.s16 (by (repeat (first | rw [zu_ne (by omega)] | rw [zu_ne2 (by omega)] | rw [zfu_ne (by omega)] | rw [zu_if, if_pos (by omega)])) <;> rfl) (by (repeat (first | rw [zu_ne (by omega)] | rw [zu_ne2 (by omega)] | rw [zfu_ne (by omega)] | rw [zu_if, if_pos (by omega)])) <;> rfl) (by (repeat (first | rw [zu_ne (by omega)] | rw [zu_ne2 (by omega)] | rw [zfu_ne (by omega)] | rw [zu_if, if_pos (by omega)])) <;> rfl)
  exact ⟨cS1, cS2, cS3, cS4, cS5, cS6, cS7, cS8, cS9, cS10, cS11, cS12, cS13, cS14, cS15, cS16⟩
theorem zstL_o {o dy mk : Int → Int} {u : Int} : ∀ n : Nat, zfd (zstL o dy mk u) (-1) n = -1 ∨ o (zfd (zstL o dy mk u) (-1) n) = 0
  | 0 => Or.inl rfl
  | n + 1 => by
    rw [Int.natCast_succ, zfd_s (by omega)]
    have ih := zstL_o (o := o) (dy := dy) (mk := mk) (u := u) n
    by_cases h : (o n = 0 ∧ dy n ≤ u) ∧ (zfd (zstL o dy mk u) (-1) n = -1 ∨ mk n < mk (zfd (zstL o dy mk u) (-1) n))
    · have e : zstL o dy mk u n (zfd (zstL o dy mk u) (-1) n) = n := if_pos h
      rw [e]
      exact Or.inr h.1.1
    · have e : zstL o dy mk u n (zfd (zstL o dy mk u) (-1) n) = zfd (zstL o dy mk u) (-1) n := if_neg h
      rw [e]
      exact ih
theorem Sim_next {T : Int} {a b : zmem} (hs : Sim T a b) {u : Int} : zfd (zstL (a 59) (a 58) (a 57) u) (-1) (a 55 4) = zfd (zstL (b 289) (b 288) (b 287) u) (-1) (b 264 27) := by
  have s1 := hs.s1
  unfold S1 at s1
  rw [show a 55 4 = b 264 27 by omega]
  have q := zfd_c2 (f := zstL (a 59) (a 58) (a 57) u) (g := zstL (b 289) (b 288) (b 287) u) (zstL_two _ _ _ _) (b 264 27).toNat (fun k e k0 k1 kb => by
    have g1 := hs.s12 k k0 (by omega)
    unfold zstL
    rw [g1.2.1, g1.2.2.1, g1.2.2.2.1]
    rcases kb with z | z
    · rw [z]
      by_cases q : b 289 k = 0 ∧ b 288 k ≤ u
      · rw [if_pos ⟨q, Or.inl rfl⟩, if_pos ⟨q, Or.inl rfl⟩]
      · rw [if_neg (fun x => q x.1), if_neg (fun x => q x.1)]
    · have g2 := hs.s12 e z.1 (by omega)
      rw [g2.2.1])
  rw [show (((b 264 27).toNat : Nat) : Int) = b 264 27 by omega] at q
  exact q
theorem l_mnext {L d : Nat} {m : zmem} {m1 b : zmem} (ha : zan m1 b) (l0 : 0 ≤ b 264 27) (l1 : b 264 27 ≤ 40) {u z : Int} {Q : Option zV → zM → Prop} (hx : zR (d) 122 88 [some (.inr (.inl (some 264))), some (.inl u), some (.inl z), some (.inl (zfd (zstL (b 289) (b 288) (b 287) u) (-1) (b 264 27))), some (.inl (b 264 27))] [] (zem L m1) Q) : ∀ (n : Nat) (i : Int), 0 ≤ i → i + n = b 264 27 → zR (d) 122 28 [some (.inr (.inl (some 264))), some (.inl u), some (.inl z), some (.inl (zfd (zstL (b 289) (b 288) (b 287) u) (-1) i)), some (.inl i)] [] (zem L m1) Q := by
  intro n
  induction n with
  | zero =>
    intro i hi hn
    have ei : i = b 264 27 := by omega
    rw [ei]
    refine r_iload f122_28 rfl ?_
    refine r_aload_n f122_30 rfl ?_
    refine r_getI f122_31 o122 F7_173 g264_27 rfl ?_
    refine r_top (e := b 264 27) (zan_f ha (by omega) (by omega) (by omega) _) ?_
    refine r_cge f122_34 (t := 88) (by decide) (fun _ => ?_) (fun h => absurd (by omega) h)
    exact hx
  | succ n ih =>
    intro i hi hn
    have hb := zfd_in (f := zstL (b 289) (b 288) (b 287) u) (zstL_two _ _ _ _) hi
    refine r_iload f122_28 rfl ?_
    refine r_aload_n f122_30 rfl ?_
    refine r_getI f122_31 o122 F7_173 g264_27 rfl ?_
    refine r_top (e := b 264 27) (zan_f ha (by omega) (by omega) (by omega) _) ?_
    refine r_cge f122_34 (t := 88) (by decide) (fun h => absurd h (by omega)) (fun _ => ?_)
    refine r_aload_n f122_37 rfl ?_
    refine r_getR f122_38 o122 F7_83 g264_31 rfl ?_
    refine r_iload f122_41 rfl ?_
    refine r_bald f122_43 kd289 (by omega) (by omega) ?_
    refine r_top (e := b 289 i) (zan_f ha (by omega) (by omega) (by omega) _) ?_
    refine r_zne f122_44 (t := 82) (by decide) (fun q1 => ?_) (fun q1 => ?_)
    · refine r_iinc f122_82 rfl rfl rfl (e := i + 1) (by omega) (by omega) (by omega) (ls' := [some (.inr (.inl (some 264))), some (.inl u), some (.inl z), some (.inl (zfd (zstL (b 289) (b 288) (b 287) u) (-1) i)), some (.inl (i + 1))]) rfl ?_
      refine r_goto f122_85 (t := 28) (by decide) ?_
      refine r_setI (k := 3) (a := zfd (zstL (b 289) (b 288) (b 287) u) (-1) i) (e := zfd (zstL (b 289) (b 288) (b 287) u) (-1) (i + 1)) (by rw [zfd_s (by omega)]; first | exact (if_pos (by omega)).symm | exact (if_neg (by omega)).symm) rfl (ls' := [some (.inr (.inl (some 264))), some (.inl u), some (.inl z), some (.inl (zfd (zstL (b 289) (b 288) (b 287) u) (-1) (i + 1))), some (.inl (i + 1))]) rfl ?_
      exact ih (i + 1) (by omega) (by omega)
    · refine r_aload_n f122_47 rfl ?_
      refine r_getR f122_48 o122 F7_80 g264_30 rfl ?_
      refine r_iload f122_51 rfl ?_
      refine r_iald f122_53 kd288 (by omega) (by omega) ?_
      refine r_top (e := b 288 i) (zan_f ha (by omega) (by omega) (by omega) _) ?_
      refine r_iload_n f122_54 rfl ?_
      refine r_cgt f122_55 (t := 82) (by decide) (fun q2 => ?_) (fun q2 => ?_)
      · refine r_iinc f122_82 rfl rfl rfl (e := i + 1) (by omega) (by omega) (by omega) (ls' := [some (.inr (.inl (some 264))), some (.inl u), some (.inl z), some (.inl (zfd (zstL (b 289) (b 288) (b 287) u) (-1) i)), some (.inl (i + 1))]) rfl ?_
        refine r_goto f122_85 (t := 28) (by decide) ?_
        refine r_setI (k := 3) (a := zfd (zstL (b 289) (b 288) (b 287) u) (-1) i) (e := zfd (zstL (b 289) (b 288) (b 287) u) (-1) (i + 1)) (by rw [zfd_s (by omega)]; first | exact (if_pos (by omega)).symm | exact (if_neg (by omega)).symm) rfl (ls' := [some (.inr (.inl (some 264))), some (.inl u), some (.inl z), some (.inl (zfd (zstL (b 289) (b 288) (b 287) u) (-1) (i + 1))), some (.inl (i + 1))]) rfl ?_
        exact ih (i + 1) (by omega) (by omega)
      · refine r_iload_n f122_58 rfl ?_
        refine r_iconst f122_59 rfl ?_
        refine r_ceq f122_60 (t := 79) (by decide) (fun q3 => ?_) (fun q3 => ?_)
        · refine r_iload f122_79 rfl ?_
          refine r_istore_n f122_81 rfl (ls' := [some (.inr (.inl (some 264))), some (.inl u), some (.inl z), some (.inl i), some (.inl i)]) rfl ?_
          refine r_iinc f122_82 rfl rfl rfl (e := i + 1) (by omega) (by omega) (by omega) (ls' := [some (.inr (.inl (some 264))), some (.inl u), some (.inl z), some (.inl i), some (.inl (i + 1))]) rfl ?_
          refine r_goto f122_85 (t := 28) (by decide) ?_
          refine r_setI (k := 3) (a := i) (e := zfd (zstL (b 289) (b 288) (b 287) u) (-1) (i + 1)) (by rw [zfd_s (by omega)]; first | exact (if_pos (by omega)).symm | exact (if_neg (by omega)).symm) rfl (ls' := [some (.inr (.inl (some 264))), some (.inl u), some (.inl z), some (.inl (zfd (zstL (b 289) (b 288) (b 287) u) (-1) (i + 1))), some (.inl (i + 1))]) rfl ?_
          exact ih (i + 1) (by omega) (by omega)
        · refine r_aload_n f122_63 rfl ?_
          refine r_getR f122_64 o122 F7_77 g264_29 rfl ?_
          refine r_iload f122_67 rfl ?_
          refine r_iald f122_69 kd287 (by omega) (by omega) ?_
          refine r_top (e := b 287 i) (zan_f ha (by omega) (by omega) (by omega) _) ?_
          refine r_aload_n f122_70 rfl ?_
          refine r_getR f122_71 o122 F7_77 g264_29 rfl ?_
          refine r_iload_n f122_74 rfl ?_
          refine r_iald f122_75 kd287 (by omega) (by omega) ?_
          refine r_top (e := b 287 (zfd (zstL (b 289) (b 288) (b 287) u) (-1) i)) (zan_f ha (by omega) (by omega) (by omega) _) ?_
          refine r_cge f122_76 (t := 82) (by decide) (fun q4 => ?_) (fun q4 => ?_)
          · refine r_iinc f122_82 rfl rfl rfl (e := i + 1) (by omega) (by omega) (by omega) (ls' := [some (.inr (.inl (some 264))), some (.inl u), some (.inl z), some (.inl (zfd (zstL (b 289) (b 288) (b 287) u) (-1) i)), some (.inl (i + 1))]) rfl ?_
            refine r_goto f122_85 (t := 28) (by decide) ?_
            refine r_setI (k := 3) (a := zfd (zstL (b 289) (b 288) (b 287) u) (-1) i) (e := zfd (zstL (b 289) (b 288) (b 287) u) (-1) (i + 1)) (by rw [zfd_s (by omega)]; first | exact (if_pos (by omega)).symm | exact (if_neg (by omega)).symm) rfl (ls' := [some (.inr (.inl (some 264))), some (.inl u), some (.inl z), some (.inl (zfd (zstL (b 289) (b 288) (b 287) u) (-1) (i + 1))), some (.inl (i + 1))]) rfl ?_
            exact ih (i + 1) (by omega) (by omega)
          · refine r_iload f122_79 rfl ?_
            refine r_istore_n f122_81 rfl (ls' := [some (.inr (.inl (some 264))), some (.inl u), some (.inl z), some (.inl i), some (.inl i)]) rfl ?_
            refine r_iinc f122_82 rfl rfl rfl (e := i + 1) (by omega) (by omega) (by omega) (ls' := [some (.inr (.inl (some 264))), some (.inl u), some (.inl z), some (.inl i), some (.inl (i + 1))]) rfl ?_
            refine r_goto f122_85 (t := 28) (by decide) ?_
            refine r_setI (k := 3) (a := i) (e := zfd (zstL (b 289) (b 288) (b 287) u) (-1) (i + 1)) (by rw [zfd_s (by omega)]; first | exact (if_pos (by omega)).symm | exact (if_neg (by omega)).symm) rfl (ls' := [some (.inr (.inl (some 264))), some (.inl u), some (.inl z), some (.inl (zfd (zstL (b 289) (b 288) (b 287) u) (-1) (i + 1))), some (.inl (i + 1))]) rfl ?_
            exact ih (i + 1) (by omega) (by omega)

theorem t_answer {L d : Nat} {m : zmem} {c v : Int} {X : zmem} (c0 : 0 ≤ c) (c1 : c < 40) (hX : (m (64 + 5 * c) 7 = 0 ∧ m 0 7 ≤ m (64 + 5 * c) 5) → zF L (d + 4) 72 [.inr (.inl (some 0)), .inr (.inl (some (64 + 5 * c)))] m (some (.inl v)) X) : zF L (d + 5) 73 [.inr (.inl (some 0)), .inr (.inl (some (64 + 5 * c)))] m (some (.inl (if (m (64 + 5 * c) 7 = 0 ∧ m 0 7 ≤ m (64 + 5 * c) 5) ∧ v = -1 then 1 else 0))) (if m (64 + 5 * c) 7 = 0 then (if m 0 7 ≤ m (64 + 5 * c) 5 then (if v = -1 then X else zu X (64 + 5 * c) 7 2) else zu m (64 + 5 * c) 7 2) else m) := by
  refine zF_of n73 (ls := [some (.inr (.inl (some 0))), some (.inr (.inl (some (64 + 5 * c))))]) rfl ?_
  refine r_aload_n f73_0 rfl ?_
  refine r_getI f73_1 o73 F6_104 (gC_7 (c := c) (by omega) (by omega)) rfl ?_
  refine r_zeq f73_4 (t := 9) (by decide) (fun q1 => ?_) (fun q1 => ?_)
  · refine r_aload_n f73_9 rfl ?_
    refine r_aload_n f73_10 rfl ?_
    refine r_callv1i (m' := m) f73_11 o73 M6_130 p70 o70 kd0 rfl (by simp) (t_canBeGiven (c := c) (by omega) (by omega)) ?_
    refine r_ite (fun q2 => ?_) (fun q2 => ?_)
    · refine r_zeq f73_14 (t := 28) (by decide) (fun h => absurd h (by omega)) (fun _ => ?_)
      refine r_aload_n f73_17 rfl ?_
      refine r_aload_n f73_18 rfl ?_
      refine r_callv1i (m' := X) (v := v) f73_19 o73 M6_133 p72 o72 kd0 rfl (by simp) (hX (by omega)) ?_
      refine r_iconst f73_22 rfl ?_
      refine r_cne f73_23 (t := 28) (by decide) (fun q3 => ?_) (fun q3 => ?_)
      · refine r_aload_n f73_28 rfl ?_
        refine r_iconst f73_29 rfl ?_
        refine r_put f73_30 o73 F6_104 (gC_7 (c := c) (by omega) (by omega)) rfl T0_7 U0_7 ?_
        refine r_iconst f73_33 rfl ?_
        exact r_zret f73_34 v73 (by omega) ⟨zs_eq (by first | rfl | omega | ((repeat (first | rw [if_pos (by omega)] | rw [if_neg (by omega)])) <;> first | rfl | omega)), (by first | rfl | ((repeat (first | rw [if_pos (by omega)] | rw [if_neg (by omega)])); done) | ((repeat (first | rw [if_pos (by omega)] | rw [if_neg (by omega)])); rfl))⟩
      · refine r_iconst f73_26 rfl ?_
        exact r_zret f73_27 v73 (by omega) ⟨zs_eq (by first | rfl | omega | ((repeat (first | rw [if_pos (by omega)] | rw [if_neg (by omega)])) <;> first | rfl | omega)), (by first | rfl | ((repeat (first | rw [if_pos (by omega)] | rw [if_neg (by omega)])); done) | ((repeat (first | rw [if_pos (by omega)] | rw [if_neg (by omega)])); rfl))⟩
    · refine r_zeq f73_14 (t := 28) (by decide) (fun _ => ?_) (fun h => absurd (by omega) h)
      refine r_aload_n f73_28 rfl ?_
      refine r_iconst f73_29 rfl ?_
      refine r_put f73_30 o73 F6_104 (gC_7 (c := c) (by omega) (by omega)) rfl T0_7 U0_7 ?_
      refine r_iconst f73_33 rfl ?_
      exact r_zret f73_34 v73 (by omega) ⟨zs_eq (by first | rfl | omega | ((repeat (first | rw [if_pos (by omega)] | rw [if_neg (by omega)])) <;> first | rfl | omega)), (by first | rfl | ((repeat (first | rw [if_pos (by omega)] | rw [if_neg (by omega)])); done) | ((repeat (first | rw [if_pos (by omega)] | rw [if_neg (by omega)])); rfl))⟩
  · refine r_iconst f73_7 rfl ?_
    exact r_zret f73_8 v73 (by omega) ⟨zs_eq (by first | rfl | omega | ((repeat (first | rw [if_pos (by omega)] | rw [if_neg (by omega)])) <;> first | rfl | omega)), (by first | rfl | ((repeat (first | rw [if_pos (by omega)] | rw [if_neg (by omega)])); done) | ((repeat (first | rw [if_pos (by omega)] | rw [if_neg (by omega)])); rfl))⟩

theorem open1 {L d e : Nat} {T p c u : Int} {a b : zmem} (hs : Sim T a b) (p0 : 0 ≤ p) (p1 : p < b 264 27) (hc : b 286 p = c) : ∃ (X M : zmem) (v : Int), Sim T X M ∧ zan X a ∧ M 264 = b 264 ∧ M 289 = zu b 289 p 1 289 ∧ (v = 0 ∨ v = 1) ∧ zF L (d + 5) 73 [.inr (.inl (some 0)), .inr (.inl (some (64 + 5 * c)))] (zu a 59 p 1) (some (.inl v)) X ∧ ∀ m1, zan m1 b → ∃ Y, zac Y m1 ∧ zan Y M ∧ ∀ (Q : Option zV → zM → Prop) (z : Int), 0 ≤ z → z ≤ 40 → zR (e + 6) 122 18 [some (.inr (.inl (some 264))), some (.inl u), some (.inl (z + v)), some (.inl p), none] [] (zem L Y) Q → zR (e + 6) 122 93 [some (.inr (.inl (some 264))), some (.inl u), some (.inl z), some (.inl p), none] [] (zem L m1) Q := by
  have s1 := hs.s1
  unfold S1 at s1
  have g12 := (hs.s12 p p0 (by omega)).2.2.2.2.2 p1
  rw [hc] at g12
  have k5 := hs.s5 c (by omega) (by omega)
  have so := sm_opened hs p0 p1
  have b264 : zu b 289 p 1 264 = b 264 := zu_ne (by omega)
  have b275 : zu b 289 p 1 275 = b 275 := zu_ne (by omega)
  have b272 : zu b 289 p 1 272 = b 272 := zu_ne (by omega)
  have a0 : zu a 59 p 1 0 = a 0 := zu_ne (by omega)
  have a64 : zu a 59 p 1 (64 + 5 * c) = a (64 + 5 * c) := zu_ne (by omega)
  by_cases hst : b 275 c = 0
  · by_cases hf : b 264 9 ≤ b 272 c
    · obtain ⟨X, M, h1, h2, h3, h4, h5⟩ := give_both (L := L) (d := d) (e := e) so g12.1 (by rw [b264]; exact g12.2) (by rw [b275]; exact hst) (by rw [b264, b272]; exact hf)
      generalize zff (MBr (zu b 289 p 1) c) 0 (zu b 289 p 1 273 c).toNat = V at h4 h5
      have gx := t_answer (L := L) (d := d) (m := zu a 59 p 1) (c := c) g12.1 (by omega) (fun _ => h4)
      rw [a0, a64, if_pos (show a (64 + 5 * c) 7 = 0 by omega), if_pos (show a 0 7 ≤ a (64 + 5 * c) 5 by omega)] at gx
      by_cases hv : V = -1
      · rw [if_pos ⟨by omega, hv⟩, if_pos hv] at gx
        refine ⟨X, M, 1, h1, zan_tr h2 (zan_x (zan_rf a) (by omega)), by rw [h3 264 (by omega) (by omega) (by omega), b264], h3 289 (by omega) (by omega) (by omega), Or.inr rfl, gx, fun m1 ha => ?_⟩
        obtain ⟨w1, Y, w2, w3, w4, w5⟩ := h5 (zu m1 289 p 1) (zan_w ha)
        refine ⟨Y, zac_tr w4 (zac_u (zac_rf _) (by omega)), w5, fun Q z z0 z1 hk => ?_⟩
        refine r_aload_n f122_93 rfl ?_
        refine r_getR f122_94 o122 F7_83 g264_31 rfl ?_
        refine r_iload_n f122_97 rfl ?_
        refine r_iconst f122_98 rfl ?_
        refine r_bast f122_99 kd289 (by omega) (by omega) (by omega) (by omega) ?_
        refine r_aload_n f122_100 rfl ?_
        refine r_getR f122_101 o122 F7_74 g264_28 rfl ?_
        refine r_iload_n f122_104 rfl ?_
        refine r_iald f122_105 kd286 (by omega) (by omega) ?_
        refine r_top (e := c) (by rw [zu_if, if_neg (by omega), show m1 286 p = b 286 p from zan_f ha (by omega) (by omega) (by omega) _]; exact hc) ?_
        refine r_istore f122_106 rfl (ls' := [some (.inr (.inl (some 264))), some (.inl u), some (.inl z), some (.inl p), some (.inl c)]) rfl ?_
        refine r_aload_n f122_108 rfl ?_
        refine r_getR f122_109 o122 F7_41 g264_15 rfl ?_
        refine r_iload f122_112 rfl ?_
        refine r_iald f122_114 kd275 (by omega) (by omega) ?_
        refine r_top (e := b 275 c) (by rw [zu_if, if_neg (by omega)]; exact zan_f ha (by omega) (by omega) (by omega) _) ?_
        refine r_zne f122_115 (t := 162) (by decide) (fun h => absurd h (by omega)) (fun _ => ?_)
        refine r_aload_n f122_118 rfl ?_
        refine r_getR f122_119 o122 F7_32 g264_12 rfl ?_
        refine r_iload f122_122 rfl ?_
        refine r_iald f122_124 kd272 (by omega) (by omega) ?_
        refine r_top (e := b 272 c) (by rw [zu_if, if_neg (by omega)]; exact zan_f ha (by omega) (by omega) (by omega) _) ?_
        refine r_aload_n f122_125 rfl ?_
        refine r_getI f122_126 o122 F7_122 g264_9 rfl ?_
        refine r_top (e := b 264 9) (by rw [zu_if, if_neg (by omega)]; exact zan_f ha (by omega) (by omega) (by omega) _) ?_
        refine r_clt f122_129 (t := 154) (by decide) (fun h => absurd h (by omega)) (fun _ => ?_)
        refine r_aload_n f122_132 rfl ?_
        refine r_iload f122_133 rfl ?_
        refine r_callv1i (m' := (zu m1 289 p 1)) (v := V) f122_135 o122 M7_143 p104 o104 kd264 rfl (by simp) w1 ?_
        refine r_iconst f122_138 rfl ?_
        refine r_cne f122_139 (t := 154) (by decide) (fun h => absurd h (by omega)) (fun _ => ?_)
        refine r_aload_n f122_142 rfl ?_
        refine r_iload f122_143 rfl ?_
        refine r_callv1u (m' := Y) f122_145 o122 M7_146 p105 o105 kd264 rfl (by simp) (w2 hv) ?_
        refine r_iinc f122_148 rfl rfl rfl (e := z + 1) (by omega) (by omega) (by omega) (ls' := [some (.inr (.inl (some 264))), some (.inl u), some (.inl (z + 1)), some (.inl p), some (.inl c)]) rfl ?_
        refine r_goto f122_151 (t := 162) (by decide) ?_
        refine r_goto f122_162 (t := 18) (by decide) ?_
        refine r_forget (ls' := [some (.inr (.inl (some 264))), some (.inl u), some (.inl (z + 1)), some (.inl p), none]) ⟨Or.inl rfl, ⟨Or.inl rfl, ⟨Or.inl rfl, ⟨Or.inl rfl, ⟨Or.inr ⟨rfl, rfl⟩, trivial⟩⟩⟩⟩⟩ ?_
        exact hk
      · rw [if_neg (fun h => hv h.2), if_neg hv] at gx
        refine ⟨_, zu M 275 c 2, 0, sm_refused h1 g12.1 (by rw [h3 264 (by omega) (by omega) (by omega), b264]; exact g12.2), zan_x (zan_tr h2 (zan_x (zan_rf a) (by omega))) (by omega), by rw [zu_ne (by omega), h3 264 (by omega) (by omega) (by omega), b264], by rw [zu_ne (by omega)]; exact h3 289 (by omega) (by omega) (by omega), Or.inl rfl, gx, fun m1 ha => ?_⟩
        obtain ⟨w1, Y, w2, w3, w4, w5⟩ := h5 (zu m1 289 p 1) (zan_w ha)
        rw [w3 hv] at w4 w5
        refine ⟨zu (zu m1 289 p 1) 275 c 2, zac_u (zac_u (zac_rf _) (by omega)) (by omega), zan_w w5, fun Q z z0 z1 hk => ?_⟩
        rw [Int.add_zero] at hk
        refine r_aload_n f122_93 rfl ?_
        refine r_getR f122_94 o122 F7_83 g264_31 rfl ?_
        refine r_iload_n f122_97 rfl ?_
        refine r_iconst f122_98 rfl ?_
        refine r_bast f122_99 kd289 (by omega) (by omega) (by omega) (by omega) ?_
        refine r_aload_n f122_100 rfl ?_
        refine r_getR f122_101 o122 F7_74 g264_28 rfl ?_
        refine r_iload_n f122_104 rfl ?_
        refine r_iald f122_105 kd286 (by omega) (by omega) ?_
        refine r_top (e := c) (by rw [zu_if, if_neg (by omega), show m1 286 p = b 286 p from zan_f ha (by omega) (by omega) (by omega) _]; exact hc) ?_
        refine r_istore f122_106 rfl (ls' := [some (.inr (.inl (some 264))), some (.inl u), some (.inl z), some (.inl p), some (.inl c)]) rfl ?_
        refine r_aload_n f122_108 rfl ?_
        refine r_getR f122_109 o122 F7_41 g264_15 rfl ?_
        refine r_iload f122_112 rfl ?_
        refine r_iald f122_114 kd275 (by omega) (by omega) ?_
        refine r_top (e := b 275 c) (by rw [zu_if, if_neg (by omega)]; exact zan_f ha (by omega) (by omega) (by omega) _) ?_
        refine r_zne f122_115 (t := 162) (by decide) (fun h => absurd h (by omega)) (fun _ => ?_)
        refine r_aload_n f122_118 rfl ?_
        refine r_getR f122_119 o122 F7_32 g264_12 rfl ?_
        refine r_iload f122_122 rfl ?_
        refine r_iald f122_124 kd272 (by omega) (by omega) ?_
        refine r_top (e := b 272 c) (by rw [zu_if, if_neg (by omega)]; exact zan_f ha (by omega) (by omega) (by omega) _) ?_
        refine r_aload_n f122_125 rfl ?_
        refine r_getI f122_126 o122 F7_122 g264_9 rfl ?_
        refine r_top (e := b 264 9) (by rw [zu_if, if_neg (by omega)]; exact zan_f ha (by omega) (by omega) (by omega) _) ?_
        refine r_clt f122_129 (t := 154) (by decide) (fun h => absurd h (by omega)) (fun _ => ?_)
        refine r_aload_n f122_132 rfl ?_
        refine r_iload f122_133 rfl ?_
        refine r_callv1i (m' := (zu m1 289 p 1)) (v := V) f122_135 o122 M7_143 p104 o104 kd264 rfl (by simp) w1 ?_
        refine r_iconst f122_138 rfl ?_
        refine r_cne f122_139 (t := 154) (by decide) (fun _ => ?_) (fun h => absurd (by omega) h)
        refine r_aload_n f122_154 rfl ?_
        refine r_getR f122_155 o122 F7_41 g264_15 rfl ?_
        refine r_iload f122_158 rfl ?_
        refine r_iconst f122_160 rfl ?_
        refine r_iast f122_161 kd275 (by omega) (by omega) (by omega) ?_
        refine r_goto f122_162 (t := 18) (by decide) ?_
        refine r_forget (ls' := [some (.inr (.inl (some 264))), some (.inl u), some (.inl z), some (.inl p), none]) ⟨Or.inl rfl, ⟨Or.inl rfl, ⟨Or.inl rfl, ⟨Or.inl rfl, ⟨Or.inr ⟨rfl, rfl⟩, trivial⟩⟩⟩⟩⟩ ?_
        exact hk
    · have gx := t_answer (L := L) (d := d) (m := zu a 59 p 1) (c := c) (v := 0) (X := a) g12.1 (by omega) (fun h => by rw [a0, a64] at h; omega)
      rw [a0, a64, if_pos (show a (64 + 5 * c) 7 = 0 by omega), if_neg (show ¬ a 0 7 ≤ a (64 + 5 * c) 5 by omega), if_neg (by omega)] at gx
      refine ⟨_, zu (zu b 289 p 1) 275 c 2, 0, sm_refused so g12.1 (by rw [b264]; exact g12.2), zan_x (zan_x (zan_rf a) (by omega)) (by omega), by rw [zu_ne (by omega), b264], by rw [zu_ne (by omega)], Or.inl rfl, gx, fun m1 ha => ?_⟩
      refine ⟨zu (zu m1 289 p 1) 275 c 2, zac_u (zac_u (zac_rf _) (by omega)) (by omega), zan_w (zan_w ha), fun Q z z0 z1 hk => ?_⟩
      rw [Int.add_zero] at hk
      refine r_aload_n f122_93 rfl ?_
      refine r_getR f122_94 o122 F7_83 g264_31 rfl ?_
      refine r_iload_n f122_97 rfl ?_
      refine r_iconst f122_98 rfl ?_
      refine r_bast f122_99 kd289 (by omega) (by omega) (by omega) (by omega) ?_
      refine r_aload_n f122_100 rfl ?_
      refine r_getR f122_101 o122 F7_74 g264_28 rfl ?_
      refine r_iload_n f122_104 rfl ?_
      refine r_iald f122_105 kd286 (by omega) (by omega) ?_
      refine r_top (e := c) (by rw [zu_if, if_neg (by omega), show m1 286 p = b 286 p from zan_f ha (by omega) (by omega) (by omega) _]; exact hc) ?_
      refine r_istore f122_106 rfl (ls' := [some (.inr (.inl (some 264))), some (.inl u), some (.inl z), some (.inl p), some (.inl c)]) rfl ?_
      refine r_aload_n f122_108 rfl ?_
      refine r_getR f122_109 o122 F7_41 g264_15 rfl ?_
      refine r_iload f122_112 rfl ?_
      refine r_iald f122_114 kd275 (by omega) (by omega) ?_
      refine r_top (e := b 275 c) (by rw [zu_if, if_neg (by omega)]; exact zan_f ha (by omega) (by omega) (by omega) _) ?_
      refine r_zne f122_115 (t := 162) (by decide) (fun h => absurd h (by omega)) (fun _ => ?_)
      refine r_aload_n f122_118 rfl ?_
      refine r_getR f122_119 o122 F7_32 g264_12 rfl ?_
      refine r_iload f122_122 rfl ?_
      refine r_iald f122_124 kd272 (by omega) (by omega) ?_
      refine r_top (e := b 272 c) (by rw [zu_if, if_neg (by omega)]; exact zan_f ha (by omega) (by omega) (by omega) _) ?_
      refine r_aload_n f122_125 rfl ?_
      refine r_getI f122_126 o122 F7_122 g264_9 rfl ?_
      refine r_top (e := b 264 9) (by rw [zu_if, if_neg (by omega)]; exact zan_f ha (by omega) (by omega) (by omega) _) ?_
      refine r_clt f122_129 (t := 154) (by decide) (fun _ => ?_) (fun h => absurd (by omega) h)
      refine r_aload_n f122_154 rfl ?_
      refine r_getR f122_155 o122 F7_41 g264_15 rfl ?_
      refine r_iload f122_158 rfl ?_
      refine r_iconst f122_160 rfl ?_
      refine r_iast f122_161 kd275 (by omega) (by omega) (by omega) ?_
      refine r_goto f122_162 (t := 18) (by decide) ?_
      refine r_forget (ls' := [some (.inr (.inl (some 264))), some (.inl u), some (.inl z), some (.inl p), none]) ⟨Or.inl rfl, ⟨Or.inl rfl, ⟨Or.inl rfl, ⟨Or.inl rfl, ⟨Or.inr ⟨rfl, rfl⟩, trivial⟩⟩⟩⟩⟩ ?_
      exact hk
  · have gx := t_answer (L := L) (d := d) (m := zu a 59 p 1) (c := c) (v := 0) (X := a) g12.1 (by omega) (fun h => by rw [a0, a64] at h; omega)
    rw [a0, a64, if_neg (show ¬ a (64 + 5 * c) 7 = 0 by omega), if_neg (by omega)] at gx
    refine ⟨_, zu b 289 p 1, 0, so, zan_x (zan_rf a) (by omega), b264, rfl, Or.inl rfl, gx, fun m1 ha => ?_⟩
    refine ⟨zu m1 289 p 1, zac_u (zac_rf _) (by omega), zan_w ha, fun Q z z0 z1 hk => ?_⟩
    rw [Int.add_zero] at hk
    refine r_aload_n f122_93 rfl ?_
    refine r_getR f122_94 o122 F7_83 g264_31 rfl ?_
    refine r_iload_n f122_97 rfl ?_
    refine r_iconst f122_98 rfl ?_
    refine r_bast f122_99 kd289 (by omega) (by omega) (by omega) (by omega) ?_
    refine r_aload_n f122_100 rfl ?_
    refine r_getR f122_101 o122 F7_74 g264_28 rfl ?_
    refine r_iload_n f122_104 rfl ?_
    refine r_iald f122_105 kd286 (by omega) (by omega) ?_
    refine r_top (e := c) (by rw [zu_if, if_neg (by omega), show m1 286 p = b 286 p from zan_f ha (by omega) (by omega) (by omega) _]; exact hc) ?_
    refine r_istore f122_106 rfl (ls' := [some (.inr (.inl (some 264))), some (.inl u), some (.inl z), some (.inl p), some (.inl c)]) rfl ?_
    refine r_aload_n f122_108 rfl ?_
    refine r_getR f122_109 o122 F7_41 g264_15 rfl ?_
    refine r_iload f122_112 rfl ?_
    refine r_iald f122_114 kd275 (by omega) (by omega) ?_
    refine r_top (e := b 275 c) (by rw [zu_if, if_neg (by omega)]; exact zan_f ha (by omega) (by omega) (by omega) _) ?_
    refine r_zne f122_115 (t := 162) (by decide) (fun _ => ?_) (fun h => absurd (by omega) h)
    refine r_goto f122_162 (t := 18) (by decide) ?_
    refine r_forget (ls' := [some (.inr (.inl (some 264))), some (.inl u), some (.inl z), some (.inl p), none]) ⟨Or.inl rfl, ⟨Or.inl rfl, ⟨Or.inl rfl, ⟨Or.inl rfl, ⟨Or.inr ⟨rfl, rfl⟩, trivial⟩⟩⟩⟩⟩ ?_
    exact hk
theorem l_open {L d e : Nat} {T u : Int} : ∀ (n : Nat) (a b : zmem), Sim T a b → zsum (MUf b) (b 264 27) ≤ n → ∃ (X M : zmem) (w : Int), Sim T X M ∧ zan X a ∧ (0 ≤ w ∧ w ≤ n) ∧ (∀ (Q : Option zV → zM → Prop) (z i : Int), 0 ≤ z → z + n ≤ 40 → 0 ≤ i → i + n ≤ 40 → zR (d + 6) 59 85 [some (.inr (.inl (some 0))), some (.inl u), some (.inl (z + w)), none, none] [] (zem L X) Q → zR (d + 6) 59 18 [some (.inr (.inl (some 0))), some (.inl u), some (.inl z), some (.inl i), none] [] (zem L a) Q) ∧ ∀ m1, zan m1 b → ∃ Y, zac Y m1 ∧ zan Y M ∧ ∀ (Q : Option zV → zM → Prop) (z y : Int), 0 ≤ z → z + n ≤ 40 → ¬ y = -1 → zR (e + 6) 122 165 [some (.inr (.inl (some 264))), some (.inl u), some (.inl (z + w)), none, none] [] (zem L Y) Q → zR (e + 6) 122 18 [some (.inr (.inl (some 264))), some (.inl u), some (.inl z), some (.inl y), none] [] (zem L m1) Q := by
  intro n
  induction n with
  | zero =>
    intro a b hs hU
    have s1 := hs.s1
    unfold S1 at s1
    have zi := zfd_in (f := zstL (b 289) (b 288) (b 287) u) (i := b 264 27) (zstL_two _ _ _ _) (by omega)
    have zo := zstL_o (o := b 289) (dy := b 288) (mk := b 287) (u := u) (b 264 27).toNat
    rw [show (((b 264 27).toNat : Nat) : Int) = b 264 27 by omega] at zo
    have hp : zfd (zstL (b 289) (b 288) (b 287) u) (-1) (b 264 27) = -1 := by
      refine Decidable.byContradiction (fun no => ?_)
      have hz : b 289 (zfd (zstL (b 289) (b 288) (b 287) u) (-1) (b 264 27)) = 0 := by rcases zo with z | z; exact absurd z no; exact z
      have hb := zsum_1 (f := MUf b) (g := fun k => if k = zfd (zstL (b 289) (b 288) (b 287) u) (-1) (b 264 27) then 0 else MUf b k) (c := zfd (zstL (b 289) (b 288) (b 287) u) (-1) (b 264 27)) (by omega) (fun k k0 kn => by simp only [kn, if_false]) (b 264 27).toNat (by omega)
      have hb2 := zsum_b (f := fun k => if k = zfd (zstL (b 289) (b 288) (b 287) u) (-1) (b 264 27) then 0 else MUf b k) (A := 0) (B := 1) (n := b 264 27) (by omega) (fun k _ _ => by unfold MUf; split <;> (try split) <;> omega)
      rw [show (((b 264 27).toNat : Nat) : Int) = b 264 27 by omega] at hb
      have e1 : MUf b (zfd (zstL (b 289) (b 288) (b 287) u) (-1) (b 264 27)) = 1 := by unfold MUf; rw [if_pos hz]
      simp only [e1, if_true] at hb
      omega
    have gn := t_next (L := L) (d := d + 5) (m := a) (u := u) (by omega) (by omega)
    rw [Sim_next hs, hp] at gn
    refine ⟨a, b, 0, hs, zan_rf a, by omega, fun Q z i z0 z1 i0 i1 hk => ?_, fun m1 ha => ⟨m1, zac_rf m1, ha, fun Q z y z0 z1 yn hk => ?_⟩⟩
    · rw [Int.add_zero] at hk
      refine r_iload_n f59_18 rfl ?_
      refine r_bipush f59_19 (by decide) ?_
      refine r_cge f59_21 (t := 85) (by decide) (fun q1 => ?_) (fun q1 => ?_)
      · refine r_forget (ls' := [some (.inr (.inl (some 0))), some (.inl u), some (.inl z), none, none]) ⟨Or.inl rfl, ⟨Or.inl rfl, ⟨Or.inl rfl, ⟨Or.inr ⟨rfl, rfl⟩, ⟨Or.inl rfl, trivial⟩⟩⟩⟩⟩ ?_
        exact hk
      · refine r_aload_n f59_24 rfl ?_
        refine r_getR f59_25 o59 F6_34 g0_3 rfl ?_
        refine r_iload_n f59_28 rfl ?_
        refine r_callv1i (m' := a) (v := -1) f59_29 o59 M6_180 p24 o24 kd55 rfl (by simp) gn ?_
        refine r_istore f59_32 rfl (ls' := [some (.inr (.inl (some 0))), some (.inl u), some (.inl z), some (.inl i), some (.inl (-1))]) rfl ?_
        refine r_iload f59_34 rfl ?_
        refine r_iconst f59_36 rfl ?_
        refine r_cne f59_37 (t := 43) (by decide) (fun h => absurd h (by omega)) (fun _ => ?_)
        refine r_goto f59_40 (t := 85) (by decide) ?_
        refine r_forget (ls' := [some (.inr (.inl (some 0))), some (.inl u), some (.inl z), none, none]) ⟨Or.inl rfl, ⟨Or.inl rfl, ⟨Or.inl rfl, ⟨Or.inr ⟨rfl, rfl⟩, ⟨Or.inr ⟨rfl, rfl⟩, trivial⟩⟩⟩⟩⟩ ?_
        exact hk
    · rw [Int.add_zero] at hk
      refine r_iload_n f122_18 rfl ?_
      refine r_iconst f122_19 rfl ?_
      refine r_ceq f122_20 (t := 165) (by decide) (fun h => absurd h (by omega)) (fun _ => ?_)
      refine r_iconst f122_23 rfl ?_
      refine r_istore_n f122_24 rfl (ls' := [some (.inr (.inl (some 264))), some (.inl u), some (.inl z), some (.inl (-1)), none]) rfl ?_
      refine r_iconst f122_25 rfl ?_
      refine r_istore f122_26 rfl (ls' := [some (.inr (.inl (some 264))), some (.inl u), some (.inl z), some (.inl (-1)), some (.inl 0)]) rfl ?_
      refine l_mnext (m := m1) ha (by omega) (by omega) ?_ (b 264 27).toNat 0 (by omega) (by omega)
      rw [hp]
      refine r_iload_n f122_88 rfl ?_
      refine r_iconst f122_89 rfl ?_
      refine r_ceq f122_90 (t := 18) (by decide) (fun _ => ?_) (fun h => absurd (by omega) h)
      refine r_forget (ls' := [some (.inr (.inl (some 264))), some (.inl u), some (.inl z), some (.inl (-1)), none]) ⟨Or.inl rfl, ⟨Or.inl rfl, ⟨Or.inl rfl, ⟨Or.inl rfl, ⟨Or.inr ⟨rfl, rfl⟩, trivial⟩⟩⟩⟩⟩ ?_
      refine r_iload_n f122_18 rfl ?_
      refine r_iconst f122_19 rfl ?_
      refine r_ceq f122_20 (t := 165) (by decide) (fun _ => ?_) (fun h => absurd (by omega) h)
      refine r_forget (ls' := [some (.inr (.inl (some 264))), some (.inl u), some (.inl z), none, none]) ⟨Or.inl rfl, ⟨Or.inl rfl, ⟨Or.inl rfl, ⟨Or.inr ⟨rfl, rfl⟩, ⟨Or.inl rfl, trivial⟩⟩⟩⟩⟩ ?_
      exact hk
  | succ n ih =>
    intro a b hs hU
    have s1 := hs.s1
    unfold S1 at s1
    have zi := zfd_in (f := zstL (b 289) (b 288) (b 287) u) (i := b 264 27) (zstL_two _ _ _ _) (by omega)
    have zo := zstL_o (o := b 289) (dy := b 288) (mk := b 287) (u := u) (b 264 27).toNat
    rw [show (((b 264 27).toNat : Nat) : Int) = b 264 27 by omega] at zo
    have gn := t_next (L := L) (d := d + 5) (m := a) (u := u) (by omega) (by omega)
    rw [Sim_next hs] at gn
    by_cases hp : zfd (zstL (b 289) (b 288) (b 287) u) (-1) (b 264 27) = -1
    · rw [hp] at gn
      refine ⟨a, b, 0, hs, zan_rf a, by omega, fun Q z i z0 z1 i0 i1 hk => ?_, fun m1 ha => ⟨m1, zac_rf m1, ha, fun Q z y z0 z1 yn hk => ?_⟩⟩
      · rw [Int.add_zero] at hk
        refine r_iload_n f59_18 rfl ?_
        refine r_bipush f59_19 (by decide) ?_
        refine r_cge f59_21 (t := 85) (by decide) (fun q1 => ?_) (fun q1 => ?_)
        · refine r_forget (ls' := [some (.inr (.inl (some 0))), some (.inl u), some (.inl z), none, none]) ⟨Or.inl rfl, ⟨Or.inl rfl, ⟨Or.inl rfl, ⟨Or.inr ⟨rfl, rfl⟩, ⟨Or.inl rfl, trivial⟩⟩⟩⟩⟩ ?_
          exact hk
        · refine r_aload_n f59_24 rfl ?_
          refine r_getR f59_25 o59 F6_34 g0_3 rfl ?_
          refine r_iload_n f59_28 rfl ?_
          refine r_callv1i (m' := a) (v := -1) f59_29 o59 M6_180 p24 o24 kd55 rfl (by simp) gn ?_
          refine r_istore f59_32 rfl (ls' := [some (.inr (.inl (some 0))), some (.inl u), some (.inl z), some (.inl i), some (.inl (-1))]) rfl ?_
          refine r_iload f59_34 rfl ?_
          refine r_iconst f59_36 rfl ?_
          refine r_cne f59_37 (t := 43) (by decide) (fun h => absurd h (by omega)) (fun _ => ?_)
          refine r_goto f59_40 (t := 85) (by decide) ?_
          refine r_forget (ls' := [some (.inr (.inl (some 0))), some (.inl u), some (.inl z), none, none]) ⟨Or.inl rfl, ⟨Or.inl rfl, ⟨Or.inl rfl, ⟨Or.inr ⟨rfl, rfl⟩, ⟨Or.inr ⟨rfl, rfl⟩, trivial⟩⟩⟩⟩⟩ ?_
          exact hk
      · rw [Int.add_zero] at hk
        refine r_iload_n f122_18 rfl ?_
        refine r_iconst f122_19 rfl ?_
        refine r_ceq f122_20 (t := 165) (by decide) (fun h => absurd h (by omega)) (fun _ => ?_)
        refine r_iconst f122_23 rfl ?_
        refine r_istore_n f122_24 rfl (ls' := [some (.inr (.inl (some 264))), some (.inl u), some (.inl z), some (.inl (-1)), none]) rfl ?_
        refine r_iconst f122_25 rfl ?_
        refine r_istore f122_26 rfl (ls' := [some (.inr (.inl (some 264))), some (.inl u), some (.inl z), some (.inl (-1)), some (.inl 0)]) rfl ?_
        refine l_mnext (m := m1) ha (by omega) (by omega) ?_ (b 264 27).toNat 0 (by omega) (by omega)
        rw [hp]
        refine r_iload_n f122_88 rfl ?_
        refine r_iconst f122_89 rfl ?_
        refine r_ceq f122_90 (t := 18) (by decide) (fun _ => ?_) (fun h => absurd (by omega) h)
        refine r_forget (ls' := [some (.inr (.inl (some 264))), some (.inl u), some (.inl z), some (.inl (-1)), none]) ⟨Or.inl rfl, ⟨Or.inl rfl, ⟨Or.inl rfl, ⟨Or.inl rfl, ⟨Or.inr ⟨rfl, rfl⟩, trivial⟩⟩⟩⟩⟩ ?_
        refine r_iload_n f122_18 rfl ?_
        refine r_iconst f122_19 rfl ?_
        refine r_ceq f122_20 (t := 165) (by decide) (fun _ => ?_) (fun h => absurd (by omega) h)
        refine r_forget (ls' := [some (.inr (.inl (some 264))), some (.inl u), some (.inl z), none, none]) ⟨Or.inl rfl, ⟨Or.inl rfl, ⟨Or.inl rfl, ⟨Or.inr ⟨rfl, rfl⟩, ⟨Or.inl rfl, trivial⟩⟩⟩⟩⟩ ?_
        exact hk
    · have hz : b 289 (zfd (zstL (b 289) (b 288) (b 287) u) (-1) (b 264 27)) = 0 := by rcases zo with z | z; exact absurd z hp; exact z
      obtain ⟨p, ep⟩ : ∃ p, zfd (zstL (b 289) (b 288) (b 287) u) (-1) (b 264 27) = p := ⟨_, rfl⟩
      rw [ep] at gn hz zi hp
      have hpn := hp
      have hp := ep
      have g12 := hs.s12 p (by omega) (by omega)
      obtain ⟨c, hc⟩ : ∃ c, b 286 p = c := ⟨_, rfl⟩
      have gc := g12.2.2.2.2.2 (by omega)
      obtain ⟨X1, M1, v, h1, h2, h3, h4, hv, h5, h6⟩ := open1 (L := L) (d := d) (e := e) (u := u) hs (p := p) (by omega) (by omega) hc
      have hU1 : zsum (MUf M1) (M1 264 27) ≤ n := by
        rw [h3]
        have hb := zsum_1 (f := MUf M1) (g := MUf b) (c := p) (by omega) (fun k k0 kn => by unfold MUf; rw [h4, zu_ne2 kn]) (b 264 27).toNat (by omega)
        rw [show (((b 264 27).toNat : Nat) : Int) = b 264 27 by omega] at hb
        have e1 : MUf b p = 1 := by unfold MUf; rw [if_pos hz]
        have e2 : MUf M1 p = 0 := by unfold MUf; rw [h4, zu_at, if_neg (by omega)]
        omega
      obtain ⟨X, M, w, i1, i2, i3, i4, i5⟩ := ih X1 M1 h1 hU1
      refine ⟨X, M, w + v, i1, zan_tr i2 h2, by omega, fun Q z i z0 z1 i0 j1 hk => ?_, fun m1 ha => ?_⟩
      · skip
        refine r_iload_n f59_18 rfl ?_
        refine r_bipush f59_19 (by decide) ?_
        refine r_cge f59_21 (t := 85) (by decide) (fun h => absurd h (by omega)) (fun _ => ?_)
        refine r_aload_n f59_24 rfl ?_
        refine r_getR f59_25 o59 F6_34 g0_3 rfl ?_
        refine r_iload_n f59_28 rfl ?_
        refine r_callv1i (m' := a) (v := p) f59_29 o59 M6_180 p24 o24 kd55 rfl (by simp) gn ?_
        refine r_istore f59_32 rfl (ls' := [some (.inr (.inl (some 0))), some (.inl u), some (.inl z), some (.inl i), some (.inl p)]) rfl ?_
        refine r_iload f59_34 rfl ?_
        refine r_iconst f59_36 rfl ?_
        refine r_cne f59_37 (t := 43) (by decide) (fun _ => ?_) (fun h => absurd (by omega) h)
        refine r_aload_n f59_43 rfl ?_
        refine r_getR f59_44 o59 F6_34 g0_3 rfl ?_
        refine r_getR f59_47 o59 F6_183 g55_3 rfl ?_
        refine r_iload f59_50 rfl ?_
        refine r_iconst f59_52 rfl ?_
        refine r_bast f59_53 kd59 (by omega) (by omega) (by omega) (by omega) ?_
        refine r_aload_n f59_54 rfl ?_
        refine r_aload_n f59_55 rfl ?_
        refine r_getR f59_56 o59 F6_27 g0_2 rfl ?_
        refine r_aload_n f59_59 rfl ?_
        refine r_getR f59_60 o59 F6_34 g0_3 rfl ?_
        refine r_getR f59_63 o59 F6_186 g55_0 rfl ?_
        refine r_iload f59_66 rfl ?_
        refine r_iald f59_68 kd56 (by omega) (by omega) ?_
        refine r_top (e := c) (by rw [zu_ne (by omega), g12.1]; exact hc) ?_
        refine r_aldC f59_69 (by omega) (by omega) ?_
        refine r_callv1i (m' := X1) (v := v) f59_70 o59 M6_189 p73 o73 kd0 rfl (by simp) h5 ?_
        refine r_zeq f59_73 (t := 79) (by decide) (fun q1 => ?_) (fun q1 => ?_)
        · refine r_iinc f59_79 rfl rfl rfl (e := i + 1) (by omega) (by omega) (by omega) (ls' := [some (.inr (.inl (some 0))), some (.inl u), some (.inl z), some (.inl (i + 1)), some (.inl p)]) rfl ?_
          refine r_goto f59_82 (t := 18) (by decide) ?_
          refine r_forget (ls' := [some (.inr (.inl (some 0))), some (.inl u), some (.inl z), some (.inl (i + 1)), none]) ⟨Or.inl rfl, ⟨Or.inl rfl, ⟨Or.inl rfl, ⟨Or.inl rfl, ⟨Or.inr ⟨rfl, rfl⟩, trivial⟩⟩⟩⟩⟩ ?_
          exact i4 Q (z) (i + 1) (by omega) (by omega) (by omega) (by omega) (by rw [show z + w = z + (w + v) by omega]; exact hk)
        · refine r_iinc f59_76 rfl rfl rfl (e := z + 1) (by omega) (by omega) (by omega) (ls' := [some (.inr (.inl (some 0))), some (.inl u), some (.inl (z + 1)), some (.inl i), some (.inl p)]) rfl ?_
          refine r_iinc f59_79 rfl rfl rfl (e := i + 1) (by omega) (by omega) (by omega) (ls' := [some (.inr (.inl (some 0))), some (.inl u), some (.inl (z + 1)), some (.inl (i + 1)), some (.inl p)]) rfl ?_
          refine r_goto f59_82 (t := 18) (by decide) ?_
          refine r_forget (ls' := [some (.inr (.inl (some 0))), some (.inl u), some (.inl (z + 1)), some (.inl (i + 1)), none]) ⟨Or.inl rfl, ⟨Or.inl rfl, ⟨Or.inl rfl, ⟨Or.inl rfl, ⟨Or.inr ⟨rfl, rfl⟩, trivial⟩⟩⟩⟩⟩ ?_
          exact i4 Q (z + 1) (i + 1) (by omega) (by omega) (by omega) (by omega) (by rw [show z + 1 + w = z + (w + v) by omega]; exact hk)
      · obtain ⟨Y1, y1, y2, y3⟩ := h6 m1 ha
        obtain ⟨Y, y4, y5, y6⟩ := i5 Y1 y2
        refine ⟨Y, zac_tr y4 y1, y5, fun Q z y z0 z1 yn hk => ?_⟩
        have hk2 := y6 Q (z + v) p (by omega) (by omega) hpn (by rw [show z + v + w = z + (w + v) by omega]; exact hk)
        refine r_iload_n f122_18 rfl ?_
        refine r_iconst f122_19 rfl ?_
        refine r_ceq f122_20 (t := 165) (by decide) (fun h => absurd h (by omega)) (fun _ => ?_)
        refine r_iconst f122_23 rfl ?_
        refine r_istore_n f122_24 rfl (ls' := [some (.inr (.inl (some 264))), some (.inl u), some (.inl z), some (.inl (-1)), none]) rfl ?_
        refine r_iconst f122_25 rfl ?_
        refine r_istore f122_26 rfl (ls' := [some (.inr (.inl (some 264))), some (.inl u), some (.inl z), some (.inl (-1)), some (.inl 0)]) rfl ?_
        refine l_mnext (m := m1) ha (by omega) (by omega) ?_ (b 264 27).toNat 0 (by omega) (by omega)
        rw [hp]
        refine r_iload_n f122_88 rfl ?_
        refine r_iconst f122_89 rfl ?_
        refine r_ceq f122_90 (t := 18) (by decide) (fun h => absurd h (by omega)) (fun _ => ?_)
        refine r_forget (ls' := [some (.inr (.inl (some 264))), some (.inl u), some (.inl z), some (.inl p), none]) ⟨Or.inl rfl, ⟨Or.inl rfl, ⟨Or.inl rfl, ⟨Or.inl rfl, ⟨Or.inr ⟨rfl, rfl⟩, trivial⟩⟩⟩⟩⟩ ?_
        exact y3 Q z (by omega) (by omega) hk2
