theorem zFR_i {L : Nat} {xs : Nat → Int32} {F : Int → zC} {h q : Int} (h1 : 3 ≤ q) (h2 : q < 3 + 4 * h) : zFR L xs F h q = zfin L xs q := by
  unfold zFR
  rw [if_neg (by omega), if_pos ⟨h1, h2⟩]
theorem zFC_i {L : Nat} {xs : Nat → Int32} {F : Int → zC} {c q : Int} (h1 : 64 ≤ q) (h2 : q < 64 + 5 * c) : zFC L xs F c q = zfin L xs q := by
  unfold zFC
  rw [if_neg (by omega), if_pos ⟨h1, h2⟩]
set_option maxHeartbeats 4000000 in
theorem zG_eq {L : Nat} {xs : Nat → Int32} : ziM (zfe (zFC L xs (zGB L xs (zfe (zM0 L xs).2.2 0 (.inl 6, zdef 6))) 40) 264 (.inl 7, zdef 7)) 264 265 = zfin L xs := by
  funext q
  unfold ziM zGB ziL ziP ziW
  rcases (show q < -2 ∨ q = -2 ∨ q = -1 ∨ q = 0 ∨ q = 1 ∨ q = 2 ∨ (3 ≤ q ∧ q < 51) ∨ q = 51 ∨ q = 52 ∨ q = 53 ∨ q = 54 ∨ q = 55 ∨ q = 56 ∨ q = 57 ∨ q = 58 ∨ q = 59 ∨ q = 60 ∨ q = 61 ∨ q = 62 ∨ q = 63 ∨ (64 ≤ q ∧ q < 264) ∨ q = 264 ∨ q = 265 ∨ q = 266 ∨ q = 267 ∨ q = 268 ∨ q = 269 ∨ q = 270 ∨ q = 271 ∨ q = 272 ∨ q = 273 ∨ q = 274 ∨ q = 275 ∨ q = 276 ∨ q = 277 ∨ q = 278 ∨ q = 279 ∨ q = 280 ∨ q = 281 ∨ q = 282 ∨ q = 283 ∨ q = 284 ∨ q = 285 ∨ q = 286 ∨ q = 287 ∨ q = 288 ∨ q = 289 ∨ 290 ≤ q by omega) with h | h | h | h | h | h | h | h | h | h | h | h | h | h | h | h | h | h | h | h | h | h | h | h | h | h | h | h | h | h | h | h | h | h | h | h | h | h | h | h | h | h | h | h | h | h | h | h
  · (repeat (first | rw [zar_p] | rw [zar_c (by omega)] | rw [zar_o (by omega) (by omega)] | rw [zfe_at] | rw [zfe_ne (by omega)] | rw [zFC_o (by omega) (by omega)] | rw [zFR_o (by omega) (by omega)]))
    unfold zM0; simp only; rw [if_neg (by omega), if_neg (by omega)]; exact (zfin_x (by omega)).symm
  · subst h; (repeat (first | rw [zar_p] | rw [zar_c (by omega)] | rw [zar_o (by omega) (by omega)] | rw [zfe_at] | rw [zfe_ne (by omega)] | rw [zFC_o (by omega) (by omega)] | rw [zFR_o (by omega) (by omega)]))
    exact zfin_m2.symm
  · subst h; (repeat (first | rw [zar_p] | rw [zar_c (by omega)] | rw [zar_o (by omega) (by omega)] | rw [zfe_at] | rw [zfe_ne (by omega)] | rw [zFC_o (by omega) (by omega)] | rw [zFR_o (by omega) (by omega)]))
    exact zfin_m1.symm
  · subst h; (repeat (first | rw [zar_p] | rw [zar_c (by omega)] | rw [zar_o (by omega) (by omega)] | rw [zfe_at] | rw [zfe_ne (by omega)] | rw [zFC_o (by omega) (by omega)] | rw [zFR_o (by omega) (by omega)]))
    exact zfin_0.symm
  · subst h; (repeat (first | rw [zar_p] | rw [zar_c (by omega)] | rw [zar_o (by omega) (by omega)] | rw [zfe_at] | rw [zfe_ne (by omega)] | rw [zFC_o (by omega) (by omega)] | rw [zFR_o (by omega) (by omega)]))
    exact zfin_1.symm
  · subst h; (repeat (first | rw [zar_p] | rw [zar_c (by omega)] | rw [zar_o (by omega) (by omega)] | rw [zfe_at] | rw [zfe_ne (by omega)] | rw [zFC_o (by omega) (by omega)] | rw [zFR_o (by omega) (by omega)]))
    rw [zfin_2]; unfold zFR; rw [if_pos rfl]
  · (repeat (first | rw [zar_p] | rw [zar_c (by omega)] | rw [zar_o (by omega) (by omega)] | rw [zfe_at] | rw [zfe_ne (by omega)] | rw [zFC_o (by omega) (by omega)] | rw [zFR_o (by omega) (by omega)]))
    exact zFR_i h.1 (by omega)
  · subst h; (repeat (first | rw [zar_p] | rw [zar_c (by omega)] | rw [zar_o (by omega) (by omega)] | rw [zfe_at] | rw [zfe_ne (by omega)] | rw [zFC_o (by omega) (by omega)] | rw [zFR_o (by omega) (by omega)]))
    exact zfin_51.symm
  · subst h; (repeat (first | rw [zar_p] | rw [zar_c (by omega)] | rw [zar_o (by omega) (by omega)] | rw [zfe_at] | rw [zfe_ne (by omega)] | rw [zFC_o (by omega) (by omega)] | rw [zFR_o (by omega) (by omega)]))
    exact (zfin_a kd52 (by decide) (by omega)).symm
  · subst h; (repeat (first | rw [zar_p] | rw [zar_c (by omega)] | rw [zar_o (by omega) (by omega)] | rw [zfe_at] | rw [zfe_ne (by omega)] | rw [zFC_o (by omega) (by omega)] | rw [zFR_o (by omega) (by omega)]))
    exact (zfin_a kd53 (by decide) (by omega)).symm
  · subst h; (repeat (first | rw [zar_p] | rw [zar_c (by omega)] | rw [zar_o (by omega) (by omega)] | rw [zfe_at] | rw [zfe_ne (by omega)] | rw [zFC_o (by omega) (by omega)] | rw [zFR_o (by omega) (by omega)]))
    rw [zfin_54]; unfold zFC; rw [if_pos rfl]
  · subst h; (repeat (first | rw [zar_p] | rw [zar_c (by omega)] | rw [zar_o (by omega) (by omega)] | rw [zfe_at] | rw [zfe_ne (by omega)] | rw [zFC_o (by omega) (by omega)] | rw [zFR_o (by omega) (by omega)]))
    exact zfin_55.symm
  · subst h; (repeat (first | rw [zar_p] | rw [zar_c (by omega)] | rw [zar_o (by omega) (by omega)] | rw [zfe_at] | rw [zfe_ne (by omega)] | rw [zFC_o (by omega) (by omega)] | rw [zFR_o (by omega) (by omega)]))
    exact (zfin_a kd56 (by decide) (by omega)).symm
  · subst h; (repeat (first | rw [zar_p] | rw [zar_c (by omega)] | rw [zar_o (by omega) (by omega)] | rw [zfe_at] | rw [zfe_ne (by omega)] | rw [zFC_o (by omega) (by omega)] | rw [zFR_o (by omega) (by omega)]))
    exact (zfin_a kd57 (by decide) (by omega)).symm
  · subst h; (repeat (first | rw [zar_p] | rw [zar_c (by omega)] | rw [zar_o (by omega) (by omega)] | rw [zfe_at] | rw [zfe_ne (by omega)] | rw [zFC_o (by omega) (by omega)] | rw [zFR_o (by omega) (by omega)]))
    exact (zfin_a kd58 (by decide) (by omega)).symm
  · subst h; (repeat (first | rw [zar_p] | rw [zar_c (by omega)] | rw [zar_o (by omega) (by omega)] | rw [zfe_at] | rw [zfe_ne (by omega)] | rw [zFC_o (by omega) (by omega)] | rw [zFR_o (by omega) (by omega)]))
    exact (zfin_a kd59 (by decide) (by omega)).symm
  · subst h; (repeat (first | rw [zar_p] | rw [zar_c (by omega)] | rw [zar_o (by omega) (by omega)] | rw [zfe_at] | rw [zfe_ne (by omega)] | rw [zFC_o (by omega) (by omega)] | rw [zFR_o (by omega) (by omega)]))
    exact zfin_60.symm
  · subst h; (repeat (first | rw [zar_p] | rw [zar_c (by omega)] | rw [zar_o (by omega) (by omega)] | rw [zfe_at] | rw [zfe_ne (by omega)] | rw [zFC_o (by omega) (by omega)] | rw [zFR_o (by omega) (by omega)]))
    exact (zfin_a kd61 (by decide) (by omega)).symm
  · subst h; (repeat (first | rw [zar_p] | rw [zar_c (by omega)] | rw [zar_o (by omega) (by omega)] | rw [zfe_at] | rw [zfe_ne (by omega)] | rw [zFC_o (by omega) (by omega)] | rw [zFR_o (by omega) (by omega)]))
    exact (zfin_a kd62 (by decide) (by omega)).symm
  · subst h; (repeat (first | rw [zar_p] | rw [zar_c (by omega)] | rw [zar_o (by omega) (by omega)] | rw [zfe_at] | rw [zfe_ne (by omega)] | rw [zFC_o (by omega) (by omega)] | rw [zFR_o (by omega) (by omega)]))
    exact (zfin_a kd63 (by decide) (by omega)).symm
  · (repeat (first | rw [zar_p] | rw [zar_c (by omega)] | rw [zar_o (by omega) (by omega)] | rw [zfe_at] | rw [zfe_ne (by omega)] | rw [zFC_o (by omega) (by omega)] | rw [zFR_o (by omega) (by omega)]))
    exact zFC_i h.1 (by omega)
  · subst h; (repeat (first | rw [zar_p] | rw [zar_c (by omega)] | rw [zar_o (by omega) (by omega)] | rw [zfe_at] | rw [zfe_ne (by omega)] | rw [zFC_o (by omega) (by omega)] | rw [zFR_o (by omega) (by omega)]))
    exact zfin_264.symm
  · subst h; (repeat (first | rw [zar_p] | rw [zar_c (by omega)] | rw [zar_o (by omega) (by omega)] | rw [zfe_at] | rw [zfe_ne (by omega)] | rw [zFC_o (by omega) (by omega)] | rw [zFR_o (by omega) (by omega)]))
    exact (zfin_a kd265 (by decide) (by omega)).symm
  · subst h; (repeat (first | rw [zar_p] | rw [zar_c (by omega)] | rw [zar_o (by omega) (by omega)] | rw [zfe_at] | rw [zfe_ne (by omega)] | rw [zFC_o (by omega) (by omega)] | rw [zFR_o (by omega) (by omega)]))
    exact (zfin_a kd266 (by decide) (by omega)).symm
  · subst h; (repeat (first | rw [zar_p] | rw [zar_c (by omega)] | rw [zar_o (by omega) (by omega)] | rw [zfe_at] | rw [zfe_ne (by omega)] | rw [zFC_o (by omega) (by omega)] | rw [zFR_o (by omega) (by omega)]))
    exact (zfin_a kd267 (by decide) (by omega)).symm
  · subst h; (repeat (first | rw [zar_p] | rw [zar_c (by omega)] | rw [zar_o (by omega) (by omega)] | rw [zfe_at] | rw [zfe_ne (by omega)] | rw [zFC_o (by omega) (by omega)] | rw [zFR_o (by omega) (by omega)]))
    exact (zfin_a kd268 (by decide) (by omega)).symm
  · subst h; (repeat (first | rw [zar_p] | rw [zar_c (by omega)] | rw [zar_o (by omega) (by omega)] | rw [zfe_at] | rw [zfe_ne (by omega)] | rw [zFC_o (by omega) (by omega)] | rw [zFR_o (by omega) (by omega)]))
    exact (zfin_a kd269 (by decide) (by omega)).symm
  · subst h; (repeat (first | rw [zar_p] | rw [zar_c (by omega)] | rw [zar_o (by omega) (by omega)] | rw [zfe_at] | rw [zfe_ne (by omega)] | rw [zFC_o (by omega) (by omega)] | rw [zFR_o (by omega) (by omega)]))
    exact (zfin_a kd270 (by decide) (by omega)).symm
  · subst h; (repeat (first | rw [zar_p] | rw [zar_c (by omega)] | rw [zar_o (by omega) (by omega)] | rw [zfe_at] | rw [zfe_ne (by omega)] | rw [zFC_o (by omega) (by omega)] | rw [zFR_o (by omega) (by omega)]))
    exact (zfin_a kd271 (by decide) (by omega)).symm
  · subst h; (repeat (first | rw [zar_p] | rw [zar_c (by omega)] | rw [zar_o (by omega) (by omega)] | rw [zfe_at] | rw [zfe_ne (by omega)] | rw [zFC_o (by omega) (by omega)] | rw [zFR_o (by omega) (by omega)]))
    exact (zfin_a kd272 (by decide) (by omega)).symm
  · subst h; (repeat (first | rw [zar_p] | rw [zar_c (by omega)] | rw [zar_o (by omega) (by omega)] | rw [zfe_at] | rw [zfe_ne (by omega)] | rw [zFC_o (by omega) (by omega)] | rw [zFR_o (by omega) (by omega)]))
    exact (zfin_a kd273 (by decide) (by omega)).symm
  · subst h; (repeat (first | rw [zar_p] | rw [zar_c (by omega)] | rw [zar_o (by omega) (by omega)] | rw [zfe_at] | rw [zfe_ne (by omega)] | rw [zFC_o (by omega) (by omega)] | rw [zFR_o (by omega) (by omega)]))
    exact (zfin_a kd274 (by decide) (by omega)).symm
  · subst h; (repeat (first | rw [zar_p] | rw [zar_c (by omega)] | rw [zar_o (by omega) (by omega)] | rw [zfe_at] | rw [zfe_ne (by omega)] | rw [zFC_o (by omega) (by omega)] | rw [zFR_o (by omega) (by omega)]))
    exact (zfin_a kd275 (by decide) (by omega)).symm
  · subst h; (repeat (first | rw [zar_p] | rw [zar_c (by omega)] | rw [zar_o (by omega) (by omega)] | rw [zfe_at] | rw [zfe_ne (by omega)] | rw [zFC_o (by omega) (by omega)] | rw [zFR_o (by omega) (by omega)]))
    exact (zfin_a kd276 (by decide) (by omega)).symm
  · subst h; (repeat (first | rw [zar_p] | rw [zar_c (by omega)] | rw [zar_o (by omega) (by omega)] | rw [zfe_at] | rw [zfe_ne (by omega)] | rw [zFC_o (by omega) (by omega)] | rw [zFR_o (by omega) (by omega)]))
    exact (zfin_a kd277 (by decide) (by omega)).symm
  · subst h; (repeat (first | rw [zar_p] | rw [zar_c (by omega)] | rw [zar_o (by omega) (by omega)] | rw [zfe_at] | rw [zfe_ne (by omega)] | rw [zFC_o (by omega) (by omega)] | rw [zFR_o (by omega) (by omega)]))
    exact (zfin_a kd278 (by decide) (by omega)).symm
  · subst h; (repeat (first | rw [zar_p] | rw [zar_c (by omega)] | rw [zar_o (by omega) (by omega)] | rw [zfe_at] | rw [zfe_ne (by omega)] | rw [zFC_o (by omega) (by omega)] | rw [zFR_o (by omega) (by omega)]))
    exact (zfin_a kd279 (by decide) (by omega)).symm
  · subst h; (repeat (first | rw [zar_p] | rw [zar_c (by omega)] | rw [zar_o (by omega) (by omega)] | rw [zfe_at] | rw [zfe_ne (by omega)] | rw [zFC_o (by omega) (by omega)] | rw [zFR_o (by omega) (by omega)]))
    exact (zfin_a kd280 (by decide) (by omega)).symm
  · subst h; (repeat (first | rw [zar_p] | rw [zar_c (by omega)] | rw [zar_o (by omega) (by omega)] | rw [zfe_at] | rw [zfe_ne (by omega)] | rw [zFC_o (by omega) (by omega)] | rw [zFR_o (by omega) (by omega)]))
    exact (zfin_a kd281 (by decide) (by omega)).symm
  · subst h; (repeat (first | rw [zar_p] | rw [zar_c (by omega)] | rw [zar_o (by omega) (by omega)] | rw [zfe_at] | rw [zfe_ne (by omega)] | rw [zFC_o (by omega) (by omega)] | rw [zFR_o (by omega) (by omega)]))
    exact (zfin_a kd282 (by decide) (by omega)).symm
  · subst h; (repeat (first | rw [zar_p] | rw [zar_c (by omega)] | rw [zar_o (by omega) (by omega)] | rw [zfe_at] | rw [zfe_ne (by omega)] | rw [zFC_o (by omega) (by omega)] | rw [zFR_o (by omega) (by omega)]))
    exact (zfin_a kd283 (by decide) (by omega)).symm
  · subst h; (repeat (first | rw [zar_p] | rw [zar_c (by omega)] | rw [zar_o (by omega) (by omega)] | rw [zfe_at] | rw [zfe_ne (by omega)] | rw [zFC_o (by omega) (by omega)] | rw [zFR_o (by omega) (by omega)]))
    exact (zfin_a kd284 (by decide) (by omega)).symm
  · subst h; (repeat (first | rw [zar_p] | rw [zar_c (by omega)] | rw [zar_o (by omega) (by omega)] | rw [zfe_at] | rw [zfe_ne (by omega)] | rw [zFC_o (by omega) (by omega)] | rw [zFR_o (by omega) (by omega)]))
    exact (zfin_a kd285 (by decide) (by omega)).symm
  · subst h; (repeat (first | rw [zar_p] | rw [zar_c (by omega)] | rw [zar_o (by omega) (by omega)] | rw [zfe_at] | rw [zfe_ne (by omega)] | rw [zFC_o (by omega) (by omega)] | rw [zFR_o (by omega) (by omega)]))
    exact (zfin_a kd286 (by decide) (by omega)).symm
  · subst h; (repeat (first | rw [zar_p] | rw [zar_c (by omega)] | rw [zar_o (by omega) (by omega)] | rw [zfe_at] | rw [zfe_ne (by omega)] | rw [zFC_o (by omega) (by omega)] | rw [zFR_o (by omega) (by omega)]))
    exact (zfin_a kd287 (by decide) (by omega)).symm
  · subst h; (repeat (first | rw [zar_p] | rw [zar_c (by omega)] | rw [zar_o (by omega) (by omega)] | rw [zfe_at] | rw [zfe_ne (by omega)] | rw [zFC_o (by omega) (by omega)] | rw [zFR_o (by omega) (by omega)]))
    exact (zfin_a kd288 (by decide) (by omega)).symm
  · subst h; (repeat (first | rw [zar_p] | rw [zar_c (by omega)] | rw [zar_o (by omega) (by omega)] | rw [zfe_at] | rw [zfe_ne (by omega)] | rw [zFC_o (by omega) (by omega)] | rw [zFR_o (by omega) (by omega)]))
    exact (zfin_a kd289 (by decide) (by omega)).symm
  · (repeat (first | rw [zar_p] | rw [zar_c (by omega)] | rw [zar_o (by omega) (by omega)] | rw [zfe_at] | rw [zfe_ne (by omega)] | rw [zFC_o (by omega) (by omega)] | rw [zFR_o (by omega) (by omega)]))
    unfold zM0; simp only; rw [if_neg (by omega), if_neg (by omega)]; exact (zfin_x (by omega)).symm
theorem law_start {L : Nat} {xs : Nat → Int32} {Q : Option zV → zM → Prop} (hx : zR 9 132 16 [some (.inr (.inl (some (-1)))), some (.inr (.inl (some 0))), some (.inr (.inl (some 264))), none] [] (zem L (zmA xs)) Q) : zR 9 132 0 (zent 132 [.inr (.inl (some (-1)))]) [] (zM0 L xs) Q := by
  refine zI_of n132 (ls := [some (.inr (.inl (some (-1)))), none, none, none]) rfl ?_
  refine q_new (n := 0) (s := 0) (F := (zM0 L xs).2.2) (c := 0) (n' := 1) (s' := 9) f132_0 o132 C8_7 (by omega) (by omega) rfl ?_
  refine r_dupR f132_3 ?_
  refine q_spec0 f132_4 o132 M8_9 (Or.inl rfl) p42 (by simp) (c_X (L := L) (d := 5) (xs := xs) zfe_at) ?_
  refine r_astore_n f132_7 rfl (ls' := [some (.inr (.inl (some (-1)))), some (.inr (.inl (some 0))), none, none]) rfl ?_
  refine q_new (c := 264) (n' := 265) (s' := 4589) f132_8 o132 C8_10 (by omega) (by omega) rfl ?_
  refine r_dupR f132_11 ?_
  refine q_spec0 f132_12 o132 M8_12 (Or.inl rfl) p84 (by simp) (c_iM (p := 264) (c := 265) (by omega) (by omega) (by rw [zfe_at])) ?_
  refine r_astore_n f132_15 rfl (ls' := [some (.inr (.inl (some (-1)))), some (.inr (.inl (some 0))), some (.inr (.inl (some 264))), none]) rfl ?_
  refine q_cnt (n' := 290) (s' := 8927) (by omega) (by omega) zG_eq ?_
  exact hx
theorem Sim_0 {xs : Nat → Int32} : Sim 0 (zmA xs) (zmA xs) := by
  have z : ∀ {p k : Int}, 0 ≤ p → zmA xs p k = 0 := fun h => zmA_0 h
  refine ⟨?_, ?_, ?_, ?_, ?_, ?_, ?_, ?_, ?_, ?_, ?_, ?_, ?_, ?_, ?_, ?_⟩
  · unfold S1
    repeat rw [z (by omega)]
    omega
  · intro h h0 h1
    repeat rw [z (by omega)]
    omega
  · intro h h0 h1 t t0 t1
    repeat rw [z (by omega)]
    omega
  · intro h h0 h1
    refine ⟨z (by omega), fun g g0 g1 => ?_⟩
    repeat rw [z (by omega)]
    omega
  · intro c c0 c1
    repeat rw [z (by omega)]
    omega
  · intro c c0 c1 k k0 k1
    repeat rw [z (by omega)]
    omega
  · intro c c0 c1 k k0 k1
    repeat rw [z (by omega)]
    omega
  · intro c c0 c1
    refine ⟨Or.inl (z (by omega)), fun _ => by rw [z (by omega), z (by omega)], fun _ => z (by omega), fun h => by rw [z (by omega)] at h; omega, fun k k0 k1 _ => z (by omega)⟩
  · intro c c0 c1 k k0 k1
    refine ⟨Or.inl (z (by omega)), fun _ => ⟨z (by omega), z (by omega), z (by omega)⟩, fun h => by rw [z (by omega)] at h; omega⟩
  · intro h h0 h1
    refine ⟨fun k k0 k1 => by rw [z (by omega)]; omega, fun hh => by rw [z (by omega)] at hh; omega⟩
  · intro h h0 h1
    refine ⟨fun k k0 k1 => ?_, ?_, ?_⟩
    · rw [z (p := 269) (by omega)]; omega
    · rw [z (p := 3 + 4 * h) (by omega), z (p := 264) (by omega)]
      rfl
    · repeat rw [z (by omega)]
      rfl
  · intro k k0 k1
    repeat rw [z (by omega)]
    omega
  · intro k k0 k1
    repeat rw [z (by omega)]
    omega
  · refine ⟨fun k => ?_, fun k k0 k1 => ?_, fun k k0 k1 => ?_⟩
    · unfold zmA
      rw [if_neg (by omega), if_pos rfl]
    · rw [z (by omega)]; omega
    · rw [z (by omega)]; omega
  · intro c c0 c1
    refine ⟨fun h => by rw [z (by omega)] at h; omega, fun k k0 k1 => ⟨fun _ => ⟨z (by omega), z (by omega)⟩, fun _ => ⟨z (by omega), z (by omega), z (by omega), z (by omega), z (by omega), z (by omega)⟩⟩⟩
  · intro c c0 c1 k k0 k1 _
    exact z (by omega)
