/-! the fixed frame of cells: kinds, references; memory as numbers -/
def zkd (L : Nat) (p : Int) : zK :=
  if p = -1 then .inr (0, (L : Int)) else if p = -2 then .inr (0, 7) else if p < 0 then .inl 99 else
  if p = 0 then .inl 6 else if p = 1 then .inl 4 else if p = 2 then .inr (2, 12) else
  if p < 51 then (if (p - 3) % 4 = 0 then .inl 1 else if (p - 3) % 4 = 1 then .inr (0, 120) else if (p - 3) % 4 = 2 then .inr (1, 40) else .inr (0, 12)) else
  if p = 51 then .inl 5 else if p = 52 then .inr (0, 84) else if p = 53 then .inr (0, 7) else if p = 54 then .inr (3, 40) else
  if p = 55 then .inl 2 else if p = 56 then .inr (0, 40) else if p = 57 then .inr (0, 40) else if p = 58 then .inr (0, 40) else if p = 59 then .inr (1, 40) else
  if p = 60 then .inl 3 else if p = 61 then .inr (0, 20) else if p = 62 then .inr (0, 20) else if p = 63 then .inr (0, 3) else
  if p < 264 then (if (p - 64) % 5 = 0 then .inl 0 else if (p - 64) % 5 = 1 then .inr (0, 7) else if (p - 64) % 5 = 2 then .inr (0, 21) else .inr (1, 7)) else
  if p = 264 then .inl 7 else
  if p = 265 then .inr (0, 36) else
  if p = 266 then .inr (0, 12) else
  if p = 267 then .inr (0, 12) else
  if p = 268 then .inr (1, 480) else
  if p = 269 then .inr (0, 1440) else
  if p = 270 then .inr (0, 144) else
  if p = 271 then .inr (0, 40) else
  if p = 272 then .inr (0, 40) else
  if p = 273 then .inr (0, 40) else
  if p = 274 then .inr (0, 280) else
  if p = 275 then .inr (0, 40) else
  if p = 276 then .inr (1, 280) else
  if p = 277 then .inr (0, 840) else
  if p = 278 then .inr (1, 280) else
  if p = 279 then .inr (0, 40) else
  if p = 280 then .inr (1, 40) else
  if p = 281 then .inr (0, 3) else
  if p = 282 then .inr (0, 84) else
  if p = 283 then .inr (0, 7) else
  if p = 284 then .inr (0, 20) else
  if p = 285 then .inr (0, 20) else
  if p = 286 then .inr (0, 40) else
  if p = 287 then .inr (0, 40) else
  if p = 288 then .inr (0, 40) else
  if p = 289 then .inr (1, 40) else
  .inl 99
def zasg (p k : Int) : Option Int :=
  if p = 0 then (if k = 0 then some 1 else if k = 1 then some 51 else if k = 2 then some 54 else if k = 3 then some 55 else if k = 4 then some 60 else if k = 5 then some 63 else none) else
  if p = 1 then (if k = 0 then some 2 else none) else if p = 2 then (if 0 ≤ k ∧ k < 12 then some (3 + 4 * k) else none) else
  if p < 51 then (if (p - 3) % 4 = 0 then (if k = 0 then some (p + 1) else if k = 1 then some (p + 2) else if k = 2 then some (p + 3) else none) else none) else
  if p = 51 then (if k = 0 then some 1 else if k = 1 then some 52 else if k = 2 then some 53 else none) else
  if p = 54 then (if 0 ≤ k ∧ k < 40 then some (64 + 5 * k) else none) else
  if p = 55 then (if k = 0 then some 56 else if k = 1 then some 57 else if k = 2 then some 58 else if k = 3 then some 59 else none) else
  if p = 60 then (if k = 0 then some 61 else if k = 1 then some 62 else none) else if p < 64 then none else
  if p < 264 then (if (p - 64) % 5 = 0 then (if k = 0 then some (p + 1) else if k = 1 then some (p + 2) else if k = 2 then some (p + 3) else if k = 3 then some (p + 4) else none) else none) else
  if p = 264 then (
    if k = 1 then some 265 else
    if k = 2 then some 266 else
    if k = 3 then some 267 else
    if k = 4 then some 268 else
    if k = 5 then some 269 else
    if k = 8 then some 270 else
    if k = 11 then some 271 else
    if k = 12 then some 272 else
    if k = 13 then some 273 else
    if k = 14 then some 274 else
    if k = 15 then some 275 else
    if k = 16 then some 276 else
    if k = 17 then some 277 else
    if k = 18 then some 278 else
    if k = 19 then some 279 else
    if k = 20 then some 280 else
    if k = 21 then some 281 else
    if k = 22 then some 282 else
    if k = 23 then some 283 else
    if k = 25 then some 284 else
    if k = 26 then some 285 else
    if k = 28 then some 286 else
    if k = 29 then some 287 else
    if k = 30 then some 288 else
    if k = 31 then some 289 else
    none) else none
def zrf (L : Nat) (p k : Int) : Option zV := match zkd L p with
  | .inl ci => if 8 ≤ ci then none else (match zasg p k with
    | some q => some (.inr (.inl (some q)))
    | none => if zty ci k.toNat = .int then none else some (.inr (.inl none)))
  | .inr (t, _) => if t < 2 then none else (match zasg p k with
    | some q => some (.inr (.inl (some q)))
    | none => some (.inr (.inl none)))
abbrev zmem : Type := Int → Int → Int
def zcn (L : Nat) (m : zmem) (p k : Int) : zV := match zrf L p k with
  | some v => v
  | none => .inl (m p k)
def zem (L : Nat) (m : zmem) : zM := (290, 8927, fun p => (zkd L p, zcn L m p))
def zu (m : zmem) (p k v : Int) : zmem := fun a => if a = p then (fun b => if b = k then v else m p b) else m a
theorem zu_ne {m : zmem} {p k v a : Int} (h : ¬ a = p) : zu m p k v a = m a := by simp [zu, h]
theorem zu_ne2 {m : zmem} {p k v a b : Int} (h : ¬ b = k) : zu m p k v a b = m a b := by
  by_cases e : a = p
  · subst e; simp [zu, h]
  · simp [zu, e]
theorem zu_at {m : zmem} {p k v : Int} : zu m p k v p k = v := by simp [zu]
theorem zu_if {m : zmem} {p k v a b : Int} : zu m p k v a b = if a = p ∧ b = k then v else m a b := by
  by_cases e : a = p
  · subst e; simp [zu]
  · simp [zu, e]
def zgi (L : Nat) (p : Int) (ci : Nat) (k : Int) : Prop := zkd L p = .inl ci ∧ zrf L p k = none
def zgr (L : Nat) (p : Int) (ci : Nat) (k q : Int) : Prop := zkd L p = .inl ci ∧ zrf L p k = some (.inr (.inl (some q)))
theorem zgi_of {L : Nat} {p k : Int} {ci : Nat} (h : zkd L p = .inl ci) (h8 : ci < 8) (ha : zasg p k = none) (ht : zty ci k.toNat = .int) : zgi L p ci k := by
  refine ⟨h, ?_⟩
  unfold zrf
  rw [h]
  simp only
  rw [if_neg (by omega), ha]
  simp only [ht, if_true]
theorem zgr_of {L : Nat} {p k q : Int} {ci : Nat} (h : zkd L p = .inl ci) (h8 : ci < 8) (ha : zasg p k = some q) : zgr L p ci k q := by
  refine ⟨h, ?_⟩
  unfold zrf
  rw [h]
  simp only
  rw [if_neg (by omega), ha]
theorem zrf_arr {L : Nat} {p k len : Int} {t : Nat} (h : zkd L p = .inr (t, len)) (ht : t < 2) : zrf L p k = none := by
  unfold zrf
  rw [h]
  simp only
  rw [if_pos ht]
theorem zrf_ref {L : Nat} {p k len q : Int} {t : Nat} (h : zkd L p = .inr (t, len)) (ht : ¬ t < 2) (ha : zasg p k = some q) : zrf L p k = some (.inr (.inl (some q))) := by
  unfold zrf
  rw [h]
  simp only
  rw [if_neg ht, ha]
theorem zem_set {L : Nat} {m : zmem} {p k v : Int} (h : zrf L p k = none) : zup (zem L m) p (zst ((zem L m).2.2 p) k (.inl v)) = zem L (zu m p k v) := by
  unfold zup zst zem
  refine Prod.ext rfl (Prod.ext rfl ?_)
  funext q
  by_cases e : q = p
  · subst e
    simp only [if_true]
    refine Prod.ext rfl ?_
    funext i
    by_cases e2 : i = k
    · subst e2
      simp [zcn, h, zu]
    · simp only [e2, if_false, zcn, zu_ne2 e2]
  · simp only [e, if_false]
    refine Prod.ext rfl ?_
    funext i
    simp only [zcn, zu_ne e]
theorem kd0 {L : Nat} : zkd L (0) = .inl 6 := by simp [zkd]
theorem kd1 {L : Nat} : zkd L (1) = .inl 4 := by simp [zkd]
theorem kd2 {L : Nat} : zkd L (2) = .inr (2, 12) := by simp [zkd]
theorem kd51 {L : Nat} : zkd L (51) = .inl 5 := by simp [zkd]
theorem kd52 {L : Nat} : zkd L (52) = .inr (0, 84) := by simp [zkd]
theorem kd53 {L : Nat} : zkd L (53) = .inr (0, 7) := by simp [zkd]
theorem kd54 {L : Nat} : zkd L (54) = .inr (3, 40) := by simp [zkd]
theorem kd55 {L : Nat} : zkd L (55) = .inl 2 := by simp [zkd]
theorem kd56 {L : Nat} : zkd L (56) = .inr (0, 40) := by simp [zkd]
theorem kd57 {L : Nat} : zkd L (57) = .inr (0, 40) := by simp [zkd]
theorem kd58 {L : Nat} : zkd L (58) = .inr (0, 40) := by simp [zkd]
theorem kd59 {L : Nat} : zkd L (59) = .inr (1, 40) := by simp [zkd]
theorem kd60 {L : Nat} : zkd L (60) = .inl 3 := by simp [zkd]
theorem kd61 {L : Nat} : zkd L (61) = .inr (0, 20) := by simp [zkd]
theorem kd62 {L : Nat} : zkd L (62) = .inr (0, 20) := by simp [zkd]
theorem kd63 {L : Nat} : zkd L (63) = .inr (0, 3) := by simp [zkd]
theorem kd264 {L : Nat} : zkd L (264) = .inl 7 := by simp [zkd]
theorem kd265 {L : Nat} : zkd L (265) = .inr (0, 36) := by simp [zkd]
theorem kd266 {L : Nat} : zkd L (266) = .inr (0, 12) := by simp [zkd]
theorem kd267 {L : Nat} : zkd L (267) = .inr (0, 12) := by simp [zkd]
theorem kd268 {L : Nat} : zkd L (268) = .inr (1, 480) := by simp [zkd]
theorem kd269 {L : Nat} : zkd L (269) = .inr (0, 1440) := by simp [zkd]
theorem kd270 {L : Nat} : zkd L (270) = .inr (0, 144) := by simp [zkd]
theorem kd271 {L : Nat} : zkd L (271) = .inr (0, 40) := by simp [zkd]
theorem kd272 {L : Nat} : zkd L (272) = .inr (0, 40) := by simp [zkd]
theorem kd273 {L : Nat} : zkd L (273) = .inr (0, 40) := by simp [zkd]
theorem kd274 {L : Nat} : zkd L (274) = .inr (0, 280) := by simp [zkd]
theorem kd275 {L : Nat} : zkd L (275) = .inr (0, 40) := by simp [zkd]
theorem kd276 {L : Nat} : zkd L (276) = .inr (1, 280) := by simp [zkd]
theorem kd277 {L : Nat} : zkd L (277) = .inr (0, 840) := by simp [zkd]
theorem kd278 {L : Nat} : zkd L (278) = .inr (1, 280) := by simp [zkd]
theorem kd279 {L : Nat} : zkd L (279) = .inr (0, 40) := by simp [zkd]
theorem kd280 {L : Nat} : zkd L (280) = .inr (1, 40) := by simp [zkd]
theorem kd281 {L : Nat} : zkd L (281) = .inr (0, 3) := by simp [zkd]
theorem kd282 {L : Nat} : zkd L (282) = .inr (0, 84) := by simp [zkd]
theorem kd283 {L : Nat} : zkd L (283) = .inr (0, 7) := by simp [zkd]
theorem kd284 {L : Nat} : zkd L (284) = .inr (0, 20) := by simp [zkd]
theorem kd285 {L : Nat} : zkd L (285) = .inr (0, 20) := by simp [zkd]
theorem kd286 {L : Nat} : zkd L (286) = .inr (0, 40) := by simp [zkd]
theorem kd287 {L : Nat} : zkd L (287) = .inr (0, 40) := by simp [zkd]
theorem kd288 {L : Nat} : zkd L (288) = .inr (0, 40) := by simp [zkd]
theorem kd289 {L : Nat} : zkd L (289) = .inr (1, 40) := by simp [zkd]
theorem kdm1 {L : Nat} : zkd L (-1) = .inr (0, (L : Int)) := by simp [zkd]
theorem kdm2 {L : Nat} : zkd L (-2) = .inr (0, 7) := by simp [zkd]
theorem kdH0 {L : Nat} {h : Int} (h0 : 0 ≤ h) (h1 : h < 12) : zkd L (3 + 4 * h) = .inl 1 := by
  unfold zkd
  repeat (first | rw [if_neg (by omega)] | rw [if_pos (by omega)])
theorem kdH1 {L : Nat} {h : Int} (h0 : 0 ≤ h) (h1 : h < 12) : zkd L (4 + 4 * h) = .inr (0, 120) := by
  unfold zkd
  repeat (first | rw [if_neg (by omega)] | rw [if_pos (by omega)])
theorem kdH2 {L : Nat} {h : Int} (h0 : 0 ≤ h) (h1 : h < 12) : zkd L (5 + 4 * h) = .inr (1, 40) := by
  unfold zkd
  repeat (first | rw [if_neg (by omega)] | rw [if_pos (by omega)])
theorem kdH3 {L : Nat} {h : Int} (h0 : 0 ≤ h) (h1 : h < 12) : zkd L (6 + 4 * h) = .inr (0, 12) := by
  unfold zkd
  repeat (first | rw [if_neg (by omega)] | rw [if_pos (by omega)])
theorem kdC0 {L : Nat} {c : Int} (h0 : 0 ≤ c) (h1 : c < 40) : zkd L (64 + 5 * c) = .inl 0 := by
  unfold zkd
  repeat (first | rw [if_neg (by omega)] | rw [if_pos (by omega)])
theorem kdC1 {L : Nat} {c : Int} (h0 : 0 ≤ c) (h1 : c < 40) : zkd L (65 + 5 * c) = .inr (0, 7) := by
  unfold zkd
  repeat (first | rw [if_neg (by omega)] | rw [if_pos (by omega)])
theorem kdC2 {L : Nat} {c : Int} (h0 : 0 ≤ c) (h1 : c < 40) : zkd L (66 + 5 * c) = .inr (0, 21) := by
  unfold zkd
  repeat (first | rw [if_neg (by omega)] | rw [if_pos (by omega)])
theorem kdC3 {L : Nat} {c : Int} (h0 : 0 ≤ c) (h1 : c < 40) : zkd L (67 + 5 * c) = .inr (1, 7) := by
  unfold zkd
  repeat (first | rw [if_neg (by omega)] | rw [if_pos (by omega)])
theorem kdC4 {L : Nat} {c : Int} (h0 : 0 ≤ c) (h1 : c < 40) : zkd L (68 + 5 * c) = .inr (1, 7) := by
  unfold zkd
  repeat (first | rw [if_neg (by omega)] | rw [if_pos (by omega)])
theorem g0_0 {L : Nat} : zgr L (0) 6 0 (1) := zgr_of kd0 (by decide) (by simp [zasg])
theorem g0_1 {L : Nat} : zgr L (0) 6 1 (51) := zgr_of kd0 (by decide) (by simp [zasg])
theorem g0_2 {L : Nat} : zgr L (0) 6 2 (54) := zgr_of kd0 (by decide) (by simp [zasg])
theorem g0_3 {L : Nat} : zgr L (0) 6 3 (55) := zgr_of kd0 (by decide) (by simp [zasg])
theorem g0_4 {L : Nat} : zgr L (0) 6 4 (60) := zgr_of kd0 (by decide) (by simp [zasg])
theorem g0_5 {L : Nat} : zgr L (0) 6 5 (63) := zgr_of kd0 (by decide) (by simp [zasg])
theorem g0_6 {L : Nat} : zgi L (0) 6 6 := zgi_of kd0 (by decide) (by simp [zasg]) (by decide)
theorem g0_7 {L : Nat} : zgi L (0) 6 7 := zgi_of kd0 (by decide) (by simp [zasg]) (by decide)
theorem g0_8 {L : Nat} : zgi L (0) 6 8 := zgi_of kd0 (by decide) (by simp [zasg]) (by decide)
theorem g1_0 {L : Nat} : zgr L (1) 4 0 (2) := zgr_of kd1 (by decide) (by simp [zasg])
theorem g1_1 {L : Nat} : zgi L (1) 4 1 := zgi_of kd1 (by decide) (by simp [zasg]) (by decide)
theorem g1_2 {L : Nat} : zgi L (1) 4 2 := zgi_of kd1 (by decide) (by simp [zasg]) (by decide)
theorem g51_0 {L : Nat} : zgr L (51) 5 0 (1) := zgr_of kd51 (by decide) (by simp [zasg])
theorem g51_1 {L : Nat} : zgr L (51) 5 1 (52) := zgr_of kd51 (by decide) (by simp [zasg])
theorem g51_2 {L : Nat} : zgr L (51) 5 2 (53) := zgr_of kd51 (by decide) (by simp [zasg])
theorem g55_0 {L : Nat} : zgr L (55) 2 0 (56) := zgr_of kd55 (by decide) (by simp [zasg])
theorem g55_1 {L : Nat} : zgr L (55) 2 1 (57) := zgr_of kd55 (by decide) (by simp [zasg])
theorem g55_2 {L : Nat} : zgr L (55) 2 2 (58) := zgr_of kd55 (by decide) (by simp [zasg])
theorem g55_3 {L : Nat} : zgr L (55) 2 3 (59) := zgr_of kd55 (by decide) (by simp [zasg])
theorem g55_4 {L : Nat} : zgi L (55) 2 4 := zgi_of kd55 (by decide) (by simp [zasg]) (by decide)
theorem g60_0 {L : Nat} : zgr L (60) 3 0 (61) := zgr_of kd60 (by decide) (by simp [zasg])
theorem g60_1 {L : Nat} : zgr L (60) 3 1 (62) := zgr_of kd60 (by decide) (by simp [zasg])
theorem g60_2 {L : Nat} : zgi L (60) 3 2 := zgi_of kd60 (by decide) (by simp [zasg]) (by decide)
theorem g264_0 {L : Nat} : zgi L (264) 7 0 := zgi_of kd264 (by decide) (by simp [zasg]) (by decide)
theorem g264_1 {L : Nat} : zgr L (264) 7 1 (265) := zgr_of kd264 (by decide) (by simp [zasg])
theorem g264_2 {L : Nat} : zgr L (264) 7 2 (266) := zgr_of kd264 (by decide) (by simp [zasg])
theorem g264_3 {L : Nat} : zgr L (264) 7 3 (267) := zgr_of kd264 (by decide) (by simp [zasg])
theorem g264_4 {L : Nat} : zgr L (264) 7 4 (268) := zgr_of kd264 (by decide) (by simp [zasg])
theorem g264_5 {L : Nat} : zgr L (264) 7 5 (269) := zgr_of kd264 (by decide) (by simp [zasg])
theorem g264_6 {L : Nat} : zgi L (264) 7 6 := zgi_of kd264 (by decide) (by simp [zasg]) (by decide)
theorem g264_7 {L : Nat} : zgi L (264) 7 7 := zgi_of kd264 (by decide) (by simp [zasg]) (by decide)
theorem g264_8 {L : Nat} : zgr L (264) 7 8 (270) := zgr_of kd264 (by decide) (by simp [zasg])
theorem g264_9 {L : Nat} : zgi L (264) 7 9 := zgi_of kd264 (by decide) (by simp [zasg]) (by decide)
theorem g264_10 {L : Nat} : zgi L (264) 7 10 := zgi_of kd264 (by decide) (by simp [zasg]) (by decide)
theorem g264_11 {L : Nat} : zgr L (264) 7 11 (271) := zgr_of kd264 (by decide) (by simp [zasg])
theorem g264_12 {L : Nat} : zgr L (264) 7 12 (272) := zgr_of kd264 (by decide) (by simp [zasg])
theorem g264_13 {L : Nat} : zgr L (264) 7 13 (273) := zgr_of kd264 (by decide) (by simp [zasg])
theorem g264_14 {L : Nat} : zgr L (264) 7 14 (274) := zgr_of kd264 (by decide) (by simp [zasg])
theorem g264_15 {L : Nat} : zgr L (264) 7 15 (275) := zgr_of kd264 (by decide) (by simp [zasg])
theorem g264_16 {L : Nat} : zgr L (264) 7 16 (276) := zgr_of kd264 (by decide) (by simp [zasg])
theorem g264_17 {L : Nat} : zgr L (264) 7 17 (277) := zgr_of kd264 (by decide) (by simp [zasg])
theorem g264_18 {L : Nat} : zgr L (264) 7 18 (278) := zgr_of kd264 (by decide) (by simp [zasg])
theorem g264_19 {L : Nat} : zgr L (264) 7 19 (279) := zgr_of kd264 (by decide) (by simp [zasg])
theorem g264_20 {L : Nat} : zgr L (264) 7 20 (280) := zgr_of kd264 (by decide) (by simp [zasg])
theorem g264_21 {L : Nat} : zgr L (264) 7 21 (281) := zgr_of kd264 (by decide) (by simp [zasg])
theorem g264_22 {L : Nat} : zgr L (264) 7 22 (282) := zgr_of kd264 (by decide) (by simp [zasg])
theorem g264_23 {L : Nat} : zgr L (264) 7 23 (283) := zgr_of kd264 (by decide) (by simp [zasg])
theorem g264_24 {L : Nat} : zgi L (264) 7 24 := zgi_of kd264 (by decide) (by simp [zasg]) (by decide)
theorem g264_25 {L : Nat} : zgr L (264) 7 25 (284) := zgr_of kd264 (by decide) (by simp [zasg])
theorem g264_26 {L : Nat} : zgr L (264) 7 26 (285) := zgr_of kd264 (by decide) (by simp [zasg])
theorem g264_27 {L : Nat} : zgi L (264) 7 27 := zgi_of kd264 (by decide) (by simp [zasg]) (by decide)
theorem g264_28 {L : Nat} : zgr L (264) 7 28 (286) := zgr_of kd264 (by decide) (by simp [zasg])
theorem g264_29 {L : Nat} : zgr L (264) 7 29 (287) := zgr_of kd264 (by decide) (by simp [zasg])
theorem g264_30 {L : Nat} : zgr L (264) 7 30 (288) := zgr_of kd264 (by decide) (by simp [zasg])
theorem g264_31 {L : Nat} : zgr L (264) 7 31 (289) := zgr_of kd264 (by decide) (by simp [zasg])
theorem gH_0 {L : Nat} {h : Int} (h0 : 0 ≤ h) (h1 : h < 12) : zgr L (3 + 4 * h) 1 0 (4 + 4 * h) := zgr_of (kdH0 h0 h1) (by decide) (by
  unfold zasg
  repeat (first | rw [if_neg (by omega)] | rw [if_pos (by omega)])
  congr 1; omega)
theorem gH_1 {L : Nat} {h : Int} (h0 : 0 ≤ h) (h1 : h < 12) : zgr L (3 + 4 * h) 1 1 (5 + 4 * h) := zgr_of (kdH0 h0 h1) (by decide) (by
  unfold zasg
  repeat (first | rw [if_neg (by omega)] | rw [if_pos (by omega)])
  congr 1; omega)
theorem gH_2 {L : Nat} {h : Int} (h0 : 0 ≤ h) (h1 : h < 12) : zgr L (3 + 4 * h) 1 2 (6 + 4 * h) := zgr_of (kdH0 h0 h1) (by decide) (by
  unfold zasg
  repeat (first | rw [if_neg (by omega)] | rw [if_pos (by omega)])
  congr 1; omega)
theorem gH_3 {L : Nat} {h : Int} (h0 : 0 ≤ h) (h1 : h < 12) : zgi L (3 + 4 * h) 1 3 := zgi_of (kdH0 h0 h1) (by decide) (by
  unfold zasg
  repeat (first | rw [if_neg (by omega)] | rw [if_pos (by omega)])) (by decide)
theorem gH_4 {L : Nat} {h : Int} (h0 : 0 ≤ h) (h1 : h < 12) : zgi L (3 + 4 * h) 1 4 := zgi_of (kdH0 h0 h1) (by decide) (by
  unfold zasg
  repeat (first | rw [if_neg (by omega)] | rw [if_pos (by omega)])) (by decide)
theorem gH_5 {L : Nat} {h : Int} (h0 : 0 ≤ h) (h1 : h < 12) : zgi L (3 + 4 * h) 1 5 := zgi_of (kdH0 h0 h1) (by decide) (by
  unfold zasg
  repeat (first | rw [if_neg (by omega)] | rw [if_pos (by omega)])) (by decide)
theorem gH_6 {L : Nat} {h : Int} (h0 : 0 ≤ h) (h1 : h < 12) : zgi L (3 + 4 * h) 1 6 := zgi_of (kdH0 h0 h1) (by decide) (by
  unfold zasg
  repeat (first | rw [if_neg (by omega)] | rw [if_pos (by omega)])) (by decide)
theorem gC_0 {L : Nat} {c : Int} (h0 : 0 ≤ c) (h1 : c < 40) : zgr L (64 + 5 * c) 0 0 (65 + 5 * c) := zgr_of (kdC0 h0 h1) (by decide) (by
  unfold zasg
  repeat (first | rw [if_neg (by omega)] | rw [if_pos (by omega)])
  congr 1; omega)
theorem gC_1 {L : Nat} {c : Int} (h0 : 0 ≤ c) (h1 : c < 40) : zgr L (64 + 5 * c) 0 1 (66 + 5 * c) := zgr_of (kdC0 h0 h1) (by decide) (by
  unfold zasg
  repeat (first | rw [if_neg (by omega)] | rw [if_pos (by omega)])
  congr 1; omega)
theorem gC_2 {L : Nat} {c : Int} (h0 : 0 ≤ c) (h1 : c < 40) : zgr L (64 + 5 * c) 0 2 (67 + 5 * c) := zgr_of (kdC0 h0 h1) (by decide) (by
  unfold zasg
  repeat (first | rw [if_neg (by omega)] | rw [if_pos (by omega)])
  congr 1; omega)
theorem gC_3 {L : Nat} {c : Int} (h0 : 0 ≤ c) (h1 : c < 40) : zgr L (64 + 5 * c) 0 3 (68 + 5 * c) := zgr_of (kdC0 h0 h1) (by decide) (by
  unfold zasg
  repeat (first | rw [if_neg (by omega)] | rw [if_pos (by omega)])
  congr 1; omega)
theorem gC_4 {L : Nat} {c : Int} (h0 : 0 ≤ c) (h1 : c < 40) : zgi L (64 + 5 * c) 0 4 := zgi_of (kdC0 h0 h1) (by decide) (by
  unfold zasg
  repeat (first | rw [if_neg (by omega)] | rw [if_pos (by omega)])) (by decide)
theorem gC_5 {L : Nat} {c : Int} (h0 : 0 ≤ c) (h1 : c < 40) : zgi L (64 + 5 * c) 0 5 := zgi_of (kdC0 h0 h1) (by decide) (by
  unfold zasg
  repeat (first | rw [if_neg (by omega)] | rw [if_pos (by omega)])) (by decide)
theorem gC_6 {L : Nat} {c : Int} (h0 : 0 ≤ c) (h1 : c < 40) : zgi L (64 + 5 * c) 0 6 := zgi_of (kdC0 h0 h1) (by decide) (by
  unfold zasg
  repeat (first | rw [if_neg (by omega)] | rw [if_pos (by omega)])) (by decide)
theorem gC_7 {L : Nat} {c : Int} (h0 : 0 ≤ c) (h1 : c < 40) : zgi L (64 + 5 * c) 0 7 := zgi_of (kdC0 h0 h1) (by decide) (by
  unfold zasg
  repeat (first | rw [if_neg (by omega)] | rw [if_pos (by omega)])) (by decide)
theorem gC_8 {L : Nat} {c : Int} (h0 : 0 ≤ c) (h1 : c < 40) : zgi L (64 + 5 * c) 0 8 := zgi_of (kdC0 h0 h1) (by decide) (by
  unfold zasg
  repeat (first | rw [if_neg (by omega)] | rw [if_pos (by omega)])) (by decide)
theorem ag2 {h : Int} (h0 : 0 ≤ h) (h1 : h < 12) : zasg 2 h = some (3 + 4 * h) := by simp [zasg, h0, h1]
theorem ag54 {c : Int} (h0 : 0 ≤ c) (h1 : c < 40) : zasg 54 c = some (64 + 5 * c) := by simp [zasg, h0, h1]
section ZRM
variable {L d j pc : Nat} {ls : zL} {st : List zV} {m : zmem} {Q : Option zV → zM → Prop}
theorem r_getI {n o ci : Nat} {k : Nat} {k' p : Int} (hf : zft j pc = some (.getfield n, 3)) (ho : zo j = o) (hg : zfl o n = some (ci, k)) (h : zgi L p ci k') (hk : (k : Int) = k') (kk : zR d j (pc + 3) ls (.inl (m p k') :: st) (zem L m) Q) : zR d j pc ls (.inr (.inl (some p)) :: st) (zem L m) Q := by
  subst hk
  refine zR_nx hf rfl rfl rfl ?_ kk
  have e : ((zem L m).2.2 p).1 = .inl ci := h.1
  have e2 : ((zem L m).2.2 p).2 (k : Int) = .inl (m p k) := by show zcn L m p k = _; unfold zcn; rw [h.2]
  simp only [znx, zn1, zn2, zn3, ho, hg, e, if_true, e2]
theorem r_getR {n o ci : Nat} {k : Nat} {k' p q : Int} (hf : zft j pc = some (.getfield n, 3)) (ho : zo j = o) (hg : zfl o n = some (ci, k)) (h : zgr L p ci k' q) (hk : (k : Int) = k') (kk : zR d j (pc + 3) ls (.inr (.inl (some q)) :: st) (zem L m) Q) : zR d j pc ls (.inr (.inl (some p)) :: st) (zem L m) Q := by
  subst hk
  refine zR_nx hf rfl rfl rfl ?_ kk
  have e : ((zem L m).2.2 p).1 = .inl ci := h.1
  have e2 : ((zem L m).2.2 p).2 (k : Int) = .inr (.inl (some q)) := by show zcn L m p k = _; unfold zcn; rw [h.2]
  simp only [znx, zn1, zn2, zn3, ho, hg, e, if_true, e2]
theorem r_put {n o ci : Nat} {k : Nat} {k' p v : Int} (hf : zft j pc = some (.putfield n, 3)) (ho : zo j = o) (hg : zfl o n = some (ci, k)) (h : zgi L p ci k') (hk : (k : Int) = k') (ht : zty ci k = .int) (hn : (zT ci k).2.2.2 = false) (kk : zR d j (pc + 3) ls st (zem L (zu m p k' v)) Q) : zR d j pc ls (.inl v :: .inr (.inl (some p)) :: st) (zem L m) Q := by
  subst hk
  refine zR_nx hf rfl rfl rfl ?_ kk
  have e : ((zem L m).2.2 p).1 = .inl ci := h.1
  simp only [znx, zn1, zn2, zn3, ho, hg, e, ht, hn, and_self, if_true]
  rw [zem_set h.2]
theorem r_iald {p a len : Int} (hf : zft j pc = some (.iaload, 1)) (h : zkd L p = .inr (0, len)) (h0 : 0 ≤ a) (h1 : a < len) (kk : zR d j (pc + 1) ls (.inl (m p a) :: st) (zem L m) Q) : zR d j pc ls (.inl a :: .inr (.inl (some p)) :: st) (zem L m) Q := by
  refine zR_nx hf rfl rfl rfl ?_ kk
  have e : ((zem L m).2.2 p).1 = .inr (0, len) := h
  have e2 : ((zem L m).2.2 p).2 a = .inl (m p a) := by show zcn L m p a = _; unfold zcn; rw [zrf_arr h (by decide)]
  simp only [znx, zn1, zn2, zn3, e, h0, h1, and_self, if_true, e2]
theorem r_bald {p a len : Int} (hf : zft j pc = some (.baload, 1)) (h : zkd L p = .inr (1, len)) (h0 : 0 ≤ a) (h1 : a < len) (kk : zR d j (pc + 1) ls (.inl (m p a) :: st) (zem L m) Q) : zR d j pc ls (.inl a :: .inr (.inl (some p)) :: st) (zem L m) Q := by
  refine zR_nx hf rfl rfl rfl ?_ kk
  have e : ((zem L m).2.2 p).1 = .inr (1, len) := h
  have e2 : ((zem L m).2.2 p).2 a = .inl (m p a) := by show zcn L m p a = _; unfold zcn; rw [zrf_arr h (by decide)]
  simp only [znx, zn1, zn2, zn3, e, h0, h1, and_self, if_true, e2]
theorem r_aldH {a : Int} (hf : zft j pc = some (.aaload, 1)) (h0 : 0 ≤ a) (h1 : a < 12) (kk : zR d j (pc + 1) ls (.inr (.inl (some (3 + 4 * a))) :: st) (zem L m) Q) : zR d j pc ls (.inl a :: .inr (.inl (some 2)) :: st) (zem L m) Q := by
  refine zR_nx hf rfl rfl rfl ?_ kk
  have e : ((zem L m).2.2 2).1 = .inr (2, 12) := kd2 (L := L)
  have e2 : ((zem L m).2.2 2).2 a = .inr (.inl (some (3 + 4 * a))) := by show zcn L m 2 a = _; unfold zcn; rw [zrf_ref kd2 (by decide) (ag2 h0 h1)]
  simp [znx, zn1, zn2, zn3, e, h0, h1, e2]
theorem r_aldC {a : Int} (hf : zft j pc = some (.aaload, 1)) (h0 : 0 ≤ a) (h1 : a < 40) (kk : zR d j (pc + 1) ls (.inr (.inl (some (64 + 5 * a))) :: st) (zem L m) Q) : zR d j pc ls (.inl a :: .inr (.inl (some 54)) :: st) (zem L m) Q := by
  refine zR_nx hf rfl rfl rfl ?_ kk
  have e : ((zem L m).2.2 54).1 = .inr (3, 40) := kd54 (L := L)
  have e2 : ((zem L m).2.2 54).2 a = .inr (.inl (some (64 + 5 * a))) := by show zcn L m 54 a = _; unfold zcn; rw [zrf_ref kd54 (by decide) (ag54 h0 h1)]
  simp [znx, zn1, zn2, zn3, e, h0, h1, e2]
theorem r_iast {p a len v : Int} (hf : zft j pc = some (.iastore, 1)) (h : zkd L p = .inr (0, len)) (hp : 0 ≤ p) (h0 : 0 ≤ a) (h1 : a < len) (kk : zR d j (pc + 1) ls st (zem L (zu m p a v)) Q) : zR d j pc ls (.inl v :: .inl a :: .inr (.inl (some p)) :: st) (zem L m) Q := by
  refine zR_nx hf rfl rfl rfl ?_ kk
  have e : ((zem L m).2.2 p).1 = .inr (0, len) := h
  simp only [znx, zn1, zn2, zn3, e, hp, h0, h1, and_self, if_true]
  rw [zem_set (zrf_arr h (by decide))]
theorem r_bast {p a len v : Int} (hf : zft j pc = some (.bastore, 1)) (h : zkd L p = .inr (1, len)) (hp : 0 ≤ p) (h0 : 0 ≤ a) (h1 : a < len) (hv : v = 0 ∨ v = 1) (kk : zR d j (pc + 1) ls st (zem L (zu m p a v)) Q) : zR d j pc ls (.inl v :: .inl a :: .inr (.inl (some p)) :: st) (zem L m) Q := by
  refine zR_nx hf rfl rfl rfl ?_ kk
  have e : ((zem L m).2.2 p).1 = .inr (1, len) := h
  simp only [znx, zn1, zn2, zn3, e, hp, h0, h1, hv, and_self, if_true]
  rw [zem_set (zrf_arr h (by decide))]
theorem r_alen {p len : Int} (hf : zft j pc = some (.arraylength, 1)) (h : zkd L p = .inr (0, len)) (kk : zR d j (pc + 1) ls (.inl len :: st) (zem L m) Q) : zR d j pc ls (.inr (.inl (some p)) :: st) (zem L m) Q := by
  refine zR_nx hf rfl rfl rfl ?_ kk
  have e : ((zem L m).2.2 p).1 = .inr (0, len) := h
  simp only [znx, zn1, zn2, zn3, e]
theorem r_gets {o : Nat} (hf : zft j pc = some (.getstatic 26, 3)) (ho : zo j = 1) (kk : zR d j (pc + 3) ls (.inr (.inl (some (-2))) :: st) (zem L m) Q) : zR d j pc ls st (zem L m) Q := by
  refine zR_nx hf rfl rfl rfl ?_ kk
  simp only [znx, zn1, zn2, zn3, ho, and_self, if_true]
/-- what a method answers and leaves -/
def zF (L d j : Nat) (as : List zV) (m : zmem) (v : Option zV) (m' : zmem) : Prop := zR d j 0 (zent j as) [] (zem L m) (fun r M => r = v ∧ M = zem L m')

theorem r_callv0 {q n o c : Nat} {p : Int} {v : Option zV} {m' : zmem} (hf : zft j pc = some (.invokevirtual n, 3)) (ho : zo j = o) (hm : zml o n = some (0, q)) (hp : zp q = 0) (hc : zo q = c) (hk : zkd L p = .inl c) (hs : zsm [] = true) (hr : st.length ≤ 4) (hF : zF L d q (.inr (.inl (some p)) :: []) m v m') (kk : zR (d + 1) j (pc + 3) ls (v.toList ++ st) (zem L m') Q) : zR (d + 1) j pc ls (.inr (.inl (some p)) :: st) (zem L m) Q := by
  have e : ((zem L m).2.2 p).1 = .inl c := hk
  refine zR_ca (x := (q, .inr (.inl (some p)) :: [], st)) hf rfl rfl ?_ hF kk
  simp only [zca, ho, hm, hp, List.drop, List.take, e, hc, hr]
  simp [hs]
theorem r_callv1 {q n o c : Nat} {p : Int} {a1 : zV} {v : Option zV} {m' : zmem} (hf : zft j pc = some (.invokevirtual n, 3)) (ho : zo j = o) (hm : zml o n = some (0, q)) (hp : zp q = 1) (hc : zo q = c) (hk : zkd L p = .inl c) (hs : zsm [a1] = true) (hr : st.length ≤ 4) (hF : zF L d q (.inr (.inl (some p)) :: [a1]) m v m') (kk : zR (d + 1) j (pc + 3) ls (v.toList ++ st) (zem L m') Q) : zR (d + 1) j pc ls (a1 :: .inr (.inl (some p)) :: st) (zem L m) Q := by
  have e : ((zem L m).2.2 p).1 = .inl c := hk
  refine zR_ca (x := (q, .inr (.inl (some p)) :: [a1], st)) hf rfl rfl ?_ hF kk
  simp only [zca, ho, hm, hp, List.drop, List.take, e, hc, hr]
  simp [hs]
theorem r_calls1 {q n o c : Nat} {a1 : zV} {v : Option zV} {m' : zmem} (hf : zft j pc = some (.invokestatic n, 3)) (ho : zo j = o) (hm : zml o n = some (c, q)) (hc : c = 1 ∨ c = 3) (hp : zp q = 1) (hs : zsm [a1] = true) (hr : st.length ≤ 4) (hF : zF L d q [a1] m v m') (kk : zR (d + 1) j (pc + 3) ls (v.toList ++ st) (zem L m') Q) : zR (d + 1) j pc ls (a1 :: st) (zem L m) Q := by
  refine zR_ca (x := (q, [a1], st)) hf rfl rfl ?_ hF kk
  simp only [zca, ho, hm, hp, List.drop, List.take, hc, hr]
  simp [hs]
theorem r_callv2 {q n o c : Nat} {p : Int} {a1 a2 : zV} {v : Option zV} {m' : zmem} (hf : zft j pc = some (.invokevirtual n, 3)) (ho : zo j = o) (hm : zml o n = some (0, q)) (hp : zp q = 2) (hc : zo q = c) (hk : zkd L p = .inl c) (hs : zsm [a2, a1] = true) (hr : st.length ≤ 4) (hF : zF L d q (.inr (.inl (some p)) :: [a1, a2]) m v m') (kk : zR (d + 1) j (pc + 3) ls (v.toList ++ st) (zem L m') Q) : zR (d + 1) j pc ls (a2 :: a1 :: .inr (.inl (some p)) :: st) (zem L m) Q := by
  have e : ((zem L m).2.2 p).1 = .inl c := hk
  refine zR_ca (x := (q, .inr (.inl (some p)) :: [a1, a2], st)) hf rfl rfl ?_ hF kk
  simp only [zca, ho, hm, hp, List.drop, List.take, e, hc, hr]
  simp [hs]
theorem r_calls2 {q n o c : Nat} {a1 a2 : zV} {v : Option zV} {m' : zmem} (hf : zft j pc = some (.invokestatic n, 3)) (ho : zo j = o) (hm : zml o n = some (c, q)) (hc : c = 1 ∨ c = 3) (hp : zp q = 2) (hs : zsm [a2, a1] = true) (hr : st.length ≤ 4) (hF : zF L d q [a1, a2] m v m') (kk : zR (d + 1) j (pc + 3) ls (v.toList ++ st) (zem L m') Q) : zR (d + 1) j pc ls (a2 :: a1 :: st) (zem L m) Q := by
  refine zR_ca (x := (q, [a1, a2], st)) hf rfl rfl ?_ hF kk
  simp only [zca, ho, hm, hp, List.drop, List.take, hc, hr]
  simp [hs]
theorem r_callv3 {q n o c : Nat} {p : Int} {a1 a2 a3 : zV} {v : Option zV} {m' : zmem} (hf : zft j pc = some (.invokevirtual n, 3)) (ho : zo j = o) (hm : zml o n = some (0, q)) (hp : zp q = 3) (hc : zo q = c) (hk : zkd L p = .inl c) (hs : zsm [a3, a2, a1] = true) (hr : st.length ≤ 4) (hF : zF L d q (.inr (.inl (some p)) :: [a1, a2, a3]) m v m') (kk : zR (d + 1) j (pc + 3) ls (v.toList ++ st) (zem L m') Q) : zR (d + 1) j pc ls (a3 :: a2 :: a1 :: .inr (.inl (some p)) :: st) (zem L m) Q := by
  have e : ((zem L m).2.2 p).1 = .inl c := hk
  refine zR_ca (x := (q, .inr (.inl (some p)) :: [a1, a2, a3], st)) hf rfl rfl ?_ hF kk
  simp only [zca, ho, hm, hp, List.drop, List.take, e, hc, hr]
  simp [hs]
theorem r_calls3 {q n o c : Nat} {a1 a2 a3 : zV} {v : Option zV} {m' : zmem} (hf : zft j pc = some (.invokestatic n, 3)) (ho : zo j = o) (hm : zml o n = some (c, q)) (hc : c = 1 ∨ c = 3) (hp : zp q = 3) (hs : zsm [a3, a2, a1] = true) (hr : st.length ≤ 4) (hF : zF L d q [a1, a2, a3] m v m') (kk : zR (d + 1) j (pc + 3) ls (v.toList ++ st) (zem L m') Q) : zR (d + 1) j pc ls (a3 :: a2 :: a1 :: st) (zem L m) Q := by
  refine zR_ca (x := (q, [a1, a2, a3], st)) hf rfl rfl ?_ hF kk
  simp only [zca, ho, hm, hp, List.drop, List.take, hc, hr]
  simp [hs]
theorem r_callv4 {q n o c : Nat} {p : Int} {a1 a2 a3 a4 : zV} {v : Option zV} {m' : zmem} (hf : zft j pc = some (.invokevirtual n, 3)) (ho : zo j = o) (hm : zml o n = some (0, q)) (hp : zp q = 4) (hc : zo q = c) (hk : zkd L p = .inl c) (hs : zsm [a4, a3, a2, a1] = true) (hr : st.length ≤ 4) (hF : zF L d q (.inr (.inl (some p)) :: [a1, a2, a3, a4]) m v m') (kk : zR (d + 1) j (pc + 3) ls (v.toList ++ st) (zem L m') Q) : zR (d + 1) j pc ls (a4 :: a3 :: a2 :: a1 :: .inr (.inl (some p)) :: st) (zem L m) Q := by
  have e : ((zem L m).2.2 p).1 = .inl c := hk
  refine zR_ca (x := (q, .inr (.inl (some p)) :: [a1, a2, a3, a4], st)) hf rfl rfl ?_ hF kk
  simp only [zca, ho, hm, hp, List.drop, List.take, e, hc, hr]
  simp [hs]
theorem r_calls4 {q n o c : Nat} {a1 a2 a3 a4 : zV} {v : Option zV} {m' : zmem} (hf : zft j pc = some (.invokestatic n, 3)) (ho : zo j = o) (hm : zml o n = some (c, q)) (hc : c = 1 ∨ c = 3) (hp : zp q = 4) (hs : zsm [a4, a3, a2, a1] = true) (hr : st.length ≤ 4) (hF : zF L d q [a1, a2, a3, a4] m v m') (kk : zR (d + 1) j (pc + 3) ls (v.toList ++ st) (zem L m') Q) : zR (d + 1) j pc ls (a4 :: a3 :: a2 :: a1 :: st) (zem L m) Q := by
  refine zR_ca (x := (q, [a1, a2, a3, a4], st)) hf rfl rfl ?_ hF kk
  simp only [zca, ho, hm, hp, List.drop, List.take, hc, hr]
  simp [hs]
theorem r_ite {P : Prop} [Decidable P] {M : zM} {a b : Int} (k1 : P → zR d j pc ls (.inl a :: st) M Q) (k2 : ¬ P → zR d j pc ls (.inl b :: st) M Q) : zR d j pc ls (.inl (if P then a else b) :: st) M Q := by
  by_cases h : P
  · rw [if_pos h]; exact k1 h
  · rw [if_neg h]; exact k2 h
theorem zF_of {j : Nat} {as : List zV} {m m' : zmem} {v : Option zV} {nl : Nat} {ls : zL} (hn : zn j = nl) (hl : as.map some ++ List.replicate (nl - as.length) none = ls) (h : zR d j 0 ls [] (zem L m) (fun r M => r = v ∧ M = zem L m')) : zF L d j as m v m' := by
  unfold zF zent
  rw [hn, hl]
  exact h
theorem r_callv0i {q n o c : Nat} {p : Int} {v : Int} {m' : zmem} (hf : zft j pc = some (.invokevirtual n, 3)) (ho : zo j = o) (hm : zml o n = some (0, q)) (hp : zp q = 0) (hc : zo q = c) (hk : zkd L p = .inl c) (hs : zsm [] = true) (hr : st.length ≤ 4) (hF : zF L d q (.inr (.inl (some p)) :: []) m (some (.inl v)) m') (kk : zR (d + 1) j (pc + 3) ls (.inl v :: st) (zem L m') Q) : zR (d + 1) j pc ls (.inr (.inl (some p)) :: st) (zem L m) Q := r_callv0 hf ho hm hp hc hk hs hr hF kk
theorem r_callv0l {q n o c : Nat} {p : Int} {v : Int64} {m' : zmem} (hf : zft j pc = some (.invokevirtual n, 3)) (ho : zo j = o) (hm : zml o n = some (0, q)) (hp : zp q = 0) (hc : zo q = c) (hk : zkd L p = .inl c) (hs : zsm [] = true) (hr : st.length ≤ 4) (hF : zF L d q (.inr (.inl (some p)) :: []) m (some (.inr (.inr v))) m') (kk : zR (d + 1) j (pc + 3) ls (.inr (.inr v) :: st) (zem L m') Q) : zR (d + 1) j pc ls (.inr (.inl (some p)) :: st) (zem L m) Q := r_callv0 hf ho hm hp hc hk hs hr hF kk
theorem r_callv0u {q n o c : Nat} {p : Int} {m' : zmem} (hf : zft j pc = some (.invokevirtual n, 3)) (ho : zo j = o) (hm : zml o n = some (0, q)) (hp : zp q = 0) (hc : zo q = c) (hk : zkd L p = .inl c) (hs : zsm [] = true) (hr : st.length ≤ 4) (hF : zF L d q (.inr (.inl (some p)) :: []) m none m') (kk : zR (d + 1) j (pc + 3) ls st (zem L m') Q) : zR (d + 1) j pc ls (.inr (.inl (some p)) :: st) (zem L m) Q := r_callv0 hf ho hm hp hc hk hs hr hF kk
theorem r_callv1i {q n o c : Nat} {p : Int} {a1 : zV} {v : Int} {m' : zmem} (hf : zft j pc = some (.invokevirtual n, 3)) (ho : zo j = o) (hm : zml o n = some (0, q)) (hp : zp q = 1) (hc : zo q = c) (hk : zkd L p = .inl c) (hs : zsm [a1] = true) (hr : st.length ≤ 4) (hF : zF L d q (.inr (.inl (some p)) :: [a1]) m (some (.inl v)) m') (kk : zR (d + 1) j (pc + 3) ls (.inl v :: st) (zem L m') Q) : zR (d + 1) j pc ls (a1 :: .inr (.inl (some p)) :: st) (zem L m) Q := r_callv1 hf ho hm hp hc hk hs hr hF kk
theorem r_calls1i {q n o c : Nat} {a1 : zV} {v : Int} {m' : zmem} (hf : zft j pc = some (.invokestatic n, 3)) (ho : zo j = o) (hm : zml o n = some (c, q)) (hc : c = 1 ∨ c = 3) (hp : zp q = 1) (hs : zsm [a1] = true) (hr : st.length ≤ 4) (hF : zF L d q [a1] m (some (.inl v)) m') (kk : zR (d + 1) j (pc + 3) ls (.inl v :: st) (zem L m') Q) : zR (d + 1) j pc ls (a1 :: st) (zem L m) Q := r_calls1 hf ho hm hc hp hs hr hF kk
theorem r_callv1l {q n o c : Nat} {p : Int} {a1 : zV} {v : Int64} {m' : zmem} (hf : zft j pc = some (.invokevirtual n, 3)) (ho : zo j = o) (hm : zml o n = some (0, q)) (hp : zp q = 1) (hc : zo q = c) (hk : zkd L p = .inl c) (hs : zsm [a1] = true) (hr : st.length ≤ 4) (hF : zF L d q (.inr (.inl (some p)) :: [a1]) m (some (.inr (.inr v))) m') (kk : zR (d + 1) j (pc + 3) ls (.inr (.inr v) :: st) (zem L m') Q) : zR (d + 1) j pc ls (a1 :: .inr (.inl (some p)) :: st) (zem L m) Q := r_callv1 hf ho hm hp hc hk hs hr hF kk
theorem r_callv1u {q n o c : Nat} {p : Int} {a1 : zV} {m' : zmem} (hf : zft j pc = some (.invokevirtual n, 3)) (ho : zo j = o) (hm : zml o n = some (0, q)) (hp : zp q = 1) (hc : zo q = c) (hk : zkd L p = .inl c) (hs : zsm [a1] = true) (hr : st.length ≤ 4) (hF : zF L d q (.inr (.inl (some p)) :: [a1]) m none m') (kk : zR (d + 1) j (pc + 3) ls st (zem L m') Q) : zR (d + 1) j pc ls (a1 :: .inr (.inl (some p)) :: st) (zem L m) Q := r_callv1 hf ho hm hp hc hk hs hr hF kk
theorem r_calls1u {q n o c : Nat} {a1 : zV} {m' : zmem} (hf : zft j pc = some (.invokestatic n, 3)) (ho : zo j = o) (hm : zml o n = some (c, q)) (hc : c = 1 ∨ c = 3) (hp : zp q = 1) (hs : zsm [a1] = true) (hr : st.length ≤ 4) (hF : zF L d q [a1] m none m') (kk : zR (d + 1) j (pc + 3) ls st (zem L m') Q) : zR (d + 1) j pc ls (a1 :: st) (zem L m) Q := r_calls1 hf ho hm hc hp hs hr hF kk
theorem r_callv2i {q n o c : Nat} {p : Int} {a1 a2 : zV} {v : Int} {m' : zmem} (hf : zft j pc = some (.invokevirtual n, 3)) (ho : zo j = o) (hm : zml o n = some (0, q)) (hp : zp q = 2) (hc : zo q = c) (hk : zkd L p = .inl c) (hs : zsm [a2, a1] = true) (hr : st.length ≤ 4) (hF : zF L d q (.inr (.inl (some p)) :: [a1, a2]) m (some (.inl v)) m') (kk : zR (d + 1) j (pc + 3) ls (.inl v :: st) (zem L m') Q) : zR (d + 1) j pc ls (a2 :: a1 :: .inr (.inl (some p)) :: st) (zem L m) Q := r_callv2 hf ho hm hp hc hk hs hr hF kk
theorem r_calls2i {q n o c : Nat} {a1 a2 : zV} {v : Int} {m' : zmem} (hf : zft j pc = some (.invokestatic n, 3)) (ho : zo j = o) (hm : zml o n = some (c, q)) (hc : c = 1 ∨ c = 3) (hp : zp q = 2) (hs : zsm [a2, a1] = true) (hr : st.length ≤ 4) (hF : zF L d q [a1, a2] m (some (.inl v)) m') (kk : zR (d + 1) j (pc + 3) ls (.inl v :: st) (zem L m') Q) : zR (d + 1) j pc ls (a2 :: a1 :: st) (zem L m) Q := r_calls2 hf ho hm hc hp hs hr hF kk
theorem r_callv2l {q n o c : Nat} {p : Int} {a1 a2 : zV} {v : Int64} {m' : zmem} (hf : zft j pc = some (.invokevirtual n, 3)) (ho : zo j = o) (hm : zml o n = some (0, q)) (hp : zp q = 2) (hc : zo q = c) (hk : zkd L p = .inl c) (hs : zsm [a2, a1] = true) (hr : st.length ≤ 4) (hF : zF L d q (.inr (.inl (some p)) :: [a1, a2]) m (some (.inr (.inr v))) m') (kk : zR (d + 1) j (pc + 3) ls (.inr (.inr v) :: st) (zem L m') Q) : zR (d + 1) j pc ls (a2 :: a1 :: .inr (.inl (some p)) :: st) (zem L m) Q := r_callv2 hf ho hm hp hc hk hs hr hF kk
theorem r_callv2u {q n o c : Nat} {p : Int} {a1 a2 : zV} {m' : zmem} (hf : zft j pc = some (.invokevirtual n, 3)) (ho : zo j = o) (hm : zml o n = some (0, q)) (hp : zp q = 2) (hc : zo q = c) (hk : zkd L p = .inl c) (hs : zsm [a2, a1] = true) (hr : st.length ≤ 4) (hF : zF L d q (.inr (.inl (some p)) :: [a1, a2]) m none m') (kk : zR (d + 1) j (pc + 3) ls st (zem L m') Q) : zR (d + 1) j pc ls (a2 :: a1 :: .inr (.inl (some p)) :: st) (zem L m) Q := r_callv2 hf ho hm hp hc hk hs hr hF kk
theorem r_calls2u {q n o c : Nat} {a1 a2 : zV} {m' : zmem} (hf : zft j pc = some (.invokestatic n, 3)) (ho : zo j = o) (hm : zml o n = some (c, q)) (hc : c = 1 ∨ c = 3) (hp : zp q = 2) (hs : zsm [a2, a1] = true) (hr : st.length ≤ 4) (hF : zF L d q [a1, a2] m none m') (kk : zR (d + 1) j (pc + 3) ls st (zem L m') Q) : zR (d + 1) j pc ls (a2 :: a1 :: st) (zem L m) Q := r_calls2 hf ho hm hc hp hs hr hF kk
theorem r_callv3i {q n o c : Nat} {p : Int} {a1 a2 a3 : zV} {v : Int} {m' : zmem} (hf : zft j pc = some (.invokevirtual n, 3)) (ho : zo j = o) (hm : zml o n = some (0, q)) (hp : zp q = 3) (hc : zo q = c) (hk : zkd L p = .inl c) (hs : zsm [a3, a2, a1] = true) (hr : st.length ≤ 4) (hF : zF L d q (.inr (.inl (some p)) :: [a1, a2, a3]) m (some (.inl v)) m') (kk : zR (d + 1) j (pc + 3) ls (.inl v :: st) (zem L m') Q) : zR (d + 1) j pc ls (a3 :: a2 :: a1 :: .inr (.inl (some p)) :: st) (zem L m) Q := r_callv3 hf ho hm hp hc hk hs hr hF kk
theorem r_calls3i {q n o c : Nat} {a1 a2 a3 : zV} {v : Int} {m' : zmem} (hf : zft j pc = some (.invokestatic n, 3)) (ho : zo j = o) (hm : zml o n = some (c, q)) (hc : c = 1 ∨ c = 3) (hp : zp q = 3) (hs : zsm [a3, a2, a1] = true) (hr : st.length ≤ 4) (hF : zF L d q [a1, a2, a3] m (some (.inl v)) m') (kk : zR (d + 1) j (pc + 3) ls (.inl v :: st) (zem L m') Q) : zR (d + 1) j pc ls (a3 :: a2 :: a1 :: st) (zem L m) Q := r_calls3 hf ho hm hc hp hs hr hF kk
theorem r_callv3l {q n o c : Nat} {p : Int} {a1 a2 a3 : zV} {v : Int64} {m' : zmem} (hf : zft j pc = some (.invokevirtual n, 3)) (ho : zo j = o) (hm : zml o n = some (0, q)) (hp : zp q = 3) (hc : zo q = c) (hk : zkd L p = .inl c) (hs : zsm [a3, a2, a1] = true) (hr : st.length ≤ 4) (hF : zF L d q (.inr (.inl (some p)) :: [a1, a2, a3]) m (some (.inr (.inr v))) m') (kk : zR (d + 1) j (pc + 3) ls (.inr (.inr v) :: st) (zem L m') Q) : zR (d + 1) j pc ls (a3 :: a2 :: a1 :: .inr (.inl (some p)) :: st) (zem L m) Q := r_callv3 hf ho hm hp hc hk hs hr hF kk
theorem r_callv3u {q n o c : Nat} {p : Int} {a1 a2 a3 : zV} {m' : zmem} (hf : zft j pc = some (.invokevirtual n, 3)) (ho : zo j = o) (hm : zml o n = some (0, q)) (hp : zp q = 3) (hc : zo q = c) (hk : zkd L p = .inl c) (hs : zsm [a3, a2, a1] = true) (hr : st.length ≤ 4) (hF : zF L d q (.inr (.inl (some p)) :: [a1, a2, a3]) m none m') (kk : zR (d + 1) j (pc + 3) ls st (zem L m') Q) : zR (d + 1) j pc ls (a3 :: a2 :: a1 :: .inr (.inl (some p)) :: st) (zem L m) Q := r_callv3 hf ho hm hp hc hk hs hr hF kk
theorem r_calls3u {q n o c : Nat} {a1 a2 a3 : zV} {m' : zmem} (hf : zft j pc = some (.invokestatic n, 3)) (ho : zo j = o) (hm : zml o n = some (c, q)) (hc : c = 1 ∨ c = 3) (hp : zp q = 3) (hs : zsm [a3, a2, a1] = true) (hr : st.length ≤ 4) (hF : zF L d q [a1, a2, a3] m none m') (kk : zR (d + 1) j (pc + 3) ls st (zem L m') Q) : zR (d + 1) j pc ls (a3 :: a2 :: a1 :: st) (zem L m) Q := r_calls3 hf ho hm hc hp hs hr hF kk
theorem r_callv4i {q n o c : Nat} {p : Int} {a1 a2 a3 a4 : zV} {v : Int} {m' : zmem} (hf : zft j pc = some (.invokevirtual n, 3)) (ho : zo j = o) (hm : zml o n = some (0, q)) (hp : zp q = 4) (hc : zo q = c) (hk : zkd L p = .inl c) (hs : zsm [a4, a3, a2, a1] = true) (hr : st.length ≤ 4) (hF : zF L d q (.inr (.inl (some p)) :: [a1, a2, a3, a4]) m (some (.inl v)) m') (kk : zR (d + 1) j (pc + 3) ls (.inl v :: st) (zem L m') Q) : zR (d + 1) j pc ls (a4 :: a3 :: a2 :: a1 :: .inr (.inl (some p)) :: st) (zem L m) Q := r_callv4 hf ho hm hp hc hk hs hr hF kk
theorem r_calls4i {q n o c : Nat} {a1 a2 a3 a4 : zV} {v : Int} {m' : zmem} (hf : zft j pc = some (.invokestatic n, 3)) (ho : zo j = o) (hm : zml o n = some (c, q)) (hc : c = 1 ∨ c = 3) (hp : zp q = 4) (hs : zsm [a4, a3, a2, a1] = true) (hr : st.length ≤ 4) (hF : zF L d q [a1, a2, a3, a4] m (some (.inl v)) m') (kk : zR (d + 1) j (pc + 3) ls (.inl v :: st) (zem L m') Q) : zR (d + 1) j pc ls (a4 :: a3 :: a2 :: a1 :: st) (zem L m) Q := r_calls4 hf ho hm hc hp hs hr hF kk
theorem r_callv4l {q n o c : Nat} {p : Int} {a1 a2 a3 a4 : zV} {v : Int64} {m' : zmem} (hf : zft j pc = some (.invokevirtual n, 3)) (ho : zo j = o) (hm : zml o n = some (0, q)) (hp : zp q = 4) (hc : zo q = c) (hk : zkd L p = .inl c) (hs : zsm [a4, a3, a2, a1] = true) (hr : st.length ≤ 4) (hF : zF L d q (.inr (.inl (some p)) :: [a1, a2, a3, a4]) m (some (.inr (.inr v))) m') (kk : zR (d + 1) j (pc + 3) ls (.inr (.inr v) :: st) (zem L m') Q) : zR (d + 1) j pc ls (a4 :: a3 :: a2 :: a1 :: .inr (.inl (some p)) :: st) (zem L m) Q := r_callv4 hf ho hm hp hc hk hs hr hF kk
theorem r_callv4u {q n o c : Nat} {p : Int} {a1 a2 a3 a4 : zV} {m' : zmem} (hf : zft j pc = some (.invokevirtual n, 3)) (ho : zo j = o) (hm : zml o n = some (0, q)) (hp : zp q = 4) (hc : zo q = c) (hk : zkd L p = .inl c) (hs : zsm [a4, a3, a2, a1] = true) (hr : st.length ≤ 4) (hF : zF L d q (.inr (.inl (some p)) :: [a1, a2, a3, a4]) m none m') (kk : zR (d + 1) j (pc + 3) ls st (zem L m') Q) : zR (d + 1) j pc ls (a4 :: a3 :: a2 :: a1 :: .inr (.inl (some p)) :: st) (zem L m) Q := r_callv4 hf ho hm hp hc hk hs hr hF kk
theorem r_calls4u {q n o c : Nat} {a1 a2 a3 a4 : zV} {m' : zmem} (hf : zft j pc = some (.invokestatic n, 3)) (ho : zo j = o) (hm : zml o n = some (c, q)) (hc : c = 1 ∨ c = 3) (hp : zp q = 4) (hs : zsm [a4, a3, a2, a1] = true) (hr : st.length ≤ 4) (hF : zF L d q [a1, a2, a3, a4] m none m') (kk : zR (d + 1) j (pc + 3) ls st (zem L m') Q) : zR (d + 1) j pc ls (a4 :: a3 :: a2 :: a1 :: st) (zem L m) Q := r_calls4 hf ho hm hc hp hs hr hF kk
end ZRM
theorem F1_9 : zfl 1 9 = some (1, 0) := by decide +kernel
theorem F6_87 : zfl 6 87 = some (1, 0) := by decide +kernel
theorem F1_15 : zfl 1 15 = some (1, 1) := by decide +kernel
theorem F6_90 : zfl 6 90 = some (1, 1) := by decide +kernel
theorem F1_19 : zfl 1 19 = some (1, 2) := by decide +kernel
theorem F4_36 : zfl 4 36 = some (1, 2) := by decide +kernel
theorem F4_30 : zfl 4 30 = some (1, 3) := by decide +kernel
theorem F6_198 : zfl 6 198 = some (1, 3) := by decide +kernel
theorem F6_74 : zfl 6 74 = some (1, 4) := by decide +kernel
theorem F1_45 : zfl 1 45 = some (1, 5) := by decide +kernel
theorem F6_212 : zfl 6 212 = some (1, 5) := by decide +kernel
theorem F1_41 : zfl 1 41 = some (1, 6) := by decide +kernel
theorem F6_237 : zfl 6 237 = some (1, 6) := by decide +kernel
theorem F4_11 : zfl 4 11 = some (4, 0) := by decide +kernel
theorem F6_70 : zfl 6 70 = some (4, 0) := by decide +kernel
theorem F5_57 : zfl 5 57 = some (4, 0) := by decide +kernel
theorem F4_18 : zfl 4 18 = some (4, 1) := by decide +kernel
theorem F5_34 : zfl 5 34 = some (4, 1) := by decide +kernel
theorem F6_221 : zfl 6 221 = some (4, 1) := by decide +kernel
theorem F4_33 : zfl 4 33 = some (4, 2) := by decide +kernel
theorem F6_243 : zfl 6 243 = some (4, 2) := by decide +kernel
theorem F5_18 : zfl 5 18 = some (5, 0) := by decide +kernel
theorem F5_9 : zfl 5 9 = some (5, 1) := by decide +kernel
theorem F5_15 : zfl 5 15 = some (5, 2) := by decide +kernel
theorem F6_141 : zfl 6 141 = some (5, 2) := by decide +kernel
theorem F2_9 : zfl 2 9 = some (2, 0) := by decide +kernel
theorem F6_186 : zfl 6 186 = some (2, 0) := by decide +kernel
theorem F2_15 : zfl 2 15 = some (2, 1) := by decide +kernel
theorem F2_18 : zfl 2 18 = some (2, 2) := by decide +kernel
theorem F2_21 : zfl 2 21 = some (2, 3) := by decide +kernel
theorem F6_183 : zfl 6 183 = some (2, 3) := by decide +kernel
theorem F2_25 : zfl 2 25 = some (2, 4) := by decide +kernel
theorem F3_9 : zfl 3 9 = some (3, 0) := by decide +kernel
theorem F3_15 : zfl 3 15 = some (3, 1) := by decide +kernel
theorem F3_18 : zfl 3 18 = some (3, 2) := by decide +kernel
theorem F6_252 : zfl 6 252 = some (3, 2) := by decide +kernel
theorem F0_9 : zfl 0 9 = some (0, 0) := by decide +kernel
theorem F5_43 : zfl 5 43 = some (0, 0) := by decide +kernel
theorem F4_45 : zfl 4 45 = some (0, 0) := by decide +kernel
theorem F6_127 : zfl 6 127 = some (0, 0) := by decide +kernel
theorem F0_15 : zfl 0 15 = some (0, 1) := by decide +kernel
theorem F6_174 : zfl 6 174 = some (0, 1) := by decide +kernel
theorem F0_18 : zfl 0 18 = some (0, 2) := by decide +kernel
theorem F6_195 : zfl 6 195 = some (0, 2) := by decide +kernel
theorem F0_22 : zfl 0 22 = some (0, 3) := by decide +kernel
theorem F4_61 : zfl 4 61 = some (0, 3) := by decide +kernel
theorem F0_25 : zfl 0 25 = some (0, 4) := by decide +kernel
theorem F5_64 : zfl 5 64 = some (0, 4) := by decide +kernel
theorem F4_55 : zfl 4 55 = some (0, 4) := by decide +kernel
theorem F6_161 : zfl 6 161 = some (0, 4) := by decide +kernel
theorem F0_29 : zfl 0 29 = some (0, 5) := by decide +kernel
theorem F5_61 : zfl 5 61 = some (0, 5) := by decide +kernel
theorem F4_52 : zfl 4 52 = some (0, 5) := by decide +kernel
theorem F6_121 : zfl 6 121 = some (0, 5) := by decide +kernel
theorem F5_28 : zfl 5 28 = some (0, 6) := by decide +kernel
theorem F0_32 : zfl 0 32 = some (0, 6) := by decide +kernel
theorem F4_40 : zfl 4 40 = some (0, 6) := by decide +kernel
theorem F6_124 : zfl 6 124 = some (0, 6) := by decide +kernel
theorem F6_104 : zfl 6 104 = some (0, 7) := by decide +kernel
theorem F0_53 : zfl 0 53 = some (0, 8) := by decide +kernel
theorem F6_167 : zfl 6 167 = some (0, 8) := by decide +kernel
theorem F6_10 : zfl 6 10 = some (6, 0) := by decide +kernel
theorem F6_21 : zfl 6 21 = some (6, 1) := by decide +kernel
theorem F6_27 : zfl 6 27 = some (6, 2) := by decide +kernel
theorem F6_34 : zfl 6 34 = some (6, 3) := by decide +kernel
theorem F6_41 : zfl 6 41 = some (6, 4) := by decide +kernel
theorem F6_45 : zfl 6 45 = some (6, 5) := by decide +kernel
theorem F6_101 : zfl 6 101 = some (6, 6) := by decide +kernel
theorem F6_94 : zfl 6 94 = some (6, 7) := by decide +kernel
theorem F6_215 : zfl 6 215 = some (6, 8) := by decide +kernel
theorem F7_86 : zfl 7 86 = some (7, 0) := by decide +kernel
theorem F7_7 : zfl 7 7 = some (7, 1) := by decide +kernel
theorem F7_13 : zfl 7 13 = some (7, 2) := by decide +kernel
theorem F7_16 : zfl 7 16 = some (7, 3) := by decide +kernel
theorem F7_19 : zfl 7 19 = some (7, 4) := by decide +kernel
theorem F7_23 : zfl 7 23 = some (7, 5) := by decide +kernel
theorem F7_179 : zfl 7 179 = some (7, 6) := by decide +kernel
theorem F7_101 : zfl 7 101 = some (7, 7) := by decide +kernel
theorem F7_26 : zfl 7 26 = some (7, 8) := by decide +kernel
theorem F7_122 : zfl 7 122 = some (7, 9) := by decide +kernel
theorem F7_94 : zfl 7 94 = some (7, 10) := by decide +kernel
theorem F7_29 : zfl 7 29 = some (7, 11) := by decide +kernel
theorem F7_32 : zfl 7 32 = some (7, 12) := by decide +kernel
theorem F7_35 : zfl 7 35 = some (7, 13) := by decide +kernel
theorem F7_38 : zfl 7 38 = some (7, 14) := by decide +kernel
theorem F7_41 : zfl 7 41 = some (7, 15) := by decide +kernel
theorem F7_44 : zfl 7 44 = some (7, 16) := by decide +kernel
theorem F7_47 : zfl 7 47 = some (7, 17) := by decide +kernel
theorem F7_50 : zfl 7 50 = some (7, 18) := by decide +kernel
theorem F7_53 : zfl 7 53 = some (7, 19) := by decide +kernel
theorem F7_56 : zfl 7 56 = some (7, 20) := by decide +kernel
theorem F7_59 : zfl 7 59 = some (7, 21) := by decide +kernel
theorem F7_62 : zfl 7 62 = some (7, 22) := by decide +kernel
theorem F7_65 : zfl 7 65 = some (7, 23) := by decide +kernel
theorem F7_154 : zfl 7 154 = some (7, 24) := by decide +kernel
theorem F7_68 : zfl 7 68 = some (7, 25) := by decide +kernel
theorem F7_71 : zfl 7 71 = some (7, 26) := by decide +kernel
theorem F7_173 : zfl 7 173 = some (7, 27) := by decide +kernel
theorem F7_74 : zfl 7 74 = some (7, 28) := by decide +kernel
theorem F7_77 : zfl 7 77 = some (7, 29) := by decide +kernel
theorem F7_80 : zfl 7 80 = some (7, 30) := by decide +kernel
theorem F7_83 : zfl 7 83 = some (7, 31) := by decide +kernel
theorem M8_9 : zml 8 9 = some (2, 42) := by decide +kernel
theorem M6_1 : zml 6 1 = some (5, 0) := by decide +kernel
theorem M6_9 : zml 6 9 = some (2, 29) := by decide +kernel
theorem M4_3 : zml 4 3 = some (5, 0) := by decide +kernel
theorem M4_17 : zml 4 17 = some (4, 12) := by decide +kernel
theorem M1_3 : zml 1 3 = some (5, 0) := by decide +kernel
theorem M6_18 : zml 6 18 = some (2, 36) := by decide +kernel
theorem M5_3 : zml 5 3 = some (5, 0) := by decide +kernel
theorem M6_33 : zml 6 33 = some (4, 22) := by decide +kernel
theorem M2_3 : zml 2 3 = some (5, 0) := by decide +kernel
theorem M6_40 : zml 6 40 = some (4, 26) := by decide +kernel
theorem M3_3 : zml 3 3 = some (5, 0) := by decide +kernel
theorem M6_49 : zml 6 49 = some (4, 0) := by decide +kernel
theorem M0_3 : zml 0 3 = some (5, 0) := by decide +kernel
theorem M8_13 : zml 8 13 = some (0, 43) := by decide +kernel
theorem M6_50 : zml 6 50 = some (1, 67) := by decide +kernel
theorem M6_54 : zml 6 54 = some (0, 31) := by decide +kernel
theorem M4_26 : zml 4 26 = some (0, 13) := by decide +kernel
theorem M8_18 : zml 8 18 = some (0, 44) := by decide +kernel
theorem M6_58 : zml 6 58 = some (0, 30) := by decide +kernel
theorem M4_22 : zml 4 22 = some (3, 67) := by decide +kernel
theorem M6_62 : zml 6 62 = some (0, 33) := by decide +kernel
theorem M6_66 : zml 6 66 = some (0, 32) := by decide +kernel
theorem M8_23 : zml 8 23 = some (0, 45) := by decide +kernel
theorem M8_28 : zml 8 28 = some (0, 46) := by decide +kernel
theorem M6_80 : zml 6 80 = some (1, 68) := by decide +kernel
theorem M6_83 : zml 6 83 = some (0, 14) := by decide +kernel
theorem M8_32 : zml 8 32 = some (0, 47) := by decide +kernel
theorem M8_36 : zml 8 36 = some (0, 48) := by decide +kernel
theorem M6_97 : zml 6 97 = some (0, 16) := by decide +kernel
theorem M6_107 : zml 6 107 = some (0, 7) := by decide +kernel
theorem M0_49 : zml 0 49 = some (0, 6) := by decide +kernel
theorem M0_46 : zml 0 46 = some (0, 5) := by decide +kernel
theorem M0_39 : zml 0 39 = some (0, 4) := by decide +kernel
theorem M0_35 : zml 0 35 = some (3, 67) := by decide +kernel
theorem M0_43 : zml 0 43 = some (0, 3) := by decide +kernel
theorem M6_110 : zml 6 110 = some (0, 76) := by decide +kernel
theorem M6_272 : zml 6 272 = some (6, 0) := by decide +kernel
theorem M6_152 : zml 6 152 = some (0, 75) := by decide +kernel
theorem M6_268 : zml 6 268 = some (0, 20) := by decide +kernel
theorem M6_137 : zml 6 137 = some (0, 37) := by decide +kernel
theorem M5_22 : zml 5 22 = some (6, 0) := by decide +kernel
theorem M5_39 : zml 5 39 = some (0, 38) := by decide +kernel
theorem M5_50 : zml 5 50 = some (0, 39) := by decide +kernel
theorem M5_67 : zml 5 67 = some (0, 15) := by decide +kernel
theorem M1_22 : zml 1 22 = some (0, 14) := by decide +kernel
theorem M5_54 : zml 5 54 = some (0, 40) := by decide +kernel
theorem M5_73 : zml 5 73 = some (0, 33) := by decide +kernel
theorem M5_46 : zml 5 46 = some (0, 41) := by decide +kernel
theorem M6_144 : zml 6 144 = some (0, 2) := by decide +kernel
theorem M6_148 : zml 6 148 = some (0, 74) := by decide +kernel
theorem M6_208 : zml 6 208 = some (0, 19) := by decide +kernel
theorem M1_33 : zml 1 33 = some (0, 18) := by decide +kernel
theorem M1_29 : zml 1 29 = some (0, 17) := by decide +kernel
theorem M1_36 : zml 1 36 = some (7, 0) := by decide +kernel
theorem M8_40 : zml 8 40 = some (0, 49) := by decide +kernel
theorem M6_114 : zml 6 114 = some (0, 1) := by decide +kernel
theorem M8_44 : zml 8 44 = some (0, 50) := by decide +kernel
theorem M6_118 : zml 6 118 = some (0, 69) := by decide +kernel
theorem M8_48 : zml 8 48 = some (0, 51) := by decide +kernel
theorem M6_130 : zml 6 130 = some (0, 70) := by decide +kernel
theorem M6_133 : zml 6 133 = some (0, 72) := by decide +kernel
theorem M6_265 : zml 6 265 = some (0, 34) := by decide +kernel
theorem M4_48 : zml 4 48 = some (0, 33) := by decide +kernel
theorem M4_58 : zml 4 58 = some (0, 15) := by decide +kernel
theorem M8_53 : zml 8 53 = some (0, 52) := by decide +kernel
theorem M8_57 : zml 8 57 = some (0, 53) := by decide +kernel
theorem M8_61 : zml 8 61 = some (0, 54) := by decide +kernel
theorem M8_65 : zml 8 65 = some (0, 55) := by decide +kernel
theorem M6_155 : zml 6 155 = some (0, 28) := by decide +kernel
theorem M8_69 : zml 8 69 = some (0, 56) := by decide +kernel
theorem M6_158 : zml 6 158 = some (0, 3) := by decide +kernel
theorem M6_164 : zml 6 164 = some (0, 35) := by decide +kernel
theorem M6_170 : zml 6 170 = some (0, 10) := by decide +kernel
theorem M8_73 : zml 8 73 = some (0, 57) := by decide +kernel
theorem M8_77 : zml 8 77 = some (0, 58) := by decide +kernel
theorem M6_177 : zml 6 177 = some (0, 23) := by decide +kernel
theorem M8_81 : zml 8 81 = some (0, 59) := by decide +kernel
theorem M6_180 : zml 6 180 = some (0, 24) := by decide +kernel
theorem M6_189 : zml 6 189 = some (0, 73) := by decide +kernel
theorem M8_85 : zml 8 85 = some (0, 60) := by decide +kernel
theorem M6_192 : zml 6 192 = some (0, 5) := by decide +kernel
theorem M8_89 : zml 8 89 = some (0, 61) := by decide +kernel
theorem M6_201 : zml 6 201 = some (0, 78) := by decide +kernel
theorem M6_277 : zml 6 277 = some (0, 77) := by decide +kernel
theorem M6_234 : zml 6 234 = some (0, 6) := by decide +kernel
theorem M6_204 : zml 6 204 = some (0, 79) := by decide +kernel
theorem M8_93 : zml 8 93 = some (0, 62) := by decide +kernel
theorem M6_218 : zml 6 218 = some (0, 80) := by decide +kernel
theorem M6_281 : zml 6 281 = some (0, 8) := by decide +kernel
theorem M6_224 : zml 6 224 = some (0, 81) := by decide +kernel
theorem M6_284 : zml 6 284 = some (0, 82) := by decide +kernel
theorem M6_287 : zml 6 287 = some (0, 9) := by decide +kernel
theorem M6_290 : zml 6 290 = some (0, 11) := by decide +kernel
theorem M6_228 : zml 6 228 = some (0, 21) := by decide +kernel
theorem M6_231 : zml 6 231 = some (0, 83) := by decide +kernel
theorem M8_98 : zml 8 98 = some (0, 63) := by decide +kernel
theorem M8_102 : zml 8 102 = some (0, 64) := by decide +kernel
theorem M6_240 : zml 6 240 = some (0, 27) := by decide +kernel
theorem M8_106 : zml 8 106 = some (0, 65) := by decide +kernel
theorem M6_246 : zml 6 246 = some (0, 25) := by decide +kernel
theorem M6_249 : zml 6 249 = some (0, 71) := by decide +kernel
theorem M8_110 : zml 8 110 = some (0, 66) := by decide +kernel
theorem M6_259 : zml 6 259 = some (0, 65) := by decide +kernel
theorem M6_262 : zml 6 262 = some (0, 56) := by decide +kernel
theorem M8_12 : zml 8 12 = some (2, 84) := by decide +kernel
theorem M7_1 : zml 7 1 = some (5, 0) := by decide +kernel
theorem M8_17 : zml 8 17 = some (0, 89) := by decide +kernel
theorem M7_90 : zml 7 90 = some (1, 85) := by decide +kernel
theorem M8_22 : zml 8 22 = some (0, 90) := by decide +kernel
theorem M7_97 : zml 7 97 = some (0, 86) := by decide +kernel
theorem M8_27 : zml 8 27 = some (0, 91) := by decide +kernel
theorem M8_31 : zml 8 31 = some (0, 95) := by decide +kernel
theorem M7_112 : zml 7 112 = some (1, 87) := by decide +kernel
theorem M7_115 : zml 7 115 = some (0, 94) := by decide +kernel
theorem M7_108 : zml 7 108 = some (0, 93) := by decide +kernel
theorem M7_104 : zml 7 104 = some (0, 92) := by decide +kernel
theorem M8_35 : zml 8 35 = some (0, 96) := by decide +kernel
theorem M8_43 : zml 8 43 = some (0, 100) := by decide +kernel
theorem M8_47 : zml 8 47 = some (0, 101) := by decide +kernel
theorem M7_125 : zml 7 125 = some (0, 88) := by decide +kernel
theorem M8_52 : zml 8 52 = some (0, 107) := by decide +kernel
theorem M7_139 : zml 7 139 = some (0, 106) := by decide +kernel
theorem M7_143 : zml 7 143 = some (0, 104) := by decide +kernel
theorem M7_128 : zml 7 128 = some (0, 102) := by decide +kernel
theorem M7_132 : zml 7 132 = some (0, 103) := by decide +kernel
theorem M7_146 : zml 7 146 = some (0, 105) := by decide +kernel
theorem M7_135 : zml 7 135 = some (0, 98) := by decide +kernel
theorem M7_118 : zml 7 118 = some (0, 97) := by decide +kernel
theorem M8_56 : zml 8 56 = some (0, 109) := by decide +kernel
theorem M7_150 : zml 7 150 = some (0, 108) := by decide +kernel
theorem M8_60 : zml 8 60 = some (0, 110) := by decide +kernel
theorem M8_64 : zml 8 64 = some (0, 111) := by decide +kernel
theorem M8_105 : zml 8 105 = some (0, 112) := by decide +kernel
theorem M8_68 : zml 8 68 = some (0, 113) := by decide +kernel
theorem M7_157 : zml 7 157 = some (0, 99) := by decide +kernel
theorem M8_39 : zml 8 39 = some (0, 116) := by decide +kernel
theorem M7_160 : zml 7 160 = some (0, 114) := by decide +kernel
theorem M7_164 : zml 7 164 = some (0, 115) := by decide +kernel
theorem M8_72 : zml 8 72 = some (0, 119) := by decide +kernel
theorem M7_167 : zml 7 167 = some (0, 117) := by decide +kernel
theorem M7_170 : zml 7 170 = some (0, 118) := by decide +kernel
theorem M8_76 : zml 8 76 = some (0, 120) := by decide +kernel
theorem M8_80 : zml 8 80 = some (0, 121) := by decide +kernel
theorem M8_84 : zml 8 84 = some (0, 122) := by decide +kernel
theorem M8_88 : zml 8 88 = some (0, 123) := by decide +kernel
theorem M8_92 : zml 8 92 = some (0, 125) := by decide +kernel
theorem M7_176 : zml 7 176 = some (0, 124) := by decide +kernel
theorem M8_97 : zml 8 97 = some (0, 127) := by decide +kernel
theorem M7_182 : zml 7 182 = some (0, 126) := by decide +kernel
theorem M8_101 : zml 8 101 = some (0, 128) := by decide +kernel
theorem M8_109 : zml 8 109 = some (0, 130) := by decide +kernel
theorem M7_185 : zml 7 185 = some (0, 129) := by decide +kernel
theorem M8_114 : zml 8 114 = some (0, 131) := by decide +kernel
theorem M7_192 : zml 7 192 = some (0, 130) := by decide +kernel
theorem M7_195 : zml 7 195 = some (0, 119) := by decide +kernel
theorem C8_7 : zcl 8 7 = some 6 := by decide +kernel
theorem C6_7 : zcl 6 7 = some 4 := by decide +kernel
theorem C4_9 : zcl 4 9 = some 1 := by decide +kernel
theorem C6_16 : zcl 6 16 = some 5 := by decide +kernel
theorem C6_25 : zcl 6 25 = some 0 := by decide +kernel
theorem C6_31 : zcl 6 31 = some 2 := by decide +kernel
theorem C6_38 : zcl 6 38 = some 3 := by decide +kernel
theorem C8_10 : zcl 8 10 = some 7 := by decide +kernel
theorem L6_255 : zlc 6 255 = some 17 := by decide +kernel
theorem L6_257 : zlc 6 257 = some 31 := by decide +kernel
theorem L7_188 : zlc 7 188 = some 17 := by decide +kernel
theorem L7_190 : zlc 7 190 = some 31 := by decide +kernel
theorem T0_4 : zty 0 4 = .int := by decide +kernel
theorem U0_4 : (zT 0 4).2.2.2 = false := by decide +kernel
theorem T0_5 : zty 0 5 = .int := by decide +kernel
theorem U0_5 : (zT 0 5).2.2.2 = false := by decide +kernel
theorem T0_6 : zty 0 6 = .int := by decide +kernel
theorem U0_6 : (zT 0 6).2.2.2 = false := by decide +kernel
theorem T0_7 : zty 0 7 = .int := by decide +kernel
theorem U0_7 : (zT 0 7).2.2.2 = false := by decide +kernel
theorem T0_8 : zty 0 8 = .int := by decide +kernel
theorem U0_8 : (zT 0 8).2.2.2 = false := by decide +kernel
theorem T1_3 : zty 1 3 = .int := by decide +kernel
theorem U1_3 : (zT 1 3).2.2.2 = false := by decide +kernel
theorem T1_4 : zty 1 4 = .int := by decide +kernel
theorem U1_4 : (zT 1 4).2.2.2 = false := by decide +kernel
theorem T1_5 : zty 1 5 = .int := by decide +kernel
theorem U1_5 : (zT 1 5).2.2.2 = false := by decide +kernel
theorem T1_6 : zty 1 6 = .int := by decide +kernel
theorem U1_6 : (zT 1 6).2.2.2 = false := by decide +kernel
theorem T2_4 : zty 2 4 = .int := by decide +kernel
theorem U2_4 : (zT 2 4).2.2.2 = false := by decide +kernel
theorem T3_2 : zty 3 2 = .int := by decide +kernel
theorem U3_2 : (zT 3 2).2.2.2 = false := by decide +kernel
theorem T4_1 : zty 4 1 = .int := by decide +kernel
theorem U4_1 : (zT 4 1).2.2.2 = false := by decide +kernel
theorem T4_2 : zty 4 2 = .int := by decide +kernel
theorem U4_2 : (zT 4 2).2.2.2 = false := by decide +kernel
theorem T6_6 : zty 6 6 = .int := by decide +kernel
theorem U6_6 : (zT 6 6).2.2.2 = false := by decide +kernel
theorem T6_7 : zty 6 7 = .int := by decide +kernel
theorem U6_7 : (zT 6 7).2.2.2 = false := by decide +kernel
theorem T6_8 : zty 6 8 = .int := by decide +kernel
theorem U6_8 : (zT 6 8).2.2.2 = false := by decide +kernel
theorem T7_0 : zty 7 0 = .int := by decide +kernel
theorem U7_0 : (zT 7 0).2.2.2 = false := by decide +kernel
theorem T7_6 : zty 7 6 = .int := by decide +kernel
theorem U7_6 : (zT 7 6).2.2.2 = false := by decide +kernel
theorem T7_7 : zty 7 7 = .int := by decide +kernel
theorem U7_7 : (zT 7 7).2.2.2 = false := by decide +kernel
theorem T7_9 : zty 7 9 = .int := by decide +kernel
theorem U7_9 : (zT 7 9).2.2.2 = false := by decide +kernel
theorem T7_10 : zty 7 10 = .int := by decide +kernel
theorem U7_10 : (zT 7 10).2.2.2 = false := by decide +kernel
theorem T7_24 : zty 7 24 = .int := by decide +kernel
theorem U7_24 : (zT 7 24).2.2.2 = false := by decide +kernel
theorem T7_27 : zty 7 27 = .int := by decide +kernel
theorem U7_27 : (zT 7 27).2.2.2 = false := by decide +kernel
