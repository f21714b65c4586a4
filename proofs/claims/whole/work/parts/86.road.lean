def zmA (xs : Nat → Int32) : zmem := fun p k => if p = -1 then (xs k.toNat).toInt else if p = -2 then zdv k else 0
theorem zmA_0 {xs : Nat → Int32} {p k : Int} (h : 0 ≤ p) : zmA xs p k = 0 := by
  unfold zmA
  rw [if_neg (by omega), if_neg (by omega)]
def zfin (L : Nat) (xs : Nat → Int32) (q : Int) : zC := (zkd L q, zcn L (zmA xs) q)
theorem zcn_o {L : Nat} {m : zmem} {p k : Int} {ci : Nat} (h : zkd L p = .inl ci) (h8 : ci < 8) (h0 : m p k = 0) : zcn L m p k = (match zasg p k with | some q => .inr (.inl (some q)) | none => zdef ci k) := by
  unfold zcn zrf
  rw [h]
  simp only
  rw [if_neg (by omega)]
  cases zasg p k with
  | some q => rfl
  | none =>
    simp only
    unfold zdef
    by_cases e : zty ci k.toNat = .int
    · rw [if_pos e, if_pos e]; simp only; rw [h0]
    · rw [if_neg e, if_neg e]
theorem zcn_r {L : Nat} {m : zmem} {p k len : Int} {t : Nat} (h : zkd L p = .inr (t, len)) (ht : ¬ t < 2) : zcn L m p k = (match zasg p k with | some q => .inr (.inl (some q)) | none => .inr (.inl none)) := by
  unfold zcn zrf
  rw [h]
  simp only
  rw [if_neg ht]
  cases zasg p k <;> rfl
theorem zfin_a {L : Nat} {xs : Nat → Int32} {q len : Int} {t : Nat} (h : zkd L q = .inr (t, len)) (ht : t < 2) (hq : 0 ≤ q) : zfin L xs q = (.inr (t, len), fun _ => .inl 0) := by
  unfold zfin
  rw [h]
  refine Prod.ext rfl (funext fun k => ?_)
  show zcn L (zmA xs) q k = .inl 0
  unfold zcn
  rw [zrf_arr h ht, zmA_0 hq]
theorem zfin_H {L : Nat} {xs : Nat → Int32} {h : Int} (h0 : 0 ≤ h) (h1 : h < 12) : zfin L xs (3 + 4 * h) = zst (zst (zst (.inl 1, zdef 1) 0 (.inr (.inl (some (4 + 4 * h))))) 1 (.inr (.inl (some (4 + 4 * h + 1))))) 2 (.inr (.inl (some (4 + 4 * h + 2)))) := by
  have e : ∀ k, zasg (3 + 4 * h) k = if k = 0 then some (4 + 4 * h) else if k = 1 then some (4 + 4 * h + 1) else if k = 2 then some (4 + 4 * h + 2) else none := fun k => by
    unfold zasg
    rw [if_neg (by omega), if_neg (by omega), if_neg (by omega), if_pos (by omega), if_pos (by omega), show 3 + 4 * h + 1 = 4 + 4 * h by omega, show 3 + 4 * h + 2 = 4 + 4 * h + 1 by omega, show 3 + 4 * h + 3 = 4 + 4 * h + 2 by omega]
  unfold zfin
  rw [kdH0 h0 h1]
  refine Prod.ext rfl (funext fun k => ?_)
  show zcn L (zmA xs) (3 + 4 * h) k = _
  rw [zcn_o (kdH0 h0 h1) (by decide) (zmA_0 (by omega)), e]
  unfold zst
  simp only
  by_cases k0 : k = 0
  · subst k0; simp
  · by_cases k1 : k = 1
    · subst k1; simp
    · by_cases k2 : k = 2
      · subst k2; simp
      · simp [k0, k1, k2]
theorem zfin_C {L : Nat} {xs : Nat → Int32} {c : Int} (h0 : 0 ≤ c) (h1 : c < 40) : zfin L xs (64 + 5 * c) = zst (zst (zst (zst (.inl 0, zdef 0) 0 (.inr (.inl (some (65 + 5 * c))))) 1 (.inr (.inl (some (65 + 5 * c + 1))))) 2 (.inr (.inl (some (65 + 5 * c + 2))))) 3 (.inr (.inl (some (65 + 5 * c + 3)))) := by
  have e : ∀ k, zasg (64 + 5 * c) k = if k = 0 then some (65 + 5 * c) else if k = 1 then some (65 + 5 * c + 1) else if k = 2 then some (65 + 5 * c + 2) else if k = 3 then some (65 + 5 * c + 3) else none := fun k => by
    unfold zasg
    rw [if_neg (by omega), if_neg (by omega), if_neg (by omega), if_neg (by omega), if_neg (by omega), if_neg (by omega), if_neg (by omega), if_neg (by omega), if_neg (by omega), if_pos (by omega), if_pos (by omega), show 64 + 5 * c + 1 = 65 + 5 * c by omega, show 64 + 5 * c + 2 = 65 + 5 * c + 1 by omega, show 64 + 5 * c + 3 = 65 + 5 * c + 2 by omega, show 64 + 5 * c + 4 = 65 + 5 * c + 3 by omega]
  unfold zfin
  rw [kdC0 h0 h1]
  refine Prod.ext rfl (funext fun k => ?_)
  show zcn L (zmA xs) (64 + 5 * c) k = _
  rw [zcn_o (kdC0 h0 h1) (by decide) (zmA_0 (by omega)), e]
  unfold zst
  simp only
  by_cases k0 : k = 0
  · subst k0; simp
  · by_cases k1 : k = 1
    · subst k1; simp
    · by_cases k2 : k = 2
      · subst k2; simp
      · by_cases k3 : k = 3
        · subst k3; simp
        · simp [k0, k1, k2, k3]
def zFR (L : Nat) (xs : Nat → Int32) (F : Int → zC) (h : Int) : Int → zC := fun q => if q = 2 then (.inr (2, 12), fun k => if 0 ≤ k ∧ k < h then .inr (.inl (some (3 + 4 * k))) else .inr (.inl none)) else if 3 ≤ q ∧ q < 3 + 4 * h then zfin L xs q else F q
def zFC (L : Nat) (xs : Nat → Int32) (F : Int → zC) (c : Int) : Int → zC := fun q => if q = 54 then (.inr (3, 40), fun k => if 0 ≤ k ∧ k < c then .inr (.inl (some (64 + 5 * k))) else .inr (.inl none)) else if 64 ≤ q ∧ q < 64 + 5 * c then zfin L xs q else F q
theorem zFR_o {L : Nat} {xs : Nat → Int32} {F : Int → zC} {h q : Int} (h1 : ¬ q = 2) (h2 : q < 3 ∨ 3 + 4 * h ≤ q) : zFR L xs F h q = F q := by
  unfold zFR
  rw [if_neg h1, if_neg (by omega)]
theorem zFC_o {L : Nat} {xs : Nat → Int32} {F : Int → zC} {c q : Int} (h1 : ¬ q = 54) (h2 : q < 64 ∨ 64 + 5 * c ≤ q) : zFC L xs F c q = F q := by
  unfold zFC
  rw [if_neg h1, if_neg (by omega)]
theorem zFR_s {L : Nat} {xs : Nat → Int32} {F : Int → zC} {h : Int} (h0 : 0 ≤ h) (h1 : h < 12) : zfe (ziH (zfe (zFR L xs F h) (3 + 4 * h) (.inl 1, zdef 1)) (3 + 4 * h) (4 + 4 * h)) 2 (zst (ziH (zfe (zFR L xs F h) (3 + 4 * h) (.inl 1, zdef 1)) (3 + 4 * h) (4 + 4 * h) 2) h (.inr (.inl (some (3 + 4 * h))))) = zFR L xs F (h + 1) := by
  funext q
  by_cases q2 : q = 2
  · subst q2
    rw [zfe_at]
    unfold ziH
    rw [zar_o (by omega) (by omega), zar_o (by omega) (by omega), zar_o (by omega) (by omega), zfe_ne (by omega)]
    unfold zFR zst
    rw [if_pos rfl, if_pos rfl]
    refine Prod.ext rfl (funext fun k => ?_)
    show (if k = h then _ else if 0 ≤ k ∧ k < h then _ else _) = (if 0 ≤ k ∧ k < h + 1 then _ else _)
    by_cases k1 : k = h
    · rw [if_pos k1, if_pos (by omega), k1]
    · rw [if_neg k1]
      by_cases k2 : 0 ≤ k ∧ k < h
      · rw [if_pos k2, if_pos (by omega)]
      · rw [if_neg k2, if_neg (by omega)]
  · rw [zfe_ne q2]
    have fo : 3 ≤ q ∧ q < 3 + 4 * (h + 1) → zFR L xs F (h + 1) q = zfin L xs q := fun x => by
      unfold zFR
      rw [if_neg q2, if_pos x]
    unfold ziH
    by_cases e0 : q = 3 + 4 * h
    · rw [fo (by omega), e0, zar_p, zar_p, zar_p, zfe_at, zfin_H h0 h1]
    · by_cases e1 : q = 4 + 4 * h
      · rw [fo (by omega), e1, zar_o (by omega) (by omega), zar_o (by omega) (by omega), zar_c (by omega), zfin_a (kdH1 h0 h1) (by decide) (by omega)]
      · by_cases e2 : q = 4 + 4 * h + 1
        · rw [fo (by omega), e2, zar_o (by omega) (by omega), zar_c (by omega), show 4 + 4 * h + 1 = 5 + 4 * h by omega, zfin_a (kdH2 h0 h1) (by decide) (by omega)]
        · by_cases e3 : q = 4 + 4 * h + 2
          · rw [fo (by omega), e3, zar_c (by omega), show 4 + 4 * h + 2 = 6 + 4 * h by omega, zfin_a (kdH3 h0 h1) (by decide) (by omega)]
          · rw [zar_o e0 e3, zar_o e0 e2, zar_o e0 e1, zfe_ne e0]
            unfold zFR
            rw [if_neg q2, if_neg q2]
            by_cases r : 3 ≤ q ∧ q < 3 + 4 * h
            · rw [if_pos r, if_pos (by omega)]
            · rw [if_neg r, if_neg (by omega)]
theorem zFC_s {L : Nat} {xs : Nat → Int32} {F : Int → zC} {c : Int} (h0 : 0 ≤ c) (h1 : c < 40) : zfe (ziC (zfe (zFC L xs F c) (64 + 5 * c) (.inl 0, zdef 0)) (64 + 5 * c) (65 + 5 * c)) 54 (zst (ziC (zfe (zFC L xs F c) (64 + 5 * c) (.inl 0, zdef 0)) (64 + 5 * c) (65 + 5 * c) 54) c (.inr (.inl (some (64 + 5 * c))))) = zFC L xs F (c + 1) := by
  funext q
  by_cases q2 : q = 54
  · subst q2
    rw [zfe_at]
    unfold ziC
    rw [zar_o (by omega) (by omega), zar_o (by omega) (by omega), zar_o (by omega) (by omega), zar_o (by omega) (by omega), zfe_ne (by omega)]
    unfold zFC zst
    rw [if_pos rfl, if_pos rfl]
    refine Prod.ext rfl (funext fun k => ?_)
    show (if k = c then _ else if 0 ≤ k ∧ k < c then _ else _) = (if 0 ≤ k ∧ k < c + 1 then _ else _)
    by_cases k1 : k = c
    · rw [if_pos k1, if_pos (by omega), k1]
    · rw [if_neg k1]
      by_cases k2 : 0 ≤ k ∧ k < c
      · rw [if_pos k2, if_pos (by omega)]
      · rw [if_neg k2, if_neg (by omega)]
  · rw [zfe_ne q2]
    have fo : 64 ≤ q ∧ q < 64 + 5 * (c + 1) → zFC L xs F (c + 1) q = zfin L xs q := fun x => by
      unfold zFC
      rw [if_neg q2, if_pos x]
    unfold ziC
    by_cases e0 : q = 64 + 5 * c
    · rw [fo (by omega), e0, zar_p, zar_p, zar_p, zar_p, zfe_at, zfin_C h0 h1]
    · by_cases e1 : q = 65 + 5 * c
      · rw [fo (by omega), e1, zar_o (by omega) (by omega), zar_o (by omega) (by omega), zar_o (by omega) (by omega), zar_c (by omega), zfin_a (kdC1 h0 h1) (by decide) (by omega)]
      · by_cases e2 : q = 65 + 5 * c + 1
        · rw [fo (by omega), e2, zar_o (by omega) (by omega), zar_o (by omega) (by omega), zar_c (by omega), show 65 + 5 * c + 1 = 66 + 5 * c by omega, zfin_a (kdC2 h0 h1) (by decide) (by omega)]
        · by_cases e3 : q = 65 + 5 * c + 2
          · rw [fo (by omega), e3, zar_o (by omega) (by omega), zar_c (by omega), show 65 + 5 * c + 2 = 67 + 5 * c by omega, zfin_a (kdC3 h0 h1) (by decide) (by omega)]
          · by_cases e4 : q = 65 + 5 * c + 3
            · rw [fo (by omega), e4, zar_c (by omega), show 65 + 5 * c + 3 = 68 + 5 * c by omega, zfin_a (kdC4 h0 h1) (by decide) (by omega)]
            · rw [zar_o e0 e4, zar_o e0 e3, zar_o e0 e2, zar_o e0 e1, zfe_ne e0]
              unfold zFC
              rw [if_neg q2, if_neg q2]
              by_cases r : 64 ≤ q ∧ q < 64 + 5 * c
              · rw [if_pos r, if_pos (by omega)]
              · rw [if_neg r, if_neg (by omega)]
theorem q_cnt {d j pc : Nat} {ls : zL} {st : List zV} {Q : Option zV → zM → Prop} {F F' : Int → zC} {n n' s s' : Nat} (h1 : n = n') (h2 : s = s') (h3 : F = F') (kk : zR d j pc ls st (n', s', F') Q) : zR d j pc ls st (n, s, F) Q := by
  subst h1 h2 h3
  exact kk
theorem l_R {L d s : Nat} {xs : Nat → Int32} {F : Int → zC} (hk : F 1 = zst (.inl 4, zdef 4) 0 (.inr (.inl (some 2)))) {Q : Option zV → zM → Prop} (hx : zR (d + 2) 29 40 [some (.inr (.inl (some 1))), some (.inl 12)] [] (51, s + 2148, zFR L xs F 12) Q) : ∀ (m h : Nat), h + m = 12 → zR (d + 2) 29 15 [some (.inr (.inl (some 1))), some (.inl (h : Int))] [] (3 + 4 * h, s + 179 * h, zFR L xs F (h : Int)) Q
  | 0, h, e => by
    have eh : h = 12 := by omega
    subst eh
    refine r_iload_n f29_15 rfl ?_
    refine r_bipush f29_16 (by decide) ?_
    refine r_cge f29_18 (t := 40) (by decide) (fun _ => ?_) (fun x => absurd (by omega) x)
    exact hx
  | m + 1, h, e => by
    have f1 : zFR L xs F (h : Int) 1 = zst (.inl 4, zdef 4) 0 (.inr (.inl (some 2))) := by rw [zFR_o (by omega) (by omega), hk]
    refine r_iload_n f29_15 rfl ?_
    refine r_bipush f29_16 (by decide) ?_
    refine r_cge f29_18 (t := 40) (by decide) (fun x => absurd x (by omega)) (fun _ => ?_)
    refine r_aload_n f29_21 rfl ?_
    refine q_getR (k' := 0) (q := 2) f29_22 o29 F4_11 rfl (by rw [f1]; rfl) (by rw [f1]; rfl) ?_
    refine r_iload_n f29_25 rfl ?_
    refine q_new (c := 3 + 4 * (h : Int)) (n' := 4 + 4 * h) (s' := s + 179 * h + 7) f29_26 o29 C4_9 (by omega) (by omega) rfl ?_
    refine r_dupR f29_29 ?_
    refine q_spec0 f29_30 o29 M4_17 (Or.inr rfl) p12 (by simp) (c_iH (p := 3 + 4 * (h : Int)) (c := 4 + 4 * (h : Int)) (by omega) (by omega) (by rw [zfe_at])) ?_
    refine q_aast (F' := zFR L xs F ((h : Int) + 1)) (t := 2) (len := 12) f29_33 ?_ (Or.inl rfl) (by omega) (by omega) (by omega) ?_ (zFR_s (by omega) (by omega)) ?_
    · unfold ziH
      rw [zar_o (by omega) (by omega), zar_o (by omega) (by omega), zar_o (by omega) (by omega), zfe_ne (by omega)]
      unfold zFR
      rw [if_pos rfl]
    · unfold ziH
      rw [zar_k, zar_k, zar_k, zfe_at]
      rfl
    refine r_iinc f29_34 rfl rfl rfl (e := (h : Int) + 1) (by omega) (by omega) (by omega) (ls' := [some (.inr (.inl (some 1))), some (.inl ((h : Int) + 1))]) rfl ?_
    refine r_goto f29_37 (t := 15) (by decide) ?_
    have ih := l_R (L := L) (d := d) (s := s) (xs := xs) hk hx m (h + 1) (by omega)
    rw [show ((h + 1 : Nat) : Int) = (h : Int) + 1 by omega] at ih
    exact q_cnt (by omega) (by omega) rfl ih
theorem c_R {L d s : Nat} {xs : Nat → Int32} {F : Int → zC} (hk : F 1 = (.inl 4, zdef 4)) : zR (d + 2) 29 0 (zent 29 [.inr (.inl (some 1))]) [] (2, s, F) (fun rr M => rr = none ∧ M = (51, s + 12 + 2148, zFR L xs (zfe F 1 (zst (.inl 4, zdef 4) 0 (.inr (.inl (some 2))))) 12)) := by
  refine zI_of n29 (ls := [some (.inr (.inl (some 1))), none]) rfl ?_
  refine r_aload_n f29_0 rfl ?_
  refine r_oinit f29_1 o29 M4_3 (by simp) ?_
  refine r_aload_n f29_4 rfl ?_
  refine r_bipush f29_5 (by decide) ?_
  refine q_anew (t := 2) (c := 2) (n' := 3) (s' := s + 12) f29_7 o29 C4_9 (by decide) rfl (by decide) (by decide) (by omega) (by omega) rfl ?_
  refine q_putR (k' := 0) (F' := zFR L xs (zfe F 1 (zst (.inl 4, zdef 4) 0 (.inr (.inl (some 2))))) 0) f29_10 o29 F4_11 rfl (by rw [zfe_ne (by omega), hk]) TR4_0 UR4_0 rfl yi29 ?_ ?_
  · funext q
    rw [zfe_ne (q := 1) (by omega), hk]
    unfold zFR
    by_cases q2 : q = 2
    · rw [if_pos q2, q2, zfe_ne (by omega), zfe_at]
      refine Prod.ext rfl (funext fun k => ?_)
      show _ = (if 0 ≤ k ∧ k < 0 then _ else _)
      rw [if_neg (by omega)]
    · rw [if_neg q2, if_neg (by omega)]
      by_cases q1 : q = 1
      · rw [q1, zfe_at, zfe_at]
      · rw [zfe_ne q1, zfe_ne q2, zfe_ne q1]
  refine r_iconst f29_13 rfl ?_
  refine r_istore_n f29_14 rfl (ls' := [some (.inr (.inl (some 1))), some (.inl 0)]) rfl ?_
  refine l_R (L := L) (s := s + 12) (xs := xs) zfe_at ?_ 12 0 (by omega)
  exact r_vret f29_40 v29 ⟨rfl, rfl⟩
