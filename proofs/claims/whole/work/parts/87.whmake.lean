theorem zFC_0 {L : Nat} {xs : Nat → Int32} {F : Int → zC} (h : F 54 = (.inr (3, 40), fun _ => .inr (.inl none))) : zFC L xs F 0 = F := by
  funext q
  unfold zFC
  by_cases q2 : q = 54
  · rw [if_pos q2, q2, h]
    refine Prod.ext rfl (funext fun k => ?_)
    show (if 0 ≤ k ∧ k < 0 then _ else _) = _
    rw [if_neg (by omega)]
  · rw [if_neg q2, if_neg (by omega)]
theorem l_X {L d s : Nat} {xs : Nat → Int32} {F : Int → zC} (hk : (F 0).1 = .inl 6) (hk2 : (F 0).2 2 = .inr (.inl (some 54))) {Q : Option zV → zM → Prop} (hx : zR (d + 2) 42 95 [some (.inr (.inl (some 0))), some (.inl 40)] [] (264, s + 2040, zFC L xs F 40) Q) : ∀ (m h : Nat), h + m = 40 → zR (d + 2) 42 70 [some (.inr (.inl (some 0))), some (.inl (h : Int))] [] (64 + 5 * h, s + 51 * h, zFC L xs F (h : Int)) Q
  | 0, h, e => by
    have eh : h = 40 := by omega
    subst eh
    refine r_iload_n f42_70 rfl ?_
    refine r_bipush f42_71 (by decide) ?_
    refine r_cge f42_73 (t := 95) (by decide) (fun _ => ?_) (fun x => absurd (by omega) x)
    exact hx
  | m + 1, h, e => by
    have f1 : zFC L xs F (h : Int) 0 = F 0 := zFC_o (by omega) (by omega)
    refine r_iload_n f42_70 rfl ?_
    refine r_bipush f42_71 (by decide) ?_
    refine r_cge f42_73 (t := 95) (by decide) (fun x => absurd x (by omega)) (fun _ => ?_)
    refine r_aload_n f42_76 rfl ?_
    refine q_getR (k' := 2) (q := 54) f42_77 o42 F6_27 rfl (by rw [f1]; exact hk) (by rw [f1]; exact hk2) ?_
    refine r_iload_n f42_80 rfl ?_
    refine q_new (c := 64 + 5 * (h : Int)) (n' := 65 + 5 * h) (s' := s + 51 * h + 9) f42_81 o42 C6_25 (by omega) (by omega) rfl ?_
    refine r_dupR f42_84 ?_
    refine q_spec0 f42_85 o42 M6_49 (Or.inr rfl) p0 (by simp) (c_iC (p := 64 + 5 * (h : Int)) (c := 65 + 5 * (h : Int)) (by omega) (by omega) (by rw [zfe_at])) ?_
    refine q_aast (F' := zFC L xs F ((h : Int) + 1)) (t := 3) (len := 40) f42_88 ?_ (Or.inr rfl) (by omega) (by omega) (by omega) ?_ (zFC_s (by omega) (by omega)) ?_
    · unfold ziC
      rw [zar_o (by omega) (by omega), zar_o (by omega) (by omega), zar_o (by omega) (by omega), zar_o (by omega) (by omega), zfe_ne (by omega)]
      unfold zFC
      rw [if_pos rfl]
    · unfold ziC
      rw [zar_k, zar_k, zar_k, zar_k, zfe_at]
      rfl
    refine r_iinc f42_89 rfl rfl rfl (e := (h : Int) + 1) (by omega) (by omega) (by omega) (ls' := [some (.inr (.inl (some 0))), some (.inl ((h : Int) + 1))]) rfl ?_
    refine r_goto f42_92 (t := 70) (by decide) ?_
    have ih := l_X (L := L) (d := d) (s := s) (xs := xs) hk hk2 hx m (h + 1) (by omega)
    rw [show ((h + 1 : Nat) : Int) = (h : Int) + 1 by omega] at ih
    exact q_cnt (by omega) (by omega) rfl ih
abbrev zGB (L : Nat) (xs : Nat → Int32) (F : Int → zC) : Int → zC := (zfe (zfe (zfe (ziP (zfe (zfe (ziL (zfe (zfe (zfe (zfe (ziW (zfe (zfe (zFR L xs (zfe (zfe F 1 (.inl 4, zdef 4)) 1 (zst (.inl 4, zdef 4) 0 (.inr (.inl (some 2))))) 12) 0 (zst (.inl 6, zdef 6) 0 (.inr (.inl (some 1))))) 51 (.inl 5, zdef 5)) 51 52 1) 0 (zst (zst (.inl 6, zdef 6) 0 (.inr (.inl (some 1)))) 1 (.inr (.inl (some 51))))) 54 (.inr (3, 40), fun _ => .inr (.inl none))) 0 (zst (zst (zst (.inl 6, zdef 6) 0 (.inr (.inl (some 1)))) 1 (.inr (.inl (some 51)))) 2 (.inr (.inl (some 54))))) 55 (.inl 2, zdef 2)) 55 56) 0 (zst (zst (zst (zst (.inl 6, zdef 6) 0 (.inr (.inl (some 1)))) 1 (.inr (.inl (some 51)))) 2 (.inr (.inl (some 54)))) 3 (.inr (.inl (some 55))))) 60 (.inl 3, zdef 3)) 60 61) 0 (zst (zst (zst (zst (zst (.inl 6, zdef 6) 0 (.inr (.inl (some 1)))) 1 (.inr (.inl (some 51)))) 2 (.inr (.inl (some 54)))) 3 (.inr (.inl (some 55)))) 4 (.inr (.inl (some 60))))) 63 (.inr (0, 3), fun _ => .inl 0)) 0 (zst (zst (zst (zst (zst (zst (.inl 6, zdef 6) 0 (.inr (.inl (some 1)))) 1 (.inr (.inl (some 51)))) 2 (.inr (.inl (some 54)))) 3 (.inr (.inl (some 55)))) 4 (.inr (.inl (some 60)))) 5 (.inr (.inl (some 63)))))
set_option maxHeartbeats 1000000 in
theorem c_X {L d : Nat} {xs : Nat → Int32} {F : Int → zC} (h0 : F 0 = (.inl 6, zdef 6)) : zR (d + 3) 42 0 (zent 42 [.inr (.inl (some 0))]) [] (1, 9, F) (fun rr M => rr = none ∧ M = (264, 4557, zFC L xs (zGB L xs F) 40)) := by
  refine zI_of n42 (ls := [some (.inr (.inl (some 0))), none]) rfl ?_
  refine r_aload_n f42_0 rfl ?_
  refine r_oinit f42_1 o42 M6_1 (by simp) ?_
  refine r_aload_n f42_4 rfl ?_
  refine q_new (c := 1) (n' := 2) (s' := 12) f42_5 o42 C6_7 (by omega) (by omega) rfl ?_
  refine r_dupR f42_8 ?_
  refine q_spec0 f42_9 o42 M6_9 (Or.inl rfl) p29 (by simp) (c_R (L := L) (xs := xs) zfe_at) ?_
  have e0 : (zFR L xs (zfe (zfe F 1 (.inl 4, zdef 4)) 1 (zst (.inl 4, zdef 4) 0 (.inr (.inl (some 2))))) 12) 0 = (.inl 6, zdef 6) := by rw [zFR_o (by omega) (by omega), zfe_ne (by omega), zfe_ne (by omega)]; exact h0
  refine q_putR (k' := 0) (F' := (zfe (zFR L xs (zfe (zfe F 1 (.inl 4, zdef 4)) 1 (zst (.inl 4, zdef 4) 0 (.inr (.inl (some 2))))) 12) 0 (zst (.inl 6, zdef 6) 0 (.inr (.inl (some 1)))))) f42_12 o42 F6_10 rfl (congrArg Prod.fst e0) TR6_0 UR6_0 rfl yi42 (by rw [e0]) ?_
  have e1 : (zfe (zFR L xs (zfe (zfe F 1 (.inl 4, zdef 4)) 1 (zst (.inl 4, zdef 4) 0 (.inr (.inl (some 2))))) 12) 0 (zst (.inl 6, zdef 6) 0 (.inr (.inl (some 1))))) 0 = (zst (.inl 6, zdef 6) 0 (.inr (.inl (some 1)))) := zfe_at
  refine r_aload_n f42_15 rfl ?_
  refine q_new (c := 51) (n' := 52) (s' := 2175) f42_16 o42 C6_16 (by omega) (by omega) rfl ?_
  have e2 : (zfe (zfe (zFR L xs (zfe (zfe F 1 (.inl 4, zdef 4)) 1 (zst (.inl 4, zdef 4) 0 (.inr (.inl (some 2))))) 12) 0 (zst (.inl 6, zdef 6) 0 (.inr (.inl (some 1))))) 51 (.inl 5, zdef 5)) 0 = (zst (.inl 6, zdef 6) 0 (.inr (.inl (some 1)))) := by rw [zfe_ne (by omega)]; exact e1
  refine r_dupR f42_19 ?_
  refine r_aload_n f42_20 rfl ?_
  refine q_getR (k' := 0) (q := 1) f42_21 o42 F6_10 rfl (by rw [e2]; rfl) (by rw [e2]; rfl) ?_
  refine q_spec1 f42_24 o42 M6_18 (Or.inl rfl) p36 (by simp) (c_iW (p := 51) (c := 52) (r := 1) (by omega) (by omega) (by rw [zfe_at])) ?_
  have e3 : (ziW (zfe (zfe (zFR L xs (zfe (zfe F 1 (.inl 4, zdef 4)) 1 (zst (.inl 4, zdef 4) 0 (.inr (.inl (some 2))))) 12) 0 (zst (.inl 6, zdef 6) 0 (.inr (.inl (some 1))))) 51 (.inl 5, zdef 5)) 51 52 1) 0 = (zst (.inl 6, zdef 6) 0 (.inr (.inl (some 1)))) := by unfold ziW; rw [zfe_ne (by omega), zar_o (by omega) (by omega), zar_o (by omega) (by omega)]; exact e2
  refine q_putR (k' := 1) (F' := (zfe (ziW (zfe (zfe (zFR L xs (zfe (zfe F 1 (.inl 4, zdef 4)) 1 (zst (.inl 4, zdef 4) 0 (.inr (.inl (some 2))))) 12) 0 (zst (.inl 6, zdef 6) 0 (.inr (.inl (some 1))))) 51 (.inl 5, zdef 5)) 51 52 1) 0 (zst (zst (.inl 6, zdef 6) 0 (.inr (.inl (some 1)))) 1 (.inr (.inl (some 51)))))) f42_27 o42 F6_21 rfl (congrArg Prod.fst e3) TR6_1 UR6_1 rfl yi42 (by rw [e3]) ?_
  have e4 : (zfe (ziW (zfe (zfe (zFR L xs (zfe (zfe F 1 (.inl 4, zdef 4)) 1 (zst (.inl 4, zdef 4) 0 (.inr (.inl (some 2))))) 12) 0 (zst (.inl 6, zdef 6) 0 (.inr (.inl (some 1))))) 51 (.inl 5, zdef 5)) 51 52 1) 0 (zst (zst (.inl 6, zdef 6) 0 (.inr (.inl (some 1)))) 1 (.inr (.inl (some 51))))) 0 = (zst (zst (.inl 6, zdef 6) 0 (.inr (.inl (some 1)))) 1 (.inr (.inl (some 51)))) := zfe_at
  refine r_aload_n f42_30 rfl ?_
  refine r_bipush f42_31 (by decide) ?_
  refine q_anew (t := 3) (c := 54) (n' := 55) (s' := 2306) f42_33 o42 C6_25 (by decide) rfl (by decide) (by decide) (by omega) (by omega) rfl ?_
  have e5 : (zfe (zfe (ziW (zfe (zfe (zFR L xs (zfe (zfe F 1 (.inl 4, zdef 4)) 1 (zst (.inl 4, zdef 4) 0 (.inr (.inl (some 2))))) 12) 0 (zst (.inl 6, zdef 6) 0 (.inr (.inl (some 1))))) 51 (.inl 5, zdef 5)) 51 52 1) 0 (zst (zst (.inl 6, zdef 6) 0 (.inr (.inl (some 1)))) 1 (.inr (.inl (some 51))))) 54 (.inr (3, 40), fun _ => .inr (.inl none))) 0 = (zst (zst (.inl 6, zdef 6) 0 (.inr (.inl (some 1)))) 1 (.inr (.inl (some 51)))) := by rw [zfe_ne (by omega)]; exact e4
  refine q_putR (k' := 2) (F' := (zfe (zfe (zfe (ziW (zfe (zfe (zFR L xs (zfe (zfe F 1 (.inl 4, zdef 4)) 1 (zst (.inl 4, zdef 4) 0 (.inr (.inl (some 2))))) 12) 0 (zst (.inl 6, zdef 6) 0 (.inr (.inl (some 1))))) 51 (.inl 5, zdef 5)) 51 52 1) 0 (zst (zst (.inl 6, zdef 6) 0 (.inr (.inl (some 1)))) 1 (.inr (.inl (some 51))))) 54 (.inr (3, 40), fun _ => .inr (.inl none))) 0 (zst (zst (zst (.inl 6, zdef 6) 0 (.inr (.inl (some 1)))) 1 (.inr (.inl (some 51)))) 2 (.inr (.inl (some 54)))))) f42_36 o42 F6_27 rfl (congrArg Prod.fst e5) TR6_2 UR6_2 rfl yi42 (by rw [e5]) ?_
  have e6 : (zfe (zfe (zfe (ziW (zfe (zfe (zFR L xs (zfe (zfe F 1 (.inl 4, zdef 4)) 1 (zst (.inl 4, zdef 4) 0 (.inr (.inl (some 2))))) 12) 0 (zst (.inl 6, zdef 6) 0 (.inr (.inl (some 1))))) 51 (.inl 5, zdef 5)) 51 52 1) 0 (zst (zst (.inl 6, zdef 6) 0 (.inr (.inl (some 1)))) 1 (.inr (.inl (some 51))))) 54 (.inr (3, 40), fun _ => .inr (.inl none))) 0 (zst (zst (zst (.inl 6, zdef 6) 0 (.inr (.inl (some 1)))) 1 (.inr (.inl (some 51)))) 2 (.inr (.inl (some 54))))) 0 = (zst (zst (zst (.inl 6, zdef 6) 0 (.inr (.inl (some 1)))) 1 (.inr (.inl (some 51)))) 2 (.inr (.inl (some 54)))) := zfe_at
  refine r_aload_n f42_39 rfl ?_
  refine q_new (c := 55) (n' := 56) (s' := 2311) f42_40 o42 C6_31 (by omega) (by omega) rfl ?_
  have e7 : (zfe (zfe (zfe (zfe (ziW (zfe (zfe (zFR L xs (zfe (zfe F 1 (.inl 4, zdef 4)) 1 (zst (.inl 4, zdef 4) 0 (.inr (.inl (some 2))))) 12) 0 (zst (.inl 6, zdef 6) 0 (.inr (.inl (some 1))))) 51 (.inl 5, zdef 5)) 51 52 1) 0 (zst (zst (.inl 6, zdef 6) 0 (.inr (.inl (some 1)))) 1 (.inr (.inl (some 51))))) 54 (.inr (3, 40), fun _ => .inr (.inl none))) 0 (zst (zst (zst (.inl 6, zdef 6) 0 (.inr (.inl (some 1)))) 1 (.inr (.inl (some 51)))) 2 (.inr (.inl (some 54))))) 55 (.inl 2, zdef 2)) 0 = (zst (zst (zst (.inl 6, zdef 6) 0 (.inr (.inl (some 1)))) 1 (.inr (.inl (some 51)))) 2 (.inr (.inl (some 54)))) := by rw [zfe_ne (by omega)]; exact e6
  refine r_dupR f42_43 ?_
  refine q_spec0 f42_44 o42 M6_33 (Or.inr rfl) p22 (by simp) (c_iL (p := 55) (c := 56) (by omega) (by omega) (by rw [zfe_at])) ?_
  have e8 : (ziL (zfe (zfe (zfe (zfe (ziW (zfe (zfe (zFR L xs (zfe (zfe F 1 (.inl 4, zdef 4)) 1 (zst (.inl 4, zdef 4) 0 (.inr (.inl (some 2))))) 12) 0 (zst (.inl 6, zdef 6) 0 (.inr (.inl (some 1))))) 51 (.inl 5, zdef 5)) 51 52 1) 0 (zst (zst (.inl 6, zdef 6) 0 (.inr (.inl (some 1)))) 1 (.inr (.inl (some 51))))) 54 (.inr (3, 40), fun _ => .inr (.inl none))) 0 (zst (zst (zst (.inl 6, zdef 6) 0 (.inr (.inl (some 1)))) 1 (.inr (.inl (some 51)))) 2 (.inr (.inl (some 54))))) 55 (.inl 2, zdef 2)) 55 56) 0 = (zst (zst (zst (.inl 6, zdef 6) 0 (.inr (.inl (some 1)))) 1 (.inr (.inl (some 51)))) 2 (.inr (.inl (some 54)))) := by unfold ziL; rw [zar_o (by omega) (by omega), zar_o (by omega) (by omega), zar_o (by omega) (by omega), zar_o (by omega) (by omega)]; exact e7
  refine q_putR (k' := 3) (F' := (zfe (ziL (zfe (zfe (zfe (zfe (ziW (zfe (zfe (zFR L xs (zfe (zfe F 1 (.inl 4, zdef 4)) 1 (zst (.inl 4, zdef 4) 0 (.inr (.inl (some 2))))) 12) 0 (zst (.inl 6, zdef 6) 0 (.inr (.inl (some 1))))) 51 (.inl 5, zdef 5)) 51 52 1) 0 (zst (zst (.inl 6, zdef 6) 0 (.inr (.inl (some 1)))) 1 (.inr (.inl (some 51))))) 54 (.inr (3, 40), fun _ => .inr (.inl none))) 0 (zst (zst (zst (.inl 6, zdef 6) 0 (.inr (.inl (some 1)))) 1 (.inr (.inl (some 51)))) 2 (.inr (.inl (some 54))))) 55 (.inl 2, zdef 2)) 55 56) 0 (zst (zst (zst (zst (.inl 6, zdef 6) 0 (.inr (.inl (some 1)))) 1 (.inr (.inl (some 51)))) 2 (.inr (.inl (some 54)))) 3 (.inr (.inl (some 55)))))) f42_47 o42 F6_34 rfl (congrArg Prod.fst e8) TR6_3 UR6_3 rfl yi42 (by rw [e8]) ?_
  have e9 : (zfe (ziL (zfe (zfe (zfe (zfe (ziW (zfe (zfe (zFR L xs (zfe (zfe F 1 (.inl 4, zdef 4)) 1 (zst (.inl 4, zdef 4) 0 (.inr (.inl (some 2))))) 12) 0 (zst (.inl 6, zdef 6) 0 (.inr (.inl (some 1))))) 51 (.inl 5, zdef 5)) 51 52 1) 0 (zst (zst (.inl 6, zdef 6) 0 (.inr (.inl (some 1)))) 1 (.inr (.inl (some 51))))) 54 (.inr (3, 40), fun _ => .inr (.inl none))) 0 (zst (zst (zst (.inl 6, zdef 6) 0 (.inr (.inl (some 1)))) 1 (.inr (.inl (some 51)))) 2 (.inr (.inl (some 54))))) 55 (.inl 2, zdef 2)) 55 56) 0 (zst (zst (zst (zst (.inl 6, zdef 6) 0 (.inr (.inl (some 1)))) 1 (.inr (.inl (some 51)))) 2 (.inr (.inl (some 54)))) 3 (.inr (.inl (some 55))))) 0 = (zst (zst (zst (zst (.inl 6, zdef 6) 0 (.inr (.inl (some 1)))) 1 (.inr (.inl (some 51)))) 2 (.inr (.inl (some 54)))) 3 (.inr (.inl (some 55)))) := zfe_at
  refine r_aload_n f42_50 rfl ?_
  refine q_new (c := 60) (n' := 61) (s' := 2474) f42_51 o42 C6_38 (by omega) (by omega) rfl ?_
  have e10 : (zfe (zfe (ziL (zfe (zfe (zfe (zfe (ziW (zfe (zfe (zFR L xs (zfe (zfe F 1 (.inl 4, zdef 4)) 1 (zst (.inl 4, zdef 4) 0 (.inr (.inl (some 2))))) 12) 0 (zst (.inl 6, zdef 6) 0 (.inr (.inl (some 1))))) 51 (.inl 5, zdef 5)) 51 52 1) 0 (zst (zst (.inl 6, zdef 6) 0 (.inr (.inl (some 1)))) 1 (.inr (.inl (some 51))))) 54 (.inr (3, 40), fun _ => .inr (.inl none))) 0 (zst (zst (zst (.inl 6, zdef 6) 0 (.inr (.inl (some 1)))) 1 (.inr (.inl (some 51)))) 2 (.inr (.inl (some 54))))) 55 (.inl 2, zdef 2)) 55 56) 0 (zst (zst (zst (zst (.inl 6, zdef 6) 0 (.inr (.inl (some 1)))) 1 (.inr (.inl (some 51)))) 2 (.inr (.inl (some 54)))) 3 (.inr (.inl (some 55))))) 60 (.inl 3, zdef 3)) 0 = (zst (zst (zst (zst (.inl 6, zdef 6) 0 (.inr (.inl (some 1)))) 1 (.inr (.inl (some 51)))) 2 (.inr (.inl (some 54)))) 3 (.inr (.inl (some 55)))) := by rw [zfe_ne (by omega)]; exact e9
  refine r_dupR f42_54 ?_
  refine q_spec0 f42_55 o42 M6_40 (Or.inr rfl) p26 (by simp) (c_iP (p := 60) (c := 61) (by omega) (by omega) (by rw [zfe_at])) ?_
  have e11 : (ziP (zfe (zfe (ziL (zfe (zfe (zfe (zfe (ziW (zfe (zfe (zFR L xs (zfe (zfe F 1 (.inl 4, zdef 4)) 1 (zst (.inl 4, zdef 4) 0 (.inr (.inl (some 2))))) 12) 0 (zst (.inl 6, zdef 6) 0 (.inr (.inl (some 1))))) 51 (.inl 5, zdef 5)) 51 52 1) 0 (zst (zst (.inl 6, zdef 6) 0 (.inr (.inl (some 1)))) 1 (.inr (.inl (some 51))))) 54 (.inr (3, 40), fun _ => .inr (.inl none))) 0 (zst (zst (zst (.inl 6, zdef 6) 0 (.inr (.inl (some 1)))) 1 (.inr (.inl (some 51)))) 2 (.inr (.inl (some 54))))) 55 (.inl 2, zdef 2)) 55 56) 0 (zst (zst (zst (zst (.inl 6, zdef 6) 0 (.inr (.inl (some 1)))) 1 (.inr (.inl (some 51)))) 2 (.inr (.inl (some 54)))) 3 (.inr (.inl (some 55))))) 60 (.inl 3, zdef 3)) 60 61) 0 = (zst (zst (zst (zst (.inl 6, zdef 6) 0 (.inr (.inl (some 1)))) 1 (.inr (.inl (some 51)))) 2 (.inr (.inl (some 54)))) 3 (.inr (.inl (some 55)))) := by unfold ziP; rw [zar_o (by omega) (by omega), zar_o (by omega) (by omega)]; exact e10
  refine q_putR (k' := 4) (F' := (zfe (ziP (zfe (zfe (ziL (zfe (zfe (zfe (zfe (ziW (zfe (zfe (zFR L xs (zfe (zfe F 1 (.inl 4, zdef 4)) 1 (zst (.inl 4, zdef 4) 0 (.inr (.inl (some 2))))) 12) 0 (zst (.inl 6, zdef 6) 0 (.inr (.inl (some 1))))) 51 (.inl 5, zdef 5)) 51 52 1) 0 (zst (zst (.inl 6, zdef 6) 0 (.inr (.inl (some 1)))) 1 (.inr (.inl (some 51))))) 54 (.inr (3, 40), fun _ => .inr (.inl none))) 0 (zst (zst (zst (.inl 6, zdef 6) 0 (.inr (.inl (some 1)))) 1 (.inr (.inl (some 51)))) 2 (.inr (.inl (some 54))))) 55 (.inl 2, zdef 2)) 55 56) 0 (zst (zst (zst (zst (.inl 6, zdef 6) 0 (.inr (.inl (some 1)))) 1 (.inr (.inl (some 51)))) 2 (.inr (.inl (some 54)))) 3 (.inr (.inl (some 55))))) 60 (.inl 3, zdef 3)) 60 61) 0 (zst (zst (zst (zst (zst (.inl 6, zdef 6) 0 (.inr (.inl (some 1)))) 1 (.inr (.inl (some 51)))) 2 (.inr (.inl (some 54)))) 3 (.inr (.inl (some 55)))) 4 (.inr (.inl (some 60)))))) f42_58 o42 F6_41 rfl (congrArg Prod.fst e11) TR6_4 UR6_4 rfl yi42 (by rw [e11]) ?_
  have e12 : (zfe (ziP (zfe (zfe (ziL (zfe (zfe (zfe (zfe (ziW (zfe (zfe (zFR L xs (zfe (zfe F 1 (.inl 4, zdef 4)) 1 (zst (.inl 4, zdef 4) 0 (.inr (.inl (some 2))))) 12) 0 (zst (.inl 6, zdef 6) 0 (.inr (.inl (some 1))))) 51 (.inl 5, zdef 5)) 51 52 1) 0 (zst (zst (.inl 6, zdef 6) 0 (.inr (.inl (some 1)))) 1 (.inr (.inl (some 51))))) 54 (.inr (3, 40), fun _ => .inr (.inl none))) 0 (zst (zst (zst (.inl 6, zdef 6) 0 (.inr (.inl (some 1)))) 1 (.inr (.inl (some 51)))) 2 (.inr (.inl (some 54))))) 55 (.inl 2, zdef 2)) 55 56) 0 (zst (zst (zst (zst (.inl 6, zdef 6) 0 (.inr (.inl (some 1)))) 1 (.inr (.inl (some 51)))) 2 (.inr (.inl (some 54)))) 3 (.inr (.inl (some 55))))) 60 (.inl 3, zdef 3)) 60 61) 0 (zst (zst (zst (zst (zst (.inl 6, zdef 6) 0 (.inr (.inl (some 1)))) 1 (.inr (.inl (some 51)))) 2 (.inr (.inl (some 54)))) 3 (.inr (.inl (some 55)))) 4 (.inr (.inl (some 60))))) 0 = (zst (zst (zst (zst (zst (.inl 6, zdef 6) 0 (.inr (.inl (some 1)))) 1 (.inr (.inl (some 51)))) 2 (.inr (.inl (some 54)))) 3 (.inr (.inl (some 55)))) 4 (.inr (.inl (some 60)))) := zfe_at
  refine r_aload_n f42_61 rfl ?_
  refine r_iconst f42_62 rfl ?_
  refine q_newI (c := 63) (n' := 64) (s' := 2517) f42_63 (by decide) (by decide) (by omega) (by omega) rfl ?_
  have e13 : (zfe (zfe (ziP (zfe (zfe (ziL (zfe (zfe (zfe (zfe (ziW (zfe (zfe (zFR L xs (zfe (zfe F 1 (.inl 4, zdef 4)) 1 (zst (.inl 4, zdef 4) 0 (.inr (.inl (some 2))))) 12) 0 (zst (.inl 6, zdef 6) 0 (.inr (.inl (some 1))))) 51 (.inl 5, zdef 5)) 51 52 1) 0 (zst (zst (.inl 6, zdef 6) 0 (.inr (.inl (some 1)))) 1 (.inr (.inl (some 51))))) 54 (.inr (3, 40), fun _ => .inr (.inl none))) 0 (zst (zst (zst (.inl 6, zdef 6) 0 (.inr (.inl (some 1)))) 1 (.inr (.inl (some 51)))) 2 (.inr (.inl (some 54))))) 55 (.inl 2, zdef 2)) 55 56) 0 (zst (zst (zst (zst (.inl 6, zdef 6) 0 (.inr (.inl (some 1)))) 1 (.inr (.inl (some 51)))) 2 (.inr (.inl (some 54)))) 3 (.inr (.inl (some 55))))) 60 (.inl 3, zdef 3)) 60 61) 0 (zst (zst (zst (zst (zst (.inl 6, zdef 6) 0 (.inr (.inl (some 1)))) 1 (.inr (.inl (some 51)))) 2 (.inr (.inl (some 54)))) 3 (.inr (.inl (some 55)))) 4 (.inr (.inl (some 60))))) 63 (.inr (0, 3), fun _ => .inl 0)) 0 = (zst (zst (zst (zst (zst (.inl 6, zdef 6) 0 (.inr (.inl (some 1)))) 1 (.inr (.inl (some 51)))) 2 (.inr (.inl (some 54)))) 3 (.inr (.inl (some 55)))) 4 (.inr (.inl (some 60)))) := by rw [zfe_ne (by omega)]; exact e12
  refine q_putR (k' := 5) (F' := (zfe (zfe (zfe (ziP (zfe (zfe (ziL (zfe (zfe (zfe (zfe (ziW (zfe (zfe (zFR L xs (zfe (zfe F 1 (.inl 4, zdef 4)) 1 (zst (.inl 4, zdef 4) 0 (.inr (.inl (some 2))))) 12) 0 (zst (.inl 6, zdef 6) 0 (.inr (.inl (some 1))))) 51 (.inl 5, zdef 5)) 51 52 1) 0 (zst (zst (.inl 6, zdef 6) 0 (.inr (.inl (some 1)))) 1 (.inr (.inl (some 51))))) 54 (.inr (3, 40), fun _ => .inr (.inl none))) 0 (zst (zst (zst (.inl 6, zdef 6) 0 (.inr (.inl (some 1)))) 1 (.inr (.inl (some 51)))) 2 (.inr (.inl (some 54))))) 55 (.inl 2, zdef 2)) 55 56) 0 (zst (zst (zst (zst (.inl 6, zdef 6) 0 (.inr (.inl (some 1)))) 1 (.inr (.inl (some 51)))) 2 (.inr (.inl (some 54)))) 3 (.inr (.inl (some 55))))) 60 (.inl 3, zdef 3)) 60 61) 0 (zst (zst (zst (zst (zst (.inl 6, zdef 6) 0 (.inr (.inl (some 1)))) 1 (.inr (.inl (some 51)))) 2 (.inr (.inl (some 54)))) 3 (.inr (.inl (some 55)))) 4 (.inr (.inl (some 60))))) 63 (.inr (0, 3), fun _ => .inl 0)) 0 (zst (zst (zst (zst (zst (zst (.inl 6, zdef 6) 0 (.inr (.inl (some 1)))) 1 (.inr (.inl (some 51)))) 2 (.inr (.inl (some 54)))) 3 (.inr (.inl (some 55)))) 4 (.inr (.inl (some 60)))) 5 (.inr (.inl (some 63)))))) f42_65 o42 F6_45 rfl (congrArg Prod.fst e13) TR6_5 UR6_5 rfl yi42 (by rw [e13]) ?_
  have e14 : (zfe (zfe (zfe (ziP (zfe (zfe (ziL (zfe (zfe (zfe (zfe (ziW (zfe (zfe (zFR L xs (zfe (zfe F 1 (.inl 4, zdef 4)) 1 (zst (.inl 4, zdef 4) 0 (.inr (.inl (some 2))))) 12) 0 (zst (.inl 6, zdef 6) 0 (.inr (.inl (some 1))))) 51 (.inl 5, zdef 5)) 51 52 1) 0 (zst (zst (.inl 6, zdef 6) 0 (.inr (.inl (some 1)))) 1 (.inr (.inl (some 51))))) 54 (.inr (3, 40), fun _ => .inr (.inl none))) 0 (zst (zst (zst (.inl 6, zdef 6) 0 (.inr (.inl (some 1)))) 1 (.inr (.inl (some 51)))) 2 (.inr (.inl (some 54))))) 55 (.inl 2, zdef 2)) 55 56) 0 (zst (zst (zst (zst (.inl 6, zdef 6) 0 (.inr (.inl (some 1)))) 1 (.inr (.inl (some 51)))) 2 (.inr (.inl (some 54)))) 3 (.inr (.inl (some 55))))) 60 (.inl 3, zdef 3)) 60 61) 0 (zst (zst (zst (zst (zst (.inl 6, zdef 6) 0 (.inr (.inl (some 1)))) 1 (.inr (.inl (some 51)))) 2 (.inr (.inl (some 54)))) 3 (.inr (.inl (some 55)))) 4 (.inr (.inl (some 60))))) 63 (.inr (0, 3), fun _ => .inl 0)) 0 (zst (zst (zst (zst (zst (zst (.inl 6, zdef 6) 0 (.inr (.inl (some 1)))) 1 (.inr (.inl (some 51)))) 2 (.inr (.inl (some 54)))) 3 (.inr (.inl (some 55)))) 4 (.inr (.inl (some 60)))) 5 (.inr (.inl (some 63))))) 0 = (zst (zst (zst (zst (zst (zst (.inl 6, zdef 6) 0 (.inr (.inl (some 1)))) 1 (.inr (.inl (some 51)))) 2 (.inr (.inl (some 54)))) 3 (.inr (.inl (some 55)))) 4 (.inr (.inl (some 60)))) 5 (.inr (.inl (some 63)))) := zfe_at
  refine r_iconst f42_68 rfl ?_
  refine r_istore_n f42_69 rfl (ls' := [some (.inr (.inl (some 0))), some (.inl 0)]) rfl ?_
  refine q_cnt rfl rfl (zFC_0 (L := L) (xs := xs) (by unfold ziL ziP; (repeat (first | rw [zfe_at] | rw [zfe_ne (by omega)] | rw [zar_o (by omega) (by omega)])))).symm ?_
  refine l_X (L := L) (s := 2517) (xs := xs) (by rw [e14]; rfl) (by rw [e14]; rfl) ?_ 40 0 (by omega)
  exact r_vret f42_95 v42 ⟨rfl, rfl⟩
theorem zfin_0 {L : Nat} {xs : Nat → Int32} : zfin L xs 0 = (zst (zst (zst (zst (zst (zst (.inl 6, zdef 6) 0 (.inr (.inl (some 1)))) 1 (.inr (.inl (some 51)))) 2 (.inr (.inl (some 54)))) 3 (.inr (.inl (some 55)))) 4 (.inr (.inl (some 60)))) 5 (.inr (.inl (some 63)))) := by
  unfold zfin
  rw [kd0]
  refine Prod.ext rfl (funext fun k => ?_)
  show zcn L (zmA xs) 0 k = _
  rw [zcn_o (L := L) (p := 0) (ci := 6) kd0 (by decide) (zmA_0 (by omega))]
  by_cases k0 : k = 0
  · subst k0; simp [zasg, zst]
  · skip
    by_cases k1 : k = 1
    · subst k1; simp [zasg, zst]
    · skip
      by_cases k2 : k = 2
      · subst k2; simp [zasg, zst]
      · skip
        by_cases k3 : k = 3
        · subst k3; simp [zasg, zst]
        · skip
          by_cases k4 : k = 4
          · subst k4; simp [zasg, zst]
          · skip
            by_cases k5 : k = 5
            · subst k5; simp [zasg, zst]
            · skip
              simp [zasg, zst, k0, k1, k2, k3, k4, k5]
theorem zfin_1 {L : Nat} {xs : Nat → Int32} : zfin L xs 1 = (zst (.inl 4, zdef 4) 0 (.inr (.inl (some 2)))) := by
  unfold zfin
  rw [kd1]
  refine Prod.ext rfl (funext fun k => ?_)
  show zcn L (zmA xs) 1 k = _
  rw [zcn_o (L := L) (p := 1) (ci := 4) kd1 (by decide) (zmA_0 (by omega))]
  by_cases k0 : k = 0
  · subst k0; simp [zasg, zst]
  · skip
    simp [zasg, zst, k0]
theorem zfin_51 {L : Nat} {xs : Nat → Int32} : zfin L xs 51 = (zst (zst (zst (.inl 5, zdef 5) 1 (.inr (.inl (some 52)))) 2 (.inr (.inl (some 53)))) 0 (.inr (.inl (some 1)))) := by
  unfold zfin
  rw [kd51]
  refine Prod.ext rfl (funext fun k => ?_)
  show zcn L (zmA xs) 51 k = _
  rw [zcn_o (L := L) (p := 51) (ci := 5) kd51 (by decide) (zmA_0 (by omega))]
  by_cases k0 : k = 1
  · subst k0; simp [zasg, zst]
  · skip
    by_cases k1 : k = 2
    · subst k1; simp [zasg, zst]
    · skip
      by_cases k2 : k = 0
      · subst k2; simp [zasg, zst]
      · skip
        simp [zasg, zst, k0, k1, k2]
theorem zfin_55 {L : Nat} {xs : Nat → Int32} : zfin L xs 55 = (zst (zst (zst (zst (.inl 2, zdef 2) 0 (.inr (.inl (some 56)))) 1 (.inr (.inl (some 57)))) 2 (.inr (.inl (some 58)))) 3 (.inr (.inl (some 59)))) := by
  unfold zfin
  rw [kd55]
  refine Prod.ext rfl (funext fun k => ?_)
  show zcn L (zmA xs) 55 k = _
  rw [zcn_o (L := L) (p := 55) (ci := 2) kd55 (by decide) (zmA_0 (by omega))]
  by_cases k0 : k = 0
  · subst k0; simp [zasg, zst]
  · skip
    by_cases k1 : k = 1
    · subst k1; simp [zasg, zst]
    · skip
      by_cases k2 : k = 2
      · subst k2; simp [zasg, zst]
      · skip
        by_cases k3 : k = 3
        · subst k3; simp [zasg, zst]
        · skip
          simp [zasg, zst, k0, k1, k2, k3]
theorem zfin_60 {L : Nat} {xs : Nat → Int32} : zfin L xs 60 = (zst (zst (.inl 3, zdef 3) 0 (.inr (.inl (some 61)))) 1 (.inr (.inl (some 62)))) := by
  unfold zfin
  rw [kd60]
  refine Prod.ext rfl (funext fun k => ?_)
  show zcn L (zmA xs) 60 k = _
  rw [zcn_o (L := L) (p := 60) (ci := 3) kd60 (by decide) (zmA_0 (by omega))]
  by_cases k0 : k = 0
  · subst k0; simp [zasg, zst]
  · skip
    by_cases k1 : k = 1
    · subst k1; simp [zasg, zst]
    · skip
      simp [zasg, zst, k0, k1]
set_option maxHeartbeats 2000000 in
theorem zfin_264 {L : Nat} {xs : Nat → Int32} : zfin L xs 264 = (zst (zst (zst (zst (zst (zst (zst (zst (zst (zst (zst (zst (zst (zst (zst (zst (zst (zst (zst (zst (zst (zst (zst (zst (zst (.inl 7, zdef 7) 1 (.inr (.inl (some 265)))) 2 (.inr (.inl (some 266)))) 3 (.inr (.inl (some 267)))) 4 (.inr (.inl (some 268)))) 5 (.inr (.inl (some 269)))) 8 (.inr (.inl (some 270)))) 11 (.inr (.inl (some 271)))) 12 (.inr (.inl (some 272)))) 13 (.inr (.inl (some 273)))) 14 (.inr (.inl (some 274)))) 15 (.inr (.inl (some 275)))) 16 (.inr (.inl (some 276)))) 17 (.inr (.inl (some 277)))) 18 (.inr (.inl (some 278)))) 19 (.inr (.inl (some 279)))) 20 (.inr (.inl (some 280)))) 21 (.inr (.inl (some 281)))) 22 (.inr (.inl (some 282)))) 23 (.inr (.inl (some 283)))) 25 (.inr (.inl (some 284)))) 26 (.inr (.inl (some 285)))) 28 (.inr (.inl (some 286)))) 29 (.inr (.inl (some 287)))) 30 (.inr (.inl (some 288)))) 31 (.inr (.inl (some 289)))) := by
  unfold zfin
  rw [kd264]
  refine Prod.ext rfl (funext fun k => ?_)
  show zcn L (zmA xs) 264 k = _
  rw [zcn_o (L := L) (p := 264) (ci := 7) kd264 (by decide) (zmA_0 (by omega))]
  by_cases k0 : k = 1
  · subst k0; simp [zasg, zst]
  · skip
    by_cases k1 : k = 2
    · subst k1; simp [zasg, zst]
    · skip
      by_cases k2 : k = 3
      · subst k2; simp [zasg, zst]
      · skip
        by_cases k3 : k = 4
        · subst k3; simp [zasg, zst]
        · skip
          by_cases k4 : k = 5
          · subst k4; simp [zasg, zst]
          · skip
            by_cases k5 : k = 8
            · subst k5; simp [zasg, zst]
            · skip
              by_cases k6 : k = 11
              · subst k6; simp [zasg, zst]
              · skip
                by_cases k7 : k = 12
                · subst k7; simp [zasg, zst]
                · skip
                  by_cases k8 : k = 13
                  · subst k8; simp [zasg, zst]
                  · skip
                    by_cases k9 : k = 14
                    · subst k9; simp [zasg, zst]
                    · skip
                      by_cases k10 : k = 15
                      · subst k10; simp [zasg, zst]
                      · skip
                        by_cases k11 : k = 16
                        · subst k11; simp [zasg, zst]
                        · skip
                          by_cases k12 : k = 17
                          · subst k12; simp [zasg, zst]
                          · skip
                            by_cases k13 : k = 18
                            · subst k13; simp [zasg, zst]
                            · skip
                              by_cases k14 : k = 19
                              · subst k14; simp [zasg, zst]
                              · skip
                                by_cases k15 : k = 20
                                · subst k15; simp [zasg, zst]
                                · skip
                                  by_cases k16 : k = 21
                                  · subst k16; simp [zasg, zst]
                                  · skip
                                    by_cases k17 : k = 22
                                    · subst k17; simp [zasg, zst]
                                    · skip
                                      by_cases k18 : k = 23
                                      · subst k18; simp [zasg, zst]
                                      · skip
                                        by_cases k19 : k = 25
                                        · subst k19; simp [zasg, zst]
                                        · skip
                                          by_cases k20 : k = 26
                                          · subst k20; simp [zasg, zst]
                                          · skip
                                            by_cases k21 : k = 28
                                            · subst k21; simp [zasg, zst]
                                            · skip
                                              by_cases k22 : k = 29
                                              · subst k22; simp [zasg, zst]
                                              · skip
                                                by_cases k23 : k = 30
                                                · subst k23; simp [zasg, zst]
                                                · skip
                                                  by_cases k24 : k = 31
                                                  · subst k24; simp [zasg, zst]
                                                  · skip
                                                    simp [zasg, zst, k0, k1, k2, k3, k4, k5, k6, k7, k8, k9, k10, k11, k12, k13, k14, k15, k16, k17, k18, k19, k20, k21, k22, k23, k24]
theorem zfin_2 {L : Nat} {xs : Nat → Int32} : zfin L xs 2 = (.inr (2, 12), fun k => if 0 ≤ k ∧ k < 12 then .inr (.inl (some (3 + 4 * k))) else .inr (.inl none)) := by
  unfold zfin
  rw [kd2]
  refine Prod.ext rfl (funext fun k => ?_)
  show zcn L (zmA xs) 2 k = _
  rw [zcn_r (L := L) (p := 2) kd2 (by decide)]
  by_cases h : 0 ≤ k ∧ k < 12
  · simp [zasg, h]
  · simp [zasg, h]
theorem zfin_54 {L : Nat} {xs : Nat → Int32} : zfin L xs 54 = (.inr (3, 40), fun k => if 0 ≤ k ∧ k < 40 then .inr (.inl (some (64 + 5 * k))) else .inr (.inl none)) := by
  unfold zfin
  rw [kd54]
  refine Prod.ext rfl (funext fun k => ?_)
  show zcn L (zmA xs) 54 k = _
  rw [zcn_r (L := L) (p := 54) kd54 (by decide)]
  by_cases h : 0 ≤ k ∧ k < 40
  · simp [zasg, h]
  · simp [zasg, h]
theorem zfin_m1 {L : Nat} {xs : Nat → Int32} : zfin L xs (-1) = zsc L xs := by
  unfold zfin zsc
  rw [kdm1]
  refine Prod.ext rfl (funext fun k => ?_)
  show zcn L (zmA xs) (-1) k = _
  unfold zcn
  rw [zrf_arr kdm1 (by decide)]
  rfl
theorem zfin_m2 {L : Nat} {xs : Nat → Int32} : zfin L xs (-2) = zds := by
  unfold zfin zds
  rw [kdm2]
  refine Prod.ext rfl (funext fun k => ?_)
  show zcn L (zmA xs) (-2) k = _
  unfold zcn
  rw [zrf_arr kdm2 (by decide)]
  rfl
theorem zkd_x {L : Nat} {p : Int} (h : p < -2 ∨ 290 ≤ p) : zkd L p = .inl 99 := by
  unfold zkd
  rcases h with h | h
  · rw [if_neg (by omega), if_neg (by omega), if_pos (by omega)]
  · repeat rw [if_neg (by omega)]
theorem zfin_x {L : Nat} {xs : Nat → Int32} {p : Int} (h : p < -2 ∨ 290 ≤ p) : zfin L xs p = (.inl 99, fun _ => .inl 0) := by
  unfold zfin
  rw [zkd_x h]
  refine Prod.ext rfl (funext fun k => ?_)
  show zcn L (zmA xs) p k = .inl 0
  unfold zcn zrf
  rw [zkd_x h]
  simp only
  rw [if_pos (by decide)]
  simp only
  unfold zmA
  rw [if_neg (by omega), if_neg (by omega)]
