/-- making objects: rows over any memory (n cells, s slots, F) -/
def zfe (F : Int → zC) (p : Int) (c : zC) : Int → zC := fun q => if q = p then c else F q
theorem zfe_ne {F : Int → zC} {p q : Int} {c : zC} (h : ¬ q = p) : zfe F p c q = F q := if_neg h
theorem zfe_at {F : Int → zC} {p : Int} {c : zC} : zfe F p c p = c := if_pos rfl
def zar (F : Int → zC) (p k c : Int) (t : Nat) (len : Int) : Int → zC := zfe (zfe F c (.inr (t, len), fun _ => .inl 0)) p (zst (F p) k (.inr (.inl (some c))))
theorem zar_p {F : Int → zC} {p k c len : Int} {t : Nat} : zar F p k c t len p = zst (F p) k (.inr (.inl (some c))) := zfe_at
theorem zar_k {F : Int → zC} {p k c len : Int} {t : Nat} : (zar F p k c t len p).1 = (F p).1 := by rw [zar_p]; rfl
theorem zar_c {F : Int → zC} {p k c len : Int} {t : Nat} (h : ¬ c = p) : zar F p k c t len c = (.inr (t, len), fun _ => .inl 0) := by
  unfold zar
  rw [zfe_ne h, zfe_at]
theorem zar_o {F : Int → zC} {p k c len q : Int} {t : Nat} (h : ¬ q = p) (h2 : ¬ q = c) : zar F p k c t len q = F q := by
  unfold zar
  rw [zfe_ne h, zfe_ne h2]
theorem zar_of {F : Int → zC} {p k c len : Int} {t : Nat} (h : ¬ p = c) : zfe (zfe F c (.inr (t, len), fun _ => .inl 0)) p (zst (zfe F c (.inr (t, len), fun _ => .inl 0) p) k (.inr (.inl (some c)))) = zar F p k c t len := by
  unfold zar
  rw [zfe_ne h]
section ZQ
variable {d j pc : Nat} {ls : zL} {st : List zV} {M : zM} {Q : Option zV → zM → Prop} {F F' : Int → zC} {n n' s s' : Nat} {c a p q : Int}
theorem zI_of {as : List zV} {nl : Nat} {ls : zL} (hn : zn j = nl) (hl : as.map some ++ List.replicate (nl - as.length) none = ls) (h : zR d j 0 ls [] M Q) : zR d j 0 (zent j as) [] M Q := by
  unfold zent
  rw [hn, hl]
  exact h
theorem q_new {k o ci : Nat} (hf : zft j pc = some (.new k, 3)) (ho : zo j = o) (hc : zcl o k = some ci) (hn : (n : Int) = c) (h1 : n + 1 = n') (h2 : s + zN ci = s') (kk : zR d j (pc + 3) ls (.inr (.inl (some c)) :: st) (n', s', zfe F c (.inl ci, zdef ci)) Q) : zR d j pc ls st (n, s, F) Q := by
  subst hn h1 h2
  refine zR_nx hf rfl rfl rfl ?_ kk
  simp only [znx, zn1, zn2, zn3, ho, hc]
  rfl
theorem q_newI (hf : zft j pc = some (.newarray .int, 2)) (ha : 0 ≤ a) (hb : a ≤ 65536) (hn : (n : Int) = c) (h1 : n + 1 = n') (h2 : s + a.toNat = s') (kk : zR d j (pc + 2) ls (.inr (.inl (some c)) :: st) (n', s', zfe F c (.inr (0, a), fun _ => .inl 0)) Q) : zR d j pc ls (.inl a :: st) (n, s, F) Q := by
  subst hn h1 h2
  refine zR_nx hf rfl rfl rfl ?_ kk
  simp only [znx, zn1, zn2, zn3, ha, hb, and_self, if_true]
  rfl
theorem q_newZ (hf : zft j pc = some (.newarray .boolean, 2)) (ha : 0 ≤ a) (hb : a ≤ 65536) (hn : (n : Int) = c) (h1 : n + 1 = n') (h2 : s + a.toNat = s') (kk : zR d j (pc + 2) ls (.inr (.inl (some c)) :: st) (n', s', zfe F c (.inr (1, a), fun _ => .inl 0)) Q) : zR d j pc ls (.inl a :: st) (n, s, F) Q := by
  subst hn h1 h2
  refine zR_nx hf rfl rfl rfl ?_ kk
  simp only [znx, zn1, zn2, zn3, ha, hb, and_self, if_true]
  rfl
theorem q_anew {k o ci t : Nat} (hf : zft j pc = some (.anewarray k, 3)) (ho : zo j = o) (hc : zcl o k = some ci) (h8 : ci < 2) (ht : 3 - ci = t) (ha : 0 ≤ a) (hb : a ≤ 65536) (hn : (n : Int) = c) (h1 : n + 1 = n') (h2 : s + a.toNat = s') (kk : zR d j (pc + 3) ls (.inr (.inl (some c)) :: st) (n', s', zfe F c (.inr (t, a), fun _ => .inr (.inl none))) Q) : zR d j pc ls (.inl a :: st) (n, s, F) Q := by
  subst hn h1 h2 ht
  refine zR_nx hf rfl rfl rfl ?_ kk
  simp only [znx, zn1, zn2, zn3, ho, hc, ha, hb, h8, and_self, if_true]
  rfl
theorem q_putR {m o ci k : Nat} {k' : Int} (hf : zft j pc = some (.putfield m, 3)) (ho : zo j = o) (hg : zfl o m = some (ci, k)) (hk : (k : Int) = k') (h : (F p).1 = .inl ci) (ht : zty ci k ≠ .int) (hT : (zT ci k).2.2.2 = true) (ho2 : o = ci) (hnm : (zy j).name = "<init>") (hF : zfe F p (zst (F p) k' (.inr (.inl (some q)))) = F') (kk : zR d j (pc + 3) ls st (n, s, F') Q) : zR d j pc ls (.inr (.inl (some q)) :: .inr (.inl (some p)) :: st) (n, s, F) Q := by
  subst hF hk ho2
  refine zR_nx hf rfl rfl rfl ?_ kk
  simp only [znx, zn1, zn2, zn3, ho, hg, h, ht, hT, hnm, ne_eq, not_false_eq_true, and_self, if_true]
  rfl
theorem q_getR {m o ci k : Nat} {k' : Int} (hf : zft j pc = some (.getfield m, 3)) (ho : zo j = o) (hg : zfl o m = some (ci, k)) (hk : (k : Int) = k') (h : (F p).1 = .inl ci) (h2 : (F p).2 k' = .inr (.inl (some q))) (kk : zR d j (pc + 3) ls (.inr (.inl (some q)) :: st) (n, s, F) Q) : zR d j pc ls (.inr (.inl (some p)) :: st) (n, s, F) Q := by
  subst hk
  refine zR_nx hf rfl rfl rfl ?_ kk
  simp only [znx, zn1, zn2, zn3, ho, hg, h, h2, if_true]
theorem q_aast {t : Nat} {len : Int} (hf : zft j pc = some (.aastore, 1)) (h : (F p).1 = .inr (t, len)) (ht : t = 2 ∨ t = 3) (hp : 0 ≤ p) (h0 : 0 ≤ a) (h1 : a < len) (hq : (F q).1 = .inl (zel t)) (hF : zfe F p (zst (F p) a (.inr (.inl (some q)))) = F') (kk : zR d j (pc + 1) ls st (n, s, F') Q) : zR d j pc ls (.inr (.inl (some q)) :: .inl a :: .inr (.inl (some p)) :: st) (n, s, F) Q := by
  subst hF
  refine zR_nx hf rfl rfl rfl ?_ kk
  simp only [znx, zn1, zn2, zn3, h, ht, hp, h0, h1, hq, and_self, if_true]
  rfl
theorem q_spec0 {q m o k : Nat} {M1 : zM} (hf : zft j pc = some (.invokespecial m, 3)) (ho : zo j = o) (hm : zml o m = some (k, q)) (hk : k = 2 ∨ k = 4) (hp : zp q = 0) (hr : st.length ≤ 4) (hc : zR d q 0 (zent q [.inr (.inl (some p))]) [] M (fun r m => r = none ∧ m = M1)) (kk : zR (d + 1) j (pc + 3) ls st M1 Q) : zR (d + 1) j pc ls (.inr (.inl (some p)) :: st) M Q := by
  refine zR_ca (x := (q, [.inr (.inl (some p))], st)) hf rfl rfl ?_ hc kk
  simp [zca, ho, hm, hp, hk, hr, zsm]
theorem q_spec1 {q m o k : Nat} {r : Int} {M1 : zM} (hf : zft j pc = some (.invokespecial m, 3)) (ho : zo j = o) (hm : zml o m = some (k, q)) (hk : k = 2 ∨ k = 4) (hp : zp q = 1) (hr : st.length ≤ 4) (hc : zR d q 0 (zent q [.inr (.inl (some p)), .inr (.inl (some r))]) [] M (fun r m => r = none ∧ m = M1)) (kk : zR (d + 1) j (pc + 3) ls st M1 Q) : zR (d + 1) j pc ls (.inr (.inl (some r)) :: .inr (.inl (some p)) :: st) M Q := by
  refine zR_ca (x := (q, [.inr (.inl (some p)), .inr (.inl (some r))], st)) hf rfl rfl ?_ hc kk
  simp [zca, ho, hm, hp, hk, hr, zsm]
end ZQ
theorem TR0_0 : zty 0 0 ≠ .int := by decide +kernel
theorem UR0_0 : (zT 0 0).2.2.2 = true := by decide +kernel
theorem TR0_1 : zty 0 1 ≠ .int := by decide +kernel
theorem UR0_1 : (zT 0 1).2.2.2 = true := by decide +kernel
theorem TR0_2 : zty 0 2 ≠ .int := by decide +kernel
theorem UR0_2 : (zT 0 2).2.2.2 = true := by decide +kernel
theorem TR0_3 : zty 0 3 ≠ .int := by decide +kernel
theorem UR0_3 : (zT 0 3).2.2.2 = true := by decide +kernel
theorem TR1_0 : zty 1 0 ≠ .int := by decide +kernel
theorem UR1_0 : (zT 1 0).2.2.2 = true := by decide +kernel
theorem TR1_1 : zty 1 1 ≠ .int := by decide +kernel
theorem UR1_1 : (zT 1 1).2.2.2 = true := by decide +kernel
theorem TR1_2 : zty 1 2 ≠ .int := by decide +kernel
theorem UR1_2 : (zT 1 2).2.2.2 = true := by decide +kernel
theorem TR2_0 : zty 2 0 ≠ .int := by decide +kernel
theorem UR2_0 : (zT 2 0).2.2.2 = true := by decide +kernel
theorem TR2_1 : zty 2 1 ≠ .int := by decide +kernel
theorem UR2_1 : (zT 2 1).2.2.2 = true := by decide +kernel
theorem TR2_2 : zty 2 2 ≠ .int := by decide +kernel
theorem UR2_2 : (zT 2 2).2.2.2 = true := by decide +kernel
theorem TR2_3 : zty 2 3 ≠ .int := by decide +kernel
theorem UR2_3 : (zT 2 3).2.2.2 = true := by decide +kernel
theorem TR3_0 : zty 3 0 ≠ .int := by decide +kernel
theorem UR3_0 : (zT 3 0).2.2.2 = true := by decide +kernel
theorem TR3_1 : zty 3 1 ≠ .int := by decide +kernel
theorem UR3_1 : (zT 3 1).2.2.2 = true := by decide +kernel
theorem TR4_0 : zty 4 0 ≠ .int := by decide +kernel
theorem UR4_0 : (zT 4 0).2.2.2 = true := by decide +kernel
theorem TR5_0 : zty 5 0 ≠ .int := by decide +kernel
theorem UR5_0 : (zT 5 0).2.2.2 = true := by decide +kernel
theorem TR5_1 : zty 5 1 ≠ .int := by decide +kernel
theorem UR5_1 : (zT 5 1).2.2.2 = true := by decide +kernel
theorem TR5_2 : zty 5 2 ≠ .int := by decide +kernel
theorem UR5_2 : (zT 5 2).2.2.2 = true := by decide +kernel
theorem TR6_0 : zty 6 0 ≠ .int := by decide +kernel
theorem UR6_0 : (zT 6 0).2.2.2 = true := by decide +kernel
theorem TR6_1 : zty 6 1 ≠ .int := by decide +kernel
theorem UR6_1 : (zT 6 1).2.2.2 = true := by decide +kernel
theorem TR6_2 : zty 6 2 ≠ .int := by decide +kernel
theorem UR6_2 : (zT 6 2).2.2.2 = true := by decide +kernel
theorem TR6_3 : zty 6 3 ≠ .int := by decide +kernel
theorem UR6_3 : (zT 6 3).2.2.2 = true := by decide +kernel
theorem TR6_4 : zty 6 4 ≠ .int := by decide +kernel
theorem UR6_4 : (zT 6 4).2.2.2 = true := by decide +kernel
theorem TR6_5 : zty 6 5 ≠ .int := by decide +kernel
theorem UR6_5 : (zT 6 5).2.2.2 = true := by decide +kernel
theorem TR7_1 : zty 7 1 ≠ .int := by decide +kernel
theorem UR7_1 : (zT 7 1).2.2.2 = true := by decide +kernel
theorem TR7_2 : zty 7 2 ≠ .int := by decide +kernel
theorem UR7_2 : (zT 7 2).2.2.2 = true := by decide +kernel
theorem TR7_3 : zty 7 3 ≠ .int := by decide +kernel
theorem UR7_3 : (zT 7 3).2.2.2 = true := by decide +kernel
theorem TR7_4 : zty 7 4 ≠ .int := by decide +kernel
theorem UR7_4 : (zT 7 4).2.2.2 = true := by decide +kernel
theorem TR7_5 : zty 7 5 ≠ .int := by decide +kernel
theorem UR7_5 : (zT 7 5).2.2.2 = true := by decide +kernel
theorem TR7_8 : zty 7 8 ≠ .int := by decide +kernel
theorem UR7_8 : (zT 7 8).2.2.2 = true := by decide +kernel
theorem TR7_11 : zty 7 11 ≠ .int := by decide +kernel
theorem UR7_11 : (zT 7 11).2.2.2 = true := by decide +kernel
theorem TR7_12 : zty 7 12 ≠ .int := by decide +kernel
theorem UR7_12 : (zT 7 12).2.2.2 = true := by decide +kernel
theorem TR7_13 : zty 7 13 ≠ .int := by decide +kernel
theorem UR7_13 : (zT 7 13).2.2.2 = true := by decide +kernel
theorem TR7_14 : zty 7 14 ≠ .int := by decide +kernel
theorem UR7_14 : (zT 7 14).2.2.2 = true := by decide +kernel
theorem TR7_15 : zty 7 15 ≠ .int := by decide +kernel
theorem UR7_15 : (zT 7 15).2.2.2 = true := by decide +kernel
theorem TR7_16 : zty 7 16 ≠ .int := by decide +kernel
theorem UR7_16 : (zT 7 16).2.2.2 = true := by decide +kernel
theorem TR7_17 : zty 7 17 ≠ .int := by decide +kernel
theorem UR7_17 : (zT 7 17).2.2.2 = true := by decide +kernel
theorem TR7_18 : zty 7 18 ≠ .int := by decide +kernel
theorem UR7_18 : (zT 7 18).2.2.2 = true := by decide +kernel
theorem TR7_19 : zty 7 19 ≠ .int := by decide +kernel
theorem UR7_19 : (zT 7 19).2.2.2 = true := by decide +kernel
theorem TR7_20 : zty 7 20 ≠ .int := by decide +kernel
theorem UR7_20 : (zT 7 20).2.2.2 = true := by decide +kernel
theorem TR7_21 : zty 7 21 ≠ .int := by decide +kernel
theorem UR7_21 : (zT 7 21).2.2.2 = true := by decide +kernel
theorem TR7_22 : zty 7 22 ≠ .int := by decide +kernel
theorem UR7_22 : (zT 7 22).2.2.2 = true := by decide +kernel
theorem TR7_23 : zty 7 23 ≠ .int := by decide +kernel
theorem UR7_23 : (zT 7 23).2.2.2 = true := by decide +kernel
theorem TR7_25 : zty 7 25 ≠ .int := by decide +kernel
theorem UR7_25 : (zT 7 25).2.2.2 = true := by decide +kernel
theorem TR7_26 : zty 7 26 ≠ .int := by decide +kernel
theorem UR7_26 : (zT 7 26).2.2.2 = true := by decide +kernel
theorem TR7_28 : zty 7 28 ≠ .int := by decide +kernel
theorem UR7_28 : (zT 7 28).2.2.2 = true := by decide +kernel
theorem TR7_29 : zty 7 29 ≠ .int := by decide +kernel
theorem UR7_29 : (zT 7 29).2.2.2 = true := by decide +kernel
theorem TR7_30 : zty 7 30 ≠ .int := by decide +kernel
theorem UR7_30 : (zT 7 30).2.2.2 = true := by decide +kernel
theorem TR7_31 : zty 7 31 ≠ .int := by decide +kernel
theorem UR7_31 : (zT 7 31).2.2.2 = true := by decide +kernel
theorem yi0 : (zy 0).name = "<init>" := by decide +kernel
theorem yi12 : (zy 12).name = "<init>" := by decide +kernel
theorem yi22 : (zy 22).name = "<init>" := by decide +kernel
theorem yi26 : (zy 26).name = "<init>" := by decide +kernel
theorem yi29 : (zy 29).name = "<init>" := by decide +kernel
theorem yi36 : (zy 36).name = "<init>" := by decide +kernel
theorem yi42 : (zy 42).name = "<init>" := by decide +kernel
theorem yi84 : (zy 84).name = "<init>" := by decide +kernel
abbrev ziH (F : Int → zC) (p c : Int) : Int → zC := (zar (zar (zar F p 0 c 0 120) p 1 (c + 1) 1 40) p 2 (c + 2) 0 12)
theorem c_iH {d n s : Nat} {p c : Int} {F : Int → zC} (hn : (n : Int) = c) (hp : p < c) (hk0 : (F p).1 = .inl 1) : zR (d + 1) 12 0 (zent 12 [.inr (.inl (some p))]) [] (n, s, F) (fun rr M => rr = none ∧ M = (n + 3, s + 172, ziH F p c)) := by
  refine zI_of n12 (ls := [some (.inr (.inl (some p)))]) rfl ?_
  refine r_aload_n f12_0 rfl ?_
  refine r_oinit f12_1 o12 M1_3 (by simp) ?_
  refine r_aload_n f12_4 rfl ?_
  refine r_bipush f12_5 (by decide) ?_
  refine q_newI (c := c) (n' := n + 1) (s' := s + 120) f12_7 (by decide) (by decide) (by omega) (by omega) rfl ?_
  refine q_putR (k' := 0) (F' := (zar F p 0 c 0 120)) f12_9 o12 F1_9 rfl (by rw [zfe_ne (by omega)]; exact hk0) TR1_0 UR1_0 rfl yi12 (zar_of (by omega)) ?_
  have hk1 : ((zar F p 0 c 0 120) p).1 = .inl 1 := by rw [zar_k]; exact hk0
  refine r_aload_n f12_12 rfl ?_
  refine r_bipush f12_13 (by decide) ?_
  refine q_newZ (c := c + 1) (n' := n + 2) (s' := s + 160) f12_15 (by decide) (by decide) (by omega) (by omega) rfl ?_
  refine q_putR (k' := 1) (F' := (zar (zar F p 0 c 0 120) p 1 (c + 1) 1 40)) f12_17 o12 F1_15 rfl (by rw [zfe_ne (by omega)]; exact hk1) TR1_1 UR1_1 rfl yi12 (zar_of (by omega)) ?_
  have hk2 : ((zar (zar F p 0 c 0 120) p 1 (c + 1) 1 40) p).1 = .inl 1 := by rw [zar_k]; exact hk1
  refine r_aload_n f12_20 rfl ?_
  refine r_bipush f12_21 (by decide) ?_
  refine q_newI (c := c + 2) (n' := n + 3) (s' := s + 172) f12_23 (by decide) (by decide) (by omega) (by omega) rfl ?_
  refine q_putR (k' := 2) (F' := (zar (zar (zar F p 0 c 0 120) p 1 (c + 1) 1 40) p 2 (c + 2) 0 12)) f12_25 o12 F1_19 rfl (by rw [zfe_ne (by omega)]; exact hk2) TR1_2 UR1_2 rfl yi12 (zar_of (by omega)) ?_
  have hk3 : ((zar (zar (zar F p 0 c 0 120) p 1 (c + 1) 1 40) p 2 (c + 2) 0 12) p).1 = .inl 1 := by rw [zar_k]; exact hk2
  exact r_vret f12_28 v12 ⟨rfl, rfl⟩
abbrev ziC (F : Int → zC) (p c : Int) : Int → zC := (zar (zar (zar (zar F p 0 c 0 7) p 1 (c + 1) 0 21) p 2 (c + 2) 1 7) p 3 (c + 3) 1 7)
theorem c_iC {d n s : Nat} {p c : Int} {F : Int → zC} (hn : (n : Int) = c) (hp : p < c) (hk0 : (F p).1 = .inl 0) : zR (d + 1) 0 0 (zent 0 [.inr (.inl (some p))]) [] (n, s, F) (fun rr M => rr = none ∧ M = (n + 4, s + 42, ziC F p c)) := by
  refine zI_of n0 (ls := [some (.inr (.inl (some p)))]) rfl ?_
  refine r_aload_n f0_0 rfl ?_
  refine r_oinit f0_1 o0 M0_3 (by simp) ?_
  refine r_aload_n f0_4 rfl ?_
  refine r_bipush f0_5 (by decide) ?_
  refine q_newI (c := c) (n' := n + 1) (s' := s + 7) f0_7 (by decide) (by decide) (by omega) (by omega) rfl ?_
  refine q_putR (k' := 0) (F' := (zar F p 0 c 0 7)) f0_9 o0 F0_9 rfl (by rw [zfe_ne (by omega)]; exact hk0) TR0_0 UR0_0 rfl yi0 (zar_of (by omega)) ?_
  have hk1 : ((zar F p 0 c 0 7) p).1 = .inl 0 := by rw [zar_k]; exact hk0
  refine r_aload_n f0_12 rfl ?_
  refine r_bipush f0_13 (by decide) ?_
  refine q_newI (c := c + 1) (n' := n + 2) (s' := s + 28) f0_15 (by decide) (by decide) (by omega) (by omega) rfl ?_
  refine q_putR (k' := 1) (F' := (zar (zar F p 0 c 0 7) p 1 (c + 1) 0 21)) f0_17 o0 F0_15 rfl (by rw [zfe_ne (by omega)]; exact hk1) TR0_1 UR0_1 rfl yi0 (zar_of (by omega)) ?_
  have hk2 : ((zar (zar F p 0 c 0 7) p 1 (c + 1) 0 21) p).1 = .inl 0 := by rw [zar_k]; exact hk1
  refine r_aload_n f0_20 rfl ?_
  refine r_bipush f0_21 (by decide) ?_
  refine q_newZ (c := c + 2) (n' := n + 3) (s' := s + 35) f0_23 (by decide) (by decide) (by omega) (by omega) rfl ?_
  refine q_putR (k' := 2) (F' := (zar (zar (zar F p 0 c 0 7) p 1 (c + 1) 0 21) p 2 (c + 2) 1 7)) f0_25 o0 F0_18 rfl (by rw [zfe_ne (by omega)]; exact hk2) TR0_2 UR0_2 rfl yi0 (zar_of (by omega)) ?_
  have hk3 : ((zar (zar (zar F p 0 c 0 7) p 1 (c + 1) 0 21) p 2 (c + 2) 1 7) p).1 = .inl 0 := by rw [zar_k]; exact hk2
  refine r_aload_n f0_28 rfl ?_
  refine r_bipush f0_29 (by decide) ?_
  refine q_newZ (c := c + 3) (n' := n + 4) (s' := s + 42) f0_31 (by decide) (by decide) (by omega) (by omega) rfl ?_
  refine q_putR (k' := 3) (F' := (zar (zar (zar (zar F p 0 c 0 7) p 1 (c + 1) 0 21) p 2 (c + 2) 1 7) p 3 (c + 3) 1 7)) f0_33 o0 F0_22 rfl (by rw [zfe_ne (by omega)]; exact hk3) TR0_3 UR0_3 rfl yi0 (zar_of (by omega)) ?_
  have hk4 : ((zar (zar (zar (zar F p 0 c 0 7) p 1 (c + 1) 0 21) p 2 (c + 2) 1 7) p 3 (c + 3) 1 7) p).1 = .inl 0 := by rw [zar_k]; exact hk3
  exact r_vret f0_36 v0 ⟨rfl, rfl⟩
abbrev ziL (F : Int → zC) (p c : Int) : Int → zC := (zar (zar (zar (zar F p 0 c 0 40) p 1 (c + 1) 0 40) p 2 (c + 2) 0 40) p 3 (c + 3) 1 40)
theorem c_iL {d n s : Nat} {p c : Int} {F : Int → zC} (hn : (n : Int) = c) (hp : p < c) (hk0 : (F p).1 = .inl 2) : zR (d + 1) 22 0 (zent 22 [.inr (.inl (some p))]) [] (n, s, F) (fun rr M => rr = none ∧ M = (n + 4, s + 160, ziL F p c)) := by
  refine zI_of n22 (ls := [some (.inr (.inl (some p)))]) rfl ?_
  refine r_aload_n f22_0 rfl ?_
  refine r_oinit f22_1 o22 M2_3 (by simp) ?_
  refine r_aload_n f22_4 rfl ?_
  refine r_bipush f22_5 (by decide) ?_
  refine q_newI (c := c) (n' := n + 1) (s' := s + 40) f22_7 (by decide) (by decide) (by omega) (by omega) rfl ?_
  refine q_putR (k' := 0) (F' := (zar F p 0 c 0 40)) f22_9 o22 F2_9 rfl (by rw [zfe_ne (by omega)]; exact hk0) TR2_0 UR2_0 rfl yi22 (zar_of (by omega)) ?_
  have hk1 : ((zar F p 0 c 0 40) p).1 = .inl 2 := by rw [zar_k]; exact hk0
  refine r_aload_n f22_12 rfl ?_
  refine r_bipush f22_13 (by decide) ?_
  refine q_newI (c := c + 1) (n' := n + 2) (s' := s + 80) f22_15 (by decide) (by decide) (by omega) (by omega) rfl ?_
  refine q_putR (k' := 1) (F' := (zar (zar F p 0 c 0 40) p 1 (c + 1) 0 40)) f22_17 o22 F2_15 rfl (by rw [zfe_ne (by omega)]; exact hk1) TR2_1 UR2_1 rfl yi22 (zar_of (by omega)) ?_
  have hk2 : ((zar (zar F p 0 c 0 40) p 1 (c + 1) 0 40) p).1 = .inl 2 := by rw [zar_k]; exact hk1
  refine r_aload_n f22_20 rfl ?_
  refine r_bipush f22_21 (by decide) ?_
  refine q_newI (c := c + 2) (n' := n + 3) (s' := s + 120) f22_23 (by decide) (by decide) (by omega) (by omega) rfl ?_
  refine q_putR (k' := 2) (F' := (zar (zar (zar F p 0 c 0 40) p 1 (c + 1) 0 40) p 2 (c + 2) 0 40)) f22_25 o22 F2_18 rfl (by rw [zfe_ne (by omega)]; exact hk2) TR2_2 UR2_2 rfl yi22 (zar_of (by omega)) ?_
  have hk3 : ((zar (zar (zar F p 0 c 0 40) p 1 (c + 1) 0 40) p 2 (c + 2) 0 40) p).1 = .inl 2 := by rw [zar_k]; exact hk2
  refine r_aload_n f22_28 rfl ?_
  refine r_bipush f22_29 (by decide) ?_
  refine q_newZ (c := c + 3) (n' := n + 4) (s' := s + 160) f22_31 (by decide) (by decide) (by omega) (by omega) rfl ?_
  refine q_putR (k' := 3) (F' := (zar (zar (zar (zar F p 0 c 0 40) p 1 (c + 1) 0 40) p 2 (c + 2) 0 40) p 3 (c + 3) 1 40)) f22_33 o22 F2_21 rfl (by rw [zfe_ne (by omega)]; exact hk3) TR2_3 UR2_3 rfl yi22 (zar_of (by omega)) ?_
  have hk4 : ((zar (zar (zar (zar F p 0 c 0 40) p 1 (c + 1) 0 40) p 2 (c + 2) 0 40) p 3 (c + 3) 1 40) p).1 = .inl 2 := by rw [zar_k]; exact hk3
  exact r_vret f22_36 v22 ⟨rfl, rfl⟩
abbrev ziP (F : Int → zC) (p c : Int) : Int → zC := (zar (zar F p 0 c 0 20) p 1 (c + 1) 0 20)
theorem c_iP {d n s : Nat} {p c : Int} {F : Int → zC} (hn : (n : Int) = c) (hp : p < c) (hk0 : (F p).1 = .inl 3) : zR (d + 1) 26 0 (zent 26 [.inr (.inl (some p))]) [] (n, s, F) (fun rr M => rr = none ∧ M = (n + 2, s + 40, ziP F p c)) := by
  refine zI_of n26 (ls := [some (.inr (.inl (some p)))]) rfl ?_
  refine r_aload_n f26_0 rfl ?_
  refine r_oinit f26_1 o26 M3_3 (by simp) ?_
  refine r_aload_n f26_4 rfl ?_
  refine r_bipush f26_5 (by decide) ?_
  refine q_newI (c := c) (n' := n + 1) (s' := s + 20) f26_7 (by decide) (by decide) (by omega) (by omega) rfl ?_
  refine q_putR (k' := 0) (F' := (zar F p 0 c 0 20)) f26_9 o26 F3_9 rfl (by rw [zfe_ne (by omega)]; exact hk0) TR3_0 UR3_0 rfl yi26 (zar_of (by omega)) ?_
  have hk1 : ((zar F p 0 c 0 20) p).1 = .inl 3 := by rw [zar_k]; exact hk0
  refine r_aload_n f26_12 rfl ?_
  refine r_bipush f26_13 (by decide) ?_
  refine q_newI (c := c + 1) (n' := n + 2) (s' := s + 40) f26_15 (by decide) (by decide) (by omega) (by omega) rfl ?_
  refine q_putR (k' := 1) (F' := (zar (zar F p 0 c 0 20) p 1 (c + 1) 0 20)) f26_17 o26 F3_15 rfl (by rw [zfe_ne (by omega)]; exact hk1) TR3_1 UR3_1 rfl yi26 (zar_of (by omega)) ?_
  have hk2 : ((zar (zar F p 0 c 0 20) p 1 (c + 1) 0 20) p).1 = .inl 3 := by rw [zar_k]; exact hk1
  exact r_vret f26_20 v26 ⟨rfl, rfl⟩
abbrev ziW (F : Int → zC) (p c r : Int) : Int → zC := (zfe (zar (zar F p 1 c 0 84) p 2 (c + 1) 0 7) p (zst ((zar (zar F p 1 c 0 84) p 2 (c + 1) 0 7) p) 0 (.inr (.inl (some r)))))
theorem c_iW {d n s : Nat} {p c r : Int} {F : Int → zC} (hn : (n : Int) = c) (hp : p < c) (hk0 : (F p).1 = .inl 5) : zR (d + 1) 36 0 (zent 36 [.inr (.inl (some p)), .inr (.inl (some r))]) [] (n, s, F) (fun rr M => rr = none ∧ M = (n + 2, s + 91, ziW F p c r)) := by
  refine zI_of n36 (ls := [some (.inr (.inl (some p))), some (.inr (.inl (some r)))]) rfl ?_
  refine r_aload_n f36_0 rfl ?_
  refine r_oinit f36_1 o36 M5_3 (by simp) ?_
  refine r_aload_n f36_4 rfl ?_
  refine r_bipush f36_5 (by decide) ?_
  refine q_newI (c := c) (n' := n + 1) (s' := s + 84) f36_7 (by decide) (by decide) (by omega) (by omega) rfl ?_
  refine q_putR (k' := 1) (F' := (zar F p 1 c 0 84)) f36_9 o36 F5_9 rfl (by rw [zfe_ne (by omega)]; exact hk0) TR5_1 UR5_1 rfl yi36 (zar_of (by omega)) ?_
  have hk1 : ((zar F p 1 c 0 84) p).1 = .inl 5 := by rw [zar_k]; exact hk0
  refine r_aload_n f36_12 rfl ?_
  refine r_bipush f36_13 (by decide) ?_
  refine q_newI (c := c + 1) (n' := n + 2) (s' := s + 91) f36_15 (by decide) (by decide) (by omega) (by omega) rfl ?_
  refine q_putR (k' := 2) (F' := (zar (zar F p 1 c 0 84) p 2 (c + 1) 0 7)) f36_17 o36 F5_15 rfl (by rw [zfe_ne (by omega)]; exact hk1) TR5_2 UR5_2 rfl yi36 (zar_of (by omega)) ?_
  have hk2 : ((zar (zar F p 1 c 0 84) p 2 (c + 1) 0 7) p).1 = .inl 5 := by rw [zar_k]; exact hk1
  refine r_aload_n f36_20 rfl ?_
  refine r_aload_n f36_21 rfl ?_
  refine q_putR (k' := 0) (F' := (zfe (zar (zar F p 1 c 0 84) p 2 (c + 1) 0 7) p (zst ((zar (zar F p 1 c 0 84) p 2 (c + 1) 0 7) p) 0 (.inr (.inl (some r)))))) f36_22 o36 F5_18 rfl hk2 TR5_0 UR5_0 rfl yi36 rfl ?_
  exact r_vret f36_25 v36 ⟨rfl, rfl⟩
abbrev ziM (F : Int → zC) (p c : Int) : Int → zC := (zar (zar (zar (zar (zar (zar (zar (zar (zar (zar (zar (zar (zar (zar (zar (zar (zar (zar (zar (zar (zar (zar (zar (zar (zar F p 1 c 0 36) p 2 (c + 1) 0 12) p 3 (c + 2) 0 12) p 4 (c + 3) 1 480) p 5 (c + 4) 0 1440) p 8 (c + 5) 0 144) p 11 (c + 6) 0 40) p 12 (c + 7) 0 40) p 13 (c + 8) 0 40) p 14 (c + 9) 0 280) p 15 (c + 10) 0 40) p 16 (c + 11) 1 280) p 17 (c + 12) 0 840) p 18 (c + 13) 1 280) p 19 (c + 14) 0 40) p 20 (c + 15) 1 40) p 21 (c + 16) 0 3) p 22 (c + 17) 0 84) p 23 (c + 18) 0 7) p 25 (c + 19) 0 20) p 26 (c + 20) 0 20) p 28 (c + 21) 0 40) p 29 (c + 22) 0 40) p 30 (c + 23) 0 40) p 31 (c + 24) 1 40)
theorem c_iM {d n s : Nat} {p c : Int} {F : Int → zC} (hn : (n : Int) = c) (hp : p < c) (hk0 : (F p).1 = .inl 7) : zR (d + 1) 84 0 (zent 84 [.inr (.inl (some p))]) [] (n, s, F) (fun rr M => rr = none ∧ M = (n + 25, s + 4338, ziM F p c)) := by
  refine zI_of n84 (ls := [some (.inr (.inl (some p)))]) rfl ?_
  refine r_aload_n f84_0 rfl ?_
  refine r_oinit f84_1 o84 M7_1 (by simp) ?_
  refine r_aload_n f84_4 rfl ?_
  refine r_bipush f84_5 (by decide) ?_
  refine q_newI (c := c) (n' := n + 1) (s' := s + 36) f84_7 (by decide) (by decide) (by omega) (by omega) rfl ?_
  refine q_putR (k' := 1) (F' := (zar F p 1 c 0 36)) f84_9 o84 F7_7 rfl (by rw [zfe_ne (by omega)]; exact hk0) TR7_1 UR7_1 rfl yi84 (zar_of (by omega)) ?_
  have hk1 : ((zar F p 1 c 0 36) p).1 = .inl 7 := by rw [zar_k]; exact hk0
  refine r_aload_n f84_12 rfl ?_
  refine r_bipush f84_13 (by decide) ?_
  refine q_newI (c := c + 1) (n' := n + 2) (s' := s + 48) f84_15 (by decide) (by decide) (by omega) (by omega) rfl ?_
  refine q_putR (k' := 2) (F' := (zar (zar F p 1 c 0 36) p 2 (c + 1) 0 12)) f84_17 o84 F7_13 rfl (by rw [zfe_ne (by omega)]; exact hk1) TR7_2 UR7_2 rfl yi84 (zar_of (by omega)) ?_
  have hk2 : ((zar (zar F p 1 c 0 36) p 2 (c + 1) 0 12) p).1 = .inl 7 := by rw [zar_k]; exact hk1
  refine r_aload_n f84_20 rfl ?_
  refine r_bipush f84_21 (by decide) ?_
  refine q_newI (c := c + 2) (n' := n + 3) (s' := s + 60) f84_23 (by decide) (by decide) (by omega) (by omega) rfl ?_
  refine q_putR (k' := 3) (F' := (zar (zar (zar F p 1 c 0 36) p 2 (c + 1) 0 12) p 3 (c + 2) 0 12)) f84_25 o84 F7_16 rfl (by rw [zfe_ne (by omega)]; exact hk2) TR7_3 UR7_3 rfl yi84 (zar_of (by omega)) ?_
  have hk3 : ((zar (zar (zar F p 1 c 0 36) p 2 (c + 1) 0 12) p 3 (c + 2) 0 12) p).1 = .inl 7 := by rw [zar_k]; exact hk2
  refine r_aload_n f84_28 rfl ?_
  refine r_sipush f84_29 (by decide) ?_
  refine q_newZ (c := c + 3) (n' := n + 4) (s' := s + 540) f84_32 (by decide) (by decide) (by omega) (by omega) rfl ?_
  refine q_putR (k' := 4) (F' := (zar (zar (zar (zar F p 1 c 0 36) p 2 (c + 1) 0 12) p 3 (c + 2) 0 12) p 4 (c + 3) 1 480)) f84_34 o84 F7_19 rfl (by rw [zfe_ne (by omega)]; exact hk3) TR7_4 UR7_4 rfl yi84 (zar_of (by omega)) ?_
  have hk4 : ((zar (zar (zar (zar F p 1 c 0 36) p 2 (c + 1) 0 12) p 3 (c + 2) 0 12) p 4 (c + 3) 1 480) p).1 = .inl 7 := by rw [zar_k]; exact hk3
  refine r_aload_n f84_37 rfl ?_
  refine r_sipush f84_38 (by decide) ?_
  refine q_newI (c := c + 4) (n' := n + 5) (s' := s + 1980) f84_41 (by decide) (by decide) (by omega) (by omega) rfl ?_
  refine q_putR (k' := 5) (F' := (zar (zar (zar (zar (zar F p 1 c 0 36) p 2 (c + 1) 0 12) p 3 (c + 2) 0 12) p 4 (c + 3) 1 480) p 5 (c + 4) 0 1440)) f84_43 o84 F7_23 rfl (by rw [zfe_ne (by omega)]; exact hk4) TR7_5 UR7_5 rfl yi84 (zar_of (by omega)) ?_
  have hk5 : ((zar (zar (zar (zar (zar F p 1 c 0 36) p 2 (c + 1) 0 12) p 3 (c + 2) 0 12) p 4 (c + 3) 1 480) p 5 (c + 4) 0 1440) p).1 = .inl 7 := by rw [zar_k]; exact hk4
  refine r_aload_n f84_46 rfl ?_
  refine r_sipush f84_47 (by decide) ?_
  refine q_newI (c := c + 5) (n' := n + 6) (s' := s + 2124) f84_50 (by decide) (by decide) (by omega) (by omega) rfl ?_
  refine q_putR (k' := 8) (F' := (zar (zar (zar (zar (zar (zar F p 1 c 0 36) p 2 (c + 1) 0 12) p 3 (c + 2) 0 12) p 4 (c + 3) 1 480) p 5 (c + 4) 0 1440) p 8 (c + 5) 0 144)) f84_52 o84 F7_26 rfl (by rw [zfe_ne (by omega)]; exact hk5) TR7_8 UR7_8 rfl yi84 (zar_of (by omega)) ?_
  have hk6 : ((zar (zar (zar (zar (zar (zar F p 1 c 0 36) p 2 (c + 1) 0 12) p 3 (c + 2) 0 12) p 4 (c + 3) 1 480) p 5 (c + 4) 0 1440) p 8 (c + 5) 0 144) p).1 = .inl 7 := by rw [zar_k]; exact hk5
  refine r_aload_n f84_55 rfl ?_
  refine r_bipush f84_56 (by decide) ?_
  refine q_newI (c := c + 6) (n' := n + 7) (s' := s + 2164) f84_58 (by decide) (by decide) (by omega) (by omega) rfl ?_
  refine q_putR (k' := 11) (F' := (zar (zar (zar (zar (zar (zar (zar F p 1 c 0 36) p 2 (c + 1) 0 12) p 3 (c + 2) 0 12) p 4 (c + 3) 1 480) p 5 (c + 4) 0 1440) p 8 (c + 5) 0 144) p 11 (c + 6) 0 40)) f84_60 o84 F7_29 rfl (by rw [zfe_ne (by omega)]; exact hk6) TR7_11 UR7_11 rfl yi84 (zar_of (by omega)) ?_
  have hk7 : ((zar (zar (zar (zar (zar (zar (zar F p 1 c 0 36) p 2 (c + 1) 0 12) p 3 (c + 2) 0 12) p 4 (c + 3) 1 480) p 5 (c + 4) 0 1440) p 8 (c + 5) 0 144) p 11 (c + 6) 0 40) p).1 = .inl 7 := by rw [zar_k]; exact hk6
  refine r_aload_n f84_63 rfl ?_
  refine r_bipush f84_64 (by decide) ?_
  refine q_newI (c := c + 7) (n' := n + 8) (s' := s + 2204) f84_66 (by decide) (by decide) (by omega) (by omega) rfl ?_
  refine q_putR (k' := 12) (F' := (zar (zar (zar (zar (zar (zar (zar (zar F p 1 c 0 36) p 2 (c + 1) 0 12) p 3 (c + 2) 0 12) p 4 (c + 3) 1 480) p 5 (c + 4) 0 1440) p 8 (c + 5) 0 144) p 11 (c + 6) 0 40) p 12 (c + 7) 0 40)) f84_68 o84 F7_32 rfl (by rw [zfe_ne (by omega)]; exact hk7) TR7_12 UR7_12 rfl yi84 (zar_of (by omega)) ?_
  have hk8 : ((zar (zar (zar (zar (zar (zar (zar (zar F p 1 c 0 36) p 2 (c + 1) 0 12) p 3 (c + 2) 0 12) p 4 (c + 3) 1 480) p 5 (c + 4) 0 1440) p 8 (c + 5) 0 144) p 11 (c + 6) 0 40) p 12 (c + 7) 0 40) p).1 = .inl 7 := by rw [zar_k]; exact hk7
  refine r_aload_n f84_71 rfl ?_
  refine r_bipush f84_72 (by decide) ?_
  refine q_newI (c := c + 8) (n' := n + 9) (s' := s + 2244) f84_74 (by decide) (by decide) (by omega) (by omega) rfl ?_
  refine q_putR (k' := 13) (F' := (zar (zar (zar (zar (zar (zar (zar (zar (zar F p 1 c 0 36) p 2 (c + 1) 0 12) p 3 (c + 2) 0 12) p 4 (c + 3) 1 480) p 5 (c + 4) 0 1440) p 8 (c + 5) 0 144) p 11 (c + 6) 0 40) p 12 (c + 7) 0 40) p 13 (c + 8) 0 40)) f84_76 o84 F7_35 rfl (by rw [zfe_ne (by omega)]; exact hk8) TR7_13 UR7_13 rfl yi84 (zar_of (by omega)) ?_
  have hk9 : ((zar (zar (zar (zar (zar (zar (zar (zar (zar F p 1 c 0 36) p 2 (c + 1) 0 12) p 3 (c + 2) 0 12) p 4 (c + 3) 1 480) p 5 (c + 4) 0 1440) p 8 (c + 5) 0 144) p 11 (c + 6) 0 40) p 12 (c + 7) 0 40) p 13 (c + 8) 0 40) p).1 = .inl 7 := by rw [zar_k]; exact hk8
  refine r_aload_n f84_79 rfl ?_
  refine r_sipush f84_80 (by decide) ?_
  refine q_newI (c := c + 9) (n' := n + 10) (s' := s + 2524) f84_83 (by decide) (by decide) (by omega) (by omega) rfl ?_
  refine q_putR (k' := 14) (F' := (zar (zar (zar (zar (zar (zar (zar (zar (zar (zar F p 1 c 0 36) p 2 (c + 1) 0 12) p 3 (c + 2) 0 12) p 4 (c + 3) 1 480) p 5 (c + 4) 0 1440) p 8 (c + 5) 0 144) p 11 (c + 6) 0 40) p 12 (c + 7) 0 40) p 13 (c + 8) 0 40) p 14 (c + 9) 0 280)) f84_85 o84 F7_38 rfl (by rw [zfe_ne (by omega)]; exact hk9) TR7_14 UR7_14 rfl yi84 (zar_of (by omega)) ?_
  have hk10 : ((zar (zar (zar (zar (zar (zar (zar (zar (zar (zar F p 1 c 0 36) p 2 (c + 1) 0 12) p 3 (c + 2) 0 12) p 4 (c + 3) 1 480) p 5 (c + 4) 0 1440) p 8 (c + 5) 0 144) p 11 (c + 6) 0 40) p 12 (c + 7) 0 40) p 13 (c + 8) 0 40) p 14 (c + 9) 0 280) p).1 = .inl 7 := by rw [zar_k]; exact hk9
  refine r_aload_n f84_88 rfl ?_
  refine r_bipush f84_89 (by decide) ?_
  refine q_newI (c := c + 10) (n' := n + 11) (s' := s + 2564) f84_91 (by decide) (by decide) (by omega) (by omega) rfl ?_
  refine q_putR (k' := 15) (F' := (zar (zar (zar (zar (zar (zar (zar (zar (zar (zar (zar F p 1 c 0 36) p 2 (c + 1) 0 12) p 3 (c + 2) 0 12) p 4 (c + 3) 1 480) p 5 (c + 4) 0 1440) p 8 (c + 5) 0 144) p 11 (c + 6) 0 40) p 12 (c + 7) 0 40) p 13 (c + 8) 0 40) p 14 (c + 9) 0 280) p 15 (c + 10) 0 40)) f84_93 o84 F7_41 rfl (by rw [zfe_ne (by omega)]; exact hk10) TR7_15 UR7_15 rfl yi84 (zar_of (by omega)) ?_
  have hk11 : ((zar (zar (zar (zar (zar (zar (zar (zar (zar (zar (zar F p 1 c 0 36) p 2 (c + 1) 0 12) p 3 (c + 2) 0 12) p 4 (c + 3) 1 480) p 5 (c + 4) 0 1440) p 8 (c + 5) 0 144) p 11 (c + 6) 0 40) p 12 (c + 7) 0 40) p 13 (c + 8) 0 40) p 14 (c + 9) 0 280) p 15 (c + 10) 0 40) p).1 = .inl 7 := by rw [zar_k]; exact hk10
  refine r_aload_n f84_96 rfl ?_
  refine r_sipush f84_97 (by decide) ?_
  refine q_newZ (c := c + 11) (n' := n + 12) (s' := s + 2844) f84_100 (by decide) (by decide) (by omega) (by omega) rfl ?_
  refine q_putR (k' := 16) (F' := (zar (zar (zar (zar (zar (zar (zar (zar (zar (zar (zar (zar F p 1 c 0 36) p 2 (c + 1) 0 12) p 3 (c + 2) 0 12) p 4 (c + 3) 1 480) p 5 (c + 4) 0 1440) p 8 (c + 5) 0 144) p 11 (c + 6) 0 40) p 12 (c + 7) 0 40) p 13 (c + 8) 0 40) p 14 (c + 9) 0 280) p 15 (c + 10) 0 40) p 16 (c + 11) 1 280)) f84_102 o84 F7_44 rfl (by rw [zfe_ne (by omega)]; exact hk11) TR7_16 UR7_16 rfl yi84 (zar_of (by omega)) ?_
  have hk12 : ((zar (zar (zar (zar (zar (zar (zar (zar (zar (zar (zar (zar F p 1 c 0 36) p 2 (c + 1) 0 12) p 3 (c + 2) 0 12) p 4 (c + 3) 1 480) p 5 (c + 4) 0 1440) p 8 (c + 5) 0 144) p 11 (c + 6) 0 40) p 12 (c + 7) 0 40) p 13 (c + 8) 0 40) p 14 (c + 9) 0 280) p 15 (c + 10) 0 40) p 16 (c + 11) 1 280) p).1 = .inl 7 := by rw [zar_k]; exact hk11
  refine r_aload_n f84_105 rfl ?_
  refine r_sipush f84_106 (by decide) ?_
  refine q_newI (c := c + 12) (n' := n + 13) (s' := s + 3684) f84_109 (by decide) (by decide) (by omega) (by omega) rfl ?_
  refine q_putR (k' := 17) (F' := (zar (zar (zar (zar (zar (zar (zar (zar (zar (zar (zar (zar (zar F p 1 c 0 36) p 2 (c + 1) 0 12) p 3 (c + 2) 0 12) p 4 (c + 3) 1 480) p 5 (c + 4) 0 1440) p 8 (c + 5) 0 144) p 11 (c + 6) 0 40) p 12 (c + 7) 0 40) p 13 (c + 8) 0 40) p 14 (c + 9) 0 280) p 15 (c + 10) 0 40) p 16 (c + 11) 1 280) p 17 (c + 12) 0 840)) f84_111 o84 F7_47 rfl (by rw [zfe_ne (by omega)]; exact hk12) TR7_17 UR7_17 rfl yi84 (zar_of (by omega)) ?_
  have hk13 : ((zar (zar (zar (zar (zar (zar (zar (zar (zar (zar (zar (zar (zar F p 1 c 0 36) p 2 (c + 1) 0 12) p 3 (c + 2) 0 12) p 4 (c + 3) 1 480) p 5 (c + 4) 0 1440) p 8 (c + 5) 0 144) p 11 (c + 6) 0 40) p 12 (c + 7) 0 40) p 13 (c + 8) 0 40) p 14 (c + 9) 0 280) p 15 (c + 10) 0 40) p 16 (c + 11) 1 280) p 17 (c + 12) 0 840) p).1 = .inl 7 := by rw [zar_k]; exact hk12
  refine r_aload_n f84_114 rfl ?_
  refine r_sipush f84_115 (by decide) ?_
  refine q_newZ (c := c + 13) (n' := n + 14) (s' := s + 3964) f84_118 (by decide) (by decide) (by omega) (by omega) rfl ?_
  refine q_putR (k' := 18) (F' := (zar (zar (zar (zar (zar (zar (zar (zar (zar (zar (zar (zar (zar (zar F p 1 c 0 36) p 2 (c + 1) 0 12) p 3 (c + 2) 0 12) p 4 (c + 3) 1 480) p 5 (c + 4) 0 1440) p 8 (c + 5) 0 144) p 11 (c + 6) 0 40) p 12 (c + 7) 0 40) p 13 (c + 8) 0 40) p 14 (c + 9) 0 280) p 15 (c + 10) 0 40) p 16 (c + 11) 1 280) p 17 (c + 12) 0 840) p 18 (c + 13) 1 280)) f84_120 o84 F7_50 rfl (by rw [zfe_ne (by omega)]; exact hk13) TR7_18 UR7_18 rfl yi84 (zar_of (by omega)) ?_
  have hk14 : ((zar (zar (zar (zar (zar (zar (zar (zar (zar (zar (zar (zar (zar (zar F p 1 c 0 36) p 2 (c + 1) 0 12) p 3 (c + 2) 0 12) p 4 (c + 3) 1 480) p 5 (c + 4) 0 1440) p 8 (c + 5) 0 144) p 11 (c + 6) 0 40) p 12 (c + 7) 0 40) p 13 (c + 8) 0 40) p 14 (c + 9) 0 280) p 15 (c + 10) 0 40) p 16 (c + 11) 1 280) p 17 (c + 12) 0 840) p 18 (c + 13) 1 280) p).1 = .inl 7 := by rw [zar_k]; exact hk13
  refine r_aload_n f84_123 rfl ?_
  refine r_bipush f84_124 (by decide) ?_
  refine q_newI (c := c + 14) (n' := n + 15) (s' := s + 4004) f84_126 (by decide) (by decide) (by omega) (by omega) rfl ?_
  refine q_putR (k' := 19) (F' := (zar (zar (zar (zar (zar (zar (zar (zar (zar (zar (zar (zar (zar (zar (zar F p 1 c 0 36) p 2 (c + 1) 0 12) p 3 (c + 2) 0 12) p 4 (c + 3) 1 480) p 5 (c + 4) 0 1440) p 8 (c + 5) 0 144) p 11 (c + 6) 0 40) p 12 (c + 7) 0 40) p 13 (c + 8) 0 40) p 14 (c + 9) 0 280) p 15 (c + 10) 0 40) p 16 (c + 11) 1 280) p 17 (c + 12) 0 840) p 18 (c + 13) 1 280) p 19 (c + 14) 0 40)) f84_128 o84 F7_53 rfl (by rw [zfe_ne (by omega)]; exact hk14) TR7_19 UR7_19 rfl yi84 (zar_of (by omega)) ?_
  have hk15 : ((zar (zar (zar (zar (zar (zar (zar (zar (zar (zar (zar (zar (zar (zar (zar F p 1 c 0 36) p 2 (c + 1) 0 12) p 3 (c + 2) 0 12) p 4 (c + 3) 1 480) p 5 (c + 4) 0 1440) p 8 (c + 5) 0 144) p 11 (c + 6) 0 40) p 12 (c + 7) 0 40) p 13 (c + 8) 0 40) p 14 (c + 9) 0 280) p 15 (c + 10) 0 40) p 16 (c + 11) 1 280) p 17 (c + 12) 0 840) p 18 (c + 13) 1 280) p 19 (c + 14) 0 40) p).1 = .inl 7 := by rw [zar_k]; exact hk14
  refine r_aload_n f84_131 rfl ?_
  refine r_bipush f84_132 (by decide) ?_
  refine q_newZ (c := c + 15) (n' := n + 16) (s' := s + 4044) f84_134 (by decide) (by decide) (by omega) (by omega) rfl ?_
  refine q_putR (k' := 20) (F' := (zar (zar (zar (zar (zar (zar (zar (zar (zar (zar (zar (zar (zar (zar (zar (zar F p 1 c 0 36) p 2 (c + 1) 0 12) p 3 (c + 2) 0 12) p 4 (c + 3) 1 480) p 5 (c + 4) 0 1440) p 8 (c + 5) 0 144) p 11 (c + 6) 0 40) p 12 (c + 7) 0 40) p 13 (c + 8) 0 40) p 14 (c + 9) 0 280) p 15 (c + 10) 0 40) p 16 (c + 11) 1 280) p 17 (c + 12) 0 840) p 18 (c + 13) 1 280) p 19 (c + 14) 0 40) p 20 (c + 15) 1 40)) f84_136 o84 F7_56 rfl (by rw [zfe_ne (by omega)]; exact hk15) TR7_20 UR7_20 rfl yi84 (zar_of (by omega)) ?_
  have hk16 : ((zar (zar (zar (zar (zar (zar (zar (zar (zar (zar (zar (zar (zar (zar (zar (zar F p 1 c 0 36) p 2 (c + 1) 0 12) p 3 (c + 2) 0 12) p 4 (c + 3) 1 480) p 5 (c + 4) 0 1440) p 8 (c + 5) 0 144) p 11 (c + 6) 0 40) p 12 (c + 7) 0 40) p 13 (c + 8) 0 40) p 14 (c + 9) 0 280) p 15 (c + 10) 0 40) p 16 (c + 11) 1 280) p 17 (c + 12) 0 840) p 18 (c + 13) 1 280) p 19 (c + 14) 0 40) p 20 (c + 15) 1 40) p).1 = .inl 7 := by rw [zar_k]; exact hk15
  refine r_aload_n f84_139 rfl ?_
  refine r_iconst f84_140 rfl ?_
  refine q_newI (c := c + 16) (n' := n + 17) (s' := s + 4047) f84_141 (by decide) (by decide) (by omega) (by omega) rfl ?_
  refine q_putR (k' := 21) (F' := (zar (zar (zar (zar (zar (zar (zar (zar (zar (zar (zar (zar (zar (zar (zar (zar (zar F p 1 c 0 36) p 2 (c + 1) 0 12) p 3 (c + 2) 0 12) p 4 (c + 3) 1 480) p 5 (c + 4) 0 1440) p 8 (c + 5) 0 144) p 11 (c + 6) 0 40) p 12 (c + 7) 0 40) p 13 (c + 8) 0 40) p 14 (c + 9) 0 280) p 15 (c + 10) 0 40) p 16 (c + 11) 1 280) p 17 (c + 12) 0 840) p 18 (c + 13) 1 280) p 19 (c + 14) 0 40) p 20 (c + 15) 1 40) p 21 (c + 16) 0 3)) f84_143 o84 F7_59 rfl (by rw [zfe_ne (by omega)]; exact hk16) TR7_21 UR7_21 rfl yi84 (zar_of (by omega)) ?_
  have hk17 : ((zar (zar (zar (zar (zar (zar (zar (zar (zar (zar (zar (zar (zar (zar (zar (zar (zar F p 1 c 0 36) p 2 (c + 1) 0 12) p 3 (c + 2) 0 12) p 4 (c + 3) 1 480) p 5 (c + 4) 0 1440) p 8 (c + 5) 0 144) p 11 (c + 6) 0 40) p 12 (c + 7) 0 40) p 13 (c + 8) 0 40) p 14 (c + 9) 0 280) p 15 (c + 10) 0 40) p 16 (c + 11) 1 280) p 17 (c + 12) 0 840) p 18 (c + 13) 1 280) p 19 (c + 14) 0 40) p 20 (c + 15) 1 40) p 21 (c + 16) 0 3) p).1 = .inl 7 := by rw [zar_k]; exact hk16
  refine r_aload_n f84_146 rfl ?_
  refine r_bipush f84_147 (by decide) ?_
  refine q_newI (c := c + 17) (n' := n + 18) (s' := s + 4131) f84_149 (by decide) (by decide) (by omega) (by omega) rfl ?_
  refine q_putR (k' := 22) (F' := (zar (zar (zar (zar (zar (zar (zar (zar (zar (zar (zar (zar (zar (zar (zar (zar (zar (zar F p 1 c 0 36) p 2 (c + 1) 0 12) p 3 (c + 2) 0 12) p 4 (c + 3) 1 480) p 5 (c + 4) 0 1440) p 8 (c + 5) 0 144) p 11 (c + 6) 0 40) p 12 (c + 7) 0 40) p 13 (c + 8) 0 40) p 14 (c + 9) 0 280) p 15 (c + 10) 0 40) p 16 (c + 11) 1 280) p 17 (c + 12) 0 840) p 18 (c + 13) 1 280) p 19 (c + 14) 0 40) p 20 (c + 15) 1 40) p 21 (c + 16) 0 3) p 22 (c + 17) 0 84)) f84_151 o84 F7_62 rfl (by rw [zfe_ne (by omega)]; exact hk17) TR7_22 UR7_22 rfl yi84 (zar_of (by omega)) ?_
  have hk18 : ((zar (zar (zar (zar (zar (zar (zar (zar (zar (zar (zar (zar (zar (zar (zar (zar (zar (zar F p 1 c 0 36) p 2 (c + 1) 0 12) p 3 (c + 2) 0 12) p 4 (c + 3) 1 480) p 5 (c + 4) 0 1440) p 8 (c + 5) 0 144) p 11 (c + 6) 0 40) p 12 (c + 7) 0 40) p 13 (c + 8) 0 40) p 14 (c + 9) 0 280) p 15 (c + 10) 0 40) p 16 (c + 11) 1 280) p 17 (c + 12) 0 840) p 18 (c + 13) 1 280) p 19 (c + 14) 0 40) p 20 (c + 15) 1 40) p 21 (c + 16) 0 3) p 22 (c + 17) 0 84) p).1 = .inl 7 := by rw [zar_k]; exact hk17
  refine r_aload_n f84_154 rfl ?_
  refine r_bipush f84_155 (by decide) ?_
  refine q_newI (c := c + 18) (n' := n + 19) (s' := s + 4138) f84_157 (by decide) (by decide) (by omega) (by omega) rfl ?_
  refine q_putR (k' := 23) (F' := (zar (zar (zar (zar (zar (zar (zar (zar (zar (zar (zar (zar (zar (zar (zar (zar (zar (zar (zar F p 1 c 0 36) p 2 (c + 1) 0 12) p 3 (c + 2) 0 12) p 4 (c + 3) 1 480) p 5 (c + 4) 0 1440) p 8 (c + 5) 0 144) p 11 (c + 6) 0 40) p 12 (c + 7) 0 40) p 13 (c + 8) 0 40) p 14 (c + 9) 0 280) p 15 (c + 10) 0 40) p 16 (c + 11) 1 280) p 17 (c + 12) 0 840) p 18 (c + 13) 1 280) p 19 (c + 14) 0 40) p 20 (c + 15) 1 40) p 21 (c + 16) 0 3) p 22 (c + 17) 0 84) p 23 (c + 18) 0 7)) f84_159 o84 F7_65 rfl (by rw [zfe_ne (by omega)]; exact hk18) TR7_23 UR7_23 rfl yi84 (zar_of (by omega)) ?_
  have hk19 : ((zar (zar (zar (zar (zar (zar (zar (zar (zar (zar (zar (zar (zar (zar (zar (zar (zar (zar (zar F p 1 c 0 36) p 2 (c + 1) 0 12) p 3 (c + 2) 0 12) p 4 (c + 3) 1 480) p 5 (c + 4) 0 1440) p 8 (c + 5) 0 144) p 11 (c + 6) 0 40) p 12 (c + 7) 0 40) p 13 (c + 8) 0 40) p 14 (c + 9) 0 280) p 15 (c + 10) 0 40) p 16 (c + 11) 1 280) p 17 (c + 12) 0 840) p 18 (c + 13) 1 280) p 19 (c + 14) 0 40) p 20 (c + 15) 1 40) p 21 (c + 16) 0 3) p 22 (c + 17) 0 84) p 23 (c + 18) 0 7) p).1 = .inl 7 := by rw [zar_k]; exact hk18
  refine r_aload_n f84_162 rfl ?_
  refine r_bipush f84_163 (by decide) ?_
  refine q_newI (c := c + 19) (n' := n + 20) (s' := s + 4158) f84_165 (by decide) (by decide) (by omega) (by omega) rfl ?_
  refine q_putR (k' := 25) (F' := (zar (zar (zar (zar (zar (zar (zar (zar (zar (zar (zar (zar (zar (zar (zar (zar (zar (zar (zar (zar F p 1 c 0 36) p 2 (c + 1) 0 12) p 3 (c + 2) 0 12) p 4 (c + 3) 1 480) p 5 (c + 4) 0 1440) p 8 (c + 5) 0 144) p 11 (c + 6) 0 40) p 12 (c + 7) 0 40) p 13 (c + 8) 0 40) p 14 (c + 9) 0 280) p 15 (c + 10) 0 40) p 16 (c + 11) 1 280) p 17 (c + 12) 0 840) p 18 (c + 13) 1 280) p 19 (c + 14) 0 40) p 20 (c + 15) 1 40) p 21 (c + 16) 0 3) p 22 (c + 17) 0 84) p 23 (c + 18) 0 7) p 25 (c + 19) 0 20)) f84_167 o84 F7_68 rfl (by rw [zfe_ne (by omega)]; exact hk19) TR7_25 UR7_25 rfl yi84 (zar_of (by omega)) ?_
  have hk20 : ((zar (zar (zar (zar (zar (zar (zar (zar (zar (zar (zar (zar (zar (zar (zar (zar (zar (zar (zar (zar F p 1 c 0 36) p 2 (c + 1) 0 12) p 3 (c + 2) 0 12) p 4 (c + 3) 1 480) p 5 (c + 4) 0 1440) p 8 (c + 5) 0 144) p 11 (c + 6) 0 40) p 12 (c + 7) 0 40) p 13 (c + 8) 0 40) p 14 (c + 9) 0 280) p 15 (c + 10) 0 40) p 16 (c + 11) 1 280) p 17 (c + 12) 0 840) p 18 (c + 13) 1 280) p 19 (c + 14) 0 40) p 20 (c + 15) 1 40) p 21 (c + 16) 0 3) p 22 (c + 17) 0 84) p 23 (c + 18) 0 7) p 25 (c + 19) 0 20) p).1 = .inl 7 := by rw [zar_k]; exact hk19
  refine r_aload_n f84_170 rfl ?_
  refine r_bipush f84_171 (by decide) ?_
  refine q_newI (c := c + 20) (n' := n + 21) (s' := s + 4178) f84_173 (by decide) (by decide) (by omega) (by omega) rfl ?_
  refine q_putR (k' := 26) (F' := (zar (zar (zar (zar (zar (zar (zar (zar (zar (zar (zar (zar (zar (zar (zar (zar (zar (zar (zar (zar (zar F p 1 c 0 36) p 2 (c + 1) 0 12) p 3 (c + 2) 0 12) p 4 (c + 3) 1 480) p 5 (c + 4) 0 1440) p 8 (c + 5) 0 144) p 11 (c + 6) 0 40) p 12 (c + 7) 0 40) p 13 (c + 8) 0 40) p 14 (c + 9) 0 280) p 15 (c + 10) 0 40) p 16 (c + 11) 1 280) p 17 (c + 12) 0 840) p 18 (c + 13) 1 280) p 19 (c + 14) 0 40) p 20 (c + 15) 1 40) p 21 (c + 16) 0 3) p 22 (c + 17) 0 84) p 23 (c + 18) 0 7) p 25 (c + 19) 0 20) p 26 (c + 20) 0 20)) f84_175 o84 F7_71 rfl (by rw [zfe_ne (by omega)]; exact hk20) TR7_26 UR7_26 rfl yi84 (zar_of (by omega)) ?_
  have hk21 : ((zar (zar (zar (zar (zar (zar (zar (zar (zar (zar (zar (zar (zar (zar (zar (zar (zar (zar (zar (zar (zar F p 1 c 0 36) p 2 (c + 1) 0 12) p 3 (c + 2) 0 12) p 4 (c + 3) 1 480) p 5 (c + 4) 0 1440) p 8 (c + 5) 0 144) p 11 (c + 6) 0 40) p 12 (c + 7) 0 40) p 13 (c + 8) 0 40) p 14 (c + 9) 0 280) p 15 (c + 10) 0 40) p 16 (c + 11) 1 280) p 17 (c + 12) 0 840) p 18 (c + 13) 1 280) p 19 (c + 14) 0 40) p 20 (c + 15) 1 40) p 21 (c + 16) 0 3) p 22 (c + 17) 0 84) p 23 (c + 18) 0 7) p 25 (c + 19) 0 20) p 26 (c + 20) 0 20) p).1 = .inl 7 := by rw [zar_k]; exact hk20
  refine r_aload_n f84_178 rfl ?_
  refine r_bipush f84_179 (by decide) ?_
  refine q_newI (c := c + 21) (n' := n + 22) (s' := s + 4218) f84_181 (by decide) (by decide) (by omega) (by omega) rfl ?_
  refine q_putR (k' := 28) (F' := (zar (zar (zar (zar (zar (zar (zar (zar (zar (zar (zar (zar (zar (zar (zar (zar (zar (zar (zar (zar (zar (zar F p 1 c 0 36) p 2 (c + 1) 0 12) p 3 (c + 2) 0 12) p 4 (c + 3) 1 480) p 5 (c + 4) 0 1440) p 8 (c + 5) 0 144) p 11 (c + 6) 0 40) p 12 (c + 7) 0 40) p 13 (c + 8) 0 40) p 14 (c + 9) 0 280) p 15 (c + 10) 0 40) p 16 (c + 11) 1 280) p 17 (c + 12) 0 840) p 18 (c + 13) 1 280) p 19 (c + 14) 0 40) p 20 (c + 15) 1 40) p 21 (c + 16) 0 3) p 22 (c + 17) 0 84) p 23 (c + 18) 0 7) p 25 (c + 19) 0 20) p 26 (c + 20) 0 20) p 28 (c + 21) 0 40)) f84_183 o84 F7_74 rfl (by rw [zfe_ne (by omega)]; exact hk21) TR7_28 UR7_28 rfl yi84 (zar_of (by omega)) ?_
  have hk22 : ((zar (zar (zar (zar (zar (zar (zar (zar (zar (zar (zar (zar (zar (zar (zar (zar (zar (zar (zar (zar (zar (zar F p 1 c 0 36) p 2 (c + 1) 0 12) p 3 (c + 2) 0 12) p 4 (c + 3) 1 480) p 5 (c + 4) 0 1440) p 8 (c + 5) 0 144) p 11 (c + 6) 0 40) p 12 (c + 7) 0 40) p 13 (c + 8) 0 40) p 14 (c + 9) 0 280) p 15 (c + 10) 0 40) p 16 (c + 11) 1 280) p 17 (c + 12) 0 840) p 18 (c + 13) 1 280) p 19 (c + 14) 0 40) p 20 (c + 15) 1 40) p 21 (c + 16) 0 3) p 22 (c + 17) 0 84) p 23 (c + 18) 0 7) p 25 (c + 19) 0 20) p 26 (c + 20) 0 20) p 28 (c + 21) 0 40) p).1 = .inl 7 := by rw [zar_k]; exact hk21
  refine r_aload_n f84_186 rfl ?_
  refine r_bipush f84_187 (by decide) ?_
  refine q_newI (c := c + 22) (n' := n + 23) (s' := s + 4258) f84_189 (by decide) (by decide) (by omega) (by omega) rfl ?_
  refine q_putR (k' := 29) (F' := (zar (zar (zar (zar (zar (zar (zar (zar (zar (zar (zar (zar (zar (zar (zar (zar (zar (zar (zar (zar (zar (zar (zar F p 1 c 0 36) p 2 (c + 1) 0 12) p 3 (c + 2) 0 12) p 4 (c + 3) 1 480) p 5 (c + 4) 0 1440) p 8 (c + 5) 0 144) p 11 (c + 6) 0 40) p 12 (c + 7) 0 40) p 13 (c + 8) 0 40) p 14 (c + 9) 0 280) p 15 (c + 10) 0 40) p 16 (c + 11) 1 280) p 17 (c + 12) 0 840) p 18 (c + 13) 1 280) p 19 (c + 14) 0 40) p 20 (c + 15) 1 40) p 21 (c + 16) 0 3) p 22 (c + 17) 0 84) p 23 (c + 18) 0 7) p 25 (c + 19) 0 20) p 26 (c + 20) 0 20) p 28 (c + 21) 0 40) p 29 (c + 22) 0 40)) f84_191 o84 F7_77 rfl (by rw [zfe_ne (by omega)]; exact hk22) TR7_29 UR7_29 rfl yi84 (zar_of (by omega)) ?_
  have hk23 : ((zar (zar (zar (zar (zar (zar (zar (zar (zar (zar (zar (zar (zar (zar (zar (zar (zar (zar (zar (zar (zar (zar (zar F p 1 c 0 36) p 2 (c + 1) 0 12) p 3 (c + 2) 0 12) p 4 (c + 3) 1 480) p 5 (c + 4) 0 1440) p 8 (c + 5) 0 144) p 11 (c + 6) 0 40) p 12 (c + 7) 0 40) p 13 (c + 8) 0 40) p 14 (c + 9) 0 280) p 15 (c + 10) 0 40) p 16 (c + 11) 1 280) p 17 (c + 12) 0 840) p 18 (c + 13) 1 280) p 19 (c + 14) 0 40) p 20 (c + 15) 1 40) p 21 (c + 16) 0 3) p 22 (c + 17) 0 84) p 23 (c + 18) 0 7) p 25 (c + 19) 0 20) p 26 (c + 20) 0 20) p 28 (c + 21) 0 40) p 29 (c + 22) 0 40) p).1 = .inl 7 := by rw [zar_k]; exact hk22
  refine r_aload_n f84_194 rfl ?_
  refine r_bipush f84_195 (by decide) ?_
  refine q_newI (c := c + 23) (n' := n + 24) (s' := s + 4298) f84_197 (by decide) (by decide) (by omega) (by omega) rfl ?_
  refine q_putR (k' := 30) (F' := (zar (zar (zar (zar (zar (zar (zar (zar (zar (zar (zar (zar (zar (zar (zar (zar (zar (zar (zar (zar (zar (zar (zar (zar F p 1 c 0 36) p 2 (c + 1) 0 12) p 3 (c + 2) 0 12) p 4 (c + 3) 1 480) p 5 (c + 4) 0 1440) p 8 (c + 5) 0 144) p 11 (c + 6) 0 40) p 12 (c + 7) 0 40) p 13 (c + 8) 0 40) p 14 (c + 9) 0 280) p 15 (c + 10) 0 40) p 16 (c + 11) 1 280) p 17 (c + 12) 0 840) p 18 (c + 13) 1 280) p 19 (c + 14) 0 40) p 20 (c + 15) 1 40) p 21 (c + 16) 0 3) p 22 (c + 17) 0 84) p 23 (c + 18) 0 7) p 25 (c + 19) 0 20) p 26 (c + 20) 0 20) p 28 (c + 21) 0 40) p 29 (c + 22) 0 40) p 30 (c + 23) 0 40)) f84_199 o84 F7_80 rfl (by rw [zfe_ne (by omega)]; exact hk23) TR7_30 UR7_30 rfl yi84 (zar_of (by omega)) ?_
  have hk24 : ((zar (zar (zar (zar (zar (zar (zar (zar (zar (zar (zar (zar (zar (zar (zar (zar (zar (zar (zar (zar (zar (zar (zar (zar F p 1 c 0 36) p 2 (c + 1) 0 12) p 3 (c + 2) 0 12) p 4 (c + 3) 1 480) p 5 (c + 4) 0 1440) p 8 (c + 5) 0 144) p 11 (c + 6) 0 40) p 12 (c + 7) 0 40) p 13 (c + 8) 0 40) p 14 (c + 9) 0 280) p 15 (c + 10) 0 40) p 16 (c + 11) 1 280) p 17 (c + 12) 0 840) p 18 (c + 13) 1 280) p 19 (c + 14) 0 40) p 20 (c + 15) 1 40) p 21 (c + 16) 0 3) p 22 (c + 17) 0 84) p 23 (c + 18) 0 7) p 25 (c + 19) 0 20) p 26 (c + 20) 0 20) p 28 (c + 21) 0 40) p 29 (c + 22) 0 40) p 30 (c + 23) 0 40) p).1 = .inl 7 := by rw [zar_k]; exact hk23
  refine r_aload_n f84_202 rfl ?_
  refine r_bipush f84_203 (by decide) ?_
  refine q_newZ (c := c + 24) (n' := n + 25) (s' := s + 4338) f84_205 (by decide) (by decide) (by omega) (by omega) rfl ?_
  refine q_putR (k' := 31) (F' := (zar (zar (zar (zar (zar (zar (zar (zar (zar (zar (zar (zar (zar (zar (zar (zar (zar (zar (zar (zar (zar (zar (zar (zar (zar F p 1 c 0 36) p 2 (c + 1) 0 12) p 3 (c + 2) 0 12) p 4 (c + 3) 1 480) p 5 (c + 4) 0 1440) p 8 (c + 5) 0 144) p 11 (c + 6) 0 40) p 12 (c + 7) 0 40) p 13 (c + 8) 0 40) p 14 (c + 9) 0 280) p 15 (c + 10) 0 40) p 16 (c + 11) 1 280) p 17 (c + 12) 0 840) p 18 (c + 13) 1 280) p 19 (c + 14) 0 40) p 20 (c + 15) 1 40) p 21 (c + 16) 0 3) p 22 (c + 17) 0 84) p 23 (c + 18) 0 7) p 25 (c + 19) 0 20) p 26 (c + 20) 0 20) p 28 (c + 21) 0 40) p 29 (c + 22) 0 40) p 30 (c + 23) 0 40) p 31 (c + 24) 1 40)) f84_207 o84 F7_83 rfl (by rw [zfe_ne (by omega)]; exact hk24) TR7_31 UR7_31 rfl yi84 (zar_of (by omega)) ?_
  have hk25 : ((zar (zar (zar (zar (zar (zar (zar (zar (zar (zar (zar (zar (zar (zar (zar (zar (zar (zar (zar (zar (zar (zar (zar (zar (zar F p 1 c 0 36) p 2 (c + 1) 0 12) p 3 (c + 2) 0 12) p 4 (c + 3) 1 480) p 5 (c + 4) 0 1440) p 8 (c + 5) 0 144) p 11 (c + 6) 0 40) p 12 (c + 7) 0 40) p 13 (c + 8) 0 40) p 14 (c + 9) 0 280) p 15 (c + 10) 0 40) p 16 (c + 11) 1 280) p 17 (c + 12) 0 840) p 18 (c + 13) 1 280) p 19 (c + 14) 0 40) p 20 (c + 15) 1 40) p 21 (c + 16) 0 3) p 22 (c + 17) 0 84) p 23 (c + 18) 0 7) p 25 (c + 19) 0 20) p 26 (c + 20) 0 20) p 28 (c + 21) 0 40) p 29 (c + 22) 0 40) p 30 (c + 23) 0 40) p 31 (c + 24) 1 40) p).1 = .inl 7 := by rw [zar_k]; exact hk24
  exact r_vret f84_210 v84 ⟨rfl, rfl⟩
