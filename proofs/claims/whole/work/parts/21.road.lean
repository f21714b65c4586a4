def XUf (m : zmem) (k : Int) : Int := if m 59 k = 0 then 1 else 0
theorem l_unopened {L d : Nat} {m : zmem} (n0 : 0 ≤ m 55 4) (n1 : m 55 4 ≤ 40)  {Q : Option zV → zM → Prop} (hx : zR (d) 25 30 [some (.inr (.inl (some 55))), some (.inl (zsum (XUf m) (m 55 4))), some (.inl (m 55 4))] [] (zem L m) Q) : ∀ (n : Nat) (i : Int), 0 ≤ i → i + n = m 55 4 → zR (d) 25 4 [some (.inr (.inl (some 55))), some (.inl (zsum (XUf m) i)), some (.inl i)] [] (zem L m) Q := by
  intro n
  induction n with
  | zero =>
    intro i hi hn
    have ei : i = m 55 4 := by omega
    rw [ei]
    refine r_iload_n f25_4 rfl ?_
    refine r_aload_n f25_5 rfl ?_
    refine r_getI f25_6 o25 F2_25 g55_4 rfl ?_
    refine r_cge f25_9 (t := 30) (by decide) (fun _ => ?_) (fun h => absurd (by omega) h)
    exact hx
  | succ n ih =>
    intro i hi hn
    have hb := zsum_b (f := XUf m) (A := 0) (B := 1) hi (fun k _ _ => by unfold XUf; split <;> omega)
    refine r_iload_n f25_4 rfl ?_
    refine r_aload_n f25_5 rfl ?_
    refine r_getI f25_6 o25 F2_25 g55_4 rfl ?_
    refine r_cge f25_9 (t := 30) (by decide) (fun h => absurd h (by omega)) (fun _ => ?_)
    refine r_aload_n f25_12 rfl ?_
    refine r_getR f25_13 o25 F2_21 g55_3 rfl ?_
    refine r_iload_n f25_16 rfl ?_
    refine r_bald f25_17 kd59 (by omega) (by omega) ?_
    refine r_zne f25_18 (t := 24) (by decide) (fun q1 => ?_) (fun q1 => ?_)
    · refine r_iinc f25_24 rfl rfl rfl (e := i + 1) (by omega) (by omega) (by omega) (ls' := [some (.inr (.inl (some 55))), some (.inl (zsum (XUf m) i)), some (.inl (i + 1))]) rfl ?_
      refine r_goto f25_27 (t := 4) (by decide) ?_
      refine r_setI (k := 1) (a := zsum (XUf m) i) (e := zsum (XUf m) (i + 1)) (by rw [zsum_s (by omega)]; unfold XUf; split <;> omega) rfl (ls' := [some (.inr (.inl (some 55))), some (.inl (zsum (XUf m) (i + 1))), some (.inl (i + 1))]) rfl ?_
      exact ih (i + 1) (by omega) (by omega)
    · refine r_iinc f25_21 rfl rfl rfl (e := zsum (XUf m) i + 1) (by omega) (by omega) (by omega) (ls' := [some (.inr (.inl (some 55))), some (.inl (zsum (XUf m) i + 1)), some (.inl i)]) rfl ?_
      refine r_iinc f25_24 rfl rfl rfl (e := i + 1) (by omega) (by omega) (by omega) (ls' := [some (.inr (.inl (some 55))), some (.inl (zsum (XUf m) i + 1)), some (.inl (i + 1))]) rfl ?_
      refine r_goto f25_27 (t := 4) (by decide) ?_
      refine r_setI (k := 1) (a := zsum (XUf m) i + 1) (e := zsum (XUf m) (i + 1)) (by rw [zsum_s (by omega)]; unfold XUf; split <;> omega) rfl (ls' := [some (.inr (.inl (some 55))), some (.inl (zsum (XUf m) (i + 1))), some (.inl (i + 1))]) rfl ?_
      exact ih (i + 1) (by omega) (by omega)

theorem t_unopened {L d : Nat} {m : zmem} (n0 : 0 ≤ m 55 4) (n1 : m 55 4 ≤ 40)  : zF L (d) 25 [.inr (.inl (some 55))] m (some (.inl (zsum (XUf m) (m 55 4)))) m := by
  refine zF_of n25 (ls := [some (.inr (.inl (some 55))), none, none]) rfl ?_
  refine r_iconst f25_0 rfl ?_
  refine r_istore_n f25_1 rfl (ls' := [some (.inr (.inl (some 55))), some (.inl 0), none]) rfl ?_
  refine r_iconst f25_2 rfl ?_
  refine r_istore_n f25_3 rfl (ls' := [some (.inr (.inl (some 55))), some (.inl 0), some (.inl 0)]) rfl ?_
  refine l_unopened n0 n1 ?_ (m 55 4).toNat 0 (by omega) (by omega)
  refine r_iload_n f25_30 rfl ?_
  exact r_iret f25_31 v25 ⟨zs_eq (by first | rfl | omega | (repeat (first | rw [if_pos (by omega)] | rw [if_neg (by omega)]))), rfl⟩

def zstL (o dy mk : Int → Int) (u k b : Int) : Int := if (o k = 0 ∧ dy k ≤ u) ∧ (b = -1 ∨ mk k < mk b) then k else b
theorem zfd_in {f : Int → Int → Int} (h : ∀ k b, f k b = k ∨ f k b = b) : ∀ {i : Int}, 0 ≤ i → -1 ≤ zfd f (-1) i ∧ (zfd f (-1) i = -1 ∨ zfd f (-1) i < i) := by
  intro i hi
  obtain ⟨n, rfl⟩ := Int.eq_ofNat_of_zero_le hi
  induction n with
  | zero => exact ⟨by rw [show ((0 : Nat) : Int) = 0 from rfl, zfd_0]; decide, Or.inl rfl⟩
  | succ n ih =>
    have ih := ih (by omega)
    rw [Int.natCast_succ, zfd_s (by omega)]
    rcases h n (zfd f (-1) n) with e | e <;> rw [e] <;> omega
theorem zstL_two (o dy mk : Int → Int) (u k b : Int) : zstL o dy mk u k b = k ∨ zstL o dy mk u k b = b := by
  unfold zstL; split
  · exact Or.inl rfl
  · exact Or.inr rfl
theorem l_next {L d : Nat} {m : zmem} (n0 : 0 ≤ m 55 4) (n1 : m 55 4 ≤ 40) {u : Int} {Q : Option zV → zM → Prop} (hx : zR (d) 24 71 [some (.inr (.inl (some 55))), some (.inl u), some (.inl (zfd (zstL (m 59) (m 58) (m 57) u) (-1) (m 55 4))), some (.inl (m 55 4)), none] [] (zem L m) Q) : ∀ (n : Nat) (i : Int), 0 ≤ i → i + n = m 55 4 → zR (d) 24 4 [some (.inr (.inl (some 55))), some (.inl u), some (.inl (zfd (zstL (m 59) (m 58) (m 57) u) (-1) i)), some (.inl i), none] [] (zem L m) Q := by
  intro n
  induction n with
  | zero =>
    intro i hi hn
    have ei : i = m 55 4 := by omega
    rw [ei]
    refine r_iload_n f24_4 rfl ?_
    refine r_aload_n f24_5 rfl ?_
    refine r_getI f24_6 o24 F2_25 g55_4 rfl ?_
    refine r_cge f24_9 (t := 71) (by decide) (fun _ => ?_) (fun h => absurd (by omega) h)
    exact hx
  | succ n ih =>
    intro i hi hn
    have hb := zfd_in (f := zstL (m 59) (m 58) (m 57) u) (zstL_two _ _ _ _) hi
    refine r_iload_n f24_4 rfl ?_
    refine r_aload_n f24_5 rfl ?_
    refine r_getI f24_6 o24 F2_25 g55_4 rfl ?_
    refine r_cge f24_9 (t := 71) (by decide) (fun h => absurd h (by omega)) (fun _ => ?_)
    refine r_aload_n f24_12 rfl ?_
    refine r_getR f24_13 o24 F2_21 g55_3 rfl ?_
    refine r_iload_n f24_16 rfl ?_
    refine r_bald f24_17 kd59 (by omega) (by omega) ?_
    refine r_zne f24_18 (t := 35) (by decide) (fun q1 => ?_) (fun q1 => ?_)
    · refine r_iconst f24_35 rfl ?_
      refine r_istore f24_36 rfl (ls' := [some (.inr (.inl (some 55))), some (.inl u), some (.inl (zfd (zstL (m 59) (m 58) (m 57) u) (-1) i)), some (.inl i), some (.inl 0)]) rfl ?_
      refine r_iload f24_38 rfl ?_
      refine r_zeq f24_40 (t := 65) (by decide) (fun _ => ?_) (fun h => absurd (by omega) h)
      refine r_iinc f24_65 rfl rfl rfl (e := i + 1) (by omega) (by omega) (by omega) (ls' := [some (.inr (.inl (some 55))), some (.inl u), some (.inl (zfd (zstL (m 59) (m 58) (m 57) u) (-1) i)), some (.inl (i + 1)), some (.inl 0)]) rfl ?_
      refine r_goto f24_68 (t := 4) (by decide) ?_
      refine r_forget (ls' := [some (.inr (.inl (some 55))), some (.inl u), some (.inl (zfd (zstL (m 59) (m 58) (m 57) u) (-1) i)), some (.inl (i + 1)), none]) ⟨Or.inl rfl, ⟨Or.inl rfl, ⟨Or.inl rfl, ⟨Or.inl rfl, ⟨Or.inr ⟨rfl, rfl⟩, trivial⟩⟩⟩⟩⟩ ?_
      refine r_setI (k := 2) (a := zfd (zstL (m 59) (m 58) (m 57) u) (-1) i) (e := zfd (zstL (m 59) (m 58) (m 57) u) (-1) (i + 1)) (by rw [zfd_s (by omega)]; first | exact (if_pos (by omega)).symm | exact (if_neg (by omega)).symm) rfl (ls' := [some (.inr (.inl (some 55))), some (.inl u), some (.inl (zfd (zstL (m 59) (m 58) (m 57) u) (-1) (i + 1))), some (.inl (i + 1)), none]) rfl ?_
      exact ih (i + 1) (by omega) (by omega)
    · refine r_aload_n f24_21 rfl ?_
      refine r_getR f24_22 o24 F2_18 g55_2 rfl ?_
      refine r_iload_n f24_25 rfl ?_
      refine r_iald f24_26 kd58 (by omega) (by omega) ?_
      refine r_iload_n f24_27 rfl ?_
      refine r_cgt f24_28 (t := 35) (by decide) (fun q2 => ?_) (fun q2 => ?_)
      · refine r_iconst f24_35 rfl ?_
        refine r_istore f24_36 rfl (ls' := [some (.inr (.inl (some 55))), some (.inl u), some (.inl (zfd (zstL (m 59) (m 58) (m 57) u) (-1) i)), some (.inl i), some (.inl 0)]) rfl ?_
        refine r_iload f24_38 rfl ?_
        refine r_zeq f24_40 (t := 65) (by decide) (fun _ => ?_) (fun h => absurd (by omega) h)
        refine r_iinc f24_65 rfl rfl rfl (e := i + 1) (by omega) (by omega) (by omega) (ls' := [some (.inr (.inl (some 55))), some (.inl u), some (.inl (zfd (zstL (m 59) (m 58) (m 57) u) (-1) i)), some (.inl (i + 1)), some (.inl 0)]) rfl ?_
        refine r_goto f24_68 (t := 4) (by decide) ?_
        refine r_forget (ls' := [some (.inr (.inl (some 55))), some (.inl u), some (.inl (zfd (zstL (m 59) (m 58) (m 57) u) (-1) i)), some (.inl (i + 1)), none]) ⟨Or.inl rfl, ⟨Or.inl rfl, ⟨Or.inl rfl, ⟨Or.inl rfl, ⟨Or.inr ⟨rfl, rfl⟩, trivial⟩⟩⟩⟩⟩ ?_
        refine r_setI (k := 2) (a := zfd (zstL (m 59) (m 58) (m 57) u) (-1) i) (e := zfd (zstL (m 59) (m 58) (m 57) u) (-1) (i + 1)) (by rw [zfd_s (by omega)]; first | exact (if_pos (by omega)).symm | exact (if_neg (by omega)).symm) rfl (ls' := [some (.inr (.inl (some 55))), some (.inl u), some (.inl (zfd (zstL (m 59) (m 58) (m 57) u) (-1) (i + 1))), some (.inl (i + 1)), none]) rfl ?_
        exact ih (i + 1) (by omega) (by omega)
      · refine r_iconst f24_31 rfl ?_
        refine r_goto f24_32 (t := 36) (by decide) ?_
        refine r_istore f24_36 rfl (ls' := [some (.inr (.inl (some 55))), some (.inl u), some (.inl (zfd (zstL (m 59) (m 58) (m 57) u) (-1) i)), some (.inl i), some (.inl 1)]) rfl ?_
        refine r_iload f24_38 rfl ?_
        refine r_zeq f24_40 (t := 65) (by decide) (fun h => absurd h (by omega)) (fun _ => ?_)
        refine r_iload_n f24_43 rfl ?_
        refine r_iconst f24_44 rfl ?_
        refine r_ceq f24_45 (t := 63) (by decide) (fun q3 => ?_) (fun q3 => ?_)
        · refine r_iload_n f24_63 rfl ?_
          refine r_istore_n f24_64 rfl (ls' := [some (.inr (.inl (some 55))), some (.inl u), some (.inl i), some (.inl i), some (.inl 1)]) rfl ?_
          refine r_iinc f24_65 rfl rfl rfl (e := i + 1) (by omega) (by omega) (by omega) (ls' := [some (.inr (.inl (some 55))), some (.inl u), some (.inl i), some (.inl (i + 1)), some (.inl 1)]) rfl ?_
          refine r_goto f24_68 (t := 4) (by decide) ?_
          refine r_forget (ls' := [some (.inr (.inl (some 55))), some (.inl u), some (.inl i), some (.inl (i + 1)), none]) ⟨Or.inl rfl, ⟨Or.inl rfl, ⟨Or.inl rfl, ⟨Or.inl rfl, ⟨Or.inr ⟨rfl, rfl⟩, trivial⟩⟩⟩⟩⟩ ?_
          refine r_setI (k := 2) (a := i) (e := zfd (zstL (m 59) (m 58) (m 57) u) (-1) (i + 1)) (by rw [zfd_s (by omega)]; first | exact (if_pos (by omega)).symm | exact (if_neg (by omega)).symm) rfl (ls' := [some (.inr (.inl (some 55))), some (.inl u), some (.inl (zfd (zstL (m 59) (m 58) (m 57) u) (-1) (i + 1))), some (.inl (i + 1)), none]) rfl ?_
          exact ih (i + 1) (by omega) (by omega)
        · refine r_aload_n f24_48 rfl ?_
          refine r_getR f24_49 o24 F2_15 g55_1 rfl ?_
          refine r_iload_n f24_52 rfl ?_
          refine r_iald f24_53 kd57 (by omega) (by omega) ?_
          refine r_aload_n f24_54 rfl ?_
          refine r_getR f24_55 o24 F2_15 g55_1 rfl ?_
          refine r_iload_n f24_58 rfl ?_
          refine r_iald f24_59 kd57 (by omega) (by omega) ?_
          refine r_cge f24_60 (t := 65) (by decide) (fun q4 => ?_) (fun q4 => ?_)
          · refine r_iinc f24_65 rfl rfl rfl (e := i + 1) (by omega) (by omega) (by omega) (ls' := [some (.inr (.inl (some 55))), some (.inl u), some (.inl (zfd (zstL (m 59) (m 58) (m 57) u) (-1) i)), some (.inl (i + 1)), some (.inl 1)]) rfl ?_
            refine r_goto f24_68 (t := 4) (by decide) ?_
            refine r_forget (ls' := [some (.inr (.inl (some 55))), some (.inl u), some (.inl (zfd (zstL (m 59) (m 58) (m 57) u) (-1) i)), some (.inl (i + 1)), none]) ⟨Or.inl rfl, ⟨Or.inl rfl, ⟨Or.inl rfl, ⟨Or.inl rfl, ⟨Or.inr ⟨rfl, rfl⟩, trivial⟩⟩⟩⟩⟩ ?_
            refine r_setI (k := 2) (a := zfd (zstL (m 59) (m 58) (m 57) u) (-1) i) (e := zfd (zstL (m 59) (m 58) (m 57) u) (-1) (i + 1)) (by rw [zfd_s (by omega)]; first | exact (if_pos (by omega)).symm | exact (if_neg (by omega)).symm) rfl (ls' := [some (.inr (.inl (some 55))), some (.inl u), some (.inl (zfd (zstL (m 59) (m 58) (m 57) u) (-1) (i + 1))), some (.inl (i + 1)), none]) rfl ?_
            exact ih (i + 1) (by omega) (by omega)
          · refine r_iload_n f24_63 rfl ?_
            refine r_istore_n f24_64 rfl (ls' := [some (.inr (.inl (some 55))), some (.inl u), some (.inl i), some (.inl i), some (.inl 1)]) rfl ?_
            refine r_iinc f24_65 rfl rfl rfl (e := i + 1) (by omega) (by omega) (by omega) (ls' := [some (.inr (.inl (some 55))), some (.inl u), some (.inl i), some (.inl (i + 1)), some (.inl 1)]) rfl ?_
            refine r_goto f24_68 (t := 4) (by decide) ?_
            refine r_forget (ls' := [some (.inr (.inl (some 55))), some (.inl u), some (.inl i), some (.inl (i + 1)), none]) ⟨Or.inl rfl, ⟨Or.inl rfl, ⟨Or.inl rfl, ⟨Or.inl rfl, ⟨Or.inr ⟨rfl, rfl⟩, trivial⟩⟩⟩⟩⟩ ?_
            refine r_setI (k := 2) (a := i) (e := zfd (zstL (m 59) (m 58) (m 57) u) (-1) (i + 1)) (by rw [zfd_s (by omega)]; first | exact (if_pos (by omega)).symm | exact (if_neg (by omega)).symm) rfl (ls' := [some (.inr (.inl (some 55))), some (.inl u), some (.inl (zfd (zstL (m 59) (m 58) (m 57) u) (-1) (i + 1))), some (.inl (i + 1)), none]) rfl ?_
            exact ih (i + 1) (by omega) (by omega)

theorem t_next {L d : Nat} {m : zmem} (n0 : 0 ≤ m 55 4) (n1 : m 55 4 ≤ 40) {u : Int} : zF L (d) 24 [.inr (.inl (some 55)), .inl u] m (some (.inl (zfd (zstL (m 59) (m 58) (m 57) u) (-1) (m 55 4)))) m := by
  refine zF_of n24 (ls := [some (.inr (.inl (some 55))), some (.inl u), none, none, none]) rfl ?_
  refine r_iconst f24_0 rfl ?_
  refine r_istore_n f24_1 rfl (ls' := [some (.inr (.inl (some 55))), some (.inl u), some (.inl (-1)), none, none]) rfl ?_
  refine r_iconst f24_2 rfl ?_
  refine r_istore_n f24_3 rfl (ls' := [some (.inr (.inl (some 55))), some (.inl u), some (.inl (-1)), some (.inl 0), none]) rfl ?_
  refine l_next n0 n1 ?_ (m 55 4).toNat 0 (by omega) (by omega)
  refine r_iload_n f24_71 rfl ?_
  exact r_iret f24_72 v24 ⟨zs_eq (by first | rfl | omega | (repeat (first | rw [if_pos (by omega)] | rw [if_neg (by omega)]))), rfl⟩

theorem t_receive {L d : Nat} {m : zmem} (n0 : 0 ≤ m 55 4) (n1 : m 55 4 ≤ 40) {a b e : Int} : zF L (d) 23 [.inr (.inl (some 55)), .inl a, .inl b, .inl e] m (some (.inl (if 40 ≤ m 55 4 then -4 else m 55 4 + 1))) (if 40 ≤ m 55 4 then m else (zu (zu (zu (zu m 56 (m 55 4) a) 57 (m 55 4) b) 58 (m 55 4) e) 55 4 (m 55 4 + 1))) := by
  refine zF_of n23 (ls := [some (.inr (.inl (some 55))), some (.inl a), some (.inl b), some (.inl e)]) rfl ?_
  refine r_aload_n f23_0 rfl ?_
  refine r_getI f23_1 o23 F2_25 g55_4 rfl ?_
  refine r_bipush f23_4 (by decide) ?_
  refine r_clt f23_6 (t := 12) (by decide) (fun q1 => ?_) (fun q1 => ?_)
  · refine r_aload_n f23_12 rfl ?_
    refine r_getR f23_13 o23 F2_9 g55_0 rfl ?_
    refine r_aload_n f23_16 rfl ?_
    refine r_getI f23_17 o23 F2_25 g55_4 rfl ?_
    refine r_iload_n f23_20 rfl ?_
    refine r_iast f23_21 kd56 (by omega) (by omega) (by omega) ?_
    refine r_aload_n f23_22 rfl ?_
    refine r_getR f23_23 o23 F2_15 g55_1 rfl ?_
    refine r_aload_n f23_26 rfl ?_
    refine r_getI f23_27 o23 F2_25 g55_4 rfl ?_
    refine r_top (e := m 55 4) (by rw [zu_if, if_neg (by omega)]) ?_
    refine r_iload_n f23_30 rfl ?_
    refine r_iast f23_31 kd57 (by omega) (by omega) (by omega) ?_
    refine r_aload_n f23_32 rfl ?_
    refine r_getR f23_33 o23 F2_18 g55_2 rfl ?_
    refine r_aload_n f23_36 rfl ?_
    refine r_getI f23_37 o23 F2_25 g55_4 rfl ?_
    refine r_top (e := m 55 4) (by rw [zu_if, if_neg (by omega), zu_if, if_neg (by omega)]) ?_
    refine r_iload_n f23_40 rfl ?_
    refine r_iast f23_41 kd58 (by omega) (by omega) (by omega) ?_
    refine r_aload_n f23_42 rfl ?_
    refine r_dupR f23_43 ?_
    refine r_getI f23_44 o23 F2_25 g55_4 rfl ?_
    refine r_top (e := m 55 4) (by rw [zu_if, if_neg (by omega), zu_if, if_neg (by omega), zu_if, if_neg (by omega)]) ?_
    refine r_iconst f23_47 rfl ?_
    refine r_iadd f23_48 (e := m 55 4 + 1) (by omega) (by omega) (by omega) ?_
    refine r_put f23_49 o23 F2_25 g55_4 rfl T2_4 U2_4 ?_
    refine r_aload_n f23_52 rfl ?_
    refine r_getI f23_53 o23 F2_25 g55_4 rfl ?_
    refine r_top (e := m 55 4 + 1) (by rw [zu_if, if_pos (by omega)]) ?_
    exact r_iret f23_56 v23 ⟨zs_eq (by rw [if_neg (by omega)]), by rw [if_neg (by omega)]⟩
  · refine r_bipush f23_9 (by decide) ?_
    exact r_iret f23_11 v23 ⟨zs_eq (by rw [if_pos (by omega)]), by rw [if_pos (by omega)]⟩

theorem t_write {L d : Nat} {m : zmem} (n0 : 0 ≤ m 60 2) (n1 : m 60 2 ≤ 20) {a b : Int} : zF L (d) 27 [.inr (.inl (some 60)), .inl a, .inl b] m (some (.inl (if 20 ≤ m 60 2 then -4 else m 60 2 + 1))) (if 20 ≤ m 60 2 then m else (zu (zu (zu m 61 (m 60 2) a) 62 (m 60 2) b) 60 2 (m 60 2 + 1))) := by
  refine zF_of n27 (ls := [some (.inr (.inl (some 60))), some (.inl a), some (.inl b)]) rfl ?_
  refine r_aload_n f27_0 rfl ?_
  refine r_getI f27_1 o27 F3_18 g60_2 rfl ?_
  refine r_bipush f27_4 (by decide) ?_
  refine r_clt f27_6 (t := 12) (by decide) (fun q1 => ?_) (fun q1 => ?_)
  · refine r_aload_n f27_12 rfl ?_
    refine r_getR f27_13 o27 F3_9 g60_0 rfl ?_
    refine r_aload_n f27_16 rfl ?_
    refine r_getI f27_17 o27 F3_18 g60_2 rfl ?_
    refine r_iload_n f27_20 rfl ?_
    refine r_iast f27_21 kd61 (by omega) (by omega) (by omega) ?_
    refine r_aload_n f27_22 rfl ?_
    refine r_getR f27_23 o27 F3_15 g60_1 rfl ?_
    refine r_aload_n f27_26 rfl ?_
    refine r_getI f27_27 o27 F3_18 g60_2 rfl ?_
    refine r_top (e := m 60 2) (by rw [zu_if, if_neg (by omega)]) ?_
    refine r_iload_n f27_30 rfl ?_
    refine r_iast f27_31 kd62 (by omega) (by omega) (by omega) ?_
    refine r_aload_n f27_32 rfl ?_
    refine r_dupR f27_33 ?_
    refine r_getI f27_34 o27 F3_18 g60_2 rfl ?_
    refine r_top (e := m 60 2) (by rw [zu_if, if_neg (by omega), zu_if, if_neg (by omega)]) ?_
    refine r_iconst f27_37 rfl ?_
    refine r_iadd f27_38 (e := m 60 2 + 1) (by omega) (by omega) (by omega) ?_
    refine r_put f27_39 o27 F3_18 g60_2 rfl T3_2 U3_2 ?_
    refine r_aload_n f27_42 rfl ?_
    refine r_getI f27_43 o27 F3_18 g60_2 rfl ?_
    refine r_top (e := m 60 2 + 1) (by rw [zu_if, if_pos (by omega)]) ?_
    exact r_iret f27_46 v27 ⟨zs_eq (by rw [if_neg (by omega)]), by rw [if_neg (by omega)]⟩
  · refine r_bipush f27_9 (by decide) ?_
    exact r_iret f27_11 v27 ⟨zs_eq (by rw [if_pos (by omega)]), by rw [if_pos (by omega)]⟩

def zstP (nt : Int → Int) (u k b : Int) : Int := if nt k ≤ u ∧ (b = -1 ∨ nt b ≤ nt k) then k else b
theorem zstP_two (nt : Int → Int) (u k b : Int) : zstP nt u k b = k ∨ zstP nt u k b = b := by
  unfold zstP; split
  · exact Or.inl rfl
  · exact Or.inr rfl
theorem l_pay {L d : Nat} {m : zmem} (n0 : 0 ≤ m 60 2) (n1 : m 60 2 ≤ 20) {u : Int} {Q : Option zV → zM → Prop} (hx : zR (d) 28 50 [some (.inr (.inl (some 60))), some (.inl u), some (.inl (zfd (zstP (m 61) u) (-1) (m 60 2))), some (.inl (m 60 2))] [] (zem L m) Q) : ∀ (n : Nat) (i : Int), 0 ≤ i → i + n = m 60 2 → zR (d) 28 4 [some (.inr (.inl (some 60))), some (.inl u), some (.inl (zfd (zstP (m 61) u) (-1) i)), some (.inl i)] [] (zem L m) Q := by
  intro n
  induction n with
  | zero =>
    intro i hi hn
    have ei : i = m 60 2 := by omega
    rw [ei]
    refine r_iload_n f28_4 rfl ?_
    refine r_aload_n f28_5 rfl ?_
    refine r_getI f28_6 o28 F3_18 g60_2 rfl ?_
    refine r_cge f28_9 (t := 50) (by decide) (fun _ => ?_) (fun h => absurd (by omega) h)
    exact hx
  | succ n ih =>
    intro i hi hn
    have hb := zfd_in (f := zstP (m 61) u) (zstP_two _ _) hi
    refine r_iload_n f28_4 rfl ?_
    refine r_aload_n f28_5 rfl ?_
    refine r_getI f28_6 o28 F3_18 g60_2 rfl ?_
    refine r_cge f28_9 (t := 50) (by decide) (fun h => absurd h (by omega)) (fun _ => ?_)
    refine r_aload_n f28_12 rfl ?_
    refine r_getR f28_13 o28 F3_9 g60_0 rfl ?_
    refine r_iload_n f28_16 rfl ?_
    refine r_iald f28_17 kd61 (by omega) (by omega) ?_
    refine r_iload_n f28_18 rfl ?_
    refine r_cgt f28_19 (t := 44) (by decide) (fun q1 => ?_) (fun q1 => ?_)
    · refine r_iinc f28_44 rfl rfl rfl (e := i + 1) (by omega) (by omega) (by omega) (ls' := [some (.inr (.inl (some 60))), some (.inl u), some (.inl (zfd (zstP (m 61) u) (-1) i)), some (.inl (i + 1))]) rfl ?_
      refine r_goto f28_47 (t := 4) (by decide) ?_
      refine r_setI (k := 2) (a := zfd (zstP (m 61) u) (-1) i) (e := zfd (zstP (m 61) u) (-1) (i + 1)) (by rw [zfd_s (by omega)]; first | exact (if_pos (by omega)).symm | exact (if_neg (by omega)).symm) rfl (ls' := [some (.inr (.inl (some 60))), some (.inl u), some (.inl (zfd (zstP (m 61) u) (-1) (i + 1))), some (.inl (i + 1))]) rfl ?_
      exact ih (i + 1) (by omega) (by omega)
    · refine r_iload_n f28_22 rfl ?_
      refine r_iconst f28_23 rfl ?_
      refine r_ceq f28_24 (t := 42) (by decide) (fun q2 => ?_) (fun q2 => ?_)
      · refine r_iload_n f28_42 rfl ?_
        refine r_istore_n f28_43 rfl (ls' := [some (.inr (.inl (some 60))), some (.inl u), some (.inl i), some (.inl i)]) rfl ?_
        refine r_iinc f28_44 rfl rfl rfl (e := i + 1) (by omega) (by omega) (by omega) (ls' := [some (.inr (.inl (some 60))), some (.inl u), some (.inl i), some (.inl (i + 1))]) rfl ?_
        refine r_goto f28_47 (t := 4) (by decide) ?_
        refine r_setI (k := 2) (a := i) (e := zfd (zstP (m 61) u) (-1) (i + 1)) (by rw [zfd_s (by omega)]; first | exact (if_pos (by omega)).symm | exact (if_neg (by omega)).symm) rfl (ls' := [some (.inr (.inl (some 60))), some (.inl u), some (.inl (zfd (zstP (m 61) u) (-1) (i + 1))), some (.inl (i + 1))]) rfl ?_
        exact ih (i + 1) (by omega) (by omega)
      · refine r_aload_n f28_27 rfl ?_
        refine r_getR f28_28 o28 F3_9 g60_0 rfl ?_
        refine r_iload_n f28_31 rfl ?_
        refine r_iald f28_32 kd61 (by omega) (by omega) ?_
        refine r_aload_n f28_33 rfl ?_
        refine r_getR f28_34 o28 F3_9 g60_0 rfl ?_
        refine r_iload_n f28_37 rfl ?_
        refine r_iald f28_38 kd61 (by omega) (by omega) ?_
        refine r_clt f28_39 (t := 44) (by decide) (fun q3 => ?_) (fun q3 => ?_)
        · refine r_iinc f28_44 rfl rfl rfl (e := i + 1) (by omega) (by omega) (by omega) (ls' := [some (.inr (.inl (some 60))), some (.inl u), some (.inl (zfd (zstP (m 61) u) (-1) i)), some (.inl (i + 1))]) rfl ?_
          refine r_goto f28_47 (t := 4) (by decide) ?_
          refine r_setI (k := 2) (a := zfd (zstP (m 61) u) (-1) i) (e := zfd (zstP (m 61) u) (-1) (i + 1)) (by rw [zfd_s (by omega)]; first | exact (if_pos (by omega)).symm | exact (if_neg (by omega)).symm) rfl (ls' := [some (.inr (.inl (some 60))), some (.inl u), some (.inl (zfd (zstP (m 61) u) (-1) (i + 1))), some (.inl (i + 1))]) rfl ?_
          exact ih (i + 1) (by omega) (by omega)
        · refine r_iload_n f28_42 rfl ?_
          refine r_istore_n f28_43 rfl (ls' := [some (.inr (.inl (some 60))), some (.inl u), some (.inl i), some (.inl i)]) rfl ?_
          refine r_iinc f28_44 rfl rfl rfl (e := i + 1) (by omega) (by omega) (by omega) (ls' := [some (.inr (.inl (some 60))), some (.inl u), some (.inl i), some (.inl (i + 1))]) rfl ?_
          refine r_goto f28_47 (t := 4) (by decide) ?_
          refine r_setI (k := 2) (a := i) (e := zfd (zstP (m 61) u) (-1) (i + 1)) (by rw [zfd_s (by omega)]; first | exact (if_pos (by omega)).symm | exact (if_neg (by omega)).symm) rfl (ls' := [some (.inr (.inl (some 60))), some (.inl u), some (.inl (zfd (zstP (m 61) u) (-1) (i + 1))), some (.inl (i + 1))]) rfl ?_
          exact ih (i + 1) (by omega) (by omega)

theorem t_pay {L d : Nat} {m : zmem} (n0 : 0 ≤ m 60 2) (n1 : m 60 2 ≤ 20) {u : Int} : zF L (d) 28 [.inr (.inl (some 60)), .inl u] m (some (.inl (if zfd (zstP (m 61) u) (-1) (m 60 2) = -1 then 0 else m 62 (zfd (zstP (m 61) u) (-1) (m 60 2))))) m := by
  have hb := zfd_in (f := zstP (m 61) u) (i := m 60 2) (zstP_two _ _) n0
  refine zF_of n28 (ls := [some (.inr (.inl (some 60))), some (.inl u), none, none]) rfl ?_
  refine r_iconst f28_0 rfl ?_
  refine r_istore_n f28_1 rfl (ls' := [some (.inr (.inl (some 60))), some (.inl u), some (.inl (-1)), none]) rfl ?_
  refine r_iconst f28_2 rfl ?_
  refine r_istore_n f28_3 rfl (ls' := [some (.inr (.inl (some 60))), some (.inl u), some (.inl (-1)), some (.inl 0)]) rfl ?_
  refine l_pay n0 n1 ?_ (m 60 2).toNat 0 (by omega) (by omega)
  refine r_iload_n f28_50 rfl ?_
  refine r_iconst f28_51 rfl ?_
  refine r_cne f28_52 (t := 59) (by decide) (fun q1 => ?_) (fun q1 => ?_)
  · refine r_aload_n f28_59 rfl ?_
    refine r_getR f28_60 o28 F3_15 g60_1 rfl ?_
    refine r_iload_n f28_63 rfl ?_
    refine r_iald f28_64 kd62 (by omega) (by omega) ?_
    exact r_iret f28_65 v28 ⟨zs_eq (by first | rfl | omega | (repeat (first | rw [if_pos (by omega)] | rw [if_neg (by omega)]))), rfl⟩
  · refine r_iconst f28_55 rfl ?_
    refine r_goto f28_56 (t := 65) (by decide) ?_
    exact r_iret f28_65 v28 ⟨zs_eq (by first | rfl | omega | (repeat (first | rw [if_pos (by omega)] | rw [if_neg (by omega)]))), rfl⟩

abbrev XBu (m : zmem) (a b e f : Int) : zmem := (zu (zu (zfu (zfu (zfu m (m 1 1) 0 a 40) (m 1 1) 1 b 40) (m 1 1) 2 e 40) (3 + 4 * m 1 1) 3 f) 1 1 (m 1 1 + 1))
theorem t_build {L d : Nat} {m : zmem} (n0 : 0 ≤ m 1 1) (n1 : m 1 1 ≤ 12) {a b e f : Int} : zF L (d + 1) 31 [.inr (.inl (some 1)), .inl a, .inl b, .inl e, .inl f] m (some (.inl (if 12 ≤ m 1 1 then -4 else m 1 1))) (if 12 ≤ m 1 1 then m else XBu m a b e f) := by
  refine zF_of n31 (ls := [some (.inr (.inl (some 1))), some (.inl a), some (.inl b), some (.inl e), some (.inl f), none]) rfl ?_
  refine r_aload_n f31_0 rfl ?_
  refine r_getI f31_1 o31 F4_18 g1_1 rfl ?_
  refine r_bipush f31_4 (by decide) ?_
  refine r_clt f31_6 (t := 12) (by decide) (fun q1 => ?_) (fun q1 => ?_)
  · refine r_aload_n f31_12 rfl ?_
    refine r_getR f31_13 o31 F4_11 g1_0 rfl ?_
    refine r_aload_n f31_16 rfl ?_
    refine r_getI f31_17 o31 F4_18 g1_1 rfl ?_
    refine r_aldH f31_20 (by omega) (by omega) ?_
    refine r_astore f31_21 rfl (ls' := [some (.inr (.inl (some 1))), some (.inl a), some (.inl b), some (.inl e), some (.inl f), some (.inr (.inl (some (3 + 4 * (m 1 1)))))]) rfl ?_
    refine r_aload f31_23 rfl ?_
    refine r_iconst f31_25 rfl ?_
    refine r_iload_n f31_26 rfl ?_
    refine r_callv2u f31_27 o31 M4_26 p13 o13 (kdH0 (h := m 1 1) (by omega) (by omega)) rfl (by simp) (t_furnish (h := m 1 1) (e := 0) (v := a) (by omega) (by omega) (by omega) (by omega)) ?_
    refine r_aload f31_30 rfl ?_
    refine r_iconst f31_32 rfl ?_
    refine r_iload_n f31_33 rfl ?_
    refine r_callv2u f31_34 o31 M4_26 p13 o13 (kdH0 (h := m 1 1) (by omega) (by omega)) rfl (by simp) (t_furnish (h := m 1 1) (e := 1) (v := b) (by omega) (by omega) (by omega) (by omega)) ?_
    refine r_aload f31_37 rfl ?_
    refine r_iconst f31_39 rfl ?_
    refine r_iload_n f31_40 rfl ?_
    refine r_callv2u f31_41 o31 M4_26 p13 o13 (kdH0 (h := m 1 1) (by omega) (by omega)) rfl (by simp) (t_furnish (h := m 1 1) (e := 2) (v := e) (by omega) (by omega) (by omega) (by omega)) ?_
    refine r_aload f31_44 rfl ?_
    refine r_iload f31_46 rfl ?_
    refine r_put f31_48 o31 F4_30 (gH_3 (h := m 1 1) (by omega) (by omega)) rfl T1_3 U1_3 ?_
    refine r_aload_n f31_51 rfl ?_
    refine r_dupR f31_52 ?_
    refine r_getI f31_53 o31 F4_18 g1_1 rfl ?_
    refine r_top (e := m 1 1) (by simp only [zu_if, zfu]; (repeat (first | rw [if_neg (by omega)]))) ?_
    refine r_iconst f31_56 rfl ?_
    refine r_iadd f31_57 (e := m 1 1 + 1) (by omega) (by omega) (by omega) ?_
    refine r_put f31_58 o31 F4_18 g1_1 rfl T4_1 U4_1 ?_
    refine r_aload_n f31_61 rfl ?_
    refine r_getI f31_62 o31 F4_18 g1_1 rfl ?_
    refine r_top (e := m 1 1 + 1) (by rw [zu_if, if_pos (by omega)]) ?_
    refine r_iconst f31_65 rfl ?_
    refine r_isub f31_66 (e := m 1 1) (by omega) (by omega) (by omega) ?_
    exact r_iret f31_67 v31 ⟨zs_eq (by rw [if_neg (by omega)]), by rw [if_neg (by omega)]⟩
  · refine r_bipush f31_9 (by decide) ?_
    exact r_iret f31_11 v31 ⟨zs_eq (by rw [if_pos (by omega)]), by rw [if_pos (by omega)]⟩

abbrev XJn (m : zmem) (a b e : Int) : zmem := zu (zu (zu m (6 + 4 * a) b e) (6 + 4 * b) a e) 1 2 (m 1 2 + 1)
theorem t_join {L d : Nat} {m : zmem} {a b e : Int} (a0 : 0 ≤ a) (a1 : a < 12) (b0 : 0 ≤ b) (b1 : b < 12) (n0 : 0 ≤ m 1 2) (n1 : m 1 2 ≤ 40) : zF L (d) 32 [.inr (.inl (some 1)), .inl a, .inl b, .inl e] m (some (.inl (if 40 ≤ m 1 2 then -4 else m 1 2 + 1))) (if 40 ≤ m 1 2 then m else XJn m a b e) := by
  refine zF_of n32 (ls := [some (.inr (.inl (some 1))), some (.inl a), some (.inl b), some (.inl e)]) rfl ?_
  refine r_aload_n f32_0 rfl ?_
  refine r_getI f32_1 o32 F4_33 g1_2 rfl ?_
  refine r_bipush f32_4 (by decide) ?_
  refine r_clt f32_6 (t := 12) (by decide) (fun q1 => ?_) (fun q1 => ?_)
  · refine r_aload_n f32_12 rfl ?_
    refine r_getR f32_13 o32 F4_11 g1_0 rfl ?_
    refine r_iload_n f32_16 rfl ?_
    refine r_aldH f32_17 (by omega) (by omega) ?_
    refine r_getR f32_18 o32 F4_36 (gH_2 (h := a) (by omega) (by omega)) rfl ?_
    refine r_iload_n f32_21 rfl ?_
    refine r_iload_n f32_22 rfl ?_
    refine r_iast f32_23 (kdH3 (h := a) (by omega) (by omega)) (by omega) (by omega) (by omega) ?_
    refine r_aload_n f32_24 rfl ?_
    refine r_getR f32_25 o32 F4_11 g1_0 rfl ?_
    refine r_iload_n f32_28 rfl ?_
    refine r_aldH f32_29 (by omega) (by omega) ?_
    refine r_getR f32_30 o32 F4_36 (gH_2 (h := b) (by omega) (by omega)) rfl ?_
    refine r_iload_n f32_33 rfl ?_
    refine r_iload_n f32_34 rfl ?_
    refine r_iast f32_35 (kdH3 (h := b) (by omega) (by omega)) (by omega) (by omega) (by omega) ?_
    refine r_aload_n f32_36 rfl ?_
    refine r_dupR f32_37 ?_
    refine r_getI f32_38 o32 F4_33 g1_2 rfl ?_
    refine r_top (e := m 1 2) (by rw [zu_if, if_neg (by omega), zu_if, if_neg (by omega)]) ?_
    refine r_iconst f32_41 rfl ?_
    refine r_iadd f32_42 (e := m 1 2 + 1) (by omega) (by omega) (by omega) ?_
    refine r_put f32_43 o32 F4_33 g1_2 rfl T4_2 U4_2 ?_
    refine r_aload_n f32_46 rfl ?_
    refine r_getI f32_47 o32 F4_33 g1_2 rfl ?_
    refine r_top (e := m 1 2 + 1) (by rw [zu_if, if_pos (by omega)]) ?_
    exact r_iret f32_50 v32 ⟨zs_eq (by rw [if_neg (by omega)]), by rw [if_neg (by omega)]⟩
  · refine r_bipush f32_9 (by decide) ?_
    exact r_iret f32_11 v32 ⟨zs_eq (by rw [if_pos (by omega)]), by rw [if_pos (by omega)]⟩

abbrev XJ (m : zmem) (a b : Int) : Prop := a = b ∨ 0 < m (6 + 4 * a) b
theorem t_joined {L d : Nat} {m : zmem} {a b : Int} (a0 : 0 ≤ a) (a1 : a < 12) (b0 : 0 ≤ b) (b1 : b < 12) : zF L (d) 33 [.inr (.inl (some 1)), .inl a, .inl b] m (some (.inl (if XJ m a b then 1 else 0))) m := by
  refine zF_of n33 (ls := [some (.inr (.inl (some 1))), some (.inl a), some (.inl b)]) rfl ?_
  refine r_iload_n f33_0 rfl ?_
  refine r_iload_n f33_1 rfl ?_
  refine r_ceq f33_2 (t := 19) (by decide) (fun q1 => ?_) (fun q1 => ?_)
  · refine r_iconst f33_19 rfl ?_
    refine r_goto f33_20 (t := 24) (by decide) ?_
    exact r_zret f33_24 v33 (by omega) ⟨zs_eq (by first | rfl | omega | (repeat (first | rw [if_pos (by omega)] | rw [if_neg (by omega)]))), rfl⟩
  · refine r_aload_n f33_5 rfl ?_
    refine r_getR f33_6 o33 F4_11 g1_0 rfl ?_
    refine r_iload_n f33_9 rfl ?_
    refine r_aldH f33_10 (by omega) (by omega) ?_
    refine r_getR f33_11 o33 F4_36 (gH_2 (h := a) (by omega) (by omega)) rfl ?_
    refine r_iload_n f33_14 rfl ?_
    refine r_iald f33_15 (kdH3 (h := a) (by omega) (by omega)) (by omega) (by omega) ?_
    refine r_zle f33_16 (t := 23) (by decide) (fun q2 => ?_) (fun q2 => ?_)
    · refine r_iconst f33_23 rfl ?_
      exact r_zret f33_24 v33 (by omega) ⟨zs_eq (by first | rfl | omega | (repeat (first | rw [if_pos (by omega)] | rw [if_neg (by omega)]))), rfl⟩
    · refine r_iconst f33_19 rfl ?_
      refine r_goto f33_20 (t := 24) (by decide) ?_
      exact r_zret f33_24 v33 (by omega) ⟨zs_eq (by first | rfl | omega | (repeat (first | rw [if_pos (by omega)] | rw [if_neg (by omega)]))), rfl⟩

