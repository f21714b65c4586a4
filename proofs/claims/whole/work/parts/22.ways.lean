abbrev XBr (m : zmem) (c i : Int) : Prop := ¬ ((i = 0 ∨ XJ m (m (65 + 5 * c) (i - 1)) (m (65 + 5 * c) i)) ∧ XR m (m (65 + 5 * c) i) (i + m (64 + 5 * c) 5) (m (64 + 5 * c) 4))
theorem l_firstBar {L d : Nat} {m : zmem} {c : Int} (c0 : 0 ≤ c) (c1 : c < 40) (f0 : 0 ≤ m (64 + 5 * c) 5) (f1 : m (64 + 5 * c) 5 ≤ 39) (l0 : 1 ≤ m (64 + 5 * c) 6) (l1 : m (64 + 5 * c) 6 ≤ 7) (l2 : m (64 + 5 * c) 5 + m (64 + 5 * c) 6 ≤ 40) (n0 : 0 ≤ m 1 1) (n1 : m 1 1 ≤ 12) (hw : ∀ k, 0 ≤ k → k < m (64 + 5 * c) 6 → 0 ≤ m (65 + 5 * c) k ∧ m (65 + 5 * c) k < m 1 1) (hf : ∀ h k, 0 ≤ h → h < 12 → 0 ≤ k → k < 120 → 0 ≤ m (4 + 4 * h) k ∧ m (4 + 4 * h) k ≤ 9) : ∀ (n : Nat) (i : Int), 0 ≤ i → i + n = m (64 + 5 * c) 6 → zR (d + 2) 34 2 [some (.inr (.inl (some 1))), some (.inr (.inl (some (64 + 5 * c)))), some (.inl i), none] [] (zem L m) (fun r M => r = some (.inl (zff (XBr m c) i n)) ∧ M = zem L m) := by
  intro n
  induction n with
  | zero =>
    intro i hi hn
    refine r_iload_n f34_2 rfl ?_
    refine r_aload_n f34_3 rfl ?_
    refine r_getI f34_4 o34 F4_40 (gC_6 (c := c) (by omega) (by omega)) rfl ?_
    refine r_cge f34_7 (t := 80) (by decide) (fun _ => ?_) (fun h => absurd (by omega) h)
    refine r_iconst f34_80 rfl ?_
    exact r_iret f34_81 v34 ⟨rfl, rfl⟩
  | succ n ih =>
    intro i hi hn
    have w0 := hw i (by omega) (by omega)
    have w1 : 0 < i → 0 ≤ m (65 + 5 * c) (i - 1) ∧ m (65 + 5 * c) (i - 1) < m 1 1 := fun h => hw (i - 1) (by omega) (by omega)
    refine r_iload_n f34_2 rfl ?_
    refine r_aload_n f34_3 rfl ?_
    refine r_getI f34_4 o34 F4_40 (gC_6 (c := c) (by omega) (by omega)) rfl ?_
    refine r_cge f34_7 (t := 80) (by decide) (fun h => absurd h (by omega)) (fun _ => ?_)
    refine r_iload_n f34_10 rfl ?_
    refine r_zeq f34_11 (t := 35) (by decide) (fun q1 => ?_) (fun q1 => ?_)
    · refine r_iconst f34_35 rfl ?_
      refine r_goto f34_36 (t := 40) (by decide) ?_
      refine r_istore_n f34_40 rfl (ls' := [some (.inr (.inl (some 1))), some (.inr (.inl (some (64 + 5 * c)))), some (.inl i), some (.inl 1)]) rfl ?_
      refine r_iload_n f34_41 rfl ?_
      refine r_zeq f34_42 (t := 72) (by decide) (fun h => absurd h (by omega)) (fun _ => ?_)
      refine r_aload_n f34_45 rfl ?_
      refine r_getR f34_46 o34 F4_11 g1_0 rfl ?_
      refine r_aload_n f34_49 rfl ?_
      refine r_getR f34_50 o34 F4_45 (gC_0 (c := c) (by omega) (by omega)) rfl ?_
      refine r_iload_n f34_53 rfl ?_
      refine r_iald f34_54 (kdC1 (c := c) (by omega) (by omega)) (by omega) (by omega) ?_
      refine r_aldH f34_55 (by omega) (by omega) ?_
      refine r_aload_n f34_56 rfl ?_
      refine r_getI f34_57 o34 F4_52 (gC_5 (c := c) (by omega) (by omega)) rfl ?_
      refine r_iload_n f34_60 rfl ?_
      refine r_iadd f34_61 (e := i + m (64 + 5 * c) 5) (by omega) (by omega) (by omega) ?_
      refine r_aload_n f34_62 rfl ?_
      refine r_getI f34_63 o34 F4_55 (gC_4 (c := c) (by omega) (by omega)) rfl ?_
      refine r_callv2i f34_66 o34 M4_58 p15 o15 (kdH0 (h := m (65 + 5 * c) i) (by omega) (by omega)) rfl (by simp) (t_hasRoom (h := m (65 + 5 * c) i) (t := i + m (64 + 5 * c) 5) (n := m (64 + 5 * c) 4) (by omega) (by omega) (by omega) (by omega) (fun k a b => hf (m (65 + 5 * c) i) k (by omega) (by omega) a b)) ?_
      refine r_ite (fun q2 => ?_) (fun q2 => ?_)
      · refine r_zne f34_69 (t := 74) (by decide) (fun _ => ?_) (fun h => absurd (by omega) h)
        refine r_iinc f34_74 rfl rfl rfl (e := i + 1) (by omega) (by omega) (by omega) (ls' := [some (.inr (.inl (some 1))), some (.inr (.inl (some (64 + 5 * c)))), some (.inl (i + 1)), some (.inl 1)]) rfl ?_
        refine r_goto f34_77 (t := 2) (by decide) ?_
        refine r_forget (ls' := [some (.inr (.inl (some 1))), some (.inr (.inl (some (64 + 5 * c)))), some (.inl (i + 1)), none]) ⟨Or.inl rfl, ⟨Or.inl rfl, ⟨Or.inl rfl, ⟨Or.inr ⟨rfl, rfl⟩, trivial⟩⟩⟩⟩ ?_
        refine zR_im (ih (i + 1) (by omega) (by omega)) (fun r M h => ?_)
        rw [zff, if_neg (by omega)]
        exact h
      · refine r_zne f34_69 (t := 74) (by decide) (fun h => absurd h (by omega)) (fun _ => ?_)
        refine r_iload_n f34_72 rfl ?_
        exact r_iret f34_73 v34 ⟨zs_eq (by rw [zff, if_pos (by omega)]), rfl⟩
    · refine r_aload_n f34_14 rfl ?_
      refine r_aload_n f34_15 rfl ?_
      refine r_getR f34_16 o34 F4_45 (gC_0 (c := c) (by omega) (by omega)) rfl ?_
      refine r_iload_n f34_19 rfl ?_
      refine r_iconst f34_20 rfl ?_
      refine r_isub f34_21 (e := i - 1) (by omega) (by omega) (by omega) ?_
      refine r_iald f34_22 (kdC1 (c := c) (by omega) (by omega)) (by omega) (by omega) ?_
      refine r_aload_n f34_23 rfl ?_
      refine r_getR f34_24 o34 F4_45 (gC_0 (c := c) (by omega) (by omega)) rfl ?_
      refine r_iload_n f34_27 rfl ?_
      refine r_iald f34_28 (kdC1 (c := c) (by omega) (by omega)) (by omega) (by omega) ?_
      refine r_callv2i f34_29 o34 M4_48 p33 o33 kd1 rfl (by simp) (t_joined (a := m (65 + 5 * c) (i - 1)) (b := m (65 + 5 * c) i) (by omega) (by omega) (by omega) (by omega)) ?_
      refine r_ite (fun q3 => ?_) (fun q3 => ?_)
      · refine r_zeq f34_32 (t := 39) (by decide) (fun h => absurd h (by omega)) (fun _ => ?_)
        refine r_iconst f34_35 rfl ?_
        refine r_goto f34_36 (t := 40) (by decide) ?_
        refine r_istore_n f34_40 rfl (ls' := [some (.inr (.inl (some 1))), some (.inr (.inl (some (64 + 5 * c)))), some (.inl i), some (.inl 1)]) rfl ?_
        refine r_iload_n f34_41 rfl ?_
        refine r_zeq f34_42 (t := 72) (by decide) (fun h => absurd h (by omega)) (fun _ => ?_)
        refine r_aload_n f34_45 rfl ?_
        refine r_getR f34_46 o34 F4_11 g1_0 rfl ?_
        refine r_aload_n f34_49 rfl ?_
        refine r_getR f34_50 o34 F4_45 (gC_0 (c := c) (by omega) (by omega)) rfl ?_
        refine r_iload_n f34_53 rfl ?_
        refine r_iald f34_54 (kdC1 (c := c) (by omega) (by omega)) (by omega) (by omega) ?_
        refine r_aldH f34_55 (by omega) (by omega) ?_
        refine r_aload_n f34_56 rfl ?_
        refine r_getI f34_57 o34 F4_52 (gC_5 (c := c) (by omega) (by omega)) rfl ?_
        refine r_iload_n f34_60 rfl ?_
        refine r_iadd f34_61 (e := i + m (64 + 5 * c) 5) (by omega) (by omega) (by omega) ?_
        refine r_aload_n f34_62 rfl ?_
        refine r_getI f34_63 o34 F4_55 (gC_4 (c := c) (by omega) (by omega)) rfl ?_
        refine r_callv2i f34_66 o34 M4_58 p15 o15 (kdH0 (h := m (65 + 5 * c) i) (by omega) (by omega)) rfl (by simp) (t_hasRoom (h := m (65 + 5 * c) i) (t := i + m (64 + 5 * c) 5) (n := m (64 + 5 * c) 4) (by omega) (by omega) (by omega) (by omega) (fun k a b => hf (m (65 + 5 * c) i) k (by omega) (by omega) a b)) ?_
        refine r_ite (fun q4 => ?_) (fun q4 => ?_)
        · refine r_zne f34_69 (t := 74) (by decide) (fun _ => ?_) (fun h => absurd (by omega) h)
          refine r_iinc f34_74 rfl rfl rfl (e := i + 1) (by omega) (by omega) (by omega) (ls' := [some (.inr (.inl (some 1))), some (.inr (.inl (some (64 + 5 * c)))), some (.inl (i + 1)), some (.inl 1)]) rfl ?_
          refine r_goto f34_77 (t := 2) (by decide) ?_
          refine r_forget (ls' := [some (.inr (.inl (some 1))), some (.inr (.inl (some (64 + 5 * c)))), some (.inl (i + 1)), none]) ⟨Or.inl rfl, ⟨Or.inl rfl, ⟨Or.inl rfl, ⟨Or.inr ⟨rfl, rfl⟩, trivial⟩⟩⟩⟩ ?_
          refine zR_im (ih (i + 1) (by omega) (by omega)) (fun r M h => ?_)
          rw [zff, if_neg (by omega)]
          exact h
        · refine r_zne f34_69 (t := 74) (by decide) (fun h => absurd h (by omega)) (fun _ => ?_)
          refine r_iload_n f34_72 rfl ?_
          exact r_iret f34_73 v34 ⟨zs_eq (by rw [zff, if_pos (by omega)]), rfl⟩
      · refine r_zeq f34_32 (t := 39) (by decide) (fun _ => ?_) (fun h => absurd (by omega) h)
        refine r_iconst f34_39 rfl ?_
        refine r_istore_n f34_40 rfl (ls' := [some (.inr (.inl (some 1))), some (.inr (.inl (some (64 + 5 * c)))), some (.inl i), some (.inl 0)]) rfl ?_
        refine r_iload_n f34_41 rfl ?_
        refine r_zeq f34_42 (t := 72) (by decide) (fun _ => ?_) (fun h => absurd (by omega) h)
        refine r_iload_n f34_72 rfl ?_
        exact r_iret f34_73 v34 ⟨zs_eq (by rw [zff, if_pos (by omega)]), rfl⟩

theorem t_firstBar {L d : Nat} {m : zmem} {c : Int} (c0 : 0 ≤ c) (c1 : c < 40) (f0 : 0 ≤ m (64 + 5 * c) 5) (f1 : m (64 + 5 * c) 5 ≤ 39) (l0 : 1 ≤ m (64 + 5 * c) 6) (l1 : m (64 + 5 * c) 6 ≤ 7) (l2 : m (64 + 5 * c) 5 + m (64 + 5 * c) 6 ≤ 40) (n0 : 0 ≤ m 1 1) (n1 : m 1 1 ≤ 12) (hw : ∀ k, 0 ≤ k → k < m (64 + 5 * c) 6 → 0 ≤ m (65 + 5 * c) k ∧ m (65 + 5 * c) k < m 1 1) (hf : ∀ h k, 0 ≤ h → h < 12 → 0 ≤ k → k < 120 → 0 ≤ m (4 + 4 * h) k ∧ m (4 + 4 * h) k ≤ 9)  : zF L (d + 2) 34 [.inr (.inl (some 1)), .inr (.inl (some (64 + 5 * c)))] m (some (.inl (zff (XBr m c) 0 (m (64 + 5 * c) 6).toNat))) m := by
  refine zF_of n34 (ls := [some (.inr (.inl (some 1))), some (.inr (.inl (some (64 + 5 * c)))), none, none]) rfl ?_
  refine r_iconst f34_0 rfl ?_
  refine r_istore_n f34_1 rfl (ls' := [some (.inr (.inl (some 1))), some (.inr (.inl (some (64 + 5 * c)))), some (.inl 0), none]) rfl ?_
  exact l_firstBar c0 c1 f0 f1 l0 l1 l2 n0 n1 hw hf (m (64 + 5 * c) 6).toNat 0 (by omega) (by omega)

def XMf (m : zmem) (c k : Int) : Int := if 1 ≤ k ∧ ¬ m (68 + 5 * c) (k - 1) = 0 ∧ ¬ m (68 + 5 * c) k = 0 then m (6 + 4 * m (65 + 5 * c) (k - 1)) (m (65 + 5 * c) k) else 0
theorem l_miles {L d : Nat} {m : zmem} {c : Int} (c0 : 0 ≤ c) (c1 : c < 40) (f0 : 0 ≤ m (64 + 5 * c) 5) (f1 : m (64 + 5 * c) 5 ≤ 39) (l0 : 1 ≤ m (64 + 5 * c) 6) (l1 : m (64 + 5 * c) 6 ≤ 7) (l2 : m (64 + 5 * c) 5 + m (64 + 5 * c) 6 ≤ 40) (n0 : 0 ≤ m 1 1) (n1 : m 1 1 ≤ 12) (hw : ∀ k, 0 ≤ k → k < m (64 + 5 * c) 6 → 0 ≤ m (65 + 5 * c) k ∧ m (65 + 5 * c) k < m 1 1) (hm : ∀ a b, 0 ≤ a → a < 12 → 0 ≤ b → b < 12 → 0 ≤ m (6 + 4 * a) b ∧ m (6 + 4 * a) b ≤ 40)  {Q : Option zV → zM → Prop} (hx : zR (d) 35 64 [some (.inr (.inl (some 1))), some (.inr (.inl (some (64 + 5 * c)))), some (.inl (zsum (XMf m c) (m (64 + 5 * c) 6))), some (.inl (m (64 + 5 * c) 6))] [] (zem L m) Q) : ∀ (n : Nat) (i : Int), 1 ≤ i → i + n = m (64 + 5 * c) 6 → zR (d) 35 4 [some (.inr (.inl (some 1))), some (.inr (.inl (some (64 + 5 * c)))), some (.inl (zsum (XMf m c) i)), some (.inl i)] [] (zem L m) Q := by
  intro n
  induction n with
  | zero =>
    intro i hi hn
    have ei : i = m (64 + 5 * c) 6 := by omega
    rw [ei]
    refine r_iload_n f35_4 rfl ?_
    refine r_aload_n f35_5 rfl ?_
    refine r_getI f35_6 o35 F4_40 (gC_6 (c := c) (by omega) (by omega)) rfl ?_
    refine r_cge f35_9 (t := 64) (by decide) (fun _ => ?_) (fun h => absurd (by omega) h)
    exact hx
  | succ n ih =>
    intro i hi hn
    have w0 := hw i (by omega) (by omega)
    have w1 : 0 < i → 0 ≤ m (65 + 5 * c) (i - 1) ∧ m (65 + 5 * c) (i - 1) < m 1 1 := fun h => hw (i - 1) (by omega) (by omega)
    have hz := zsum_b (f := XMf m c) (A := 0) (B := 40) (n := i) (by omega) (fun k a b => by
      have w2 := hw k (by omega) (by omega)
      unfold XMf
      split
      · next e =>
        have w3 := hw (k - 1) (by omega) (by omega)
        exact hm _ _ (by omega) (by omega) (by omega) (by omega)
      · omega)
    have wm := hm (m (65 + 5 * c) (i - 1)) (m (65 + 5 * c) i) (by omega) (by omega) (by omega) (by omega)
    refine r_iload_n f35_4 rfl ?_
    refine r_aload_n f35_5 rfl ?_
    refine r_getI f35_6 o35 F4_40 (gC_6 (c := c) (by omega) (by omega)) rfl ?_
    refine r_cge f35_9 (t := 64) (by decide) (fun h => absurd h (by omega)) (fun _ => ?_)
    refine r_aload_n f35_12 rfl ?_
    refine r_getR f35_13 o35 F4_61 (gC_3 (c := c) (by omega) (by omega)) rfl ?_
    refine r_iload_n f35_16 rfl ?_
    refine r_iconst f35_17 rfl ?_
    refine r_isub f35_18 (e := i - 1) (by omega) (by omega) (by omega) ?_
    refine r_bald f35_19 (kdC4 (c := c) (by omega) (by omega)) (by omega) (by omega) ?_
    refine r_zeq f35_20 (t := 58) (by decide) (fun q1 => ?_) (fun q1 => ?_)
    · refine r_iinc f35_58 rfl rfl rfl (e := i + 1) (by omega) (by omega) (by omega) (ls' := [some (.inr (.inl (some 1))), some (.inr (.inl (some (64 + 5 * c)))), some (.inl (zsum (XMf m c) i)), some (.inl (i + 1))]) rfl ?_
      refine r_goto f35_61 (t := 4) (by decide) ?_
      refine r_setI (k := 2) (a := zsum (XMf m c) i) (e := zsum (XMf m c) (i + 1)) (by rw [zsum_s (by omega)]; unfold XMf; split <;> omega) rfl (ls' := [some (.inr (.inl (some 1))), some (.inr (.inl (some (64 + 5 * c)))), some (.inl (zsum (XMf m c) (i + 1))), some (.inl (i + 1))]) rfl ?_
      exact ih (i + 1) (by omega) (by omega)
    · refine r_aload_n f35_23 rfl ?_
      refine r_getR f35_24 o35 F4_61 (gC_3 (c := c) (by omega) (by omega)) rfl ?_
      refine r_iload_n f35_27 rfl ?_
      refine r_bald f35_28 (kdC4 (c := c) (by omega) (by omega)) (by omega) (by omega) ?_
      refine r_zeq f35_29 (t := 58) (by decide) (fun q2 => ?_) (fun q2 => ?_)
      · refine r_iinc f35_58 rfl rfl rfl (e := i + 1) (by omega) (by omega) (by omega) (ls' := [some (.inr (.inl (some 1))), some (.inr (.inl (some (64 + 5 * c)))), some (.inl (zsum (XMf m c) i)), some (.inl (i + 1))]) rfl ?_
        refine r_goto f35_61 (t := 4) (by decide) ?_
        refine r_setI (k := 2) (a := zsum (XMf m c) i) (e := zsum (XMf m c) (i + 1)) (by rw [zsum_s (by omega)]; unfold XMf; split <;> omega) rfl (ls' := [some (.inr (.inl (some 1))), some (.inr (.inl (some (64 + 5 * c)))), some (.inl (zsum (XMf m c) (i + 1))), some (.inl (i + 1))]) rfl ?_
        exact ih (i + 1) (by omega) (by omega)
      · refine r_iload_n f35_32 rfl ?_
        refine r_aload_n f35_33 rfl ?_
        refine r_getR f35_34 o35 F4_11 g1_0 rfl ?_
        refine r_aload_n f35_37 rfl ?_
        refine r_getR f35_38 o35 F4_45 (gC_0 (c := c) (by omega) (by omega)) rfl ?_
        refine r_iload_n f35_41 rfl ?_
        refine r_iconst f35_42 rfl ?_
        refine r_isub f35_43 (e := i - 1) (by omega) (by omega) (by omega) ?_
        refine r_iald f35_44 (kdC1 (c := c) (by omega) (by omega)) (by omega) (by omega) ?_
        refine r_aldH f35_45 (by omega) (by omega) ?_
        refine r_getR f35_46 o35 F4_36 (gH_2 (h := m (65 + 5 * c) (i - 1)) (by omega) (by omega)) rfl ?_
        refine r_aload_n f35_49 rfl ?_
        refine r_getR f35_50 o35 F4_45 (gC_0 (c := c) (by omega) (by omega)) rfl ?_
        refine r_iload_n f35_53 rfl ?_
        refine r_iald f35_54 (kdC1 (c := c) (by omega) (by omega)) (by omega) (by omega) ?_
        refine r_iald f35_55 (kdH3 (h := m (65 + 5 * c) (i - 1)) (by omega) (by omega)) (by omega) (by omega) ?_
        refine r_iadd f35_56 (e := m (6 + 4 * (m (65 + 5 * c) (i - 1))) (m (65 + 5 * c) i) + zsum (XMf m c) i) (by omega) (by omega) (by omega) ?_
        refine r_istore_n f35_57 rfl (ls' := [some (.inr (.inl (some 1))), some (.inr (.inl (some (64 + 5 * c)))), some (.inl (m (6 + 4 * (m (65 + 5 * c) (i - 1))) (m (65 + 5 * c) i) + zsum (XMf m c) i)), some (.inl i)]) rfl ?_
        refine r_iinc f35_58 rfl rfl rfl (e := i + 1) (by omega) (by omega) (by omega) (ls' := [some (.inr (.inl (some 1))), some (.inr (.inl (some (64 + 5 * c)))), some (.inl (m (6 + 4 * (m (65 + 5 * c) (i - 1))) (m (65 + 5 * c) i) + zsum (XMf m c) i)), some (.inl (i + 1))]) rfl ?_
        refine r_goto f35_61 (t := 4) (by decide) ?_
        refine r_setI (k := 2) (a := m (6 + 4 * (m (65 + 5 * c) (i - 1))) (m (65 + 5 * c) i) + zsum (XMf m c) i) (e := zsum (XMf m c) (i + 1)) (by rw [zsum_s (by omega)]; unfold XMf; split <;> omega) rfl (ls' := [some (.inr (.inl (some 1))), some (.inr (.inl (some (64 + 5 * c)))), some (.inl (zsum (XMf m c) (i + 1))), some (.inl (i + 1))]) rfl ?_
        exact ih (i + 1) (by omega) (by omega)

theorem t_miles {L d : Nat} {m : zmem} {c : Int} (c0 : 0 ≤ c) (c1 : c < 40) (f0 : 0 ≤ m (64 + 5 * c) 5) (f1 : m (64 + 5 * c) 5 ≤ 39) (l0 : 1 ≤ m (64 + 5 * c) 6) (l1 : m (64 + 5 * c) 6 ≤ 7) (l2 : m (64 + 5 * c) 5 + m (64 + 5 * c) 6 ≤ 40) (n0 : 0 ≤ m 1 1) (n1 : m 1 1 ≤ 12) (hw : ∀ k, 0 ≤ k → k < m (64 + 5 * c) 6 → 0 ≤ m (65 + 5 * c) k ∧ m (65 + 5 * c) k < m 1 1) (hm : ∀ a b, 0 ≤ a → a < 12 → 0 ≤ b → b < 12 → 0 ≤ m (6 + 4 * a) b ∧ m (6 + 4 * a) b ≤ 40)  : zF L (d) 35 [.inr (.inl (some 1)), .inr (.inl (some (64 + 5 * c)))] m (some (.inl (zsum (XMf m c) (m (64 + 5 * c) 6)))) m := by
  refine zF_of n35 (ls := [some (.inr (.inl (some 1))), some (.inr (.inl (some (64 + 5 * c)))), none, none]) rfl ?_
  refine r_iconst f35_0 rfl ?_
  refine r_istore_n f35_1 rfl (ls' := [some (.inr (.inl (some 1))), some (.inr (.inl (some (64 + 5 * c)))), some (.inl 0), none]) rfl ?_
  refine r_iconst f35_2 rfl ?_
  refine r_istore_n f35_3 rfl (ls' := [some (.inr (.inl (some 1))), some (.inr (.inl (some (64 + 5 * c)))), some (.inl 0), some (.inl 1)]) rfl ?_
  refine r_setI (k := 2) (a := 0) (e := zsum (XMf m c) 1) (by show (0 : Int) = zsn (XMf m c) 0 + XMf m c 0; unfold XMf; rw [if_neg (by omega)]; rfl) rfl (ls' := [some (.inr (.inl (some 1))), some (.inr (.inl (some (64 + 5 * c)))), some (.inl (zsum (XMf m c) 1)), some (.inl 1)]) rfl ?_
  refine l_miles c0 c1 f0 f1 l0 l1 l2 n0 n1 hw hm ?_ (m (64 + 5 * c) 6 - 1).toNat 1 (by omega) (by omega)
  refine r_iload_n f35_64 rfl ?_
  exact r_iret f35_65 v35 ⟨zs_eq (by first | rfl | omega | (repeat (first | rw [if_pos (by omega)] | rw [if_neg (by omega)]))), rfl⟩

abbrev XCn (m : zmem) (c s i h : Int) : Prop := (¬ i = m (64 + 5 * c) 6 - 1 ∨ m (65 + 5 * c) i = h) ∧ (i ≤ s ∨ XR m h (i + m (64 + 5 * c) 5) (m (64 + 5 * c) 4))
theorem t_canBeIn {L d : Nat} {m : zmem} {c : Int} (c0 : 0 ≤ c) (c1 : c < 40) (f0 : 0 ≤ m (64 + 5 * c) 5) (f1 : m (64 + 5 * c) 5 ≤ 39) (l0 : 1 ≤ m (64 + 5 * c) 6) (l1 : m (64 + 5 * c) 6 ≤ 7) (l2 : m (64 + 5 * c) 5 + m (64 + 5 * c) 6 ≤ 40) (n0 : 0 ≤ m 1 1) (n1 : m 1 1 ≤ 12) (hw : ∀ k, 0 ≤ k → k < m (64 + 5 * c) 6 → 0 ≤ m (65 + 5 * c) k ∧ m (65 + 5 * c) k < m 1 1) (hf : ∀ h k, 0 ≤ h → h < 12 → 0 ≤ k → k < 120 → 0 ≤ m (4 + 4 * h) k ∧ m (4 + 4 * h) k ≤ 9) {s i h : Int} (i0 : 0 ≤ i) (i1 : i < m (64 + 5 * c) 6) (h0 : 0 ≤ h) (h1 : h < m 1 1)  : zF L (d + 2) 39 [.inr (.inl (some 51)), .inr (.inl (some (64 + 5 * c))), .inl s, .inl i, .inl h] m (some (.inl (if XCn m c s i h then 1 else 0))) m := by
  refine zF_of n39 (ls := [some (.inr (.inl (some 51))), some (.inr (.inl (some (64 + 5 * c)))), some (.inl s), some (.inl i), some (.inl h)]) rfl ?_
  refine r_iload_n f39_0 rfl ?_
  refine r_aload_n f39_1 rfl ?_
  refine r_getI f39_2 o39 F5_28 (gC_6 (c := c) (by omega) (by omega)) rfl ?_
  refine r_iconst f39_5 rfl ?_
  refine r_isub f39_6 (e := m (64 + 5 * c) 6 - 1) (by omega) (by omega) (by omega) ?_
  refine r_cne f39_7 (t := 23) (by decide) (fun q1 => ?_) (fun q1 => ?_)
  · refine r_iload_n f39_23 rfl ?_
    refine r_iload_n f39_24 rfl ?_
    refine r_cle f39_25 (t := 54) (by decide) (fun q2 => ?_) (fun q2 => ?_)
    · refine r_iconst f39_54 rfl ?_
      refine r_goto f39_55 (t := 59) (by decide) ?_
      exact r_zret f39_59 v39 (by omega) ⟨zs_eq (by first | rfl | omega | (repeat (first | rw [if_pos (by omega)] | rw [if_neg (by omega)]))), rfl⟩
    · refine r_aload_n f39_28 rfl ?_
      refine r_getR f39_29 o39 F5_18 g51_0 rfl ?_
      refine r_getR f39_32 o39 F5_57 g1_0 rfl ?_
      refine r_iload f39_35 rfl ?_
      refine r_aldH f39_37 (by omega) (by omega) ?_
      refine r_aload_n f39_38 rfl ?_
      refine r_getI f39_39 o39 F5_61 (gC_5 (c := c) (by omega) (by omega)) rfl ?_
      refine r_iload_n f39_42 rfl ?_
      refine r_iadd f39_43 (e := i + m (64 + 5 * c) 5) (by omega) (by omega) (by omega) ?_
      refine r_aload_n f39_44 rfl ?_
      refine r_getI f39_45 o39 F5_64 (gC_4 (c := c) (by omega) (by omega)) rfl ?_
      refine r_callv2i f39_48 o39 M5_67 p15 o15 (kdH0 (h := h) (by omega) (by omega)) rfl (by simp) (t_hasRoom (h := h) (t := i + m (64 + 5 * c) 5) (n := m (64 + 5 * c) 4) (by omega) (by omega) (by omega) (by omega) (fun k a b => hf h k (by omega) (by omega) a b)) ?_
      refine r_ite (fun q3 => ?_) (fun q3 => ?_)
      · refine r_zeq f39_51 (t := 58) (by decide) (fun h => absurd h (by omega)) (fun _ => ?_)
        refine r_iconst f39_54 rfl ?_
        refine r_goto f39_55 (t := 59) (by decide) ?_
        exact r_zret f39_59 v39 (by omega) ⟨zs_eq (by first | rfl | omega | (repeat (first | rw [if_pos (by omega)] | rw [if_neg (by omega)]))), rfl⟩
      · refine r_zeq f39_51 (t := 58) (by decide) (fun _ => ?_) (fun h => absurd (by omega) h)
        refine r_iconst f39_58 rfl ?_
        exact r_zret f39_59 v39 (by omega) ⟨zs_eq (by first | rfl | omega | (repeat (first | rw [if_pos (by omega)] | rw [if_neg (by omega)]))), rfl⟩
  · refine r_aload_n f39_10 rfl ?_
    refine r_getR f39_11 o39 F5_43 (gC_0 (c := c) (by omega) (by omega)) rfl ?_
    refine r_iload_n f39_14 rfl ?_
    refine r_iald f39_15 (kdC1 (c := c) (by omega) (by omega)) (by omega) (by omega) ?_
    refine r_iload f39_16 rfl ?_
    refine r_ceq f39_18 (t := 23) (by decide) (fun q4 => ?_) (fun q4 => ?_)
    · refine r_iload_n f39_23 rfl ?_
      refine r_iload_n f39_24 rfl ?_
      refine r_cle f39_25 (t := 54) (by decide) (fun q5 => ?_) (fun q5 => ?_)
      · refine r_iconst f39_54 rfl ?_
        refine r_goto f39_55 (t := 59) (by decide) ?_
        exact r_zret f39_59 v39 (by omega) ⟨zs_eq (by first | rfl | omega | (repeat (first | rw [if_pos (by omega)] | rw [if_neg (by omega)]))), rfl⟩
      · refine r_aload_n f39_28 rfl ?_
        refine r_getR f39_29 o39 F5_18 g51_0 rfl ?_
        refine r_getR f39_32 o39 F5_57 g1_0 rfl ?_
        refine r_iload f39_35 rfl ?_
        refine r_aldH f39_37 (by omega) (by omega) ?_
        refine r_aload_n f39_38 rfl ?_
        refine r_getI f39_39 o39 F5_61 (gC_5 (c := c) (by omega) (by omega)) rfl ?_
        refine r_iload_n f39_42 rfl ?_
        refine r_iadd f39_43 (e := i + m (64 + 5 * c) 5) (by omega) (by omega) (by omega) ?_
        refine r_aload_n f39_44 rfl ?_
        refine r_getI f39_45 o39 F5_64 (gC_4 (c := c) (by omega) (by omega)) rfl ?_
        refine r_callv2i f39_48 o39 M5_67 p15 o15 (kdH0 (h := h) (by omega) (by omega)) rfl (by simp) (t_hasRoom (h := h) (t := i + m (64 + 5 * c) 5) (n := m (64 + 5 * c) 4) (by omega) (by omega) (by omega) (by omega) (fun k a b => hf h k (by omega) (by omega) a b)) ?_
        refine r_ite (fun q6 => ?_) (fun q6 => ?_)
        · refine r_zeq f39_51 (t := 58) (by decide) (fun h => absurd h (by omega)) (fun _ => ?_)
          refine r_iconst f39_54 rfl ?_
          refine r_goto f39_55 (t := 59) (by decide) ?_
          exact r_zret f39_59 v39 (by omega) ⟨zs_eq (by first | rfl | omega | (repeat (first | rw [if_pos (by omega)] | rw [if_neg (by omega)]))), rfl⟩
        · refine r_zeq f39_51 (t := 58) (by decide) (fun _ => ?_) (fun h => absurd (by omega) h)
          refine r_iconst f39_58 rfl ?_
          exact r_zret f39_59 v39 (by omega) ⟨zs_eq (by first | rfl | omega | (repeat (first | rw [if_pos (by omega)] | rw [if_neg (by omega)]))), rfl⟩
    · refine r_iconst f39_21 rfl ?_
      exact r_zret f39_22 v39 (by omega) ⟨zs_eq (by first | rfl | omega | (repeat (first | rw [if_pos (by omega)] | rw [if_neg (by omega)]))), rfl⟩

def zstN (ρ : Int → Int) (J : Int → Prop) [DecidablePred J] (g b : Int) : Int := if ρ g < (if b = -1 then 1000 else ρ b) ∧ J g then g else b
theorem zstN_two (ρ : Int → Int) (J : Int → Prop) [DecidablePred J] (k b : Int) : zstN ρ J k b = k ∨ zstN ρ J k b = b := by
  by_cases h : (ρ k < (if b = -1 then 1000 else ρ b) ∧ J k)
  · exact Or.inl (if_pos h)
  · exact Or.inr (if_neg h)
def XRo (m : zmem) (i g : Int) : Int := m 52 (g + 12 * i + 12)
abbrev XNx (m : zmem) (i h e : Int) : Int := zfd (zstN (XRo m i) (XJ m h)) (-1) e
theorem l_leastNext {L d : Nat} {m : zmem} (n0 : 0 ≤ m 1 1) (n1 : m 1 1 ≤ 12) {i h : Int} (i0 : 0 ≤ i) (i1 : i < 6) (h0 : 0 ≤ h) (h1 : h < 12) {Q : Option zV → zM → Prop} (hx : zR (d + 1) 40 71 [some (.inr (.inl (some 51))), some (.inl i), some (.inl h), some (.inl (XNx m i h (m 1 1))), some (.inl (if XNx m i h (m 1 1) = -1 then 1000 else XRo m i (XNx m i h (m 1 1)))), some (.inl (m 1 1)), none] [] (zem L m) Q) : ∀ (n : Nat) (j : Int), 0 ≤ j → j + n = m 1 1 → zR (d + 1) 40 10 [some (.inr (.inl (some 51))), some (.inl i), some (.inl h), some (.inl (XNx m i h j)), some (.inl (if XNx m i h j = -1 then 1000 else XRo m i (XNx m i h j))), some (.inl j), none] [] (zem L m) Q := by
  intro n
  induction n with
  | zero =>
    intro j hj hn
    have ei : j = m 1 1 := by omega
    rw [ei]
    refine r_iload f40_10 rfl ?_
    refine r_aload_n f40_12 rfl ?_
    refine r_getR f40_13 o40 F5_18 g51_0 rfl ?_
    refine r_getI f40_16 o40 F5_34 g1_1 rfl ?_
    refine r_cge f40_19 (t := 71) (by decide) (fun _ => ?_) (fun h => absurd (by omega) h)
    exact hx
  | succ n ih =>
    intro j hj hn
    have hb : -1 ≤ XNx m i h j ∧ (XNx m i h j = -1 ∨ XNx m i h j < j) := zfd_in (zstN_two _ _) hj
    refine r_iload f40_10 rfl ?_
    refine r_aload_n f40_12 rfl ?_
    refine r_getR f40_13 o40 F5_18 g51_0 rfl ?_
    refine r_getI f40_16 o40 F5_34 g1_1 rfl ?_
    refine r_cge f40_19 (t := 71) (by decide) (fun h => absurd h (by omega)) (fun _ => ?_)
    refine r_aload_n f40_22 rfl ?_
    refine r_getR f40_23 o40 F5_9 g51_1 rfl ?_
    refine r_iload_n f40_26 rfl ?_
    refine r_iconst f40_27 rfl ?_
    refine r_iadd f40_28 (e := i + 1) (by omega) (by omega) (by omega) ?_
    refine r_bipush f40_29 (by decide) ?_
    refine r_imul f40_31 (e := 12 * i + 12) (by omega) (by omega) (by omega) ?_
    refine r_iload f40_32 rfl ?_
    refine r_iadd f40_34 (e := 12 * i + j + 12) (by omega) (by omega) (by omega) ?_
    refine r_iald f40_35 kd52 (by omega) (by omega) ?_
    refine r_top (e := XRo m i j) (by show _ = m 52 _; congr 1; omega) ?_
    refine r_istore f40_36 rfl (ls' := [some (.inr (.inl (some 51))), some (.inl i), some (.inl h), some (.inl (XNx m i h j)), some (.inl (if XNx m i h j = -1 then 1000 else XRo m i (XNx m i h j))), some (.inl j), some (.inl (XRo m i j))]) rfl ?_
    refine r_iload f40_38 rfl ?_
    refine r_iload f40_40 rfl ?_
    refine r_cge f40_42 (t := 65) (by decide) (fun q1 => ?_) (fun q1 => ?_)
    · refine r_iinc f40_65 rfl rfl rfl (e := j + 1) (by omega) (by omega) (by omega) (ls' := [some (.inr (.inl (some 51))), some (.inl i), some (.inl h), some (.inl (XNx m i h j)), some (.inl (if XNx m i h j = -1 then 1000 else XRo m i (XNx m i h j))), some (.inl (j + 1)), some (.inl (XRo m i j))]) rfl ?_
      refine r_goto f40_68 (t := 10) (by decide) ?_
      refine r_forget (ls' := [some (.inr (.inl (some 51))), some (.inl i), some (.inl h), some (.inl (XNx m i h j)), some (.inl (if XNx m i h j = -1 then 1000 else XRo m i (XNx m i h j))), some (.inl (j + 1)), none]) ⟨Or.inl rfl, ⟨Or.inl rfl, ⟨Or.inl rfl, ⟨Or.inl rfl, ⟨Or.inl rfl, ⟨Or.inl rfl, ⟨Or.inr ⟨rfl, rfl⟩, trivial⟩⟩⟩⟩⟩⟩⟩ ?_
      refine r_setI (k := 3) (a := XNx m i h j) (e := XNx m i h (j + 1)) (by have e9 : XNx m i h (j + 1) = XNx m i h j := (show XNx m i h (j + 1) = zstN (XRo m i) (XJ m h) j (XNx m i h j) from zfd_s (by omega)).trans (if_neg (by omega)); rw [e9]) rfl (ls' := [some (.inr (.inl (some 51))), some (.inl i), some (.inl h), some (.inl (XNx m i h (j + 1))), some (.inl (if XNx m i h j = -1 then 1000 else XRo m i (XNx m i h j))), some (.inl (j + 1)), none]) rfl ?_
      refine r_setI (k := 4) (a := if XNx m i h j = -1 then 1000 else XRo m i (XNx m i h j)) (e := if XNx m i h (j + 1) = -1 then 1000 else XRo m i (XNx m i h (j + 1))) (by have e9 : XNx m i h (j + 1) = XNx m i h j := (show XNx m i h (j + 1) = zstN (XRo m i) (XJ m h) j (XNx m i h j) from zfd_s (by omega)).trans (if_neg (by omega)); rw [e9]) rfl (ls' := [some (.inr (.inl (some 51))), some (.inl i), some (.inl h), some (.inl (XNx m i h (j + 1))), some (.inl (if XNx m i h (j + 1) = -1 then 1000 else XRo m i (XNx m i h (j + 1)))), some (.inl (j + 1)), none]) rfl ?_
      exact ih (j + 1) (by omega) (by omega)
    · refine r_aload_n f40_45 rfl ?_
      refine r_getR f40_46 o40 F5_18 g51_0 rfl ?_
      refine r_iload_n f40_49 rfl ?_
      refine r_iload f40_50 rfl ?_
      refine r_callv2i f40_52 o40 M5_73 p33 o33 kd1 rfl (by simp) (t_joined (a := h) (b := j) (by omega) (by omega) (by omega) (by omega)) ?_
      refine r_ite (fun q2 => ?_) (fun q2 => ?_)
      · refine r_zeq f40_55 (t := 65) (by decide) (fun h => absurd h (by omega)) (fun _ => ?_)
        refine r_iload f40_58 rfl ?_
        refine r_istore_n f40_60 rfl (ls' := [some (.inr (.inl (some 51))), some (.inl i), some (.inl h), some (.inl j), some (.inl (if XNx m i h j = -1 then 1000 else XRo m i (XNx m i h j))), some (.inl j), some (.inl (XRo m i j))]) rfl ?_
        refine r_iload f40_61 rfl ?_
        refine r_istore f40_63 rfl (ls' := [some (.inr (.inl (some 51))), some (.inl i), some (.inl h), some (.inl j), some (.inl (XRo m i j)), some (.inl j), some (.inl (XRo m i j))]) rfl ?_
        refine r_iinc f40_65 rfl rfl rfl (e := j + 1) (by omega) (by omega) (by omega) (ls' := [some (.inr (.inl (some 51))), some (.inl i), some (.inl h), some (.inl j), some (.inl (XRo m i j)), some (.inl (j + 1)), some (.inl (XRo m i j))]) rfl ?_
        refine r_goto f40_68 (t := 10) (by decide) ?_
        refine r_forget (ls' := [some (.inr (.inl (some 51))), some (.inl i), some (.inl h), some (.inl j), some (.inl (XRo m i j)), some (.inl (j + 1)), none]) ⟨Or.inl rfl, ⟨Or.inl rfl, ⟨Or.inl rfl, ⟨Or.inl rfl, ⟨Or.inl rfl, ⟨Or.inl rfl, ⟨Or.inr ⟨rfl, rfl⟩, trivial⟩⟩⟩⟩⟩⟩⟩ ?_
        refine r_setI (k := 3) (a := j) (e := XNx m i h (j + 1)) (by have e9 : XNx m i h (j + 1) = j := (show XNx m i h (j + 1) = zstN (XRo m i) (XJ m h) j (XNx m i h j) from zfd_s (by omega)).trans (if_pos (by omega)); rw [e9]) rfl (ls' := [some (.inr (.inl (some 51))), some (.inl i), some (.inl h), some (.inl (XNx m i h (j + 1))), some (.inl (XRo m i j)), some (.inl (j + 1)), none]) rfl ?_
        refine r_setI (k := 4) (a := XRo m i j) (e := if XNx m i h (j + 1) = -1 then 1000 else XRo m i (XNx m i h (j + 1))) (by have e9 : XNx m i h (j + 1) = j := (show XNx m i h (j + 1) = zstN (XRo m i) (XJ m h) j (XNx m i h j) from zfd_s (by omega)).trans (if_pos (by omega)); rw [e9]; rw [if_neg (by omega)]) rfl (ls' := [some (.inr (.inl (some 51))), some (.inl i), some (.inl h), some (.inl (XNx m i h (j + 1))), some (.inl (if XNx m i h (j + 1) = -1 then 1000 else XRo m i (XNx m i h (j + 1)))), some (.inl (j + 1)), none]) rfl ?_
        exact ih (j + 1) (by omega) (by omega)
      · refine r_zeq f40_55 (t := 65) (by decide) (fun _ => ?_) (fun h => absurd (by omega) h)
        refine r_iinc f40_65 rfl rfl rfl (e := j + 1) (by omega) (by omega) (by omega) (ls' := [some (.inr (.inl (some 51))), some (.inl i), some (.inl h), some (.inl (XNx m i h j)), some (.inl (if XNx m i h j = -1 then 1000 else XRo m i (XNx m i h j))), some (.inl (j + 1)), some (.inl (XRo m i j))]) rfl ?_
        refine r_goto f40_68 (t := 10) (by decide) ?_
        refine r_forget (ls' := [some (.inr (.inl (some 51))), some (.inl i), some (.inl h), some (.inl (XNx m i h j)), some (.inl (if XNx m i h j = -1 then 1000 else XRo m i (XNx m i h j))), some (.inl (j + 1)), none]) ⟨Or.inl rfl, ⟨Or.inl rfl, ⟨Or.inl rfl, ⟨Or.inl rfl, ⟨Or.inl rfl, ⟨Or.inl rfl, ⟨Or.inr ⟨rfl, rfl⟩, trivial⟩⟩⟩⟩⟩⟩⟩ ?_
        refine r_setI (k := 3) (a := XNx m i h j) (e := XNx m i h (j + 1)) (by have e9 : XNx m i h (j + 1) = XNx m i h j := (show XNx m i h (j + 1) = zstN (XRo m i) (XJ m h) j (XNx m i h j) from zfd_s (by omega)).trans (if_neg (by omega)); rw [e9]) rfl (ls' := [some (.inr (.inl (some 51))), some (.inl i), some (.inl h), some (.inl (XNx m i h (j + 1))), some (.inl (if XNx m i h j = -1 then 1000 else XRo m i (XNx m i h j))), some (.inl (j + 1)), none]) rfl ?_
        refine r_setI (k := 4) (a := if XNx m i h j = -1 then 1000 else XRo m i (XNx m i h j)) (e := if XNx m i h (j + 1) = -1 then 1000 else XRo m i (XNx m i h (j + 1))) (by have e9 : XNx m i h (j + 1) = XNx m i h j := (show XNx m i h (j + 1) = zstN (XRo m i) (XJ m h) j (XNx m i h j) from zfd_s (by omega)).trans (if_neg (by omega)); rw [e9]) rfl (ls' := [some (.inr (.inl (some 51))), some (.inl i), some (.inl h), some (.inl (XNx m i h (j + 1))), some (.inl (if XNx m i h (j + 1) = -1 then 1000 else XRo m i (XNx m i h (j + 1)))), some (.inl (j + 1)), none]) rfl ?_
        exact ih (j + 1) (by omega) (by omega)

theorem t_leastNext {L d : Nat} {m : zmem} (n0 : 0 ≤ m 1 1) (n1 : m 1 1 ≤ 12) {i h : Int} (i0 : 0 ≤ i) (i1 : i < 6) (h0 : 0 ≤ h) (h1 : h < 12) : zF L (d + 1) 40 [.inr (.inl (some 51)), .inl i, .inl h] m (some (.inl (XNx m i h (m 1 1)))) m := by
  refine zF_of n40 (ls := [some (.inr (.inl (some 51))), some (.inl i), some (.inl h), none, none, none, none]) rfl ?_
  refine r_iconst f40_0 rfl ?_
  refine r_istore_n f40_1 rfl (ls' := [some (.inr (.inl (some 51))), some (.inl i), some (.inl h), some (.inl (-1)), none, none, none]) rfl ?_
  refine r_sipush f40_2 (by decide) ?_
  refine r_istore f40_5 rfl (ls' := [some (.inr (.inl (some 51))), some (.inl i), some (.inl h), some (.inl (-1)), some (.inl 1000), none, none]) rfl ?_
  refine r_iconst f40_7 rfl ?_
  refine r_istore f40_8 rfl (ls' := [some (.inr (.inl (some 51))), some (.inl i), some (.inl h), some (.inl (-1)), some (.inl 1000), some (.inl 0), none]) rfl ?_
  refine l_leastNext n0 n1 i0 i1 h0 h1 ?_ (m 1 1).toNat 0 (by omega) (by omega)
  refine r_iload_n f40_71 rfl ?_
  exact r_iret f40_72 v40 ⟨zs_eq (by first | rfl | omega | (repeat (first | rw [if_pos (by omega)] | rw [if_neg (by omega)]))), rfl⟩

abbrev XHe (m : zmem) (c i h : Int) : Int := if m (65 + 5 * c) i = h then 0 else 1
def XLp (m : zmem) (c s i h : Int) : Int := if XCn m c s i h then (if i = m (64 + 5 * c) 6 - 1 then XHe m c i h else if XNx m i h (m 1 1) = -1 then 1000 else XHe m c i h + XRo m i (XNx m i h (m 1 1))) else 1000
theorem t_leastParting {L d : Nat} {m : zmem} {c : Int} (c0 : 0 ≤ c) (c1 : c < 40) (f0 : 0 ≤ m (64 + 5 * c) 5) (f1 : m (64 + 5 * c) 5 ≤ 39) (l0 : 1 ≤ m (64 + 5 * c) 6) (l1 : m (64 + 5 * c) 6 ≤ 7) (l2 : m (64 + 5 * c) 5 + m (64 + 5 * c) 6 ≤ 40) (n0 : 0 ≤ m 1 1) (n1 : m 1 1 ≤ 12) (hw : ∀ k, 0 ≤ k → k < m (64 + 5 * c) 6 → 0 ≤ m (65 + 5 * c) k ∧ m (65 + 5 * c) k < m 1 1) (hf : ∀ h k, 0 ≤ h → h < 12 → 0 ≤ k → k < 120 → 0 ≤ m (4 + 4 * h) k ∧ m (4 + 4 * h) k ≤ 9) {s i h : Int} (i0 : 0 ≤ i) (i1 : i < m (64 + 5 * c) 6) (h0 : 0 ≤ h) (h1 : h < m 1 1) (hp : ∀ g, 0 ≤ g → g < m 1 1 → i + 1 < m (64 + 5 * c) 6 → 0 ≤ XRo m i g ∧ XRo m i g ≤ 1000) : zF L (d + 3) 38 [.inr (.inl (some 51)), .inr (.inl (some (64 + 5 * c))), .inl s, .inl i, .inl h] m (some (.inl (XLp m c s i h))) m := by
  have hb : -1 ≤ XNx m i h (m 1 1) ∧ (XNx m i h (m 1 1) = -1 ∨ XNx m i h (m 1 1) < m 1 1) := zfd_in (zstN_two _ _) n0
  have hq := hp (XNx m i h (m 1 1))
  refine zF_of n38 (ls := [some (.inr (.inl (some 51))), some (.inr (.inl (some (64 + 5 * c)))), some (.inl s), some (.inl i), some (.inl h), none, none]) rfl ?_
  refine r_aload_n f38_0 rfl ?_
  refine r_aload_n f38_1 rfl ?_
  refine r_iload_n f38_2 rfl ?_
  refine r_iload_n f38_3 rfl ?_
  refine r_iload f38_4 rfl ?_
  refine r_callv4i f38_6 o38 M5_50 p39 o39 kd51 rfl (by simp) (t_canBeIn (s := s) c0 c1 f0 f1 l0 l1 l2 n0 n1 hw hf i0 i1 h0 h1) ?_
  refine r_ite (fun q1 => ?_) (fun q1 => ?_)
  · refine r_zne f38_9 (t := 16) (by decide) (fun _ => ?_) (fun h => absurd (by omega) h)
    refine r_aload_n f38_16 rfl ?_
    refine r_getR f38_17 o38 F5_43 (gC_0 (c := c) (by omega) (by omega)) rfl ?_
    refine r_iload_n f38_20 rfl ?_
    refine r_iald f38_21 (kdC1 (c := c) (by omega) (by omega)) (by omega) (by omega) ?_
    refine r_iload f38_22 rfl ?_
    refine r_cne f38_24 (t := 31) (by decide) (fun q2 => ?_) (fun q2 => ?_)
    · refine r_iconst f38_31 rfl ?_
      refine r_istore f38_32 rfl (ls' := [some (.inr (.inl (some 51))), some (.inr (.inl (some (64 + 5 * c)))), some (.inl s), some (.inl i), some (.inl h), some (.inl 1), none]) rfl ?_
      refine r_iload_n f38_34 rfl ?_
      refine r_aload_n f38_35 rfl ?_
      refine r_getI f38_36 o38 F5_28 (gC_6 (c := c) (by omega) (by omega)) rfl ?_
      refine r_iconst f38_39 rfl ?_
      refine r_isub f38_40 (e := m (64 + 5 * c) 6 - 1) (by omega) (by omega) (by omega) ?_
      refine r_cne f38_41 (t := 47) (by decide) (fun q3 => ?_) (fun q3 => ?_)
      · refine r_aload_n f38_47 rfl ?_
        refine r_iload_n f38_48 rfl ?_
        refine r_iload f38_49 rfl ?_
        refine r_callv2i f38_51 o38 M5_54 p40 o40 kd51 rfl (by simp) (t_leastNext (i := i) (h := h) n0 n1 (by omega) (by omega) (by omega) (by omega)) ?_
        refine r_istore f38_54 rfl (ls' := [some (.inr (.inl (some 51))), some (.inr (.inl (some (64 + 5 * c)))), some (.inl s), some (.inl i), some (.inl h), some (.inl 1), some (.inl (XNx m i h (m 1 1)))]) rfl ?_
        refine r_iload f38_56 rfl ?_
        refine r_iconst f38_58 rfl ?_
        refine r_cne f38_59 (t := 68) (by decide) (fun q4 => ?_) (fun q4 => ?_)
        · refine r_iload f38_68 rfl ?_
          refine r_aload_n f38_70 rfl ?_
          refine r_getR f38_71 o38 F5_9 g51_1 rfl ?_
          refine r_iload_n f38_74 rfl ?_
          refine r_iconst f38_75 rfl ?_
          refine r_iadd f38_76 (e := i + 1) (by omega) (by omega) (by omega) ?_
          refine r_bipush f38_77 (by decide) ?_
          refine r_imul f38_79 (e := 12 * i + 12) (by omega) (by omega) (by omega) ?_
          refine r_iload f38_80 rfl ?_
          refine r_iadd f38_82 (e := 12 * i + XNx m i h (m 1 1) + 12) (by omega) (by omega) (by omega) ?_
          refine r_iald f38_83 kd52 (by omega) (by omega) ?_
          refine r_top (e := XRo m i (XNx m i h (m 1 1))) (by show _ = m 52 _; congr 1; omega) ?_
          refine r_iadd f38_84 (e := XRo m i (XNx m i h (m 1 1)) + 1) (by omega) (by omega) (by omega) ?_
          exact r_iret f38_85 v38 ⟨zs_eq (by unfold XLp XHe; (repeat (first | rw [if_pos (by omega)] | rw [if_neg (by omega)])); try omega), rfl⟩
        · refine r_sipush f38_62 (by decide) ?_
          refine r_goto f38_65 (t := 85) (by decide) ?_
          exact r_iret f38_85 v38 ⟨zs_eq (by unfold XLp XHe; (repeat (first | rw [if_pos (by omega)] | rw [if_neg (by omega)])); try omega), rfl⟩
      · refine r_iload f38_44 rfl ?_
        exact r_iret f38_46 v38 ⟨zs_eq (by unfold XLp XHe; (repeat (first | rw [if_pos (by omega)] | rw [if_neg (by omega)])); try omega), rfl⟩
    · refine r_iconst f38_27 rfl ?_
      refine r_goto f38_28 (t := 32) (by decide) ?_
      refine r_istore f38_32 rfl (ls' := [some (.inr (.inl (some 51))), some (.inr (.inl (some (64 + 5 * c)))), some (.inl s), some (.inl i), some (.inl h), some (.inl 0), none]) rfl ?_
      refine r_iload_n f38_34 rfl ?_
      refine r_aload_n f38_35 rfl ?_
      refine r_getI f38_36 o38 F5_28 (gC_6 (c := c) (by omega) (by omega)) rfl ?_
      refine r_iconst f38_39 rfl ?_
      refine r_isub f38_40 (e := m (64 + 5 * c) 6 - 1) (by omega) (by omega) (by omega) ?_
      refine r_cne f38_41 (t := 47) (by decide) (fun q5 => ?_) (fun q5 => ?_)
      · refine r_aload_n f38_47 rfl ?_
        refine r_iload_n f38_48 rfl ?_
        refine r_iload f38_49 rfl ?_
        refine r_callv2i f38_51 o38 M5_54 p40 o40 kd51 rfl (by simp) (t_leastNext (i := i) (h := h) n0 n1 (by omega) (by omega) (by omega) (by omega)) ?_
        refine r_istore f38_54 rfl (ls' := [some (.inr (.inl (some 51))), some (.inr (.inl (some (64 + 5 * c)))), some (.inl s), some (.inl i), some (.inl h), some (.inl 0), some (.inl (XNx m i h (m 1 1)))]) rfl ?_
        refine r_iload f38_56 rfl ?_
        refine r_iconst f38_58 rfl ?_
        refine r_cne f38_59 (t := 68) (by decide) (fun q6 => ?_) (fun q6 => ?_)
        · refine r_iload f38_68 rfl ?_
          refine r_aload_n f38_70 rfl ?_
          refine r_getR f38_71 o38 F5_9 g51_1 rfl ?_
          refine r_iload_n f38_74 rfl ?_
          refine r_iconst f38_75 rfl ?_
          refine r_iadd f38_76 (e := i + 1) (by omega) (by omega) (by omega) ?_
          refine r_bipush f38_77 (by decide) ?_
          refine r_imul f38_79 (e := 12 * i + 12) (by omega) (by omega) (by omega) ?_
          refine r_iload f38_80 rfl ?_
          refine r_iadd f38_82 (e := 12 * i + XNx m i h (m 1 1) + 12) (by omega) (by omega) (by omega) ?_
          refine r_iald f38_83 kd52 (by omega) (by omega) ?_
          refine r_top (e := XRo m i (XNx m i h (m 1 1))) (by show _ = m 52 _; congr 1; omega) ?_
          refine r_iadd f38_84 (e := XRo m i (XNx m i h (m 1 1))) (by omega) (by omega) (by omega) ?_
          exact r_iret f38_85 v38 ⟨zs_eq (by unfold XLp XHe; (repeat (first | rw [if_pos (by omega)] | rw [if_neg (by omega)])); try omega), rfl⟩
        · refine r_sipush f38_62 (by decide) ?_
          refine r_goto f38_65 (t := 85) (by decide) ?_
          exact r_iret f38_85 v38 ⟨zs_eq (by unfold XLp XHe; (repeat (first | rw [if_pos (by omega)] | rw [if_neg (by omega)])); try omega), rfl⟩
      · refine r_iload f38_44 rfl ?_
        exact r_iret f38_46 v38 ⟨zs_eq (by unfold XLp XHe; (repeat (first | rw [if_pos (by omega)] | rw [if_neg (by omega)])); try omega), rfl⟩
  · refine r_zne f38_9 (t := 16) (by decide) (fun h => absurd h (by omega)) (fun _ => ?_)
    refine r_sipush f38_12 (by decide) ?_
    exact r_iret f38_15 v38 ⟨zs_eq (by unfold XLp XHe; (repeat (first | rw [if_pos (by omega)] | rw [if_neg (by omega)])); try omega), rfl⟩

