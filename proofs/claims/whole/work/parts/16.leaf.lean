theorem r_mem {L d j pc : Nat} {ls : zL} {st : List zV} {Q : Option zV → zM → Prop} {m m1 : zmem} (h : m1 = m) (kk : zR d j pc ls st (zem L m1) Q) : zR d j pc ls st (zem L m) Q := h ▸ kk
theorem r_setI {d j pc k : Nat} {ls ls' : zL} {st : List zV} {M : zM} {Q : Option zV → zM → Prop} {a e : Int} (h : a = e) (h1 : ls[k]? = some (some (.inl a))) (h2 : ls.set k (some (.inl e)) = ls') (kk : zR d j pc ls' st M Q) : zR d j pc ls st M Q := by
  subst h
  obtain ⟨hk, e1⟩ := List.getElem?_eq_some_iff.mp h1
  have e2 : ls.set k (some (.inl a)) = ls := by rw [← e1]; exact List.set_getElem_self hk
  rw [← h2, e2] at kk
  exact kk
theorem zs_eq {a b : Int} (h : a = b) : (some (.inl a) : Option zV) = some (.inl b) := by rw [h]
theorem t_within {L d : Nat} {m : zmem} (x a b : Int) : zF L (d) 67 [.inl x, .inl a, .inl b] m (some (.inl (if a ≤ x ∧ x ≤ b then 1 else 0))) m := by
  refine zF_of n67 (ls := [some (.inl x), some (.inl a), some (.inl b)]) rfl ?_
  refine r_iload_n f67_0 rfl ?_
  refine r_iload_n f67_1 rfl ?_
  refine r_clt f67_2 (t := 14) (by decide) (fun q1 => ?_) (fun q1 => ?_)
  · refine r_iconst f67_14 rfl ?_
    exact r_zret f67_15 v67 (by omega) ⟨zs_eq (by first | rfl | omega | (repeat (first | rw [if_pos (by omega)] | rw [if_neg (by omega)]))), rfl⟩
  · refine r_iload_n f67_5 rfl ?_
    refine r_iload_n f67_6 rfl ?_
    refine r_cgt f67_7 (t := 14) (by decide) (fun q2 => ?_) (fun q2 => ?_)
    · refine r_iconst f67_14 rfl ?_
      exact r_zret f67_15 v67 (by omega) ⟨zs_eq (by first | rfl | omega | (repeat (first | rw [if_pos (by omega)] | rw [if_neg (by omega)]))), rfl⟩
    · refine r_iconst f67_10 rfl ?_
      refine r_goto f67_11 (t := 15) (by decide) ?_
      exact r_zret f67_15 v67 (by omega) ⟨zs_eq (by first | rfl | omega | (repeat (first | rw [if_pos (by omega)] | rw [if_neg (by omega)]))), rfl⟩

theorem t_in {L d : Nat} {m : zmem} (x a b : Int) : zF L (d) 85 [.inl x, .inl a, .inl b] m (some (.inl (if a ≤ x ∧ x ≤ b then 1 else 0))) m := by
  refine zF_of n85 (ls := [some (.inl x), some (.inl a), some (.inl b)]) rfl ?_
  refine r_iload_n f85_0 rfl ?_
  refine r_iload_n f85_1 rfl ?_
  refine r_clt f85_2 (t := 14) (by decide) (fun q1 => ?_) (fun q1 => ?_)
  · refine r_iconst f85_14 rfl ?_
    exact r_zret f85_15 v85 (by omega) ⟨zs_eq (by first | rfl | omega | (repeat (first | rw [if_pos (by omega)] | rw [if_neg (by omega)]))), rfl⟩
  · refine r_iload_n f85_5 rfl ?_
    refine r_iload_n f85_6 rfl ?_
    refine r_cgt f85_7 (t := 14) (by decide) (fun q2 => ?_) (fun q2 => ?_)
    · refine r_iconst f85_14 rfl ?_
      exact r_zret f85_15 v85 (by omega) ⟨zs_eq (by first | rfl | omega | (repeat (first | rw [if_pos (by omega)] | rw [if_neg (by omega)]))), rfl⟩
    · refine r_iconst f85_10 rfl ?_
      refine r_goto f85_11 (t := 15) (by decide) ?_
      exact r_zret f85_15 v85 (by omega) ⟨zs_eq (by first | rfl | omega | (repeat (first | rw [if_pos (by omega)] | rw [if_neg (by omega)]))), rfl⟩

theorem t_isNightX {L d : Nat} {m : zmem} (t : Int) : zF L (d + 1) 68 [.inl t] m (some (.inl (if 0 ≤ t ∧ t ≤ 39 then 1 else 0))) m := by
  refine zF_of n68 (ls := [some (.inl t)]) rfl ?_
  refine r_iload_n f68_0 rfl ?_
  refine r_iconst f68_1 rfl ?_
  refine r_bipush f68_2 (by decide) ?_
  refine r_calls3i f68_4 o68 M6_50 (Or.inl rfl) p67 rfl (by simp) (t_within t 0 39) ?_
  refine r_ite (fun q1 => ?_) (fun q1 => ?_)
  · exact r_zret f68_7 v68 (by omega) ⟨zs_eq (by first | rfl | omega | (repeat (first | rw [if_pos (by omega)] | rw [if_neg (by omega)]))), rfl⟩
  · exact r_zret f68_7 v68 (by omega) ⟨zs_eq (by first | rfl | omega | (repeat (first | rw [if_pos (by omega)] | rw [if_neg (by omega)]))), rfl⟩

theorem t_isNightM {L d : Nat} {m : zmem} (t : Int) : zF L (d + 1) 87 [.inl t] m (some (.inl (if 0 ≤ t ∧ t ≤ 39 then 1 else 0))) m := by
  refine zF_of n87 (ls := [some (.inl t)]) rfl ?_
  refine r_iload_n f87_0 rfl ?_
  refine r_iconst f87_1 rfl ?_
  refine r_bipush f87_2 (by decide) ?_
  refine r_calls3i f87_4 o87 M7_90 (Or.inl rfl) p85 rfl (by simp) (t_in t 0 39) ?_
  refine r_ite (fun q1 => ?_) (fun q1 => ?_)
  · exact r_zret f87_7 v87 (by omega) ⟨zs_eq (by first | rfl | omega | (repeat (first | rw [if_pos (by omega)] | rw [if_neg (by omega)]))), rfl⟩
  · exact r_zret f87_7 v87 (by omega) ⟨zs_eq (by first | rfl | omega | (repeat (first | rw [if_pos (by omega)] | rw [if_neg (by omega)]))), rfl⟩

theorem t_hasHouse {L d : Nat} {m : zmem} (h : Int) (h0 : 0 ≤ m 1 1) (h1 : m 1 1 ≤ 12) : zF L (d + 1) 30 [.inr (.inl (some 1)), .inl h] m (some (.inl (if 0 ≤ h ∧ h < m 1 1 then 1 else 0))) m := by
  refine zF_of n30 (ls := [some (.inr (.inl (some 1))), some (.inl h)]) rfl ?_
  refine r_iload_n f30_0 rfl ?_
  refine r_iconst f30_1 rfl ?_
  refine r_aload_n f30_2 rfl ?_
  refine r_getI f30_3 o30 F4_18 g1_1 rfl ?_
  refine r_iconst f30_6 rfl ?_
  refine r_isub f30_7 (e := m 1 1 - 1) (by omega) (by omega) (by omega) ?_
  refine r_calls3i f30_8 o30 M4_22 (Or.inr rfl) p67 rfl (by simp) (t_within h 0 (m 1 1 - 1)) ?_
  refine r_ite (fun q1 => ?_) (fun q1 => ?_)
  · exact r_zret f30_11 v30 (by omega) ⟨zs_eq (by first | rfl | omega | (repeat (first | rw [if_pos (by omega)] | rw [if_neg (by omega)]))), rfl⟩
  · exact r_zret f30_11 v30 (by omega) ⟨zs_eq (by first | rfl | omega | (repeat (first | rw [if_pos (by omega)] | rw [if_neg (by omega)]))), rfl⟩

theorem t_isHouse {L d : Nat} {m : zmem} (h : Int) (h0 : 0 ≤ m 264 0) (h1 : m 264 0 ≤ 12) : zF L (d + 1) 86 [.inr (.inl (some 264)), .inl h] m (some (.inl (if 0 ≤ h ∧ h < m 264 0 then 1 else 0))) m := by
  refine zF_of n86 (ls := [some (.inr (.inl (some 264))), some (.inl h)]) rfl ?_
  refine r_iload_n f86_0 rfl ?_
  refine r_iconst f86_1 rfl ?_
  refine r_aload_n f86_2 rfl ?_
  refine r_getI f86_3 o86 F7_86 g264_0 rfl ?_
  refine r_iconst f86_6 rfl ?_
  refine r_isub f86_7 (e := m 264 0 - 1) (by omega) (by omega) (by omega) ?_
  refine r_calls3i f86_8 o86 M7_90 (Or.inl rfl) p85 rfl (by simp) (t_in h 0 (m 264 0 - 1)) ?_
  refine r_ite (fun q1 => ?_) (fun q1 => ?_)
  · exact r_zret f86_11 v86 (by omega) ⟨zs_eq (by first | rfl | omega | (repeat (first | rw [if_pos (by omega)] | rw [if_neg (by omega)]))), rfl⟩
  · exact r_zret f86_11 v86 (by omega) ⟨zs_eq (by first | rfl | omega | (repeat (first | rw [if_pos (by omega)] | rw [if_neg (by omega)]))), rfl⟩

theorem t_isChainX {L d : Nat} {m : zmem} (c : Int) (h0 : 0 ≤ m 0 6) (h1 : m 0 6 ≤ 40) : zF L (d + 1) 69 [.inr (.inl (some 0)), .inl c] m (some (.inl (if 0 ≤ c ∧ c < m 0 6 then 1 else 0))) m := by
  refine zF_of n69 (ls := [some (.inr (.inl (some 0))), some (.inl c)]) rfl ?_
  refine r_iload_n f69_0 rfl ?_
  refine r_iconst f69_1 rfl ?_
  refine r_aload_n f69_2 rfl ?_
  refine r_getI f69_3 o69 F6_101 g0_6 rfl ?_
  refine r_iconst f69_6 rfl ?_
  refine r_isub f69_7 (e := m 0 6 - 1) (by omega) (by omega) (by omega) ?_
  refine r_calls3i f69_8 o69 M6_50 (Or.inl rfl) p67 rfl (by simp) (t_within c 0 (m 0 6 - 1)) ?_
  refine r_ite (fun q1 => ?_) (fun q1 => ?_)
  · exact r_zret f69_11 v69 (by omega) ⟨zs_eq (by first | rfl | omega | (repeat (first | rw [if_pos (by omega)] | rw [if_neg (by omega)]))), rfl⟩
  · exact r_zret f69_11 v69 (by omega) ⟨zs_eq (by first | rfl | omega | (repeat (first | rw [if_pos (by omega)] | rw [if_neg (by omega)]))), rfl⟩

theorem t_isChainM {L d : Nat} {m : zmem} (c : Int) (h0 : 0 ≤ m 264 10) (h1 : m 264 10 ≤ 40) : zF L (d + 1) 88 [.inr (.inl (some 264)), .inl c] m (some (.inl (if 0 ≤ c ∧ c < m 264 10 then 1 else 0))) m := by
  refine zF_of n88 (ls := [some (.inr (.inl (some 264))), some (.inl c)]) rfl ?_
  refine r_iload_n f88_0 rfl ?_
  refine r_iconst f88_1 rfl ?_
  refine r_aload_n f88_2 rfl ?_
  refine r_getI f88_3 o88 F7_94 g264_10 rfl ?_
  refine r_iconst f88_6 rfl ?_
  refine r_isub f88_7 (e := m 264 10 - 1) (by omega) (by omega) (by omega) ?_
  refine r_calls3i f88_8 o88 M7_90 (Or.inl rfl) p85 rfl (by simp) (t_in c 0 (m 264 10 - 1)) ?_
  refine r_ite (fun q1 => ?_) (fun q1 => ?_)
  · exact r_zret f88_11 v88 (by omega) ⟨zs_eq (by first | rfl | omega | (repeat (first | rw [if_pos (by omega)] | rw [if_neg (by omega)]))), rfl⟩
  · exact r_zret f88_11 v88 (by omega) ⟨zs_eq (by first | rfl | omega | (repeat (first | rw [if_pos (by omega)] | rw [if_neg (by omega)]))), rfl⟩

theorem t_freeBeds {L d : Nat} {m : zmem} {h t : Int} (h0 : 0 ≤ h) (h1 : h < 12) (t0 : 0 ≤ t) (t1 : t < 40) (hf : ∀ k, 0 ≤ k → k < 120 → 0 ≤ m (4 + 4 * h) k ∧ m (4 + 4 * h) k ≤ 9) : zF L (d) 14 [.inr (.inl (some (3 + 4 * h))), .inl t] m (some (.inl (m (4 + 4 * h) (3 * t) + m (4 + 4 * h) (3 * t + 1) + m (4 + 4 * h) (3 * t + 2)))) m := by
  have r0 := hf (3 * t) (by omega) (by omega)
  have r1 := hf (3 * t + 1) (by omega) (by omega)
  have r2 := hf (3 * t + 2) (by omega) (by omega)
  refine zF_of n14 (ls := [some (.inr (.inl (some (3 + 4 * h)))), some (.inl t), none, none]) rfl ?_
  refine r_iconst f14_0 rfl ?_
  refine r_istore_n f14_1 rfl (ls' := [some (.inr (.inl (some (3 + 4 * h)))), some (.inl t), some (.inl 0), none]) rfl ?_
  refine r_iconst f14_2 rfl ?_
  refine r_istore_n f14_3 rfl (ls' := [some (.inr (.inl (some (3 + 4 * h)))), some (.inl t), some (.inl 0), some (.inl 0)]) rfl ?_
  refine r_iload_n f14_4 rfl ?_
  refine r_iconst f14_5 rfl ?_
  refine r_cge f14_6 (t := 28) (by decide) (fun h => absurd h (by omega)) (fun _ => ?_)
  refine r_iload_n f14_9 rfl ?_
  refine r_aload_n f14_10 rfl ?_
  refine r_getR f14_11 o14 F1_9 (gH_0 (h := h) (by omega) (by omega)) rfl ?_
  refine r_iload_n f14_14 rfl ?_
  refine r_iconst f14_15 rfl ?_
  refine r_imul f14_16 (e := 3 * t) (by omega) (by omega) (by omega) ?_
  refine r_iload_n f14_17 rfl ?_
  refine r_iadd f14_18 (e := 3 * t) (by omega) (by omega) (by omega) ?_
  refine r_iald f14_19 (kdH1 (h := h) (by omega) (by omega)) (by omega) (by omega) ?_
  refine r_iadd f14_20 (e := m (4 + 4 * h) (3 * t)) (by omega) (by omega) (by omega) ?_
  refine r_istore_n f14_21 rfl (ls' := [some (.inr (.inl (some (3 + 4 * h)))), some (.inl t), some (.inl (m (4 + 4 * h) (3 * t))), some (.inl 0)]) rfl ?_
  refine r_iinc f14_22 rfl rfl rfl (e := 1) (by omega) (by omega) (by omega) (ls' := [some (.inr (.inl (some (3 + 4 * h)))), some (.inl t), some (.inl (m (4 + 4 * h) (3 * t))), some (.inl 1)]) rfl ?_
  refine r_goto f14_25 (t := 4) (by decide) ?_
  refine r_iload_n f14_4 rfl ?_
  refine r_iconst f14_5 rfl ?_
  refine r_cge f14_6 (t := 28) (by decide) (fun h => absurd h (by omega)) (fun _ => ?_)
  refine r_iload_n f14_9 rfl ?_
  refine r_aload_n f14_10 rfl ?_
  refine r_getR f14_11 o14 F1_9 (gH_0 (h := h) (by omega) (by omega)) rfl ?_
  refine r_iload_n f14_14 rfl ?_
  refine r_iconst f14_15 rfl ?_
  refine r_imul f14_16 (e := 3 * t) (by omega) (by omega) (by omega) ?_
  refine r_iload_n f14_17 rfl ?_
  refine r_iadd f14_18 (e := 3 * t + 1) (by omega) (by omega) (by omega) ?_
  refine r_iald f14_19 (kdH1 (h := h) (by omega) (by omega)) (by omega) (by omega) ?_
  refine r_iadd f14_20 (e := m (4 + 4 * h) (3 * t + 1) + m (4 + 4 * h) (3 * t)) (by omega) (by omega) (by omega) ?_
  refine r_istore_n f14_21 rfl (ls' := [some (.inr (.inl (some (3 + 4 * h)))), some (.inl t), some (.inl (m (4 + 4 * h) (3 * t + 1) + m (4 + 4 * h) (3 * t))), some (.inl 1)]) rfl ?_
  refine r_iinc f14_22 rfl rfl rfl (e := 2) (by omega) (by omega) (by omega) (ls' := [some (.inr (.inl (some (3 + 4 * h)))), some (.inl t), some (.inl (m (4 + 4 * h) (3 * t + 1) + m (4 + 4 * h) (3 * t))), some (.inl 2)]) rfl ?_
  refine r_goto f14_25 (t := 4) (by decide) ?_
  refine r_iload_n f14_4 rfl ?_
  refine r_iconst f14_5 rfl ?_
  refine r_cge f14_6 (t := 28) (by decide) (fun h => absurd h (by omega)) (fun _ => ?_)
  refine r_iload_n f14_9 rfl ?_
  refine r_aload_n f14_10 rfl ?_
  refine r_getR f14_11 o14 F1_9 (gH_0 (h := h) (by omega) (by omega)) rfl ?_
  refine r_iload_n f14_14 rfl ?_
  refine r_iconst f14_15 rfl ?_
  refine r_imul f14_16 (e := 3 * t) (by omega) (by omega) (by omega) ?_
  refine r_iload_n f14_17 rfl ?_
  refine r_iadd f14_18 (e := 3 * t + 2) (by omega) (by omega) (by omega) ?_
  refine r_iald f14_19 (kdH1 (h := h) (by omega) (by omega)) (by omega) (by omega) ?_
  refine r_iadd f14_20 (e := m (4 + 4 * h) (3 * t + 1) + m (4 + 4 * h) (3 * t + 2) + m (4 + 4 * h) (3 * t)) (by omega) (by omega) (by omega) ?_
  refine r_istore_n f14_21 rfl (ls' := [some (.inr (.inl (some (3 + 4 * h)))), some (.inl t), some (.inl (m (4 + 4 * h) (3 * t + 1) + m (4 + 4 * h) (3 * t + 2) + m (4 + 4 * h) (3 * t))), some (.inl 2)]) rfl ?_
  refine r_iinc f14_22 rfl rfl rfl (e := 3) (by omega) (by omega) (by omega) (ls' := [some (.inr (.inl (some (3 + 4 * h)))), some (.inl t), some (.inl (m (4 + 4 * h) (3 * t + 1) + m (4 + 4 * h) (3 * t + 2) + m (4 + 4 * h) (3 * t))), some (.inl 3)]) rfl ?_
  refine r_goto f14_25 (t := 4) (by decide) ?_
  refine r_iload_n f14_4 rfl ?_
  refine r_iconst f14_5 rfl ?_
  refine r_cge f14_6 (t := 28) (by decide) (fun _ => ?_) (fun h => absurd (by omega) h)
  refine r_iload_n f14_28 rfl ?_
  exact r_iret f14_29 v14 ⟨zs_eq (by first | rfl | omega | (repeat (first | rw [if_pos (by omega)] | rw [if_neg (by omega)]))), rfl⟩

