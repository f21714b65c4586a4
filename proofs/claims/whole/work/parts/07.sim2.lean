/-! numbers and branches -/
section SIM2
variable {p : Program} {l : Launch} {e : Env} {R : Room} {s : State} {m : MethodId} {args : Array Value} {below : List Frame} {meth : Method} {c : Code} {H : Heap} {locs : List Loc} {cells slots : Nat} {Q : State → Prop}
theorem zif_t {b : Bool} {pc : Nat} {o : Int} {q : Nat} (h : zif b pc o = some q) : ∃ t : Nat, (pc : Int) + o = (t : Int) ∧ (b = true → q = t) ∧ (b = false → q = pc + 3) := by
  unfold zif at h
  split at h
  · next h0 =>
    refine ⟨_, (Int.toNat_of_nonneg h0).symm, ?_⟩
    split at h
    · next hb => cases h; exact ⟨fun _ => rfl, fun e => by rw [hb] at e; cases e⟩
    · next hb => cases h; exact ⟨fun e => absurd e hb, fun _ => rfl⟩
  · cases h
theorem zdiv {a b : Int} (ha : 0 ≤ a) (ha2 : a ≤ 2147483647) (hb : 0 < b) (hb2 : b ≤ 2147483647) : Int32.ofInt a / Int32.ofInt b = Int32.ofInt (a / b) := by
  have e1 : Int32.ofInt a = nI a.toNat := by show _ = Int32.ofNat a.toNat; rw [← Int32.ofInt_eq_ofNat]; congr 1; omega
  have e2 : Int32.ofInt b = nI b.toNat := by show _ = Int32.ofNat b.toNat; rw [← Int32.ofInt_eq_ofNat]; congr 1; omega
  rw [e1, e2, pk_div (by omega) (by omega) (by omega)]
  show Int32.ofNat _ = _
  rw [← Int32.ofInt_eq_ofNat]
  congr 1
  rw [Int.natCast_ediv, Int.toNat_of_nonneg ha, Int.toNat_of_nonneg (by omega)]
theorem zi2l {a : Int} (h : -2147483648 ≤ a ∧ a ≤ 2147483647) : (Int32.ofInt a).toInt64 = Int64.ofInt a := by
  apply Int64.toInt_inj.mp
  rw [Int32.toInt_toInt64, zti h, Int64.toInt_ofInt]
  have e : Int64.size = 18446744073709551616 := rfl
  rw [e]
  exact (Int.bmod_eq_of_le (by omega) (by omega)).symm
set_option maxHeartbeats 1000000 in
theorem z_n2 {f : Int → Nat} {j : Nat} {i : Instr} {len pc : Nat} {ls : zL} {st : List zV} {M : zM} {x : zX} {A : Array Slot} (hx : p.tables.exec = Jvm.exec) (hb : c.code = zc j)
    (hL : zLR f (zn j) ls A) (hS : ∀ v ∈ st, zok v) (hd : decode (zc j) pc = .ok (i, len)) (hl : zlk i len = true) (h : zn2 i pc ls st M = some x)
    (kk : ∀ A', zLR f (zn j) x.2.1 A' → (∀ v ∈ x.2.2.1, zok v) → W p l e R s m args below meth c H locs cells slots Q (F0 m x.1 A' (x.2.2.1.map (zcv f)))) : W p l e R s m args below meth c H locs cells slots Q (F0 m pc A (st.map (zcv f))) := by
  unfold zn2 at h
  split at h
  ·
    have hn := zlen_of hl (by intros; simp); simp only [zlen] at hn; subst hn
    split at h
    · next v r => cases h; have hv := List.forall_mem_cons.mp hS; exact lv_dup hx hb hd rfl (kk A hL (List.forall_mem_cons.mpr ⟨hv.1, hS⟩))
    · next v r => cases h; have hv := List.forall_mem_cons.mp hS; exact lv_dup hx hb hd rfl (kk A hL (List.forall_mem_cons.mpr ⟨hv.1, hS⟩))
    · cases h
  ·
    have hn := zlen_of hl (by intros; simp); simp only [zlen] at hn; subst hn
    split at h
    · next v q r => cases h; have hv := List.forall_mem_cons.mp hS; have hw := List.forall_mem_cons.mp hv.2; exact lv_dup2_11 hx hb hd rfl rfl (kk A hL (List.forall_mem_cons.mpr ⟨hv.1, List.forall_mem_cons.mpr ⟨hw.1, hS⟩⟩))
    · cases h
  ·
    have hn := zlen_of hl (by intros; simp); simp only [zlen] at hn; subst hn
    split at h
    · next y0 x0 r =>
      split at h
      · next hz =>
        cases h
        have hv := List.forall_mem_cons.mp hS
        have hw := List.forall_mem_cons.mp hv.2
        refine lv_iadd hx hb hd ?_
        rw [← Int32.ofInt_add]
        exact kk A hL (List.forall_mem_cons.mpr ⟨z32_iff.mp hz, hw.2⟩)
      · cases h
    · cases h
  ·
    have hn := zlen_of hl (by intros; simp); simp only [zlen] at hn; subst hn
    split at h
    · next y0 x0 r =>
      split at h
      · next hz =>
        cases h
        have hv := List.forall_mem_cons.mp hS
        have hw := List.forall_mem_cons.mp hv.2
        refine lv_isub hx hb hd ?_
        rw [← Int32.ofInt_sub]
        exact kk A hL (List.forall_mem_cons.mpr ⟨z32_iff.mp hz, hw.2⟩)
      · cases h
    · cases h
  ·
    have hn := zlen_of hl (by intros; simp); simp only [zlen] at hn; subst hn
    split at h
    · next y0 x0 r =>
      split at h
      · next hz =>
        cases h
        have hv := List.forall_mem_cons.mp hS
        have hw := List.forall_mem_cons.mp hv.2
        refine lv_imul hx hb hd ?_
        rw [← Int32.ofInt_mul]
        exact kk A hL (List.forall_mem_cons.mpr ⟨z32_iff.mp hz, hw.2⟩)
      · cases h
    · cases h
  ·
    have hn := zlen_of hl (by intros; simp); simp only [zlen] at hn; subst hn
    split at h
    · next y0 x0 r =>
      split at h
      · next hz =>
        cases h
        have hv := List.forall_mem_cons.mp hS
        have hw := List.forall_mem_cons.mp hv.2
        have b1 : -2147483648 ≤ y0 ∧ y0 ≤ 2147483647 := hv.1
        have b2 : -2147483648 ≤ x0 ∧ x0 ≤ 2147483647 := hw.1
        refine lv_idiv hx hb hd ?_ ?_
        · intro e0
          have := (zinj (b := 0) b1 ⟨by omega, by omega⟩).mp e0
          omega
        · rw [zdiv hz.1 b2.2 hz.2 b1.2]
          have g1 : 0 ≤ x0 / y0 := Int.ediv_nonneg hz.1 (by omega)
          have g2 : x0 / y0 ≤ x0 := Int.ediv_le_self _ hz.1
          exact kk A hL (List.forall_mem_cons.mpr ⟨⟨by omega, by omega⟩, hw.2⟩)
      · cases h
    · cases h
  ·
    have hn := zlen_of hl (by intros; simp); simp only [zlen] at hn; subst hn
    split at h
    · next y0 x0 r =>
      cases h
      have hv := List.forall_mem_cons.mp hS
      have hw := List.forall_mem_cons.mp hv.2
      refine lv_iand hx hb hd ?_
      rw [← Int32.ofInt_toInt (Int32.ofInt x0 &&& Int32.ofInt y0)]
      exact kk A hL (List.forall_mem_cons.mpr ⟨zto _, hw.2⟩)
    · cases h
  ·
    have hn := zlen_of hl (by intros; simp); simp only [zlen] at hn; subst hn
    split at h
    · next y0 x0 r =>
      cases h
      have hv := List.forall_mem_cons.mp hS
      have hw := List.forall_mem_cons.mp hv.2
      refine lv_ishr hx hb hd ?_
      rw [← Int32.ofInt_toInt (Int32.ofInt x0 >>> (Int32.ofInt y0 &&& 31))]
      exact kk A hL (List.forall_mem_cons.mpr ⟨zto _, hw.2⟩)
    · cases h
  ·
    have hn := zlen_of hl (by intros; simp); simp only [zlen] at hn; subst hn
    split at h
    · next x0 r =>
      cases h
      have hv := List.forall_mem_cons.mp hS
      exact lv_i2l hx hb hd (zi2l hv.1) (kk A hL (List.forall_mem_cons.mpr ⟨trivial, hv.2⟩))
    · cases h
  ·
    have hn := zlen_of hl (by intros; simp); simp only [zlen] at hn; subst hn
    split at h
    · next y0 x0 r =>
      cases h
      have hv := List.forall_mem_cons.mp hS
      have hw := List.forall_mem_cons.mp hv.2
      exact lv_lmul hx hb hd (kk A hL (List.forall_mem_cons.mpr ⟨trivial, hw.2⟩))
    · cases h
  ·
    have hn := zlen_of hl (by intros; simp); simp only [zlen] at hn; subst hn
    split at h
    · next y0 x0 r =>
      cases h
      have hv := List.forall_mem_cons.mp hS
      have hw := List.forall_mem_cons.mp hv.2
      exact lv_ladd hx hb hd (kk A hL (List.forall_mem_cons.mpr ⟨trivial, hw.2⟩))
    · cases h
  ·
    have hn := zlen_of hl (by intros; simp); simp only [zlen] at hn; subst hn
    split at h
    · next y0 x0 r =>
      cases h
      have hv := List.forall_mem_cons.mp hS
      have hw := List.forall_mem_cons.mp hv.2
      refine W.lcmp hx hb hd ?_
      rw [← Int32.ofInt_toInt (lg_cmp x0 y0)]
      exact kk A hL (List.forall_mem_cons.mpr ⟨zto _, hw.2⟩)
    · cases h
  ·
    have hn := zlen_of hl (by intros; simp); simp only [zlen] at hn; subst hn
    split at h
    · next y0 x0 r =>
      obtain ⟨q, hq, rfl⟩ := Option.map_eq_some_iff.mp h
      obtain ⟨t, ht, htt, hff⟩ := zif_t hq
      have hv := List.forall_mem_cons.mp hS
      have hw := List.forall_mem_cons.mp hv.2
      have b1 : -2147483648 ≤ y0 ∧ y0 ≤ 2147483647 := hv.1
      have b2 : -2147483648 ≤ x0 ∧ x0 ≤ 2147483647 := hw.1
      have hr := hw.2
      split at hq
      · have hc := zinj b2 b1
        by_cases hz : x0 = y0
        · have hp := htt (decide_eq_true hz)
          subst hp
          exact lv_icmp_eq hx hb hd ht (fun _ => kk A hL hr) (fun g => absurd (hc.mpr hz) g)
        · have hp := hff (decide_eq_false hz)
          rw [hp] at kk
          exact lv_icmp_eq hx hb hd ht (fun g => absurd (hc.mp g) hz) (fun _ => kk A hL hr)
      · have hc := not_congr (zinj b2 b1)
        by_cases hz : x0 ≠ y0
        · have hp := htt (decide_eq_true hz)
          subst hp
          exact lv_icmp_ne hx hb hd ht (fun _ => kk A hL hr) (fun g => absurd g (hc.mpr hz))
        · have hp := hff (decide_eq_false hz)
          rw [hp] at kk
          exact lv_icmp_ne hx hb hd ht (fun g => absurd (hc.mp g) hz) (fun _ => kk A hL hr)
      · have hc := zlt b2 b1
        by_cases hz : x0 < y0
        · have hp := htt (decide_eq_true hz)
          subst hp
          exact lv_icmp_lt hx hb hd ht (fun _ => kk A hL hr) (fun g => absurd (hc.mpr hz) g)
        · have hp := hff (decide_eq_false hz)
          rw [hp] at kk
          exact lv_icmp_lt hx hb hd ht (fun g => absurd (hc.mp g) hz) (fun _ => kk A hL hr)
      · have hc := zle b1 b2
        by_cases hz : y0 ≤ x0
        · have hp := htt (decide_eq_true hz)
          subst hp
          exact lv_icmp_ge hx hb hd ht (fun _ => kk A hL hr) (fun g => absurd (hc.mpr hz) g)
        · have hp := hff (decide_eq_false hz)
          rw [hp] at kk
          exact lv_icmp_ge hx hb hd ht (fun g => absurd (hc.mp g) hz) (fun _ => kk A hL hr)
      · have hc := zlt b1 b2
        by_cases hz : y0 < x0
        · have hp := htt (decide_eq_true hz)
          subst hp
          exact lv_icmp_gt hx hb hd ht (fun _ => kk A hL hr) (fun g => absurd (hc.mpr hz) g)
        · have hp := hff (decide_eq_false hz)
          rw [hp] at kk
          exact lv_icmp_gt hx hb hd ht (fun g => absurd (hc.mp g) hz) (fun _ => kk A hL hr)
      · have hc := zle b2 b1
        by_cases hz : x0 ≤ y0
        · have hp := htt (decide_eq_true hz)
          subst hp
          exact lv_icmp_le hx hb hd ht (fun _ => kk A hL hr) (fun g => absurd (hc.mpr hz) g)
        · have hp := hff (decide_eq_false hz)
          rw [hp] at kk
          exact lv_icmp_le hx hb hd ht (fun g => absurd (hc.mp g) hz) (fun _ => kk A hL hr)
    · cases h
  ·
    have hn := zlen_of hl (by intros; simp); simp only [zlen] at hn; subst hn
    split at h
    · next x0 r =>
      obtain ⟨q, hq, rfl⟩ := Option.map_eq_some_iff.mp h
      obtain ⟨t, ht, htt, hff⟩ := zif_t hq
      have hv := List.forall_mem_cons.mp hS
      have b2 : -2147483648 ≤ x0 ∧ x0 ≤ 2147483647 := hv.1
      have b1 : -2147483648 ≤ (0 : Int) ∧ (0 : Int) ≤ 2147483647 := ⟨by omega, by omega⟩
      have hr := hv.2
      split at hq
      · have hc := zinj b2 b1
        by_cases hz : x0 = 0
        · have hp := htt (decide_eq_true hz)
          subst hp
          exact lv_if_eq hx hb hd ht (fun _ => kk A hL hr) (fun g => absurd (hc.mpr hz) g)
        · have hp := hff (decide_eq_false hz)
          rw [hp] at kk
          exact lv_if_eq hx hb hd ht (fun g => absurd (hc.mp g) hz) (fun _ => kk A hL hr)
      · have hc := not_congr (zinj b2 b1)
        by_cases hz : x0 ≠ 0
        · have hp := htt (decide_eq_true hz)
          subst hp
          exact lv_if_ne hx hb hd ht (fun _ => kk A hL hr) (fun g => absurd g (hc.mpr hz))
        · have hp := hff (decide_eq_false hz)
          rw [hp] at kk
          exact lv_if_ne hx hb hd ht (fun g => absurd (hc.mp g) hz) (fun _ => kk A hL hr)
      · have hc := zlt b2 b1
        by_cases hz : x0 < 0
        · have hp := htt (decide_eq_true hz)
          subst hp
          exact lv_if_lt hx hb hd ht (fun _ => kk A hL hr) (fun g => absurd (hc.mpr hz) g)
        · have hp := hff (decide_eq_false hz)
          rw [hp] at kk
          exact lv_if_lt hx hb hd ht (fun g => absurd (hc.mp g) hz) (fun _ => kk A hL hr)
      · have hc := zle b1 b2
        by_cases hz : 0 ≤ x0
        · have hp := htt (decide_eq_true hz)
          subst hp
          exact lv_if_ge hx hb hd ht (fun _ => kk A hL hr) (fun g => absurd (hc.mpr hz) g)
        · have hp := hff (decide_eq_false hz)
          rw [hp] at kk
          exact lv_if_ge hx hb hd ht (fun g => absurd (hc.mp g) hz) (fun _ => kk A hL hr)
      · have hc := zlt b1 b2
        by_cases hz : 0 < x0
        · have hp := htt (decide_eq_true hz)
          subst hp
          exact lv_if_gt hx hb hd ht (fun _ => kk A hL hr) (fun g => absurd (hc.mpr hz) g)
        · have hp := hff (decide_eq_false hz)
          rw [hp] at kk
          exact lv_if_gt hx hb hd ht (fun g => absurd (hc.mp g) hz) (fun _ => kk A hL hr)
      · have hc := zle b2 b1
        by_cases hz : x0 ≤ 0
        · have hp := htt (decide_eq_true hz)
          subst hp
          exact lv_if_le hx hb hd ht (fun _ => kk A hL hr) (fun g => absurd (hc.mpr hz) g)
        · have hp := hff (decide_eq_false hz)
          rw [hp] at kk
          exact lv_if_le hx hb hd ht (fun g => absurd (hc.mp g) hz) (fun _ => kk A hL hr)
    · cases h
  ·
    have hn := zlen_of hl (by intros; simp); simp only [zlen] at hn; subst hn
    split at h
    · next hz => cases h; exact lv_goto hx hb hd (Int.toNat_of_nonneg hz).symm (kk A hL hS)
    · cases h
  · split at h
    · next x0 r =>
      have hv := List.forall_mem_cons.mp hS
      have b2 : -2147483648 ≤ x0 ∧ x0 ≤ 2147483647 := hv.1
      split at h
      · next hz =>
        split at h
        · next h0 => cases h; exact lv_tableOut hx hb hd (by rw [zti b2]; exact hz) (Int.toNat_of_nonneg h0).symm (kk A hL hv.2)
        · cases h
      · next hz =>
        split at h
        · next o ho =>
          split at h
          · next h0 => cases h; exact lv_tableIn hx hb hd (by rw [zti b2]; omega) (by rw [zti b2]; omega) (by rw [zti b2]; exact ho) (Int.toNat_of_nonneg h0).symm (kk A hL hv.2)
          · cases h
        · cases h
    · cases h
  · cases h
end SIM2
