/-! the machine's cells as the world's list -/
theorem zCl_at {ci : Nat} (h : ci < 8) : zCl[ci]? = some (zRn ci, zT ci, zN ci) := by
  rcases (show ci = 0 ∨ ci = 1 ∨ ci = 2 ∨ ci = 3 ∨ ci = 4 ∨ ci = 5 ∨ ci = 6 ∨ ci = 7 by omega) with rfl | rfl | rfl | rfl | rfl | rfl | rfl | rfl <;> rfl
set_option maxRecDepth 100000 in
theorem zin_0 : (List.range 8).all (fun ci => (u_ws (zRn ci) (zT ci) (zN ci)).all (fun w => decide (w ∈ lw_tbl) && goodWord w)) = true := by decide +kernel
theorem zin {ci : Nat} (h : ci < 8) : ∀ w ∈ u_ws (zRn ci) (zT ci) (zN ci), w ∈ zW := by
  intro w hw
  have h1 := List.all_eq_true.mp (List.all_eq_true.mp zin_0 ci (List.mem_range.mpr h)) w hw
  simp only [Bool.and_eq_true, decide_eq_true_eq] at h1
  exact List.mem_filter.mpr h1
theorem zty_p {ci : Nat} (h : ci < 8) : ∀ k, k < zN ci → parseFieldDescriptor (zT ci k).2.2.1 = some (zty ci k) := by
  rcases (show ci = 0 ∨ ci = 1 ∨ ci = 2 ∨ ci = 3 ∨ ci = 4 ∨ ci = 5 ∨ ci = 6 ∨ ci = 7 by omega) with rfl | rfl | rfl | rfl | rfl | rfl | rfl | rfl
  · exact tyX0_ok
  · exact tyX1_ok
  · exact tyX2_ok
  · exact tyX3_ok
  · exact tyX4_ok
  · exact tyX5_ok
  · exact tyX6_ok
  · exact tyX7_ok
theorem znm_p {ci : Nat} (h : ci < 8) : ∀ a, a < zN ci → ∀ b, b < zN ci → a ≠ b → (zT ci a).2.1 ≠ (zT ci b).2.1 := by
  rcases (show ci = 0 ∨ ci = 1 ∨ ci = 2 ∨ ci = 3 ∨ ci = 4 ∨ ci = 5 ∨ ci = 6 ∨ ci = 7 by omega) with rfl | rfl | rfl | rfl | rfl | rfl | rfl | rfl
  · exact nmX0
  · exact nmX1
  · exact nmX2
  · exact nmX3
  · exact nmX4
  · exact nmX5
  · exact nmX6
  · exact nmX7
theorem zdc_0 : (List.range 8).all (fun ci => (List.range (zN ci)).all (fun k => decide ((zT ci k).1 = zRn ci))) = true := by decide +kernel
theorem zdc {ci k : Nat} (h : ci < 8) (hk : k < zN ci) : (zT ci k).1 = zRn ci := of_decide_eq_true (List.all_eq_true.mp (List.all_eq_true.mp zdc_0 ci (List.mem_range.mpr h)) k (List.mem_range.mpr hk))
/-- object fields: int, or a reference -/
theorem zfk_0 : (List.range 8).all (fun ci => (List.range (zN ci)).all (fun k => match zty ci k with
  | .int => true
  | .array _ => true
  | .object _ => true
  | _ => false)) = true := by decide +kernel
theorem zfk {ci k : Nat} (h : ci < 8) (hk : k < zN ci) : zty ci k = .int ∨ (∃ t, zty ci k = .array t) ∨ ∃ n, zty ci k = .object n := by
  have h1 := List.all_eq_true.mp (List.all_eq_true.mp zfk_0 ci (List.mem_range.mpr h)) k (List.mem_range.mpr hk)
  cases hz : zty ci k with
  | int => exact Or.inl rfl
  | array t => exact Or.inr (Or.inl ⟨t, rfl⟩)
  | object n => exact Or.inr (Or.inr ⟨n, rfl⟩)
  | _ => rw [hz] at h1; simp at h1
theorem zfl_in {a n ci k : Nat} (h : zfl a n = some (ci, k)) : ci < 8 ∧ k < zN ci ∧ Cond.fieldLink (zRn a) n (zRn ci) (zT ci k).2.1 (zT ci k).2.2.1 ∈ zW := by
  unfold zfl at h
  obtain ⟨q, hq, he⟩ := Option.map_eq_some_iff.mp h
  have h1 := List.find?_some hq
  simp only [Bool.and_eq_true, beq_iff_eq] at h1
  have h2 := List.all_eq_true.mp zflT_ok q (List.mem_of_find?_eq_some hq)
  simp only [Bool.and_eq_true, decide_eq_true_eq] at h2
  obtain ⟨⟨h3, h4⟩, h5⟩ := h2
  cases he
  refine ⟨h4, h3, ?_⟩
  have h6 := zgw_in h5
  rw [h1.1, h1.2] at h6
  exact h6
theorem zcl_in {a n ci : Nat} (h : zcl a n = some ci) : ci < 8 ∧ Cond.classLink (zRn a) n (zRn ci) ∈ zW ∧ Cond.instantiable (zRn ci) (zN ci) ∈ zW := by
  unfold zcl at h
  obtain ⟨q, hq, he⟩ := Option.map_eq_some_iff.mp h
  have h1 := List.find?_some hq
  simp only [Bool.and_eq_true, beq_iff_eq] at h1
  have h2 := List.all_eq_true.mp zclT_ok q (List.mem_of_find?_eq_some hq)
  simp only [Bool.and_eq_true, decide_eq_true_eq] at h2
  obtain ⟨⟨h3, h4⟩, h5⟩ := h2
  cases he
  have h6 := zgw_in h4
  rw [h1.1, h1.2] at h6
  exact ⟨h3, h6, zgw_in h5⟩
theorem zini_0 : (List.range 9).all (fun ci => decide (Cond.initialized (zRn ci) ∈ lw_tbl) && goodWord (Cond.initialized (zRn ci))) = true := by decide +kernel
theorem zini {ci : Nat} (h : ci < 9) : Cond.initialized (zRn ci) ∈ zW := by
  have h1 := List.all_eq_true.mp zini_0 ci (List.mem_range.mpr h)
  simp only [Bool.and_eq_true, decide_eq_true_eq] at h1
  exact List.mem_filter.mpr h1
section ZCELL
variable {dC : Nat → ClassId} {dI : Nat → Nat → Nat} {cA : Nat → ClassId} {base b t0 L : Nat} {xs : Nat → Int32} {M : zM} {H H1 : Heap}
theorem zad_of {q : Int} (h : 0 ≤ q) : zad base b t0 q = base + q.toNat := by
  unfold zad
  rw [if_neg (by omega), if_neg (by omega)]
theorem zws_at {f : Int → Nat} {q : Int} (h : 0 ≤ q) (h2 : q < (M.1 : Int)) : (zws f base cA M)[q.toNat]? = some (base + q.toNat, zce f cA (M.2.2 q)) := by
  have h3 : q.toNat < M.1 := by omega
  unfold zws
  rw [List.getElem?_map, List.getElem?_range h3]
  show some (base + q.toNat, zce f cA (M.2.2 (q.toNat : Int))) = _
  rw [Int.toNat_of_nonneg h]
theorem zws_D {f : Int → Nat} : va_D (zA base) (zws f base cA M) := by
  have key : ∀ (k : Nat) (x : Nat × va_E), (zws f base cA M)[k]? = some x → x.1 = base + k := by
    intro k x hx
    unfold zws at hx
    rw [List.getElem?_map] at hx
    obtain ⟨y, hy, rfl⟩ := Option.map_eq_some_iff.mp hx
    have := (List.getElem?_eq_some_iff.mp hy).2
    rw [List.getElem_range] at this
    subst this
    rfl
  refine ⟨fun i j x y hi hj e => ?_, fun k x hx => ?_⟩
  · have h1 := key i x hi
    have h2 := key j y hj
    omega
  · rw [key k x hx]
    exact Nat.le_add_right base k
theorem zws_set {f : Int → Nat} {q : Int} {c : zC} (h : 0 ≤ q) : zws f base cA (zup M q c) = (zws f base cA M).set q.toNat (base + q.toNat, zce f cA c) := by
  apply List.ext_getElem?
  intro k
  by_cases hk : k < M.1
  · have e1 : (zws f base cA (zup M q c))[k]? = some (base + k, zce f cA ((zup M q c).2.2 (k : Int))) := by
      unfold zws
      rw [List.getElem?_map, List.getElem?_range (show k < (zup M q c).1 from hk)]
      rfl
    rw [e1]
    by_cases hq : k = q.toNat
    · subst hq
      rw [List.getElem?_set_self (by unfold zws; rw [List.length_map, List.length_range]; exact hk)]
      show some (_, zce f cA (if ((q.toNat : Nat) : Int) = q then c else _)) = _
      rw [Int.toNat_of_nonneg h, if_pos rfl]
    · rw [List.getElem?_set_ne (fun e => hq e.symm)]
      unfold zws
      rw [List.getElem?_map, List.getElem?_range hk]
      have : ¬ (k : Int) = q := by omega
      simp [zup, this]
  · rw [List.getElem?_eq_none_iff.mpr (by unfold zws; rw [List.length_map, List.length_range]; exact Nat.not_lt.mp hk)]
    rw [List.getElem?_eq_none_iff.mpr (by rw [List.length_set]; unfold zws; rw [List.length_map, List.length_range]; exact Nat.not_lt.mp hk)]
theorem zws_new {f : Int → Nat} {n : Nat} {c : zC} : zws f base cA (znew M n c) = zws f base cA M ++ [(base + M.1, zce f cA c)] := by
  unfold zws
  show (List.range (M.1 + 1)).map _ = _
  rw [List.range_succ, List.map_append]
  congr 1
  · apply List.map_congr_left
    intro k hk
    have : ¬ (k : Int) = (M.1 : Int) := by have := List.mem_range.mp hk; omega
    simp [znew, this]
  · simp [znew]
theorem zWd.lt (h : zWd dC dI cA base b t0 L xs M H) {q : Int} (hv : zvk (M.2.2 q).1) (hn : ∀ len, (M.2.2 q).1 ≠ .inr (0, len)) : 0 ≤ q ∧ q < (M.1 : Int) := by
  obtain ⟨-, -, h3, h4, h5, -, -⟩ := h
  rcases h3 q hv with h | h | h
  · exact h
  · subst h; rw [h4] at hn; exact absurd rfl (hn _)
  · subst h; rw [h5] at hn; exact absurd rfl (hn _)
theorem zWd.set (h : zWd dC dI cA base b t0 L xs M H) {q : Int} (h0 : 0 ≤ q) {k : Int} {v : zV} (hv : zok v) (hz : H1.size = H.size) (hP : va_P (dC, dI) zCl ((zws (zad base b t0) base cA M).set q.toNat (base + q.toNat, zce (zad base b t0) cA (zst (M.2.2 q) k v))) H1) : zWd dC dI cA base b t0 L xs (zup M q (zst (M.2.2 q) k v)) H1 := by
  obtain ⟨h1, h2, h3, h4, h5, h6, h7⟩ := h
  refine ⟨by rw [zws_set h0]; exact hP, by rw [hz]; exact h2, fun r hr => ?_, ?_, ?_, fun r i => ?_, fun r t len hr => ?_⟩
  · by_cases e : r = q
    · subst e; apply h3; simpa [zup, zst] using hr
    · apply h3; simpa [zup, e] using hr
  · have : ¬ (-1 : Int) = q := by omega
    simp [zup, this, h4]
  · have : ¬ (-2 : Int) = q := by omega
    simp [zup, this, h5]
  · by_cases e : r = q
    · subst e
      by_cases e2 : i = k
      · simp [zup, zst, e2]; exact hv
      · simp [zup, zst, e2]; exact h6 r i
    · simp [zup, e]; exact h6 r i
  · by_cases e : r = q
    · subst e; exact h7 r t len (by simpa [zup, zst] using hr)
    · exact h7 r t len (by simpa [zup, e] using hr)
theorem zWd.new (h : zWd dC dI cA base b t0 L xs M H) {n : Nat} {c : zC} (hv : ∀ k, zok (c.2 k)) (hc : ∀ t len, c.1 = .inr (t, len) → 0 ≤ len ∧ len ≤ 65536) (hz : H1.size = H.size + 1) (hP : va_P (dC, dI) zCl (zws (zad base b t0) base cA M ++ [(H.size, zce (zad base b t0) cA c)]) H1) : zWd dC dI cA base b t0 L xs (znew M n c) H1 := by
  obtain ⟨h1, h2, h3, h4, h5, h6, h7⟩ := h
  refine ⟨by rw [zws_new, ← h2]; exact hP, by rw [hz, h2]; rfl, fun r hr => ?_, ?_, ?_, fun r i => ?_, fun r t len hr => ?_⟩
  · show (0 ≤ r ∧ r < ((M.1 + 1 : Nat) : Int)) ∨ _
    by_cases e : r = (M.1 : Int)
    · left; omega
    · rcases h3 r (by simpa [znew, e] using hr) with h | h
      · left; omega
      · right; exact h
  · have : ¬ (-1 : Int) = (M.1 : Int) := by omega
    simp [znew, this, h4]
  · have : ¬ (-2 : Int) = (M.1 : Int) := by omega
    simp [znew, this, h5]
  · by_cases e : r = (M.1 : Int)
    · simp [znew, e]; exact hv i
    · simp [znew, e]; exact h6 r i
  · by_cases e : r = (M.1 : Int)
    · exact hc t len (by simpa [znew, e] using hr)
    · exact h7 r t len (by simpa [znew, e] using hr)
theorem zce_obj {f : Int → Nat} {cl : zC} {ci : Nat} (h : cl.1 = .inl ci) : zce f cA cl = .inr (ci, (List.range (zN ci)).map (fun k : Nat => zcv f (cl.2 (k : Int)))) := by
  unfold zce; rw [h]
theorem zce_int {f : Int → Nat} {cl : zC} {t : Nat} {len : Int} (h : cl.1 = .inr (t, len)) (ht : t < 2) : zce f cA cl = .inl (cA t, len.toNat, .inl (fun k : Nat => zi (cl.2 (k : Int)))) := by
  unfold zce; rw [h]; simp [ht]
theorem zce_ref {f : Int → Nat} {cl : zC} {t : Nat} {len : Int} (h : cl.1 = .inr (t, len)) (ht : ¬ t < 2) : zce f cA cl = .inl (cA t, len.toNat, .inr (.inr (.inr (.inr (fun k : Nat => zq f (cl.2 (k : Int))))))) := by
  unfold zce; rw [h]; simp [ht]
theorem zce_objset {f : Int → Nat} {cl : zC} {ci k : Nat} {v : zV} (h : cl.1 = .inl ci) : zce f cA (zst cl (k : Int) v) = .inr (ci, ((List.range (zN ci)).map (fun k : Nat => zcv f (cl.2 (k : Int)))).set k (zcv f v)) := by
  rw [zce_obj (cl := zst cl k v) (ci := ci) h]
  congr 2
  apply List.ext_getElem?
  intro i
  rw [List.getElem?_map]
  by_cases hi : i < zN ci
  · rw [List.getElem?_range hi]
    by_cases e : i = k
    · subst e
      rw [List.getElem?_set_self (by rw [List.length_map, List.length_range]; exact hi)]
      simp [zst]
    · rw [List.getElem?_set_ne (fun x => e x.symm), List.getElem?_map, List.getElem?_range hi]
      have : ¬ (i : Int) = (k : Int) := by omega
      simp [zst, this]
  · rw [List.getElem?_eq_none_iff.mpr (by rw [List.length_range]; omega)]
    rw [List.getElem?_eq_none_iff.mpr (by rw [List.length_set, List.length_map, List.length_range]; omega)]
    rfl
theorem zce_intset {f : Int → Nat} {cl : zC} {t : Nat} {len a v : Int} (h : cl.1 = .inr (t, len)) (ht : t < 2) (h0 : 0 ≤ a) (h1 : a ≤ 2147483647) : zce f cA (zst cl a (.inl v)) = .inl (cA t, len.toNat, .inl (upd (fun k : Nat => zi (cl.2 (k : Int))) (Int32.ofInt a).toNatClampNeg (Int32.ofInt v))) := by
  rw [zce_int (cl := zst cl a (.inl v)) h ht, zcl_nat ⟨h0, h1⟩]
  congr 4
  funext k
  by_cases e : (k : Int) = a
  · subst e
    simp [zst, upd, zi]
  · have e2 : ¬ k = a.toNat := by omega
    simp [zst, upd, e, e2]
theorem zce_refset {f : Int → Nat} {cl : zC} {t : Nat} {len a q : Int} (h : cl.1 = .inr (t, len)) (ht : ¬ t < 2) (h0 : 0 ≤ a) (h1 : a ≤ 2147483647) : zce f cA (zst cl a (.inr (.inl (some q)))) = .inl (cA t, len.toNat, .inr (.inr (.inr (.inr (va_up (fun k : Nat => zq f (cl.2 (k : Int))) (Int32.ofInt a).toNatClampNeg (some (f q))))))) := by
  rw [zce_ref (cl := zst cl a (.inr (.inl (some q)))) h ht, zcl_nat ⟨h0, h1⟩]
  congr 7
  funext k
  by_cases e : (k : Int) = a
  · subst e
    simp [zst, va_up, zq]
  · have e2 : ¬ k = a.toNat := by omega
    simp [zst, va_up, e, e2]
end ZCELL
