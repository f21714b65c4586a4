/-! the small machine's cells in the JVM's heap -/
def zad (base b t0 : Nat) (p : Int) : Nat := if p = -1 then b else if p = -2 then t0 else base + p.toNat
def zcv (f : Int → Nat) : zV → Value
  | .inl i => .int (Int32.ofInt i)
  | .inr (.inl none) => .null
  | .inr (.inl (some q)) => .ref (f q)
  | .inr (.inr x) => .long x
def zi : zV → Int32
  | .inl i => Int32.ofInt i
  | _ => 0
def zq (f : Int → Nat) : zV → Option Nat
  | .inr (.inl (some q)) => some (f q)
  | _ => none
def zce (f : Int → Nat) (cA : Nat → ClassId) (K : zC) : va_E := match K.1 with
  | .inl ci => .inr (ci, (List.range (zN ci)).map (fun k : Nat => zcv f (K.2 (k : Int))))
  | .inr (t, len) => .inl (cA t, len.toNat, if t < 2 then .inl (fun k : Nat => zi (K.2 (k : Int))) else .inr (.inr (.inr (.inr (fun k : Nat => zq f (K.2 (k : Int)))))))
def zws (f : Int → Nat) (base : Nat) (cA : Nat → ClassId) (M : zM) : va_W := (List.range M.1).map (fun k : Nat => (base + k, zce f cA (M.2.2 (k : Int))))
def zvk : zK → Prop
  | .inl ci => ci < 8
  | .inr (t, _) => t < 4
def zok : zV → Prop
  | .inl i => -2147483648 ≤ i ∧ i ≤ 2147483647
  | _ => True
def zdv (k : Int) : Int := if k = 0 then 1 else if k = 1 then 2 else if k = 2 then 4 else if k = 3 then 3 else if k = 4 then 5 else if k = 5 then 6 else 7
def zds : zC := (.inr (0, 7), fun k => .inl (zdv k))
def zA (base : Nat) : Nat → Prop := fun q => base ≤ q
def zsc (L : Nat) (xs : Nat → Int32) : zC := (.inr (0, (L : Int)), fun k => .inl (xs k.toNat).toInt)
def zWd (dC : Nat → ClassId) (dI : Nat → Nat → Nat) (cA : Nat → ClassId) (base b t0 L : Nat) (xs : Nat → Int32) (M : zM) (H : Heap) : Prop :=
  va_P (dC, dI) zCl (zws (zad base b t0) base cA M) H ∧ H.size = base + M.1 ∧ (∀ q : Int, zvk (M.2.2 q).1 → (0 ≤ q ∧ q < (M.1 : Int)) ∨ q = -1 ∨ q = -2) ∧
  M.2.2 (-1) = zsc L xs ∧ M.2.2 (-2) = zds ∧ (∀ q k : Int, zok ((M.2.2 q).2 k)) ∧ (∀ (q : Int) (t : Nat) (len : Int), (M.2.2 q).1 = .inr (t, len) → 0 ≤ len ∧ len ≤ 65536)
def zas (f : Int → Nat) : Nat → zL → List (Nat × Value)
  | _, [] => []
  | k, some v :: t => (k, zcv f v) :: zas f (k + 1) t
  | k, none :: t => zas f (k + 1) t
theorem zas_mem {f : Int → Nat} : ∀ (ls : zL) (k : Nat) (q : Nat × Value), q ∈ zas f k ls ↔ ∃ (j : Nat) (v : zV), q.1 = k + j ∧ ls[j]? = some (some v) ∧ q.2 = zcv f v
  | [], k, q => by simp [zas]
  | some v :: t, k, q => by
    rw [zas, List.mem_cons, zas_mem t (k + 1) q]
    constructor
    · rintro (rfl | ⟨j, w, h1, h2, h3⟩)
      · exact ⟨0, v, rfl, rfl, rfl⟩
      · exact ⟨j + 1, w, by omega, by simpa using h2, h3⟩
    · rintro ⟨j, w, h1, h2, h3⟩
      cases j with
      | zero =>
        left
        simp at h2
        subst h2
        exact Prod.ext h1 h3
      | succ j =>
        right
        exact ⟨j, w, by omega, by simpa using h2, h3⟩
  | none :: t, k, q => by
    rw [zas, zas_mem t (k + 1) q]
    constructor
    · rintro ⟨j, w, h1, h2, h3⟩
      exact ⟨j + 1, w, by omega, by simpa using h2, h3⟩
    · rintro ⟨j, w, h1, h2, h3⟩
      cases j with
      | zero => simp at h2
      | succ j => exact ⟨j, w, by omega, by simpa using h2, h3⟩
def zLR (f : Int → Nat) (nL : Nat) (ls : zL) (A : Array Slot) : Prop := lv_has A nL (zas f 0 ls) ∧ ls.length = nL ∧ ∀ v, some v ∈ ls → zok v
theorem zLR.at {f : Int → Nat} {nL : Nat} {ls : zL} {A : Array Slot} (h : zLR f nL ls A) {i : Nat} {v : zV} (hi : ls[i]? = some (some v)) : A[i]? = some (.val (zcv f v)) :=
  h.1.2.2 (i, zcv f v) ((zas_mem ls 0 (i, zcv f v)).mpr ⟨i, v, (Nat.zero_add i).symm, hi, rfl⟩)
theorem zLR.ok {f : Int → Nat} {nL : Nat} {ls : zL} {A : Array Slot} (h : zLR f nL ls A) {i : Nat} {v : zV} (hi : ls[i]? = some (some v)) : zok v := h.2.2 v (List.mem_of_getElem? hi)
theorem zcat {f : Int → Nat} (v : zV) : (zcv f v).category = 2 ↔ ∃ x, v = .inr (.inr x) := by
  rcases v with i | o | x
  · simp [zcv, Value.category]
  · cases o <;> simp [zcv, Value.category]
  · simp [zcv, Value.category]
/-- behind a store of one word -/
theorem zLR.set {f : Int → Nat} {nL : Nat} {ls : zL} {A A' : Array Slot} {i : Nat} {v : zV} (h : zLR f nL ls A) (hf : zfree ls i = true) (hv : zok v)
    (h' : lv_has A' nL ((i, zcv f v) :: (zas f 0 ls).filter (fun q => !(q.1 == i) && !(q.1 + 1 == i && q.2.category == 2)))) : zLR f nL (ls.set i (some v)) A' := by
  refine ⟨⟨h'.1, h'.2.1, fun q hq => ?_⟩, by rw [List.length_set]; exact h.2.1, fun w hw => ?_⟩
  · obtain ⟨j, w, h1, h2, h3⟩ := (zas_mem _ 0 q).mp hq
    rw [Nat.zero_add] at h1
    by_cases hij : j = i
    · subst hij
      have hlt : j < ls.length := by
        have := (List.getElem?_eq_some_iff.mp h2).1
        rwa [List.length_set] at this
      rw [List.getElem?_set_self hlt] at h2
      have hw : v = w := by simpa using h2
      subst hw
      exact h'.2.2 q (by rw [List.mem_cons]; left; exact Prod.ext h1 h3)
    · rw [List.getElem?_set_ne (fun e => hij e.symm)] at h2
      refine h'.2.2 q (List.mem_cons_of_mem _ (List.mem_filter.mpr ⟨(zas_mem ls 0 q).mpr ⟨j, w, by omega, h2, h3⟩, ?_⟩))
      have e1 : (q.1 == i) = false := by rw [h1]; simpa using hij
      rw [e1]
      simp only [Bool.not_false, Bool.true_and]
      by_cases e2 : q.1 + 1 = i
      · have : ¬ q.2.category = 2 := by
          rw [h3, zcat]
          rintro ⟨x, rfl⟩
          have hz : zlg (ls[i - 1]?) = true := by
            rw [show i - 1 = j by omega, h2]; rfl
          have hpos : 0 < i := by omega
          simp [zfree, hz, hpos] at hf
        simp [this]
      · simp [e2]
  · obtain ⟨j, hj⟩ := List.getElem?_of_mem hw
    by_cases hij : j = i
    · subst hij
      have hlt : j < ls.length := by
        have := (List.getElem?_eq_some_iff.mp hj).1
        rwa [List.length_set] at this
      rw [List.getElem?_set_self hlt] at hj
      have e : v = w := by simpa using hj
      rw [← e]; exact hv
    · rw [List.getElem?_set_ne (fun e => hij e.symm)] at hj
      exact h.ok hj
theorem zLR.set2 {f : Int → Nat} {nL : Nat} {ls : zL} {A A' : Array Slot} {i : Nat} {x : Int64} (h : zLR f nL ls A) (hf : zfree ls i = true)
    (h' : lv_has A' nL ((i, Value.long x) :: (zas f 0 ls).filter (fun q => !(q.1 == i) && (!(q.1 == i + 1) && !(q.1 + 1 == i && q.2.category == 2))))) : zLR f nL ((ls.set i (some (.inr (.inr x)))).set (i + 1) none) A' := by
  refine ⟨⟨h'.1, h'.2.1, fun q hq => ?_⟩, by rw [List.length_set, List.length_set]; exact h.2.1, fun w hw => ?_⟩
  · obtain ⟨j, w, h1, h2, h3⟩ := (zas_mem _ 0 q).mp hq
    rw [Nat.zero_add] at h1
    by_cases hi1 : j = i + 1
    · subst hi1
      have hlt : i + 1 < (ls.set i (some (.inr (.inr x) : zV))).length := by
        have := (List.getElem?_eq_some_iff.mp h2).1
        rwa [List.length_set] at this
      rw [List.getElem?_set_self hlt] at h2
      simp at h2
    · rw [List.getElem?_set_ne (fun e => hi1 e.symm)] at h2
      by_cases hij : j = i
      · subst hij
        have hlt : j < ls.length := by
          have := (List.getElem?_eq_some_iff.mp h2).1
          rwa [List.length_set] at this
        rw [List.getElem?_set_self hlt] at h2
        have hw : (.inr (.inr x) : zV) = w := by simpa using h2
        subst hw
        exact h'.2.2 q (by rw [List.mem_cons]; left; exact Prod.ext h1 h3)
      · rw [List.getElem?_set_ne (fun e => hij e.symm)] at h2
        refine h'.2.2 q (List.mem_cons_of_mem _ (List.mem_filter.mpr ⟨(zas_mem ls 0 q).mpr ⟨j, w, by omega, h2, h3⟩, ?_⟩))
        have e1 : (q.1 == i) = false := by rw [h1]; simpa using hij
        have e3 : (q.1 == i + 1) = false := by rw [h1]; simpa using hi1
        rw [e1, e3]
        simp only [Bool.not_false, Bool.true_and]
        by_cases e2 : q.1 + 1 = i
        · have : ¬ q.2.category = 2 := by
            rw [h3, zcat]
            rintro ⟨y, rfl⟩
            have hz : zlg (ls[i - 1]?) = true := by
              rw [show i - 1 = j by omega, h2]; rfl
            have hpos : 0 < i := by omega
            simp [zfree, hz, hpos] at hf
          simp [this]
        · simp [e2]
  · obtain ⟨j, hj⟩ := List.getElem?_of_mem hw
    by_cases hi1 : j = i + 1
    · subst hi1
      have hlt : i + 1 < (ls.set i (some (.inr (.inr x) : zV))).length := by
        have := (List.getElem?_eq_some_iff.mp hj).1
        rwa [List.length_set] at this
      rw [List.getElem?_set_self hlt] at hj
      simp at hj
    · rw [List.getElem?_set_ne (fun e => hi1 e.symm)] at hj
      by_cases hij : j = i
      · subst hij
        have hlt : j < ls.length := by
          have := (List.getElem?_eq_some_iff.mp hj).1
          rwa [List.length_set] at this
        rw [List.getElem?_set_self hlt] at hj
        have e : (.inr (.inr x) : zV) = w := by simpa using hj
        rw [← e]; exact trivial
      · rw [List.getElem?_set_ne (fun e => hij e.symm)] at hj
        exact h.ok hj
/-- numbers -/
theorem z32_iff {x : Int} : z32 x = true ↔ -2147483648 ≤ x ∧ x ≤ 2147483647 := by simp [z32]
theorem zti {i : Int} (h : -2147483648 ≤ i ∧ i ≤ 2147483647) : (Int32.ofInt i).toInt = i := by
  rw [Int32.toInt_ofInt]
  have e : Int32.size = 4294967296 := rfl
  rw [e]
  exact Int.bmod_eq_of_le (by omega) (by omega)
theorem zto (z : Int32) : -2147483648 ≤ z.toInt ∧ z.toInt ≤ 2147483647 := by
  have h1 := Int32.minValue_le_toInt z
  have h2 := Int32.toInt_le z
  have e1 : Int32.minValue.toInt = -2147483648 := by decide
  have e2 : Int32.maxValue.toInt = 2147483647 := by decide
  omega
theorem zinj {a b : Int} (ha : -2147483648 ≤ a ∧ a ≤ 2147483647) (hb : -2147483648 ≤ b ∧ b ≤ 2147483647) : Int32.ofInt a = Int32.ofInt b ↔ a = b := by
  constructor
  · intro h
    have := congrArg Int32.toInt h
    rwa [zti ha, zti hb] at this
  · rintro rfl; rfl
theorem zlt {a b : Int} (ha : -2147483648 ≤ a ∧ a ≤ 2147483647) (hb : -2147483648 ≤ b ∧ b ≤ 2147483647) : Int32.ofInt a < Int32.ofInt b ↔ a < b := by
  rw [Int32.lt_iff_toInt_lt, zti ha, zti hb]
theorem zle {a b : Int} (ha : -2147483648 ≤ a ∧ a ≤ 2147483647) (hb : -2147483648 ≤ b ∧ b ≤ 2147483647) : Int32.ofInt a ≤ Int32.ofInt b ↔ a ≤ b := by
  rw [Int32.le_iff_toInt_le, zti ha, zti hb]
theorem zcl_nat {i : Int} (h : 0 ≤ i ∧ i ≤ 2147483647) : (Int32.ofInt i).toNatClampNeg = i.toNat := by
  have h1 : (Int32.ofInt i).toInt = i := zti ⟨by omega, h.2⟩
  show (Int32.ofInt i).toInt.toNat = i.toNat
  rw [h1]
theorem zvin {i : Int} {n : Nat} (h : 0 ≤ i) (h2 : i < n) (hn : n ≤ 65536) : vp_in (Int32.ofInt i) n := by
  rw [vp_in_iff, zti ⟨by omega, by omega⟩]
  omega
