/-! runs of the small machine, backwards; its memory as numbers over a fixed frame of cells -/
def zR (d j pc : Nat) (ls : zL) (st : List zV) (M : zM) (Q : Option zV → zM → Prop) : Prop := ∃ (n : Nat) (y : Option zV × zM), zrun n d j pc ls st M = some y ∧ Q y.1 y.2
theorem zrun_x {n d j pc : Nat} {ls : zL} {st : List zV} {M : zM} {y : Option zV × zM} (h : zrun (n + 1) d j pc ls st M = some y) : ∃ i len, zft j pc = some (i, len) ∧ zlk i len = true ∧
    ((∃ r, zre j i st = some r ∧ y = (r, M)) ∨ (∃ x d' z, zre j i st = none ∧ zca j i st M = some x ∧ d = d' + 1 ∧ zrun n d' x.1 0 (zent x.1 x.2.1) [] M = some z ∧ zrun n d j (pc + 3) ls (z.1.toList ++ x.2.2) z.2 = some y) ∨ ∃ x, zre j i st = none ∧ zca j i st M = none ∧ znx d j i pc ls st M = some x ∧ zrun n d j x.1 x.2.1 x.2.2.1 x.2.2.2 = some y) := by
  unfold zrun at h
  split at h
  · cases h
  · next i len hf =>
    split at h
    · next hl =>
      refine ⟨i, len, hf, hl, ?_⟩
      split at h
      · next r hr => cases h; exact Or.inl ⟨r, hr, rfl⟩
      · next hr0 =>
        split at h
        · next x hx =>
          cases d with
          | zero => simp at h
          | succ d' =>
            simp only at h
            split at h
            · cases h
            · next z hz => exact Or.inr (Or.inl ⟨x, d', z, hr0, hx, rfl, hz, h⟩)
        · next hc0 =>
          split at h
          · next x hx => exact Or.inr (Or.inr ⟨x, hr0, hc0, hx, h⟩)
          · cases h
    · cases h
theorem zrun_up : ∀ {n d j pc : Nat} {ls : zL} {st : List zV} {M : zM} {y : Option zV × zM}, zrun n d j pc ls st M = some y → zrun (n + 1) d j pc ls st M = some y := by
  intro n
  induction n with
  | zero => intro d j pc ls st M y h; simp [zrun] at h
  | succ n ih =>
    intro d j pc ls st M y h
    obtain ⟨i, len, hf, hl, h⟩ := zrun_x h
    unfold zrun
    rw [hf]
    simp only [hl, if_true]
    rcases h with ⟨r, hr, rfl⟩ | ⟨x, d', z, hn, hx, rfl, h1, h2⟩ | ⟨x, hn, hc, hx, h2⟩
    · rw [hr]
    · rw [hn, hx]
      simp only
      rw [ih h1]
      simp only
      exact ih h2
    · rw [hn, hc, hx]
      simp only
      exact ih h2
theorem zrun_le {n k d j pc : Nat} {ls : zL} {st : List zV} {M : zM} {y : Option zV × zM} (h : zrun n d j pc ls st M = some y) (hk : n ≤ k) : zrun k d j pc ls st M = some y := by
  induction hk with
  | refl => exact h
  | step _ ih => exact zrun_up ih
section ZR
variable {d j pc : Nat} {ls : zL} {st : List zV} {M : zM} {Q : Option zV → zM → Prop}
theorem zR_nx {i : Instr} {len pc' : Nat} {ls' : zL} {st' : List zV} {M' : zM} (hf : zft j pc = some (i, len)) (hl : zlk i len = true) (h1 : zre j i st = none) (h2 : zca j i st M = none) (h3 : znx d j i pc ls st M = some (pc', ls', st', M')) (k : zR d j pc' ls' st' M' Q) : zR d j pc ls st M Q := by
  obtain ⟨n, y, h, hq⟩ := k
  refine ⟨n + 1, y, ?_, hq⟩
  unfold zrun
  rw [hf]
  simp only [hl, if_true, h1, h2, h3]
  exact h
theorem zR_re {i : Instr} {len : Nat} {r : Option zV} (hf : zft j pc = some (i, len)) (hl : zlk i len = true) (h1 : zre j i st = some r) (k : Q r M) : zR d j pc ls st M Q := by
  refine ⟨1, (r, M), ?_, k⟩
  unfold zrun
  rw [hf]
  simp only [hl, if_true, h1]
theorem zR_ca {i : Instr} {len : Nat} {x : Nat × List zV × List zV} (hf : zft j pc = some (i, len)) (hl : zlk i len = true) (h1 : zre j i st = none) (h2 : zca j i st M = some x) {v : Option zV} {M1 : zM} (hc : zR d x.1 0 (zent x.1 x.2.1) [] M (fun r m => r = v ∧ m = M1)) (k : zR (d + 1) j (pc + 3) ls (v.toList ++ x.2.2) M1 Q) : zR (d + 1) j pc ls st M Q := by
  obtain ⟨n1, ⟨v1, m1⟩, e1, rfl, rfl⟩ := hc
  obtain ⟨n2, y, e2, hq⟩ := k
  refine ⟨n1 + n2 + 1, y, ?_, hq⟩
  unfold zrun
  rw [hf]
  simp only [hl, if_true, h1, h2]
  rw [zrun_le e1 (by omega)]
  exact zrun_le e2 (by omega)
theorem zR_im {Q' : Option zV → zM → Prop} (h : zR d j pc ls st M Q') (k : ∀ r m, Q' r m → Q r m) : zR d j pc ls st M Q := by
  obtain ⟨n, y, e, q⟩ := h
  exact ⟨n, y, e, k _ _ q⟩
theorem r_aload_n {k : Fin 4} {p : Int} (hf : zft j pc = some (.aload_n k, 1)) (h : ls[k.val]? = some (some (.inr (.inl (some p))))) (kk : zR d j (pc + 1) ls (.inr (.inl (some p)) :: st) M Q) : zR d j pc ls st M Q := zR_nx hf rfl rfl rfl (by simp only [znx, zn1, h]) kk
theorem r_aload {k : Nat} {p : Int} (hf : zft j pc = some (.aload k, 2)) (h : ls[k]? = some (some (.inr (.inl (some p))))) (kk : zR d j (pc + 2) ls (.inr (.inl (some p)) :: st) M Q) : zR d j pc ls st M Q := zR_nx hf rfl rfl rfl (by simp only [znx, zn1, h]) kk
theorem r_iload_n {k : Fin 4} {v : Int} (hf : zft j pc = some (.iload_n k, 1)) (h : ls[k.val]? = some (some (.inl v))) (kk : zR d j (pc + 1) ls (.inl v :: st) M Q) : zR d j pc ls st M Q := zR_nx hf rfl rfl rfl (by simp only [znx, zn1, h]) kk
theorem r_iload {k : Nat} {v : Int} (hf : zft j pc = some (.iload k, 2)) (h : ls[k]? = some (some (.inl v))) (kk : zR d j (pc + 2) ls (.inl v :: st) M Q) : zR d j pc ls st M Q := zR_nx hf rfl rfl rfl (by simp only [znx, zn1, h]) kk
theorem r_lload_n {k : Fin 4} {v : Int64} (hf : zft j pc = some (.lload_n k, 1)) (h : ls[k.val]? = some (some (.inr (.inr v)))) (kk : zR d j (pc + 1) ls (.inr (.inr v) :: st) M Q) : zR d j pc ls st M Q := zR_nx hf rfl rfl rfl (by simp only [znx, zn1, h]) kk
theorem r_istore_n {k : Fin 4} {v : Int} {ls' : zL} (hf : zft j pc = some (.istore_n k, 1)) (h : zfree ls k.val = true) (hs : ls.set k.val (some (.inl v)) = ls') (kk : zR d j (pc + 1) ls' st M Q) : zR d j pc ls (.inl v :: st) M Q := by
  subst hs
  exact zR_nx hf rfl rfl rfl (by simp only [znx, zn1, h, if_true]) kk
theorem r_istore {k : Nat} {v : Int} {ls' : zL} (hf : zft j pc = some (.istore k, 2)) (h : zfree ls k = true) (hs : ls.set k (some (.inl v)) = ls') (kk : zR d j (pc + 2) ls' st M Q) : zR d j pc ls (.inl v :: st) M Q := by
  subst hs
  exact zR_nx hf rfl rfl rfl (by simp only [znx, zn1, h, if_true]) kk
theorem r_astore_n {k : Fin 4} {p : Int} {ls' : zL} (hf : zft j pc = some (.astore_n k, 1)) (h : zfree ls k.val = true) (hs : ls.set k.val (some (.inr (.inl (some p)))) = ls') (kk : zR d j (pc + 1) ls' st M Q) : zR d j pc ls (.inr (.inl (some p)) :: st) M Q := by
  subst hs
  exact zR_nx hf rfl rfl rfl (by simp only [znx, zn1, h, if_true]) kk
theorem r_astore {k : Nat} {p : Int} {ls' : zL} (hf : zft j pc = some (.astore k, 2)) (h : zfree ls k = true) (hs : ls.set k (some (.inr (.inl (some p)))) = ls') (kk : zR d j (pc + 2) ls' st M Q) : zR d j pc ls (.inr (.inl (some p)) :: st) M Q := by
  subst hs
  exact zR_nx hf rfl rfl rfl (by simp only [znx, zn1, h, if_true]) kk
theorem r_lstore_n {k : Fin 4} {v : Int64} {ls' : zL} (hf : zft j pc = some (.lstore_n k, 1)) (h : zfree ls k.val = true) (h2 : k.val + 1 < ls.length) (hs : (ls.set k.val (some (.inr (.inr v)))).set (k.val + 1) none = ls') (kk : zR d j (pc + 1) ls' st M Q) : zR d j pc ls (.inr (.inr v) :: st) M Q := by
  subst hs
  exact zR_nx hf rfl rfl rfl (by simp only [znx, zn1, h, h2, and_self, if_true]) kk
theorem r_iinc {k : Nat} {c v e : Int} {ls' : zL} (hf : zft j pc = some (.iinc k c, 3)) (h : ls[k]? = some (some (.inl v))) (h0 : zfree ls k = true) (hc : z32 c = true) (h1 : -2147483648 ≤ e) (h2 : e ≤ 2147483647) (he : v + c = e) (hs : ls.set k (some (.inl e)) = ls') (kk : zR d j (pc + 3) ls' st M Q) : zR d j pc ls st M Q := by
  subst hs
  subst he
  exact zR_nx hf rfl rfl rfl (by simp only [znx, zn1, h, h0, hc, z32_iff.mpr ⟨h1, h2⟩, and_self, if_true]) kk
theorem r_iconst {c : Int} (hf : zft j pc = some (.iconst c, 1)) (h : z32 c = true) (kk : zR d j (pc + 1) ls (.inl c :: st) M Q) : zR d j pc ls st M Q := zR_nx hf rfl rfl rfl (by simp only [znx, zn1, h, if_true]) kk
theorem r_bipush {c : Int} (hf : zft j pc = some (.bipush c, 2)) (h : -128 ≤ c ∧ c ≤ 127) (kk : zR d j (pc + 2) ls (.inl c :: st) M Q) : zR d j pc ls st M Q := zR_nx hf rfl rfl rfl (by simp only [znx, zn1, h, and_self, if_true]) kk
theorem r_sipush {c : Int} (hf : zft j pc = some (.sipush c, 3)) (h : -32768 ≤ c ∧ c ≤ 32767) (kk : zR d j (pc + 3) ls (.inl c :: st) M Q) : zR d j pc ls st M Q := zR_nx hf rfl rfl rfl (by simp only [znx, zn1, h, and_self, if_true]) kk
theorem r_ldc2 {k o : Nat} {v : Int64} (hf : zft j pc = some (.ldc2_w k, 3)) (ho : zo j = o) (h : zlc o k = some v) (kk : zR d j (pc + 3) ls (.inr (.inr v) :: st) M Q) : zR d j pc ls st M Q := zR_nx hf rfl rfl rfl (by simp only [znx, zn1, ho, h]) kk
theorem r_dupI {v : Int} (hf : zft j pc = some (.dup, 1)) (kk : zR d j (pc + 1) ls (.inl v :: .inl v :: st) M Q) : zR d j pc ls (.inl v :: st) M Q := zR_nx hf rfl rfl rfl rfl kk
theorem r_dupR {p : Int} (hf : zft j pc = some (.dup, 1)) (kk : zR d j (pc + 1) ls (.inr (.inl (some p)) :: .inr (.inl (some p)) :: st) M Q) : zR d j pc ls (.inr (.inl (some p)) :: st) M Q := zR_nx hf rfl rfl rfl rfl kk
theorem r_dup2 {v p : Int} (hf : zft j pc = some (.dup2, 1)) (kk : zR d j (pc + 1) ls (.inl v :: .inr (.inl (some p)) :: .inl v :: .inr (.inl (some p)) :: st) M Q) : zR d j pc ls (.inl v :: .inr (.inl (some p)) :: st) M Q := zR_nx hf rfl rfl rfl rfl kk
theorem r_idiv {a b : Int} (hf : zft j pc = some (.idiv, 1)) (h1 : 0 ≤ a) (h2 : 0 < b) (kk : zR d j (pc + 1) ls (.inl (a / b) :: st) M Q) : zR d j pc ls (.inl b :: .inl a :: st) M Q := zR_nx hf rfl rfl rfl (by simp only [znx, zn1, zn2, h1, h2, and_self, if_true]) kk
theorem r_iand {a b e : Int} (hf : zft j pc = some (.iand, 1)) (he : (Int32.ofInt a &&& Int32.ofInt b).toInt = e) (kk : zR d j (pc + 1) ls (.inl e :: st) M Q) : zR d j pc ls (.inl b :: .inl a :: st) M Q := by
  subst he
  exact zR_nx hf rfl rfl rfl rfl kk
theorem r_ishr {a b e : Int} (hf : zft j pc = some (.ishr, 1)) (he : (Int32.ofInt a >>> (Int32.ofInt b &&& 31)).toInt = e) (kk : zR d j (pc + 1) ls (.inl e :: st) M Q) : zR d j pc ls (.inl b :: .inl a :: st) M Q := by
  subst he
  exact zR_nx hf rfl rfl rfl rfl kk
theorem r_i2l {a : Int} (hf : zft j pc = some (.i2l, 1)) (kk : zR d j (pc + 1) ls (.inr (.inr (Int64.ofInt a)) :: st) M Q) : zR d j pc ls (.inl a :: st) M Q := zR_nx hf rfl rfl rfl rfl kk
theorem r_lmul {a b : Int64} (hf : zft j pc = some (.lmul, 1)) (kk : zR d j (pc + 1) ls (.inr (.inr (a * b)) :: st) M Q) : zR d j pc ls (.inr (.inr b) :: .inr (.inr a) :: st) M Q := zR_nx hf rfl rfl rfl rfl kk
theorem r_ladd {a b : Int64} (hf : zft j pc = some (.ladd, 1)) (kk : zR d j (pc + 1) ls (.inr (.inr (a + b)) :: st) M Q) : zR d j pc ls (.inr (.inr b) :: .inr (.inr a) :: st) M Q := zR_nx hf rfl rfl rfl rfl kk
theorem r_lcmp0 {a : Int64} (hf : zft j pc = some (.lcmp, 1)) (kk : zR d j (pc + 1) ls (.inl 0 :: st) M Q) : zR d j pc ls (.inr (.inr a) :: .inr (.inr a) :: st) M Q := by
  have e : (lg_cmp a a).toInt = 0 := by
    have : lg_cmp a a = 0 := by simp [lg_cmp]
    rw [this]; rfl
  refine zR_nx hf rfl rfl rfl ?_ kk
  simp only [znx, zn1, zn2, e]
theorem r_goto {o : Int} {t : Nat} (hf : zft j pc = some (.goto o, 3)) (ht : (pc : Int) + o = (t : Int)) (kk : zR d j t ls st M Q) : zR d j pc ls st M Q := by
  have h0 : 0 ≤ (pc : Int) + o := by omega
  refine zR_nx hf rfl rfl rfl ?_ kk
  simp only [znx, zn1, zn2, h0, if_true]
  rw [ht, Int.toNat_natCast]
theorem r_top {a e : Int} (he : a = e) (kk : zR d j pc ls (.inl e :: st) M Q) : zR d j pc ls (.inl a :: st) M Q := by subst he; exact kk
theorem zif_at {b : Bool} {pc : Nat} {o : Int} {t : Nat} (ht : (pc : Int) + o = (t : Int)) : zif b pc o = some (if b then t else pc + 3) := by
  unfold zif
  rw [if_pos (by omega), ht, Int.toNat_natCast]
  cases b <;> rfl
theorem r_iadd {a b e : Int} (hf : zft j pc = some (.iadd, 1)) (h1 : -2147483648 ≤ e) (h2 : e ≤ 2147483647) (he : a + b = e) (kk : zR d j (pc + 1) ls (.inl e :: st) M Q) : zR d j pc ls (.inl b :: .inl a :: st) M Q := by
  subst he
  exact zR_nx hf rfl rfl rfl (by simp only [znx, zn1, zn2, z32_iff.mpr ⟨h1, h2⟩, if_true]) kk
theorem r_isub {a b e : Int} (hf : zft j pc = some (.isub, 1)) (h1 : -2147483648 ≤ e) (h2 : e ≤ 2147483647) (he : a - b = e) (kk : zR d j (pc + 1) ls (.inl e :: st) M Q) : zR d j pc ls (.inl b :: .inl a :: st) M Q := by
  subst he
  exact zR_nx hf rfl rfl rfl (by simp only [znx, zn1, zn2, z32_iff.mpr ⟨h1, h2⟩, if_true]) kk
theorem r_imul {a b e : Int} (hf : zft j pc = some (.imul, 1)) (h1 : -2147483648 ≤ e) (h2 : e ≤ 2147483647) (he : a * b = e) (kk : zR d j (pc + 1) ls (.inl e :: st) M Q) : zR d j pc ls (.inl b :: .inl a :: st) M Q := by
  subst he
  exact zR_nx hf rfl rfl rfl (by simp only [znx, zn1, zn2, z32_iff.mpr ⟨h1, h2⟩, if_true]) kk
theorem r_ceq {a b o : Int} {t : Nat} (hf : zft j pc = some (.if_icmp .eq o, 3)) (ht : (pc : Int) + o = (t : Int)) (k1 : a = b → zR d j t ls st M Q) (k2 : ¬ (a = b) → zR d j (pc + 3) ls st M Q) : zR d j pc ls (.inl b :: .inl a :: st) M Q := by
  by_cases h : a = b
  · refine zR_nx hf rfl rfl rfl ?_ (k1 h)
    simp [znx, zn1, zn2, zif_at ht, h]
  · refine zR_nx hf rfl rfl rfl ?_ (k2 h)
    simp [znx, zn1, zn2, zif_at ht, h]
theorem r_zeq {a o : Int} {t : Nat} (hf : zft j pc = some (.ifCond .eq o, 3)) (ht : (pc : Int) + o = (t : Int)) (k1 : a = 0 → zR d j t ls st M Q) (k2 : ¬ (a = 0) → zR d j (pc + 3) ls st M Q) : zR d j pc ls (.inl a :: st) M Q := by
  by_cases h : a = 0
  · refine zR_nx hf rfl rfl rfl ?_ (k1 h)
    simp [znx, zn1, zn2, zif_at ht, h]
  · refine zR_nx hf rfl rfl rfl ?_ (k2 h)
    simp [znx, zn1, zn2, zif_at ht, h]
theorem r_cne {a b o : Int} {t : Nat} (hf : zft j pc = some (.if_icmp .ne o, 3)) (ht : (pc : Int) + o = (t : Int)) (k1 : a ≠ b → zR d j t ls st M Q) (k2 : ¬ (a ≠ b) → zR d j (pc + 3) ls st M Q) : zR d j pc ls (.inl b :: .inl a :: st) M Q := by
  by_cases h : a ≠ b
  · refine zR_nx hf rfl rfl rfl ?_ (k1 h)
    simp [znx, zn1, zn2, zif_at ht, h]
  · refine zR_nx hf rfl rfl rfl ?_ (k2 h)
    simp [znx, zn1, zn2, zif_at ht, h]
theorem r_zne {a o : Int} {t : Nat} (hf : zft j pc = some (.ifCond .ne o, 3)) (ht : (pc : Int) + o = (t : Int)) (k1 : a ≠ 0 → zR d j t ls st M Q) (k2 : ¬ (a ≠ 0) → zR d j (pc + 3) ls st M Q) : zR d j pc ls (.inl a :: st) M Q := by
  by_cases h : a ≠ 0
  · refine zR_nx hf rfl rfl rfl ?_ (k1 h)
    simp [znx, zn1, zn2, zif_at ht, h]
  · refine zR_nx hf rfl rfl rfl ?_ (k2 h)
    simp [znx, zn1, zn2, zif_at ht, h]
theorem r_clt {a b o : Int} {t : Nat} (hf : zft j pc = some (.if_icmp .lt o, 3)) (ht : (pc : Int) + o = (t : Int)) (k1 : a < b → zR d j t ls st M Q) (k2 : ¬ (a < b) → zR d j (pc + 3) ls st M Q) : zR d j pc ls (.inl b :: .inl a :: st) M Q := by
  by_cases h : a < b
  · refine zR_nx hf rfl rfl rfl ?_ (k1 h)
    simp [znx, zn1, zn2, zif_at ht, h]
  · refine zR_nx hf rfl rfl rfl ?_ (k2 h)
    simp [znx, zn1, zn2, zif_at ht, h]
theorem r_zlt {a o : Int} {t : Nat} (hf : zft j pc = some (.ifCond .lt o, 3)) (ht : (pc : Int) + o = (t : Int)) (k1 : a < 0 → zR d j t ls st M Q) (k2 : ¬ (a < 0) → zR d j (pc + 3) ls st M Q) : zR d j pc ls (.inl a :: st) M Q := by
  by_cases h : a < 0
  · refine zR_nx hf rfl rfl rfl ?_ (k1 h)
    simp [znx, zn1, zn2, zif_at ht, h]
  · refine zR_nx hf rfl rfl rfl ?_ (k2 h)
    simp [znx, zn1, zn2, zif_at ht, h]
theorem r_cge {a b o : Int} {t : Nat} (hf : zft j pc = some (.if_icmp .ge o, 3)) (ht : (pc : Int) + o = (t : Int)) (k1 : b ≤ a → zR d j t ls st M Q) (k2 : ¬ (b ≤ a) → zR d j (pc + 3) ls st M Q) : zR d j pc ls (.inl b :: .inl a :: st) M Q := by
  by_cases h : b ≤ a
  · refine zR_nx hf rfl rfl rfl ?_ (k1 h)
    simp [znx, zn1, zn2, zif_at ht, h]
  · refine zR_nx hf rfl rfl rfl ?_ (k2 h)
    simp [znx, zn1, zn2, zif_at ht, h]
theorem r_zge {a o : Int} {t : Nat} (hf : zft j pc = some (.ifCond .ge o, 3)) (ht : (pc : Int) + o = (t : Int)) (k1 : 0 ≤ a → zR d j t ls st M Q) (k2 : ¬ (0 ≤ a) → zR d j (pc + 3) ls st M Q) : zR d j pc ls (.inl a :: st) M Q := by
  by_cases h : 0 ≤ a
  · refine zR_nx hf rfl rfl rfl ?_ (k1 h)
    simp [znx, zn1, zn2, zif_at ht, h]
  · refine zR_nx hf rfl rfl rfl ?_ (k2 h)
    simp [znx, zn1, zn2, zif_at ht, h]
theorem r_cgt {a b o : Int} {t : Nat} (hf : zft j pc = some (.if_icmp .gt o, 3)) (ht : (pc : Int) + o = (t : Int)) (k1 : b < a → zR d j t ls st M Q) (k2 : ¬ (b < a) → zR d j (pc + 3) ls st M Q) : zR d j pc ls (.inl b :: .inl a :: st) M Q := by
  by_cases h : b < a
  · refine zR_nx hf rfl rfl rfl ?_ (k1 h)
    simp [znx, zn1, zn2, zif_at ht, h]
  · refine zR_nx hf rfl rfl rfl ?_ (k2 h)
    simp [znx, zn1, zn2, zif_at ht, h]
theorem r_zgt {a o : Int} {t : Nat} (hf : zft j pc = some (.ifCond .gt o, 3)) (ht : (pc : Int) + o = (t : Int)) (k1 : 0 < a → zR d j t ls st M Q) (k2 : ¬ (0 < a) → zR d j (pc + 3) ls st M Q) : zR d j pc ls (.inl a :: st) M Q := by
  by_cases h : 0 < a
  · refine zR_nx hf rfl rfl rfl ?_ (k1 h)
    simp [znx, zn1, zn2, zif_at ht, h]
  · refine zR_nx hf rfl rfl rfl ?_ (k2 h)
    simp [znx, zn1, zn2, zif_at ht, h]
theorem r_cle {a b o : Int} {t : Nat} (hf : zft j pc = some (.if_icmp .le o, 3)) (ht : (pc : Int) + o = (t : Int)) (k1 : a ≤ b → zR d j t ls st M Q) (k2 : ¬ (a ≤ b) → zR d j (pc + 3) ls st M Q) : zR d j pc ls (.inl b :: .inl a :: st) M Q := by
  by_cases h : a ≤ b
  · refine zR_nx hf rfl rfl rfl ?_ (k1 h)
    simp [znx, zn1, zn2, zif_at ht, h]
  · refine zR_nx hf rfl rfl rfl ?_ (k2 h)
    simp [znx, zn1, zn2, zif_at ht, h]
theorem r_zle {a o : Int} {t : Nat} (hf : zft j pc = some (.ifCond .le o, 3)) (ht : (pc : Int) + o = (t : Int)) (k1 : a ≤ 0 → zR d j t ls st M Q) (k2 : ¬ (a ≤ 0) → zR d j (pc + 3) ls st M Q) : zR d j pc ls (.inl a :: st) M Q := by
  by_cases h : a ≤ 0
  · refine zR_nx hf rfl rfl rfl ?_ (k1 h)
    simp [znx, zn1, zn2, zif_at ht, h]
  · refine zR_nx hf rfl rfl rfl ?_ (k2 h)
    simp [znx, zn1, zn2, zif_at ht, h]
theorem r_swin {dflt lo hi a o : Int} {offs : Array Int} {len t : Nat} (hf : zft j pc = some (.tableswitch dflt lo hi offs, len)) (h1 : lo ≤ a) (h2 : a ≤ hi) (ho : offs[(a - lo).toNat]? = some o) (ht : (pc : Int) + o = (t : Int)) (kk : zR d j t ls st M Q) : zR d j pc ls (.inl a :: st) M Q := by
  refine zR_nx hf rfl rfl rfl ?_ kk
  have h0 : 0 ≤ (pc : Int) + o := by omega
  simp only [znx, zn1, zn2]
  rw [if_neg (by omega)]
  simp only [ho, h0, if_true]
  rw [ht, Int.toNat_natCast]
theorem r_swout {dflt lo hi a : Int} {offs : Array Int} {len t : Nat} (hf : zft j pc = some (.tableswitch dflt lo hi offs, len)) (h : a < lo ∨ hi < a) (ht : (pc : Int) + dflt = (t : Int)) (kk : zR d j t ls st M Q) : zR d j pc ls (.inl a :: st) M Q := by
  refine zR_nx hf rfl rfl rfl ?_ kk
  have h0 : 0 ≤ (pc : Int) + dflt := by omega
  simp only [znx, zn1, zn2]
  rw [if_pos h]
  simp only [h0, if_true]
  rw [ht, Int.toNat_natCast]
theorem r_max {a b : Int} {n o q : Nat} (hf : zft j pc = some (.invokestatic n, 3)) (ho : zo j = o) (hm : zml o n = some (6, q)) (hr : st.length ≤ 4) (kk : zR (d + 1) j (pc + 3) ls (.inl (if a < b then b else a) :: st) M Q) : zR (d + 1) j pc ls (.inl b :: .inl a :: st) M Q := by
  refine zR_nx hf rfl rfl ?_ ?_ kk
  · simp [zca, ho, hm]
  · simp [znx, zn1, zn2, zn3, zn4, ho, hm, hr]
theorem r_min {a b : Int} {n o q : Nat} (hf : zft j pc = some (.invokestatic n, 3)) (ho : zo j = o) (hm : zml o n = some (7, q)) (hr : st.length ≤ 4) (kk : zR (d + 1) j (pc + 3) ls (.inl (if b < a then b else a) :: st) M Q) : zR (d + 1) j pc ls (.inl b :: .inl a :: st) M Q := by
  refine zR_nx hf rfl rfl ?_ ?_ kk
  · simp [zca, ho, hm]
  · simp [znx, zn1, zn2, zn3, zn4, ho, hm, hr]
theorem r_oinit {p : Int} {n o q : Nat} (hf : zft j pc = some (.invokespecial n, 3)) (ho : zo j = o) (hm : zml o n = some (5, q)) (hr : st.length ≤ 4) (kk : zR (d + 1) j (pc + 3) ls st M Q) : zR (d + 1) j pc ls (.inr (.inl (some p)) :: st) M Q := by
  refine zR_nx hf rfl rfl ?_ ?_ kk
  · simp [zca, ho, hm]
  · simp [znx, zn1, zn2, zn3, zn4, ho, hm, hr]
theorem r_iret {v : Int} (hf : zft j pc = some (.ireturn, 1)) (hr : zr j = some .int) (k : Q (some (.inl v)) M) : zR d j pc ls [.inl v] M Q := zR_re hf rfl (by simp [zre, hr]) k
theorem r_zret {v : Int} (hf : zft j pc = some (.ireturn, 1)) (hr : zr j = some .boolean) (hv : v = 0 ∨ v = 1) (k : Q (some (.inl v)) M) : zR d j pc ls [.inl v] M Q := zR_re hf rfl (by simp [zre, hr, hv]) k
theorem r_lret {v : Int64} (hf : zft j pc = some (.lreturn, 1)) (hr : zr j = some .long) (k : Q (some (.inr (.inr v))) M) : zR d j pc ls [.inr (.inr v)] M Q := zR_re hf rfl (by simp [zre, hr]) k
theorem r_vret (hf : zft j pc = some (.return_, 1)) (hr : zr j = none) (k : Q none M) : zR d j pc ls [] M Q := zR_re hf rfl (by simp [zre, hr]) k
end ZR
