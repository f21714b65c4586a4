/-! each step of the small machine is a step of the JVM: locals, numbers, branches -/
section SIM1
variable {p : Program} {l : Launch} {e : Env} {R : Room} {s : State} {m : MethodId} {args : Array Value} {below : List Frame} {meth : Method} {c : Code} {H : Heap} {locs : List Loc} {cells slots : Nat} {Q : State → Prop}
theorem zlen_of {i : Instr} {len : Nat} (h : zlk i len = true) (hi : ∀ a b c d, i ≠ .tableswitch a b c d) : len = zlen i := by
  unfold zlk at h
  split at h
  · exact absurd rfl (hi _ _ _ _)
  · exact of_decide_eq_true h
theorem zn1_M {j : Nat} {i : Instr} {pc : Nat} {ls : zL} {st : List zV} {M : zM} {x : zX} (h : zn1 j i pc ls st M = some x) : x.2.2.2 = M := by
  unfold zn1 at h
  repeat' split at h
  all_goals first | (cases h; rfl) | cases h
theorem zn2_M {i : Instr} {pc : Nat} {ls : zL} {st : List zV} {M : zM} {x : zX} (h : zn2 i pc ls st M = some x) : x.2.2.2 = M := by
  unfold zn2 at h
  repeat' split at h
  all_goals first | (cases h; rfl) | (cases h; done) | (obtain ⟨q, -, rfl⟩ := Option.map_eq_some_iff.mp h; rfl)
theorem z_n1 {f : Int → Nat} {j : Nat} {i : Instr} {len pc : Nat} {ls : zL} {st : List zV} {M : zM} {x : zX} {A : Array Slot} (hx : p.tables.exec = Jvm.exec) (hb : c.code = zc j) (hown : s.vm.findClass (zRn (zo j)) = some m.cls) (hts : ∀ w ∈ zW, w.before args s = true)
    (hL : zLR f (zn j) ls A) (hS : ∀ v ∈ st, zok v) (hd : decode (zc j) pc = .ok (i, len)) (hl : zlk i len = true) (h : zn1 j i pc ls st M = some x)
    (kk : ∀ A', zLR f (zn j) x.2.1 A' → (∀ v ∈ x.2.2.1, zok v) → W p l e R s m args below meth c H locs cells slots Q (F0 m x.1 A' (x.2.2.1.map (zcv f)))) : W p l e R s m args below meth c H locs cells slots Q (F0 m pc A (st.map (zcv f))) := by
  unfold zn1 at h
  split at h
  · next k =>
    have hn := zlen_of hl (by intros; simp); simp only [zlen] at hn; subst hn
    split at h
    · next q hk => cases h; exact lv_aload_n hx hb hd rfl (hL.at hk) (kk A hL (by simpa [zok] using hS))
    · cases h
  · next k =>
    have hn := zlen_of hl (by intros; simp); simp only [zlen] at hn; subst hn
    split at h
    · next q hk => cases h; exact lv_aload hx hb hd (hL.at hk) (kk A hL (by simpa [zok] using hS))
    · cases h
  · next k =>
    have hn := zlen_of hl (by intros; simp); simp only [zlen] at hn; subst hn
    split at h
    · next q hk => cases h; exact lv_iload_n hx hb hd rfl (hL.at hk) (kk A hL (List.forall_mem_cons.mpr ⟨hL.ok hk, hS⟩))
    · cases h
  · next k =>
    have hn := zlen_of hl (by intros; simp); simp only [zlen] at hn; subst hn
    split at h
    · next q hk => cases h; exact lv_iload hx hb hd (hL.at hk) (kk A hL (List.forall_mem_cons.mpr ⟨hL.ok hk, hS⟩))
    · cases h
  · next k =>
    have hn := zlen_of hl (by intros; simp); simp only [zlen] at hn; subst hn
    split at h
    · next q hk => cases h; exact lv_lload_n hx hb hd rfl (hL.at hk) (kk A hL (List.forall_mem_cons.mpr ⟨hL.ok hk, hS⟩))
    · cases h
  · next k =>
    have hn := zlen_of hl (by intros; simp); simp only [zlen] at hn; subst hn
    split at h
    · next v r =>
      split at h
      · next hf =>
        cases h
        have hv := List.forall_mem_cons.mp hS
        refine lv_istore_n hx hb hd rfl hL.1 (by rw [← hL.2.1]; simp [zfree] at hf; exact hf.1) rfl (fun A' hA' => kk A' (hL.set hf hv.1 hA') hv.2)
      · cases h
    · cases h
  · next k =>
    have hn := zlen_of hl (by intros; simp); simp only [zlen] at hn; subst hn
    split at h
    · next v r =>
      split at h
      · next hf =>
        cases h
        have hv := List.forall_mem_cons.mp hS
        refine lv_istore hx hb hd hL.1 (by rw [← hL.2.1]; simp [zfree] at hf; exact hf.1) rfl (fun A' hA' => kk A' (hL.set hf hv.1 hA') hv.2)
      · cases h
    · cases h
  · next k =>
    have hn := zlen_of hl (by intros; simp); simp only [zlen] at hn; subst hn
    split at h
    · next v r =>
      split at h
      · next hf =>
        cases h
        have hv := List.forall_mem_cons.mp hS
        refine lv_astore_n hx hb hd rfl hL.1 (by rw [← hL.2.1]; simp [zfree] at hf; exact hf.1) rfl (fun A' hA' => kk A' (hL.set hf hv.1 hA') hv.2)
      · cases h
    · cases h
  · next k =>
    have hn := zlen_of hl (by intros; simp); simp only [zlen] at hn; subst hn
    split at h
    · next v r =>
      split at h
      · next hf =>
        cases h
        have hv := List.forall_mem_cons.mp hS
        refine lv_astore hx hb hd hL.1 (by rw [← hL.2.1]; simp [zfree] at hf; exact hf.1) rfl (fun A' hA' => kk A' (hL.set hf hv.1 hA') hv.2)
      · cases h
    · cases h
  · next k =>
    have hn := zlen_of hl (by intros; simp); simp only [zlen] at hn; subst hn
    split at h
    · next v r =>
      split at h
      · next hf =>
        cases h
        have hv := List.forall_mem_cons.mp hS
        refine lv_lstore_n hx hb hd rfl hL.1 (by rw [← hL.2.1]; exact hf.2) rfl (fun A' hA' => kk A' (hL.set2 hf.1 hA') hv.2)
      · cases h
    · cases h
  · next k n =>
    have hn := zlen_of hl (by intros; simp); simp only [zlen] at hn; subst hn
    split at h
    · next v hk =>
      split at h
      · next hf =>
        cases h
        have hm := (zas_mem (f := f) ls 0 (k, zcv f (.inl v))).mpr ⟨k, .inl v, (Nat.zero_add k).symm, hk, rfl⟩
        obtain ⟨i0, hi0⟩ := List.getElem?_of_mem hm
        refine lv_iinc hx hb hd hL.1 (k := i0) hi0 (v := Int32.ofInt (v + n)) (by rw [Int32.ofInt_add]) (by rw [← hL.2.1]; exact (List.getElem?_eq_some_iff.mp hk).1) rfl (fun A' hA' => kk A' (hL.set hf.1 (v := .inl (v + n)) (z32_iff.mp hf.2.1) hA') hS)
      · cases h
    · cases h
  · next n =>
    have hn := zlen_of hl (by intros; simp); simp only [zlen] at hn; subst hn
    split at h
    · next hv => cases h; exact lv_iconst hx hb hd rfl (kk A hL (List.forall_mem_cons.mpr ⟨z32_iff.mp hv, hS⟩))
    · cases h
  · next n =>
    have hn := zlen_of hl (by intros; simp); simp only [zlen] at hn; subst hn
    split at h
    · next hv =>
      cases h
      refine lv_bipush hx hb hd (v := Int32.ofInt n) ?_ (kk A hL (List.forall_mem_cons.mpr ⟨⟨by omega, by omega⟩, hS⟩))
      apply Int32.toInt_inj.mp
      rw [zti ⟨by omega, by omega⟩, Int8.toInt_toInt32, Int8.toInt_ofInt]
      have e : Int8.size = 256 := rfl
      rw [e]
      exact Int.bmod_eq_of_le (by omega) (by omega)
    · cases h
  · next n =>
    have hn := zlen_of hl (by intros; simp); simp only [zlen] at hn; subst hn
    split at h
    · next hv =>
      cases h
      refine lv_sipush hx hb hd (v := Int32.ofInt n) ?_ (kk A hL (List.forall_mem_cons.mpr ⟨⟨by omega, by omega⟩, hS⟩))
      apply Int32.toInt_inj.mp
      rw [zti ⟨by omega, by omega⟩, Int16.toInt_toInt32, Int16.toInt_ofInt]
      have e : Int16.size = 65536 := rfl
      rw [e]
      exact Int.bmod_eq_of_le (by omega) (by omega)
    · cases h
  · next k =>
    have hn := zlen_of hl (by intros; simp); simp only [zlen] at hn; subst hn
    split at h
    · next v hv =>
      cases h
      have hw : Cond.constantLong (zRn (zo j)) k v ∈ zW := by
        unfold zlc at hv
        obtain ⟨q, hq, rfl⟩ := Option.map_eq_some_iff.mp hv
        have h1 := List.find?_some hq
        simp only [Bool.and_eq_true, beq_iff_eq] at h1
        have h2 := List.all_eq_true.mp zlcT_ok q (List.mem_of_find?_eq_some hq)
        have h3 := zgw_in h2
        rw [h1.1, h1.2] at h3
        exact h3
      exact lv_ldc2 hx hb hown (hts _ hw) hd (kk A hL (List.forall_mem_cons.mpr ⟨trivial, hS⟩))
    · cases h
  · cases h
end SIM1
