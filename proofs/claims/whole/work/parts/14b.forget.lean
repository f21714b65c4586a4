/-! a run that needs fewer locals -/
def zlq : zL → zL → Prop
  | [], [] => True
  | a :: s, b :: t => (a = b ∨ (a = none ∧ zlg (some b) = false)) ∧ zlq s t
  | _, _ => False
theorem zlq_rf : ∀ (s : zL), zlq s s
  | [] => trivial
  | a :: s => ⟨Or.inl rfl, zlq_rf s⟩
theorem zlq_len : ∀ {s t : zL}, zlq s t → s.length = t.length
  | [], [], _ => rfl
  | a :: s, b :: t, h => by simp [zlq_len h.2]
  | [], b :: t, h => h.elim
  | a :: s, [], h => h.elim
theorem zlq_get : ∀ {s t : zL} {k : Nat} {v : zV}, zlq s t → s[k]? = some (some v) → t[k]? = some (some v)
  | [], [], k, v, _, e => by simp at e
  | a :: s, b :: t, 0, v, h, e => by
    simp at e
    rcases h.1 with h1 | h1
    · subst h1; simp [e]
    · rw [h1.1] at e; cases e
  | a :: s, b :: t, k + 1, v, h, e => by
    have := zlq_get (k := k) (v := v) h.2 (by simpa using e)
    simpa using this
  | [], b :: t, k, v, h, _ => h.elim
  | a :: s, [], k, v, h, _ => h.elim
theorem zlq_lg : ∀ {s t : zL} {k : Nat}, zlq s t → zlg (t[k]?) = true → zlg (s[k]?) = true
  | [], [], k, _, e => by simp [zlg] at e
  | a :: s, b :: t, 0, h, e => by
    simp at e ⊢
    rcases h.1 with h1 | h1
    · subst h1; exact e
    · rw [h1.2] at e; cases e
  | a :: s, b :: t, k + 1, h, e => by
    have := zlq_lg (k := k) h.2 (by simpa using e)
    simpa using this
  | [], b :: t, k, h, _ => h.elim
  | a :: s, [], k, h, _ => h.elim
theorem zlq_fr {s t : zL} {k : Nat} (h : zlq s t) (e : zfree s k = true) : zfree t k = true := by
  unfold zfree at e ⊢
  rw [← zlq_len h]
  simp only [Bool.and_eq_true, decide_eq_true_eq, Bool.not_eq_true', Bool.and_eq_false_iff, decide_eq_false_iff_not] at e ⊢
  refine ⟨e.1, ?_⟩
  rcases e.2 with h1 | h1
  · exact Or.inl h1
  · right
    cases hz : zlg (t[k - 1]?) with
    | false => rfl
    | true => rw [zlq_lg h hz] at h1; cases h1
theorem zlq_set : ∀ {s t : zL} {k : Nat} {v : Option zV}, zlq s t → zlq (s.set k v) (t.set k v)
  | [], [], _, _, _ => trivial
  | a :: s, b :: t, 0, v, h => ⟨Or.inl rfl, h.2⟩
  | a :: s, b :: t, k + 1, v, h => ⟨h.1, zlq_set h.2⟩
  | [], b :: t, k, v, h => h.elim
  | a :: s, [], k, v, h => h.elim
theorem zn1_le {j : Nat} {i : Instr} {pc : Nat} {ls ls' : zL} {st : List zV} {M : zM} {x : zX} (h : zlq ls ls') (e : zn1 j i pc ls st M = some x) : ∃ l', zn1 j i pc ls' st M = some (x.1, l', x.2.2) ∧ zlq x.2.1 l' := by
  unfold zn1 at e
  split at e
  · split at e
    · next hk => cases e; exact ⟨ls', by simp only [zn1, zlq_get h hk], h⟩
    · cases e
  · split at e
    · next hk => cases e; exact ⟨ls', by simp only [zn1, zlq_get h hk], h⟩
    · cases e
  · split at e
    · next hk => cases e; exact ⟨ls', by simp only [zn1, zlq_get h hk], h⟩
    · cases e
  · split at e
    · next hk => cases e; exact ⟨ls', by simp only [zn1, zlq_get h hk], h⟩
    · cases e
  · split at e
    · next hk => cases e; exact ⟨ls', by simp only [zn1, zlq_get h hk], h⟩
    · cases e
  · split at e
    · split at e
      · next hf => cases e; exact ⟨_, by simp only [zn1, zlq_fr h hf, if_true], zlq_set h⟩
      · cases e
    · cases e
  · split at e
    · split at e
      · next hf => cases e; exact ⟨_, by simp only [zn1, zlq_fr h hf, if_true], zlq_set h⟩
      · cases e
    · cases e
  · split at e
    · split at e
      · next hf => cases e; exact ⟨_, by simp only [zn1, zlq_fr h hf, if_true], zlq_set h⟩
      · cases e
    · cases e
  · split at e
    · split at e
      · next hf => cases e; exact ⟨_, by simp only [zn1, zlq_fr h hf, if_true], zlq_set h⟩
      · cases e
    · cases e
  · split at e
    · split at e
      · next hf =>
        cases e
        have hl := zlq_len h
        exact ⟨_, by simp only [zn1, zlq_fr h hf.1, ← hl, hf.2, and_self, if_true], zlq_set (zlq_set h)⟩
      · cases e
    · cases e
  · split at e
    · next hk =>
      split at e
      · next hf => cases e; exact ⟨_, by simp only [zn1, zlq_get h hk, zlq_fr h hf.1, hf.2.1, hf.2.2, and_self, if_true], zlq_set h⟩
      · cases e
    · cases e
  · split at e
    · next hk => cases e; exact ⟨ls', by simp only [zn1, hk, if_true], h⟩
    · cases e
  · split at e
    · next hk => cases e; exact ⟨ls', by simp only [zn1, hk, and_self, if_true], h⟩
    · cases e
  · split at e
    · next hk => cases e; exact ⟨ls', by simp only [zn1, hk, and_self, if_true], h⟩
    · cases e
  · split at e
    · next hk => cases e; exact ⟨ls', by simp only [zn1, hk], h⟩
    · cases e
  · cases e
/-- the other steps carry the locals through -/
theorem zn2_ls {i : Instr} {pc : Nat} {ls ls' : zL} {st : List zV} {M : zM} : zn2 i pc ls' st M = (zn2 i pc ls st M).map (fun x => (x.1, ls', x.2.2)) := by
  unfold zn2
  repeat' split
  all_goals first | rfl | (simp only [Option.map_map]; rfl) | simp_all
theorem zn3_ls {j : Nat} {i : Instr} {pc : Nat} {ls ls' : zL} {st : List zV} {M : zM} : zn3 j i pc ls' st M = (zn3 j i pc ls st M).map (fun x => (x.1, ls', x.2.2)) := by
  unfold zn3
  repeat' split
  all_goals first | rfl | simp_all
theorem zn4_ls {d j : Nat} {i : Instr} {pc : Nat} {ls ls' : zL} {st : List zV} {M : zM} : zn4 d j i pc ls' st M = (zn4 d j i pc ls st M).map (fun x => (x.1, ls', x.2.2)) := by
  unfold zn4
  repeat' split
  all_goals first | rfl | simp_all
theorem zn2_lo {i : Instr} {pc : Nat} {ls : zL} {st : List zV} {M : zM} {x : zX} (h : zn2 i pc ls st M = some x) : x.2.1 = ls := by
  have := zn2_ls (i := i) (pc := pc) (ls := ls) (ls' := ls) (st := st) (M := M)
  rw [h] at this
  simp only [Option.map_some, Option.some.injEq] at this
  rw [this]
theorem zn3_lo {j : Nat} {i : Instr} {pc : Nat} {ls : zL} {st : List zV} {M : zM} {x : zX} (h : zn3 j i pc ls st M = some x) : x.2.1 = ls := by
  have := zn3_ls (j := j) (i := i) (pc := pc) (ls := ls) (ls' := ls) (st := st) (M := M)
  rw [h] at this
  simp only [Option.map_some, Option.some.injEq] at this
  rw [this]
theorem zn1_none {j : Nat} {i : Instr} {pc : Nat} {ls ls' : zL} {st : List zV} {M : zM} {x y : zX} (e : zn1 j i pc ls' st M = some x) (h2 : zn2 i pc ls st M = some y ∨ zn3 j i pc ls st M = some y ∨ ∃ d, zn4 d j i pc ls st M = some y) : False := by
  cases i <;> first | (simp [zn1] at e; done) | (rcases h2 with h2 | h2 | ⟨d, h2⟩ <;> first | (simp [zn2] at h2; done) | (simp [zn3] at h2; done) | (simp [zn4] at h2; done))
theorem znx_le {d j : Nat} {i : Instr} {pc : Nat} {ls ls' : zL} {st : List zV} {M : zM} {x : zX} (h : zlq ls ls') (e : znx d j i pc ls st M = some x) : ∃ l', znx d j i pc ls' st M = some (x.1, l', x.2.2) ∧ zlq x.2.1 l' := by
  have n1 : ∀ y, (zn2 i pc ls st M = some y ∨ zn3 j i pc ls st M = some y ∨ ∃ d, zn4 d j i pc ls st M = some y) → zn1 j i pc ls' st M = none := by
    intro y hy
    cases hz : zn1 j i pc ls' st M with
    | none => rfl
    | some z => exact (zn1_none hz hy).elim
  unfold znx at e
  split at e
  · next y e1 =>
    cases e
    obtain ⟨l', a1, a2⟩ := zn1_le h e1
    exact ⟨l', by unfold znx; rw [a1], a2⟩
  · split at e
    · next y e1 =>
      cases e
      refine ⟨ls', ?_, by rw [zn2_lo e1]; exact h⟩
      unfold znx
      rw [n1 _ (Or.inl e1), zn2_ls (ls := ls), e1]
      rfl
    · next e2 =>
      split at e
      · next y e1 =>
        cases e
        refine ⟨ls', ?_, by rw [zn3_lo e1]; exact h⟩
        unfold znx
        rw [n1 _ (Or.inr (Or.inl e1)), zn2_ls (ls := ls), e2, zn3_ls (ls := ls), e1]
        rfl
      · next e3 =>
        refine ⟨ls', ?_, by rw [(zn4_M e).2]; exact h⟩
        unfold znx
        rw [n1 _ (Or.inr (Or.inr ⟨d, e⟩)), zn2_ls (ls := ls), e2, zn3_ls (ls := ls), e3]
        simp only [Option.map_none]
        rw [zn4_ls (ls := ls), e]
        rfl
theorem zrun_ls : ∀ {n d j pc : Nat} {ls ls' : zL} {st : List zV} {M : zM} {y : Option zV × zM}, zlq ls ls' → zrun n d j pc ls st M = some y → zrun n d j pc ls' st M = some y := by
  intro n
  induction n with
  | zero => intro d j pc ls ls' st M y _ h; simp [zrun] at h
  | succ n ih =>
    intro d j pc ls ls' st M y hz h
    obtain ⟨i, len, hf, hl, h⟩ := zrun_x h
    unfold zrun
    rw [hf]
    simp only [hl, if_true]
    rcases h with ⟨r, hr, rfl⟩ | ⟨x, d', z, hn, hx, rfl, h1, h2⟩ | ⟨x, hn, hc, hx, h2⟩
    · rw [hr]
    · rw [hn, hx]
      simp only
      rw [h1]
      simp only
      exact ih hz h2
    · obtain ⟨l', a1, a2⟩ := znx_le hz hx
      rw [hn, hc, a1]
      simp only
      exact ih a2 h2
theorem r_forget {d j pc : Nat} {ls ls' : zL} {st : List zV} {M : zM} {Q : Option zV → zM → Prop} (h : zlq ls' ls) (k : zR d j pc ls' st M Q) : zR d j pc ls st M Q := by
  obtain ⟨n, y, e, q⟩ := k
  exact ⟨n, y, zrun_ls h e, q⟩
