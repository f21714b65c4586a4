/-- the script stays as it is -/
theorem zup_k {M : zM} {p : Int} {c : zC} (h : ¬ (-1 : Int) = p) : (zup M p c).2.2 (-1) = M.2.2 (-1) := if_neg h
theorem znew_k {M : zM} {n : Nat} {c : zC} : (znew M n c).2.2 (-1) = M.2.2 (-1) := by
  show (if (-1 : Int) = (M.1 : Int) then c else M.2.2 (-1)) = _
  rw [if_neg (by omega)]
theorem zn1_k {j pc : Nat} {i : Instr} {ls : zL} {st : List zV} {M : zM} {c : zX} (h : zn1 j i pc ls st M = some c) : c.2.2.2 = M := by
  unfold zn1 at h
  split at h
  all_goals (try (split at h))
  all_goals (try (split at h))
  all_goals (first | (cases h; rfl) | cases h)
theorem zn2_k {pc : Nat} {i : Instr} {ls : zL} {st : List zV} {M : zM} {c : zX} (h : zn2 i pc ls st M = some c) : c.2.2.2 = M := by
  unfold zn2 at h
  split at h
  all_goals (try (split at h))
  all_goals (first | (cases h; rfl) | (cases h; done) | (simp only [Option.map_eq_some_iff] at h; obtain ⟨q, _, e⟩ := h; rw [← e]) | skip)
  all_goals (try (split at h))
  all_goals (first | (cases h; rfl) | (cases h; done) | skip)
  all_goals (try (split at h))
  all_goals (first | (cases h; rfl) | (cases h; done) | skip)
  all_goals (try (split at h))
  all_goals (first | (cases h; rfl) | (cases h; done) | skip)
theorem zn4_k {d j pc : Nat} {i : Instr} {ls : zL} {st : List zV} {M : zM} {c : zX} (h : zn4 d j i pc ls st M = some c) : c.2.2.2 = M := by
  unfold zn4 at h
  split at h
  all_goals (try (split at h))
  all_goals (try (split at h))
  all_goals (first | (cases h; rfl) | cases h)
theorem zn3_k {j pc : Nat} {i : Instr} {ls : zL} {st : List zV} {M : zM} {c : zX} {len : Int} (hm : (M.2.2 (-1)).1 = .inr (0, len)) (h : zn3 j i pc ls st M = some c) : c.2.2.2.2.2 (-1) = M.2.2 (-1) := by
  unfold zn3 at h
  split at h
  all_goals (try (split at h))
  all_goals (try (split at h))
  all_goals (try (split at h))
  all_goals (try (split at h))
  all_goals (first | (cases h; rfl) | (cases h; done) | (cases h; exact znew_k) | (cases h; exact zup_k (fun e => by subst e; simp_all)) | (cases h; exact zup_k (fun e => by omega)))
theorem znx_k {d j pc : Nat} {i : Instr} {ls : zL} {st : List zV} {M : zM} {c : zX} {len : Int} (hm : (M.2.2 (-1)).1 = .inr (0, len)) (h : znx d j i pc ls st M = some c) : c.2.2.2.2.2 (-1) = M.2.2 (-1) := by
  unfold znx at h
  split at h
  · next c2 h2 => cases h; rw [zn1_k h2]
  · split at h
    · next c2 h2 => cases h; rw [zn2_k h2]
    · split at h
      · next c2 h2 => cases h; exact zn3_k hm h2
      · rw [zn4_k h]
theorem zrun_k {len : Int} : ∀ (n : Nat) {d j pc : Nat} {ls : zL} {st : List zV} {M : zM} {y : Option zV × zM}, zrun n d j pc ls st M = some y → (M.2.2 (-1)).1 = .inr (0, len) → y.2.2.2 (-1) = M.2.2 (-1) := by
  intro n
  induction n with
  | zero => intro d j pc ls st M y h; simp [zrun] at h
  | succ n ih =>
    intro d j pc ls st M y h hm
    obtain ⟨i, ln, _, _, hc⟩ := zrun_x h
    rcases hc with ⟨r, _, rfl⟩ | ⟨x, d', z, _, _, _, h1, h2⟩ | ⟨x, _, _, h1, h2⟩
    · rfl
    · have e1 := ih h1 hm
      have e2 := ih h2 (by rw [e1]; exact hm)
      rw [e2, e1]
    · have e1 := znx_k hm h1
      have e2 := ih h2 (by rw [e1]; exact hm)
      rw [e2, e1]
theorem zF_k {L d j : Nat} {as : List zV} {m m' : zmem} {v : Option zV} (h : zF L d j as m v m') : m' (-1) = m (-1) := by
  obtain ⟨n, y, hr, _, hy⟩ := h
  have e := zrun_k (len := (L : Int)) n hr (kdm1 (L := L))
  rw [hy] at e
  funext k
  have e2 : zcn L m' (-1) = zcn L m (-1) := congrArg Prod.snd e
  have e3 := congrFun e2 k
  unfold zcn at e3
  rw [zrf_arr kdm1 (by decide)] at e3
  simp only at e3
  exact Sum.inl.inj e3
theorem zre_i {j : Nat} {i : Instr} {st : List zV} {r : Option zV} (hr : zr j = some .int) (h : zre j i st = some r) : ∃ x, r = some (.inl x) := by
  unfold zre at h
  split at h
  · split at h
    · cases h; exact ⟨_, rfl⟩
    · cases h
  · rw [hr] at h; simp at h
  · rw [hr] at h; simp at h
  · cases h
theorem zre_l {j : Nat} {i : Instr} {st : List zV} {r : Option zV} (hr : zr j = some .long) (h : zre j i st = some r) : ∃ x, r = some (.inr (.inr x)) := by
  unfold zre at h
  split at h
  · rw [hr] at h; simp at h
  · rw [hr] at h; simp at h; exact ⟨_, h.symm⟩
  · rw [hr] at h; simp at h
  · cases h
theorem zrun_re : ∀ (n : Nat) {d j pc : Nat} {ls : zL} {st : List zV} {M : zM} {y : Option zV × zM}, zrun n d j pc ls st M = some y → ∃ i st2, zre j i st2 = some y.1 := by
  intro n
  induction n with
  | zero => intro d j pc ls st M y h; simp [zrun] at h
  | succ n ih =>
    intro d j pc ls st M y h
    obtain ⟨i, ln, _, _, hc⟩ := zrun_x h
    rcases hc with ⟨r, h1, rfl⟩ | ⟨x, d', z, _, _, _, h1, h2⟩ | ⟨x, _, _, h1, h2⟩
    · exact ⟨i, st, h1⟩
    · exact ih h2
    · exact ih h2
theorem zF_i {L d j : Nat} {as : List zV} {m m' : zmem} {v : zV} (hr : zr j = some .int) (h : zF L d j as m (some v) m') : ∃ x, v = .inl x := by
  obtain ⟨n, y, hrn, hv, _⟩ := h
  obtain ⟨i, st2, hz⟩ := zrun_re n hrn
  obtain ⟨x, hx⟩ := zre_i hr hz
  rw [hv] at hx
  exact ⟨x, Option.some.inj hx⟩
theorem zF_l {L d j : Nat} {as : List zV} {m m' : zmem} {v : zV} (hr : zr j = some .long) (h : zF L d j as m (some v) m') : ∃ x, v = .inr (.inr x) := by
  obtain ⟨n, y, hrn, hv, _⟩ := h
  obtain ⟨i, st2, hz⟩ := zrun_re n hrn
  obtain ⟨x, hx⟩ := zre_l hr hz
  rw [hv] at hx
  exact ⟨x, Option.some.inj hx⟩
