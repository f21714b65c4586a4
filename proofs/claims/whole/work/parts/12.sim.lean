/-! the whole: a run of the small machine is a run of the JVM -/
theorem zwo1 : Cond.instanceMethod objectInit ∈ zW := List.mem_filter.mpr ⟨List.mem_of_getElem? (i := 56) rfl, rfl⟩
theorem zwo2 : Cond.code objectInit ⟨#[0xb1]⟩ 1 none ∈ zW := List.mem_filter.mpr ⟨List.mem_of_getElem? (i := 57) rfl, rfl⟩
theorem zwx1 : Cond.static Lib.Math.max.name ∈ zW := List.mem_filter.mpr ⟨List.mem_of_getElem? (i := 338) rfl, rfl⟩
theorem zwx2 : Cond.code Lib.Math.max.name Lib.Math.max.code 2 (some .int) ∈ zW := List.mem_filter.mpr ⟨List.mem_of_getElem? (i := 339) rfl, rfl⟩
theorem zwn1 : Cond.static Lib.Math.min.name ∈ zW := List.mem_filter.mpr ⟨List.mem_of_getElem? (i := 398) rfl, rfl⟩
theorem zwn2 : Cond.code Lib.Math.min.name Lib.Math.min.code 2 (some .int) ∈ zW := List.mem_filter.mpr ⟨List.mem_of_getElem? (i := 399) rfl, rfl⟩
theorem zwmi : Cond.initialized "java/lang/Math" ∈ zW := List.mem_filter.mpr ⟨List.mem_of_getElem? (i := 49) rfl, rfl⟩
theorem zn4_M {d j : Nat} {i : Instr} {pc : Nat} {ls : zL} {st : List zV} {M : zM} {x : zX} (h : zn4 d j i pc ls st M = some x) : x.2.2.2 = M ∧ x.2.1 = ls := by
  unfold zn4 at h
  repeat' split at h
  all_goals first | (cases h; exact ⟨rfl, rfl⟩) | cases h
theorem zn3_M {j : Nat} {i : Instr} {pc : Nat} {ls : zL} {st : List zV} {M : zM} {x : zX} (h : zn3 j i pc ls st M = some x) : M.1 ≤ x.2.2.2.1 ∧ M.2.1 ≤ x.2.2.2.2.1 := by
  unfold zn3 at h
  repeat' split at h
  all_goals first | (cases h; exact ⟨Nat.le_refl _, Nat.le_refl _⟩) | (cases h; exact ⟨Nat.le_succ _, Nat.le_add_right _ _⟩) | cases h
theorem znx_M {d j : Nat} {i : Instr} {pc : Nat} {ls : zL} {st : List zV} {M : zM} {x : zX} (h : znx d j i pc ls st M = some x) : M.1 ≤ x.2.2.2.1 ∧ M.2.1 ≤ x.2.2.2.2.1 := by
  unfold znx at h
  split at h
  · next y e => cases h; rw [zn1_M e]; exact ⟨Nat.le_refl _, Nat.le_refl _⟩
  · split at h
    · next y e => cases h; rw [zn2_M e]; exact ⟨Nat.le_refl _, Nat.le_refl _⟩
    · split at h
      · next y e => cases h; exact zn3_M e
      · rw [(zn4_M h).1]; exact ⟨Nat.le_refl _, Nat.le_refl _⟩
/-- a run, taken apart -/
theorem zrun_s {n d j pc : Nat} {ls : zL} {st : List zV} {M : zM} {y : Option zV × zM} (h : zrun (n + 1) d j pc ls st M = some y) : ∃ i len, zft j pc = some (i, len) ∧ zlk i len = true ∧
    ((∃ r, zre j i st = some r ∧ y = (r, M)) ∨ (∃ x d' z, zca j i st M = some x ∧ d = d' + 1 ∧ zrun n d' x.1 0 (zent x.1 x.2.1) [] M = some z ∧ zrun n d j (pc + 3) ls (z.1.toList ++ x.2.2) z.2 = some y) ∨ ∃ x, znx d j i pc ls st M = some x ∧ zrun n d j x.1 x.2.1 x.2.2.1 x.2.2.2 = some y) := by
  unfold zrun at h
  split at h
  · cases h
  · next i len hf =>
    split at h
    · next hl =>
      refine ⟨i, len, hf, hl, ?_⟩
      split at h
      · next r hr => cases h; exact Or.inl ⟨r, hr, rfl⟩
      · split at h
        · next x hx =>
          cases d with
          | zero => simp at h
          | succ d' =>
            simp only at h
            split at h
            · cases h
            · next z hz => exact Or.inr (Or.inl ⟨x, d', z, hx, rfl, hz, h⟩)
        · split at h
          · next x hx => exact Or.inr (Or.inr ⟨x, hx, h⟩)
          · cases h
    · cases h
theorem zrun_M : ∀ {n d j pc : Nat} {ls : zL} {st : List zV} {M : zM} {y : Option zV × zM}, zrun n d j pc ls st M = some y → M.1 ≤ y.2.1 ∧ M.2.1 ≤ y.2.2.1 := by
  intro n
  induction n with
  | zero => intro d j pc ls st M y h; simp [zrun] at h
  | succ n ih =>
    intro d j pc ls st M y h
    obtain ⟨i, len, -, -, h | ⟨x, d', z, -, -, h1, h2⟩ | ⟨x, h1, h2⟩⟩ := zrun_s h
    · obtain ⟨r, -, rfl⟩ := h; exact ⟨Nat.le_refl _, Nat.le_refl _⟩
    · have a1 := ih h1; have a2 := ih h2; exact ⟨Nat.le_trans a1.1 a2.1, Nat.le_trans a1.2 a2.2⟩
    · have a1 := znx_M h1; have a2 := ih h2; exact ⟨Nat.le_trans a1.1 a2.1, Nat.le_trans a1.2 a2.2⟩
section SIM4
variable {p : Program} {l : Launch} {e : Env} {R : Room} {s : State} {m : MethodId} {args : Array Value} {below : List Frame} {meth : Method} {c : Code} {H : Heap} {locs : List Loc} {cells slots : Nat} {Q : State → Prop}
theorem z_n4 {f : Int → Nat} {d j : Nat} {i : Instr} {len pc : Nat} {ls : zL} {st : List zV} {M : zM} {x : zX} {A : Array Slot} (hx : p.tables.exec = Jvm.exec) (hb : c.code = zc j) (hml : c.maxLocals = zn j) (hown : s.vm.findClass (zRn (zo j)) = some m.cls) (hts : ∀ w ∈ zW, w.before args s = true)
    (hL : zLR f (zn j) ls A) (hS : ∀ v ∈ st, zok v) (hd : decode (zc j) pc = .ok (i, len)) (hl : zlk i len = true) (h : zn4 d j i pc ls st M = some x) (hfr : d ≤ R.frames) (hlo : 43 * d ≤ R.locals) (hc1 : cells ≤ R.cells) (hc2 : slots ≤ R.slots)
    (kk : (∀ v ∈ x.2.2.1, zok v) → W p l e R s m args below meth c H locs cells slots Q (F0 m x.1 A (x.2.2.1.map (zcv f)))) : W p l e R s m args below meth c H locs cells slots Q (F0 m pc A (st.map (zcv f))) := by
  unfold zn4 at h
  split at h
  · next n =>
    have hn := zlen_of hl (by intros; simp); simp only [zlen] at hn; subst hn
    split at h
    · next q r k hz =>
      split at h
      · next hk =>
        cases h
        obtain ⟨iw, hi1, hi2⟩ := zml_in hz
        have hw := zgw_in (show zgw iw (.methodLink (zRn (zo j)) n objectInit) = true from hi2)
        have hr := zrest (f := f) r
        refine W.objInit (a := f q) (rest := r.map (zcv f)) hx hb hown (hts _ hw) (hts _ zwo1) (hts _ zwo2) rfl (by show A.size = _; rw [hml]; exact hL.1.1) rfl hd (by omega) (by show 2 * 0 + _ + 12 ≤ _; omega) ?_
        exact W.eq (g2 := F0 m (pc + 3) A (r.map (zcv f))) rfl (kk (List.forall_mem_cons.mp hS).2)
      · cases h
    · cases h
  · next n =>
    have hn := zlen_of hl (by intros; simp); simp only [zlen] at hn; subst hn
    split at h
    · next y0 x0 r k hz =>
      split at h
      · next hk =>
        cases h
        obtain ⟨iw, hi1, hi2⟩ := zml_in hz
        have hw := zgw_in (show zgw iw (.methodLink (zRn (zo j)) n Lib.Math.max.name) = true from hi2)
        have hr := zrest (f := f) r
        have hv := List.forall_mem_cons.mp hS
        have hu := List.forall_mem_cons.mp hv.2
        refine va_mmax hx hb (by rw [hml]; exact hL.1.1.symm) hown (hts _ hw) (hts _ zwx1) (hts _ zwmi) (hts _ zwx2) (by omega) (by omega) hc1 hc2 hd ?_
        have := kk (List.forall_mem_cons.mpr ⟨by split; exact hv.1; exact hu.1, hu.2⟩)
        have ei : (if Int32.ofInt x0 < Int32.ofInt y0 then Int32.ofInt y0 else Int32.ofInt x0) = Int32.ofInt (if x0 < y0 then y0 else x0) := by
          by_cases g : x0 < y0
          · rw [if_pos g, if_pos ((zlt hu.1 hv.1).mpr g)]
          · rw [if_neg g, if_neg (fun g2 => g ((zlt hu.1 hv.1).mp g2))]
        rw [ei]
        exact this
      · cases h
    · next y0 x0 r k hz =>
      split at h
      · next hk =>
        cases h
        obtain ⟨iw, hi1, hi2⟩ := zml_in hz
        have hw := zgw_in (show zgw iw (.methodLink (zRn (zo j)) n Lib.Math.min.name) = true from hi2)
        have hr := zrest (f := f) r
        have hv := List.forall_mem_cons.mp hS
        have hu := List.forall_mem_cons.mp hv.2
        refine va_mmin hx hb (by rw [hml]; exact hL.1.1.symm) hown (hts _ hw) (hts _ zwn1) (hts _ zwmi) (hts _ zwn2) (by omega) (by omega) hc1 hc2 hd ?_
        have := kk (List.forall_mem_cons.mpr ⟨by split; exact hv.1; exact hu.1, hu.2⟩)
        have ei : (if Int32.ofInt y0 < Int32.ofInt x0 then Int32.ofInt y0 else Int32.ofInt x0) = Int32.ofInt (if y0 < x0 then y0 else x0) := by
          by_cases g : y0 < x0
          · rw [if_pos g, if_pos ((zlt hv.1 hu.1).mpr g)]
          · rw [if_neg g, if_neg (fun g2 => g ((zlt hv.1 hu.1).mp g2))]
        first
          | (rw [ei]; exact this)
          | (refine W.eq ?_ this; congr 1; simp only [List.map_cons, zcv]; congr 2; rw [← ei]; split <;> split <;> first | rfl | (rename_i g1 g2; rcases Int32.lt_trichotomy (Int32.ofInt x0) (Int32.ofInt y0) with t | t | t <;> simp_all))
      · cases h
    · cases h
  · cases h
end SIM4
/-- the frame of a run: the machine, the code, the tables -/
def zCx (dC : Nat → ClassId) (dI : Nat → Nat → Nat) (cA : Nat → ClassId) (base b t0 L : Nat) (xs : Nat → Int32) (j : Nat) (p : Program) (s : State) (m : MethodId) (args : Array Value) (meth : Method) (c : Code) : Prop :=
  p.tables.exec = Jvm.exec ∧ c.code = zc j ∧ c.maxLocals = zn j ∧ s.vm.findClass (zRn (zo j)) = some m.cls ∧ (∀ w ∈ zW, w.before args s = true) ∧ zEv dC dI cA base b t0 L xs s s.heap ∧ base ≤ s.heap.size ∧ ((zy j).name = "<init>" → meth.name = "<init>")
theorem zca_ok {j : Nat} {i : Instr} {st : List zV} {M : zM} {x : Nat × List zV × List zV} (hS : ∀ v ∈ st, zok v) (h : zca j i st M = some x) : (x.1 < 132 ∧ x.2.1.length ≤ zn x.1) ∧ zsm x.2.1 = true ∧ (∀ v ∈ x.2.1, zok v) ∧ ∀ v ∈ x.2.2, zok v := by
  have hsm : ∀ (t : List zV), zsm t = true → zsm t.reverse = true := by
    intro t ht
    unfold zsm at ht ⊢
    rw [List.all_reverse]
    exact ht
  have ht : ∀ k, ∀ v ∈ (st.take k).reverse, zok v := fun k v hv => hS v (List.mem_of_mem_take (List.mem_reverse.mp hv))
  have hdr : ∀ k, ∀ v ∈ st.drop k, zok v := fun k v hv => hS v (List.mem_of_mem_drop hv)
  unfold zca at h
  split at h
  · split at h
    · next q hz =>
      split at h
      · next pp r hst =>
        split at h
        · next hk =>
          cases h
          obtain ⟨iw, hi1, hi2⟩ := zml_in hz
          simp only [zmlc, Bool.and_eq_true, decide_eq_true_eq] at hi2
          refine ⟨⟨hi2.1.2, ?_⟩, ?_, List.forall_mem_cons.mpr ⟨trivial, ht _⟩, fun v hv => hdr (zp q) v (by rw [hst]; exact List.mem_cons_of_mem _ hv)⟩
          · have := hi2.2; simp only [List.length_cons, List.length_reverse, List.length_take]; omega
          · show (true && zsm (st.take (zp q)).reverse) = true; rw [hsm _ hk.2.2.2]; rfl
        · cases h
      · cases h
    · cases h
  · split at h
    · next k q hz =>
      split at h
      · next hk =>
        cases h
        obtain ⟨iw, hi1, hi2⟩ := zml_in hz
        have hq : q < 132 ∧ zp q ≤ zn q := by
          rcases hk.1 with rfl | rfl
          · simp only [zmlc, Bool.and_eq_true, decide_eq_true_eq] at hi2; exact ⟨hi2.1.2, hi2.2⟩
          · simp only [zmlc, Bool.and_eq_true, decide_eq_true_eq] at hi2; exact ⟨hi2.1.2, hi2.2⟩
        refine ⟨⟨hq.1, ?_⟩, hsm _ hk.2.2.2, ht _, hdr _⟩
        simp only [List.length_reverse, List.length_take]; omega
      · cases h
    · cases h
  · split at h
    · next k q hz =>
      split at h
      · next hk1 =>
        split at h
        · next pp r hst =>
          split at h
          · next hk =>
            cases h
            obtain ⟨iw, hi1, hi2⟩ := zml_in hz
            have hq : q < 132 ∧ zp q + 1 ≤ zn q := by
              rcases hk1 with rfl | rfl
              · simp only [zmlc, Bool.and_eq_true, decide_eq_true_eq] at hi2; exact ⟨hi2.1.2, hi2.2⟩
              · simp only [zmlc, Bool.and_eq_true, decide_eq_true_eq] at hi2; exact ⟨hi2.1.2, hi2.2⟩
            refine ⟨⟨hq.1, ?_⟩, ?_, List.forall_mem_cons.mpr ⟨trivial, ht _⟩, fun v hv => hdr (zp q) v (by rw [hst]; exact List.mem_cons_of_mem _ hv)⟩
            · simp only [List.length_cons, List.length_reverse, List.length_take]; omega
            · show (true && zsm (st.take (zp q)).reverse) = true; rw [hsm _ hk.2.2]; rfl
          · cases h
        · cases h
      · cases h
    · cases h
  · cases h
theorem zre_st {j : Nat} {i : Instr} {st : List zV} {r : Option zV} (h : zre j i st = some r) : st = r.toList := by
  unfold zre at h
  repeat' split at h
  all_goals first | (cases h; rfl) | cases h
set_option maxHeartbeats 1000000 in
theorem z_sim (l : Launch) {dC : Nat → ClassId} {dI : Nat → Nat → Nat} {cA : Nat → ClassId} {base b t0 L : Nat} {xs : Nat → Int32} : ∀ (n : Nat) {d j pc : Nat} {ls : zL} {st : List zV} {M : zM} {y : Option zV × zM}, zrun n d j pc ls st M = some y →
    ∀ {p : Program} {e : Env} {R : Room} {s : State} {m : MethodId} {args : Array Value} {below : List Frame} {meth : Method} {c : Code} {H : Heap} {locs : List Loc} {cells slots : Nat} {Q : State → Prop} {A : Array Slot}, zCx dC dI cA base b t0 L xs j p s m args meth c → zWd dC dI cA base b t0 L xs M H → va_S (zA base) s.heap H locs → zLR (zad base b t0) (zn j) ls A → (∀ v ∈ st, zok v) → d ≤ R.frames → 43 * d ≤ R.locals → cells + y.2.1 ≤ R.cells + M.1 → slots + y.2.2.1 ≤ R.slots + M.2.1 →
    (∀ (H' : Heap) (locs' : List Loc) (A' : Array Slot) (pc' cells' slots' : Nat) (i : Instr) (len : Nat), decode (zc j) pc' = .ok (i, len) → zlk i len = true → zre j i y.1.toList = some y.1 → (∀ v ∈ y.1.toList, zok v) → zWd dC dI cA base b t0 L xs y.2 H' → va_S (zA base) s.heap H' locs' → cells' + M.1 = cells + y.2.1 → slots' + M.2.1 = slots + y.2.2.1 → W p l e R s m args below meth c H' locs' cells' slots' Q (F0 m pc' A' (y.1.toList.map (zcv (zad base b t0))))) →
    W p l e R s m args below meth c H locs cells slots Q (F0 m pc A (st.map (zcv (zad base b t0)))) := by
  intro n
  induction n with
  | zero => intro d j pc ls st M y h; simp [zrun] at h
  | succ n ih =>
    intro d j pc ls st M y h p e R s m args below meth c H locs cells slots Q A hC hW hV hL hS hfr hlo hc1 hc2 hend
    obtain ⟨hx, hb, hml, hown, hts, hE, hbs, hin⟩ := id hC
    obtain ⟨i, len, hf, hlk, h⟩ := zrun_s h
    have hd := zft_ok hf
    rcases h with ⟨r, hr, rfl⟩ | ⟨x, d', z, hx1, rfl, h1, h2⟩ | ⟨x, h1, h2⟩
    · have hst := zre_st hr
      subst hst
      exact hend H locs A pc cells slots i len hd hlk hr hS hW hV rfl rfl
    · obtain ⟨⟨k1, k2⟩, k3, k4, k5⟩ := zca_ok hS hx1
      have m1 := zrun_M h1
      have m2 := zrun_M h2
      have hMet : x.1 < 132 → zMet l dC dI cA base b t0 L xs d' x.1 x.2.1 M z.1 z.2 := by
        intro _
        obtain ⟨q1, q2, q3, q4, q5, q6, q7⟩ := zmt_in k1
        refine Met.ofW (cc := zc x.1) (maxL := zn x.1) (ret := zr x.1) q6 rfl ?_
        intro p e s m args below meth c s₁ B hml' hv
        obtain ⟨rfl, hE', hW', hbs'⟩ := hv
        have hts' := atoms_spec (ws := zwsj x.1) B.pre
        have hown' : s.vm.findClass (zRn (zo x.1)) = some m.cls := by rw [← q3]; exact findClass_of_methodNamed B.named
        have hlocks := B.notSynchronized
        have hret := B.returns
        rw [lg_entry_eq]
        refine ih h1 (s := s) (H := s.heap) (locs := []) (cells := 0) (slots := 0) ⟨B.exec, B.bytes, hml', hown', fun w hw => hts' w (List.mem_cons_of_mem _ hw), hE', hbs', fun hn => by rw [(name_of_methodNamed B.named B.method).1]; exact hn⟩ hW' va_S.rf (zent_LR k3 k2 k4) (fun v hv => by cases hv) (Nat.le_refl d') (Nat.le_refl _) (by show 0 + z.2.1 ≤ (z.2.1 - M.1) + M.1; omega) (by show 0 + z.2.2.1 ≤ (z.2.2.1 - M.2.1) + M.2.1; omega) ?_
        intro H' locs' A' pc' cells' slots' i' len' hd' hl' hz' hok2 hW2 hV2 e1 e2
        obtain rfl : cells' = z.2.1 - M.1 := by omega
        obtain rfl : slots' = z.2.2.1 - M.2.1 := by omega
        obtain ⟨zr0, zM0⟩ := z
        have hq : ∀ t : State, t.heap = H' → zQ dC dI cA base b t0 L xs zr0 zM0 (x.2.1.map (zcv (zad base b t0))).toArray s (.returned (zr0.map (zcv (zad base b t0)))) t := fun t ht => ⟨rfl, by rw [ht]; exact hW2, hok2, hV2.F ht⟩
        unfold zre at hz'
        split at hz'
        · next v hst =>
          split at hz'
          · next hk =>
            have hn' := zlen_of hl' (by intros; simp); simp only [zlen] at hn'; subst hn'
            cases hz'
            rcases hk with hk | ⟨hk, hv01⟩
            · rw [hk] at hret
              exact W.zret B.exec B.bytes hret rfl (fun t ht _ => hq t ht) hV2.2.2 hd'
            · rw [hk] at hret
              exact W.zret B.exec B.bytes hret (by rcases hv01 with rfl | rfl <;> rfl) (fun t ht _ => hq t ht) hV2.2.2 hd'
          · cases hz'
        · next v hst =>
          split at hz'
          · next hk =>
            have hn' := zlen_of hl' (by intros; simp); simp only [zlen] at hn'; subst hn'
            cases hz'
            rw [hk] at hret
            exact W.lret B.exec B.bytes hret (fun t ht _ => hq t ht) hV2.2.2 hd'
          · cases hz'
        · next hst =>
          split at hz'
          · next hk =>
            have hn' := zlen_of hl' (by intros; simp); simp only [zlen] at hn'; subst hn'
            cases hz'
            rw [hk] at hret
            exact W.vret B.exec B.bytes hret (fun t ht _ => hq t ht) hV2.2.2 hd'
          · cases hz'
        · cases hz'
      refine z_run hx hb hml hown hts hE hbs hW hV hL hd hlk hx1 hMet hfr hlo (by omega) (by omega) (fun H1 locs1 hW1 hok1 hV1 => ?_)
      have hst : (z.1.map (zcv (zad base b t0))).toList ++ x.2.2.map (zcv (zad base b t0)) = (z.1.toList ++ x.2.2).map (zcv (zad base b t0)) := by
        cases z.1 <;> rfl
      rw [hst]
      refine ih h2 hC hW1 hV1 hL ?_ hfr hlo (by omega) (by omega) (fun H' locs' A' pc' cells' slots' i' len' g1 g2 g3 g0 g4 g5 g6 g7 => hend H' locs' A' pc' cells' slots' i' len' g1 g2 g3 g0 g4 g5 (by omega) (by omega))
      intro v hv
      rcases List.mem_append.mp hv with hv | hv
      · exact hok1 v hv
      · exact k5 v hv
    · have m1 := znx_M h1
      have m2 := zrun_M h2
      unfold znx at h1
      split at h1
      · next y0 e0 =>
        cases h1
        have eM := zn1_M e0
        refine z_n1 hx hb hown hts hL hS hd hlk e0 (fun A' hL' hS' => ?_)
        rw [eM] at h2
        exact ih h2 hC hW hV hL' hS' hfr hlo hc1 hc2 hend
      · split at h1
        · next y0 e0 =>
          cases h1
          have eM := zn2_M e0
          refine z_n2 hx hb hL hS hd hlk e0 (fun A' hL' hS' => ?_)
          rw [eM] at h2
          exact ih h2 hC hW hV hL' hS' hfr hlo hc1 hc2 hend
        · split at h1
          · next y0 e0 =>
            cases h1
            refine z_n3 hx hb hown hts hE hbs hin hW hV hS hd hlk e0 (by omega) (by omega) (fun H' locs' cells' slots' hW' hV' hS' els g1 g2 => ?_)
            rw [els] at h2
            exact ih h2 hC hW' hV' hL hS' hfr hlo (by omega) (by omega) (fun H' locs' A' pc' cells' slots' i' len' f1 f2 f3 f0 f4 f5 f6 f7 => hend H' locs' A' pc' cells' slots' i' len' f1 f2 f3 f0 f4 f5 (by omega) (by omega))
          · obtain ⟨eM, els⟩ := zn4_M h1
            refine z_n4 hx hb hml hown hts hL hS hd hlk h1 hfr hlo (by omega) (by omega) (fun hS' => ?_)
            rw [eM, els] at h2
            exact ih h2 hC hW hV hL hS' hfr hlo hc1 hc2 hend
