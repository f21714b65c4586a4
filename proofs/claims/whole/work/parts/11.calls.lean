/-! calls: words, entry, contracts -/
def zpl (j : Nat) : Nat × Nat × Nat × Nat := (zm j).2.2.2.2.2.2
def zmtc (j : Nat) : Bool := zgw (zpl j).2.2.2 (.initialized (zRn (zo j))) && decide ((zy j).cls = zRn (zo j)) && decide ((zy j).cls ≠ "java/lang/invoke/MethodHandle") && decide ((zy j).cls ≠ "java/lang/invoke/VarHandle") && decide ((parseMethodDescriptor (zy j).desc).map (fun d => d.parameters.length) = some (zp j)) && decide (zn j ≤ 24) && plainName (zy j).cls && decide (zo j < 8)
set_option maxRecDepth 100000 in
theorem zmtc_0 : (List.range 132).all zmtc = true := by decide +kernel
theorem zmt_in {j : Nat} (h : j < 132) : Cond.code (zy j) (zc j) (zn j) (zr j) ∈ zW ∧ Cond.initialized (zRn (zo j)) ∈ zW ∧ (zy j).cls = zRn (zo j) ∧ ((zy j).cls ≠ "java/lang/invoke/MethodHandle" ∧ (zy j).cls ≠ "java/lang/invoke/VarHandle" ∧ (parseMethodDescriptor (zy j).desc).map (fun d => d.parameters.length) = some (zp j)) ∧ zn j ≤ 24 ∧ plainName (zy j).cls = true ∧ zo j < 8 := by
  have h1 := List.all_eq_true.mp zmtc_0 j (List.mem_range.mpr h)
  simp only [zmtc, Bool.and_eq_true, decide_eq_true_eq] at h1
  obtain ⟨⟨⟨⟨⟨⟨⟨a2, a3⟩, a4⟩, a5⟩, a6⟩, a7⟩, a8⟩, a9⟩ := h1
  exact ⟨List.mem_filter.mpr ⟨zcw _ (zm_at h), rfl⟩, zgw_in a2, a3, ⟨a4, a5, a6⟩, a7, a8, a9⟩
def zmlc (q : Nat × Nat × Nat × Nat × Nat) : Bool := match q.2.2.1 with
  | 0 => zgw q.2.2.2.2 (.methodLink (zRn q.1) q.2.1 (zy q.2.2.2.1)) && zgw (zpl q.2.2.2.1).2.1 (.instanceMethod (zy q.2.2.2.1)) && zgw (zpl q.2.2.2.1).2.2.1 (.selects (zRn (zo q.2.2.2.1)) (zy q.2.2.2.1) (zy q.2.2.2.1)) && decide (q.2.2.2.1 < 132) && decide (zp q.2.2.2.1 + 1 ≤ zn q.2.2.2.1)
  | 1 => zgw q.2.2.2.2 (.methodLink (zRn q.1) q.2.1 (zy q.2.2.2.1)) && zgw (zpl q.2.2.2.1).2.1 (.static (zy q.2.2.2.1)) && decide (q.1 = zo q.2.2.2.1) && decide (q.2.2.2.1 < 132) && decide (zp q.2.2.2.1 ≤ zn q.2.2.2.1)
  | 2 => zgw q.2.2.2.2 (.methodLink (zRn q.1) q.2.1 (zy q.2.2.2.1)) && zgw (zpl q.2.2.2.1).2.1 (.instanceMethod (zy q.2.2.2.1)) && decide ((zy q.2.2.2.1).name = "<init>") && decide (zr q.2.2.2.1 = none) && decide (q.2.2.2.1 < 132) && decide (zp q.2.2.2.1 + 1 ≤ zn q.2.2.2.1)
  | 3 => zgw (zpl q.2.2.2.1).2.1 (.static (zy q.2.2.2.1)) && decide (q.2.2.2.1 < 132) && decide (zp q.2.2.2.1 ≤ zn q.2.2.2.1)
  | 4 => zgw (zpl q.2.2.2.1).2.1 (.instanceMethod (zy q.2.2.2.1)) && decide ((zy q.2.2.2.1).name = "<init>") && decide (zr q.2.2.2.1 = none) && decide (q.2.2.2.1 < 132) && decide (zp q.2.2.2.1 + 1 ≤ zn q.2.2.2.1)
  | 5 => zgw q.2.2.2.2 (.methodLink (zRn q.1) q.2.1 objectInit)
  | 6 => zgw q.2.2.2.2 (.methodLink (zRn q.1) q.2.1 Lib.Math.max.name)
  | _ => zgw q.2.2.2.2 (.methodLink (zRn q.1) q.2.1 Lib.Math.min.name)
set_option maxRecDepth 100000 in
theorem zmlc_0 : zmlT.all zmlc = true := by decide +kernel
theorem zml_in {a n k j : Nat} (h : zml a n = some (k, j)) : ∃ i, (a, n, k, j, i) ∈ zmlT ∧ zmlc (a, n, k, j, i) = true := by
  unfold zml at h
  obtain ⟨q, hq, he⟩ := Option.map_eq_some_iff.mp h
  have h1 := List.find?_some hq
  simp only [Bool.and_eq_true, beq_iff_eq] at h1
  have hm := List.mem_of_find?_eq_some hq
  obtain ⟨q1, q2, q3, q4, q5⟩ := q
  simp only [Prod.mk.injEq] at he h1
  obtain ⟨rfl, rfl⟩ := h1
  obtain ⟨rfl, rfl⟩ := he
  exact ⟨q5, hm, List.all_eq_true.mp zmlc_0 _ hm⟩
theorem zW_sub {ws : List Cond} (h : ∀ w ∈ ws, w ∈ zW) : GoodIn zW ws := fun w hw => ⟨h w hw, good_of_word (zW_good (h w hw)).2⟩
abbrev zwsj (j : Nat) : List Cond := .code (zy j) (zc j) (zn j) (zr j) :: zW
theorem zwsj_in {j : Nat} (h : j < 132) : ∀ w ∈ zwsj j, w ∈ zW := by
  intro w hw
  rcases List.mem_cons.mp hw with rfl | hw
  · exact (zmt_in h).1
  · exact hw
def zrm (d mc ms : Nat) : Room := { frames := d, cells := mc, slots := ms, locals := 43 * d }
/-- a method's entry -/
theorem zsl_eq {f : Int → Nat} : ∀ (as : List zV), zsm as = true → lg_sl (as.map (zcv f)) = as.map (fun v => Slot.val (zcv f v))
  | [], _ => rfl
  | v :: t, h => by
    simp only [zsm, List.all_cons, Bool.and_eq_true] at h
    have ih := zsl_eq (f := f) t h.2
    have hc : ¬ (zcv f v).category = 2 := by
      rw [zcat]
      rintro ⟨x, rfl⟩
      simp at h
    show (lg_sl (zcv f v :: t.map (zcv f))) = _
    unfold lg_sl at ih ⊢
    rw [List.flatMap_cons, if_neg hc, ih]
    rfl
theorem zargs_mem {f : Int → Nat} : ∀ (as : List zV) (k : Nat), zsm as = true → ∀ (j : Nat) (v : zV), as[j]? = some v → (k + j, zcv f v) ∈ lv_args k (as.map (zcv f))
  | [], _, _, j, v, hj => by simp at hj
  | w :: t, k, h, j, v, hj => by
    simp only [zsm, List.all_cons, Bool.and_eq_true] at h
    have hc : ¬ (zcv f w).category = 2 := by
      rw [zcat]
      rintro ⟨x, rfl⟩
      simp at h
    rw [List.map_cons, lv_args, if_neg hc]
    cases j with
    | zero =>
      simp at hj
      subst hj
      exact List.mem_cons_self
    | succ j =>
      have ih := zargs_mem (f := f) t (k + 1) h.2 j v (by simpa using hj)
      rw [show k + (j + 1) = k + 1 + j by omega]
      exact List.mem_cons_of_mem _ ih
theorem zent_LR {f : Int → Nat} {j : Nat} {as : List zV} (hs : zsm as = true) (hl : as.length ≤ zn j) (hk : ∀ v ∈ as, zok v) : zLR f (zn j) (zent j as) ((lg_sl (as.map (zcv f)) ++ List.replicate (zn j - (lg_sl (as.map (zcv f))).length) Slot.unset).toArray) := by
  have hlen : (lg_sl (as.map (zcv f))).length = as.length := by rw [zsl_eq as hs, List.length_map]
  have h1 := lv_entry (as.map (zcv f)) (n := zn j) (by rw [hlen]; exact hl)
  have key : ∀ (i : Nat) (v : zV), (zent j as)[i]? = some (some v) → as[i]? = some v := by
    intro i v hi
    unfold zent at hi
    by_cases hil : i < as.length
    · rw [List.getElem?_append_left (by rw [List.length_map]; exact hil), List.getElem?_map] at hi
      obtain ⟨w, hw, e⟩ := Option.map_eq_some_iff.mp hi
      cases e
      exact hw
    · rw [List.getElem?_append_right (by rw [List.length_map]; omega)] at hi
      have := List.mem_of_getElem? hi
      rw [List.mem_replicate] at this
      cases this.2
  refine ⟨⟨h1.1, h1.2.1, fun q hq => ?_⟩, ?_, fun v hv => ?_⟩
  · obtain ⟨i, v, e1, e2, e3⟩ := (zas_mem _ 0 q).mp hq
    have := zargs_mem (f := f) as 0 hs i v (key i v e2)
    rw [← e1, ← e3] at this
    exact h1.2.2 q this
  · simp [zent]; omega
  · obtain ⟨i, hi⟩ := List.getElem?_of_mem hv
    exact hk v (List.mem_of_getElem? (key i v hi))
theorem zrest {f : Int → Nat} : ∀ (r : List zV), ((r.map (zcv f)).map fun v => v.category).sum ≤ 2 * r.length
  | [] => by simp
  | v :: t => by
    have ih := zrest (f := f) t
    have hc := lv_cat (zcv f v)
    simp only [List.map_cons, List.sum_cons, List.length_cons]
    omega
section ZCALL
variable {p : Program} {l : Launch} {e : Env} {R : Room} {s : State} {m : MethodId} {args : Array Value} {below : List Frame} {meth : Method} {c : Code} {H : Heap} {locs : List Loc} {cells slots : Nat} {Q : State → Prop}
variable {dC : Nat → ClassId} {dI : Nat → Nat → Nat} {cA : Nat → ClassId} {base b t0 L : Nat} {xs : Nat → Int32}
/-- what a method of ours ends with -/
def zQ (dC : Nat → ClassId) (dI : Nat → Nat → Nat) (cA : Nat → ClassId) (base b t0 L : Nat) (xs : Nat → Int32) (r : Option zV) (M' : zM) : Array Value → State → Outcome → State → Prop := fun _ st o t => o = .returned (r.map (zcv (zad base b t0))) ∧ zWd dC dI cA base b t0 L xs M' t.heap ∧ (∀ v ∈ r.toList, zok v) ∧ va_F (zA base) st t
def zP (dC : Nat → ClassId) (dI : Nat → Nat → Nat) (cA : Nat → ClassId) (base b t0 L : Nat) (xs : Nat → Int32) (as : List zV) (M : zM) : Array Value → State → Prop := va_Pc (as.map (zcv (zad base b t0))) (fun U => zEv dC dI cA base b t0 L xs U U.heap ∧ zWd dC dI cA base b t0 L xs M U.heap ∧ base ≤ U.heap.size)
abbrev zMet (l : Launch) (dC : Nat → ClassId) (dI : Nat → Nat → Nat) (cA : Nat → ClassId) (base b t0 L : Nat) (xs : Nat → Int32) (d j : Nat) (as : List zV) (M : zM) (r : Option zV) (M' : zM) : Prop := Met l (zy j) (zwsj j) (zrm d (M'.1 - M.1) (M'.2.1 - M.2.1)) (zP dC dI cA base b t0 L xs as M) (zQ dC dI cA base b t0 L xs r M') (M'.1 - M.1) (M'.2.1 - M.2.1) (zA base)
theorem zP_blind {as : List zV} {M : zM} : FrameBlind (zP dC dI cA base b t0 L xs as M) := by
  intro a U g mk h
  obtain ⟨h1, h2, h3, h4⟩ := h
  exact ⟨h1, zEv.same (u := U) (U := U.calling g mk a) rfl h2, h3, h4⟩
theorem zP_now {as : List zV} {M : zM} (hE : zEv dC dI cA base b t0 L xs s s.heap) (hbs : base ≤ s.heap.size) (hW : zWd dC dI cA base b t0 L xs M H) (hV : va_S (zA base) s.heap H locs) : ∀ U : State, U.heap = H → s.WarmedH U.vm → zP dC dI cA base b t0 L xs as M (as.map (zcv (zad base b t0))).toArray U := by
  intro U hU hw
  refine ⟨rfl, ?_, ?_, ?_⟩
  · rw [hU]; exact zEv.go hw hbs hV hE
  · rw [hU]; exact hW
  · rw [hU]; exact Nat.le_trans hbs hV.1
theorem z_call {pc : Nat} {ls : Array Slot} {rest st0 : List Value} {a : Array Value} {mc ms : Nat} {r : Option zV} {M' : zM} (hr : va_Run p l e R s m args below meth c H locs cells slots mc ms (F0 m pc ls st0) rest (zQ dC dI cA base b t0 L xs r M' a) (zA base)) (hS : va_S (zA base) s.heap H locs)
    (kk : ∀ (H1 : Heap) (locs1 : List Loc), zWd dC dI cA base b t0 L xs M' H1 → (∀ v ∈ r.toList, zok v) → va_S (zA base) s.heap H1 locs1 → W p l e R s m args below meth c H1 locs1 (cells + mc) (slots + ms) Q (F0 m (pc + 3) ls ((r.map (zcv (zad base b t0))).toList ++ rest))) : W p l e R s m args below meth c H locs cells slots Q (F0 m pc ls st0) := by
  intro T hT X
  obtain ⟨v, st₀, t, T', Lc, h0, X', hL, e1, e2, ⟨hv, hw, hok, hz, hk⟩, st⟩ := hr T hT X
  cases hv
  rw [h0] at hz hk
  obtain ⟨t2, a1, b1⟩ := kk T'.heap (locs ++ Lc) (by rw [e1]; exact hw) hok ⟨Nat.le_trans hS.1 (by rw [e1]; exact hz), fun q h1 h2 => by rw [e1, hk q (Nat.lt_of_lt_of_le h1 hS.1) h2]; exact hS.2.1 q h1 h2, fun q hq => by
      rcases List.mem_append.mp hq with h | h
      · exact hS.2.2 q h
      · exact hL q h⟩ T' rfl X'
  exact ⟨t2, st t2 a1, b1⟩
set_option maxHeartbeats 1000000 in
/-- a call's run -/
theorem z_run {j pc d' : Nat} {i : Instr} {len : Nat} {st : List zV} {M M1 : zM} {x : Nat × List zV × List zV} {v : Option zV} {A : Array Slot} {ls : zL} (hx : p.tables.exec = Jvm.exec) (hb : c.code = zc j) (hml : c.maxLocals = zn j) (hown : s.vm.findClass (zRn (zo j)) = some m.cls) (hts : ∀ w ∈ zW, w.before args s = true) (hE : zEv dC dI cA base b t0 L xs s s.heap) (hbs : base ≤ s.heap.size)
    (hW : zWd dC dI cA base b t0 L xs M H) (hV : va_S (zA base) s.heap H locs) (hL : zLR (zad base b t0) (zn j) ls A) (hd : decode (zc j) pc = .ok (i, len)) (hl : zlk i len = true) (h : zca j i st M = some x)
    (hM : x.1 < 132 → zMet l dC dI cA base b t0 L xs d' x.1 x.2.1 M v M1) (hfr : d' + 1 ≤ R.frames) (hlo : 43 * (d' + 1) ≤ R.locals) (hc1 : cells + (M1.1 - M.1) ≤ R.cells) (hc2 : slots + (M1.2.1 - M.2.1) ≤ R.slots)
    (kk : ∀ (H1 : Heap) (locs1 : List Loc), zWd dC dI cA base b t0 L xs M1 H1 → (∀ w ∈ v.toList, zok w) → va_S (zA base) s.heap H1 locs1 → W p l e R s m args below meth c H1 locs1 (cells + (M1.1 - M.1)) (slots + (M1.2.1 - M.2.1)) Q (F0 m (pc + 3) A ((v.map (zcv (zad base b t0))).toList ++ x.2.2.map (zcv (zad base b t0))))) : W p l e R s m args below meth c H locs cells slots Q (F0 m pc A (st.map (zcv (zad base b t0)))) := by
  have hfix : CallFix p m c (zc j) (zn j) s args zW (zRn (zo j)) := ⟨hx, hb, hml, hown, hts⟩
  unfold zca at h
  split at h
  · next n =>
    have hn := zlen_of hl (by intros; simp); simp only [zlen] at hn; subst hn
    split at h
    · next q hz =>
      split at h
      · next pp r hst =>
        split at h
        · next hk =>
          cases h
          obtain ⟨hk1, hk2, hk3, hk4⟩ := hk
          obtain ⟨iw, hi1, hi2⟩ := zml_in hz
          simp only [zmlc, Bool.and_eq_true, decide_eq_true_eq] at hi2
          obtain ⟨⟨⟨⟨w1, w2⟩, w3⟩, w4⟩, w5⟩ := hi2
          obtain ⟨m1, m2, m3, m4, m5, m6, m7⟩ := zmt_in w4
          have hr := hW.lt (q := pp) (by rw [hk1]; exact m7) (by intro ln; rw [hk1]; simp)
          have hat := zws_at (f := zad base b t0) (base := base) (cA := cA) hr.1 hr.2
          rw [zce_obj hk1, ← zad_of (b := b) (t0 := t0) hr.1] at hat
          have hstk : st.map (zcv (zad base b t0)) = (((st.take (zp q)).reverse).map (zcv (zad base b t0))).reverse ++ .ref (zad base b t0 pp) :: r.map (zcv (zad base b t0)) := by
            rw [← List.map_reverse, List.reverse_reverse]
            conv => lhs; rw [← List.take_append_drop (zp q) st, hst, List.map_append]
            rfl
          refine z_call (va_runV (b := zad base b t0 pp) (As := ((st.take (zp q)).reverse).map (zcv (zad base b t0))) (rest := r.map (zcv (zad base b t0))) (n := zp q) (C := zRn (zo q)) hfix (hM w4) (cwV (zp q) hts (zW_sub ?_) rfl rfl rfl ⟨m3, m4⟩ ⟨hfr, ?_⟩) ⟨zP_blind, va_recv hE.1 hW.1 (zCl_at m7) hat, fun U hU hw => zP_now (as := .inr (.inl (some pp)) :: (st.take (zp q)).reverse) hE hbs hW hV U hU hw⟩ rfl ?_ hL.1.1 hstk (lv_room ?_) hd ⟨hc1, hc2⟩) hV kk
          · intro w hw
            simp only [wsV, List.cons_append, List.nil_append, List.mem_cons] at hw
            rcases hw with rfl | rfl | rfl | rfl | hw
            · exact zgw_in w1
            · exact zgw_in w2
            · exact zgw_in w3
            · exact m2
            · exact zwsj_in w4 w (List.mem_cons.mpr hw)
          · show 8 + (zn q + 11) + 43 * d' ≤ R.locals; omega
          · rw [List.length_map, List.length_reverse, List.length_take]; omega
          · have := zrest (f := zad base b t0) r; omega
        · cases h
      · cases h
    · cases h
  · next n =>
    have hn := zlen_of hl (by intros; simp); simp only [zlen] at hn; subst hn
    split at h
    · next k q hz =>
      split at h
      · next hk =>
        cases h
        obtain ⟨hk1, hk2, hk3, hk4⟩ := hk
        obtain ⟨iw, hi1, hi2⟩ := zml_in hz
        have hstk : st.map (zcv (zad base b t0)) = (((st.take (zp q)).reverse).map (zcv (zad base b t0))).reverse ++ (st.drop (zp q)).map (zcv (zad base b t0)) := by
          rw [← List.map_reverse, List.reverse_reverse, ← List.map_append, List.take_append_drop]
        have hsum : (((st.drop (zp q)).map (zcv (zad base b t0))).map fun v => v.category).sum ≤ 8 := by
          have := zrest (f := zad base b t0) (st.drop (zp q)); omega
        have hln : (((st.take (zp q)).reverse).map (zcv (zad base b t0))).length = zp q := by
          rw [List.length_map, List.length_reverse, List.length_take]; omega
        rcases hk1 with rfl | rfl
        · simp only [zmlc, Bool.and_eq_true, decide_eq_true_eq] at hi2
          obtain ⟨⟨⟨⟨w1, w2⟩, w3⟩, w4⟩, w5⟩ := hi2
          obtain ⟨m1, m2, m3, m4, m5, m6, m7⟩ := zmt_in w4
          refine z_call (va_runS (As := ((st.take (zp q)).reverse).map (zcv (zad base b t0))) (rest := (st.drop (zp q)).map (zcv (zad base b t0))) (n := zp q) hfix (hM w4) (cwS (zp q) hts (zW_sub ?_) rfl rfl rfl ⟨by rw [m3, w3], m4⟩ ⟨hfr, ?_⟩) ⟨zP_blind, fun U hU hw => zP_now (as := (st.take (zp q)).reverse) hE hbs hW hV U hU hw⟩ rfl hln hL.1.1 hstk (lv_room hsum) hd ⟨hc1, hc2⟩) hV kk
          · intro w hw
            simp only [wsS, List.cons_append, List.nil_append, List.mem_cons] at hw
            rcases hw with rfl | rfl | rfl | hw
            · exact zgw_in w1
            · exact zgw_in w2
            · rw [w3]; exact m2
            · exact zwsj_in w4 w (List.mem_cons.mpr hw)
          · show 8 + (zn q + 11) + 43 * d' ≤ R.locals; omega
        · simp only [zmlc, Bool.and_eq_true, decide_eq_true_eq] at hi2
          obtain ⟨⟨w2, w4⟩, w5⟩ := hi2
          obtain ⟨m1, m2, m3, m4, m5, m6, m7⟩ := zmt_in w4
          have hl0 : va_Nw (.methodLinkNest (zRn (zo j)) n (zy q) "WalkHouses") s := hE.2.1 (zo j, n, 3, q, iw) hi1 (Or.inl rfl)
          exact z_call (va_runSN (host := "WalkHouses") (As := ((st.take (zp q)).reverse).map (zcv (zad base b t0))) (rest := (st.drop (zp q)).map (zcv (zad base b t0))) (n := zp q) hfix (hM w4) ⟨va_cnB (ws' := zW) (zp q) hts (zW_sub (zwsj_in w4)) rfl rfl rfl hl0 (by rw [m3]; exact hts _ m2) m4 ⟨hfr, (by show 8 + (zn q + 11) + 43 * d' ≤ R.locals; omega)⟩, hts _ (zgw_in w2), trivial⟩ ⟨zP_blind, fun U hU hw => zP_now (as := (st.take (zp q)).reverse) hE hbs hW hV U hU hw⟩ rfl hln hL.1.1 hstk (lv_room hsum) hd ⟨hc1, hc2⟩) hV kk
      · cases h
    · cases h
  · next n =>
    have hn := zlen_of hl (by intros; simp); simp only [zlen] at hn; subst hn
    split at h
    · next k q hz =>
      split at h
      · next hk1 =>
        split at h
        · next pp r hst =>
          split at h
          · next hk =>
            cases h
            obtain ⟨hk2, hk3, hk4⟩ := hk
            obtain ⟨iw, hi1, hi2⟩ := zml_in hz
            have hstk : st.map (zcv (zad base b t0)) = (((st.take (zp q)).reverse).map (zcv (zad base b t0))).reverse ++ .ref (zad base b t0 pp) :: r.map (zcv (zad base b t0)) := by
              rw [← List.map_reverse, List.reverse_reverse]
              conv => lhs; rw [← List.take_append_drop (zp q) st, hst, List.map_append]
              rfl
            have hsum : ((r.map (zcv (zad base b t0))).map fun v => v.category).sum ≤ 8 := by
              have := zrest (f := zad base b t0) r; omega
            have hln : (((st.take (zp q)).reverse).map (zcv (zad base b t0))).length = zp q := by
              rw [List.length_map, List.length_reverse, List.length_take]; omega
            rcases hk1 with rfl | rfl
            · simp only [zmlc, Bool.and_eq_true, decide_eq_true_eq] at hi2
              obtain ⟨⟨⟨⟨⟨w1, w2⟩, w3⟩, w6⟩, w4⟩, w5⟩ := hi2
              obtain ⟨m1, m2, m3, m4, m5, m6, m7⟩ := zmt_in w4
              exact z_call (va_runI (b := zad base b t0 pp) (As := ((st.take (zp q)).reverse).map (zcv (zad base b t0))) (rest := r.map (zcv (zad base b t0))) (n := zp q) hfix (hM w4) (cwI (ws' := zW) (zp q) hts (zW_sub (zwsj_in w4)) (by rw [← w6]) rfl rfl (by rw [m3]; exact hts _ m2) (hts _ (zgw_in w1)) (hts _ (zgw_in w2)) w3 m4 ⟨hfr, (by show 8 + (zn q + 11) + 43 * d' ≤ R.locals; omega)⟩) ⟨zP_blind, fun U hU hw => zP_now (as := .inr (.inl (some pp)) :: (st.take (zp q)).reverse) hE hbs hW hV U hU hw⟩ rfl hln hL.1.1 hstk (lv_room hsum) hd ⟨hc1, hc2⟩) hV kk
            · simp only [zmlc, Bool.and_eq_true, decide_eq_true_eq] at hi2
              obtain ⟨⟨⟨⟨w2, w3⟩, w6⟩, w4⟩, w5⟩ := hi2
              obtain ⟨m1, m2, m3, m4, m5, m6, m7⟩ := zmt_in w4
              have hl0 : va_Nw (.methodLinkNest (zRn (zo j)) n (zy q) "WalkHouses") s := hE.2.1 (zo j, n, 4, q, iw) hi1 (Or.inr rfl)
              exact z_call (va_runIN (host := "WalkHouses") (b := zad base b t0 pp) (As := ((st.take (zp q)).reverse).map (zcv (zad base b t0))) (rest := r.map (zcv (zad base b t0))) (n := zp q) hfix (hM w4) ⟨va_cnB (ws' := zW) (zp q) hts (zW_sub (zwsj_in w4)) (by rw [← w6]) rfl rfl hl0 (by rw [m3]; exact hts _ m2) m4 ⟨hfr, (by show 8 + (zn q + 11) + 43 * d' ≤ R.locals; omega)⟩, w3, hts _ (zgw_in w2)⟩ ⟨zP_blind, fun U hU hw => zP_now (as := .inr (.inl (some pp)) :: (st.take (zp q)).reverse) hE hbs hW hV U hU hw⟩ rfl hln hL.1.1 hstk (lv_room hsum) hd ⟨hc1, hc2⟩) hV kk
          · cases h
        · cases h
      · cases h
    · cases h
  · cases h
end ZCALL
