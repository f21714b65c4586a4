/-! THE CLAIM OUT OF ONE WALK OF THE LAW'S BODY. Your part is whole_start (and what it stands on); all else here is the same for every law, but numbers. -/
def R_law : String := "WalkHousesLaw"
def lw_P (b : Addr) (xs : List Int32) (args : Array Value) (s : State) : Prop := args = #[.ref b] ∧ s.IntsAt b xs ∧ xs.length ≤ 2560 ∧ (Jvm.Cond.and given_1 narrow_1).before args s = true
def lw_Q (_ : Array Value) (s : State) (o : Outcome) (t : State) : Prop := o = .returned (some (.int 1)) ∧ Framed s o t [] 600000 7302250
def lw_Z (below : List Frame) (a : Array Value) (s : State) : State → Prop := fun t => ∃ o, t.status = .running ∧ Ended t below o ∧ lw_Q a s o t
/-- the law's own end, with 1 on the stack, nothing written that was there before, its room as the claim has it -/
theorem lw_ret {p : Program} {l : Launch} {e : Env} {s : State} {m : MethodId} {below : List Frame} {meth : Method} {c : Code} {b : Nat} (hx : p.tables.exec = Jvm.exec) (hb : c.code = code) (hr : meth.sig.returnType = ret) (hlocks : meth.locks = false) {pc : Nat} {H : Heap} {ls : Array Slot} (hdg : decode code pc = .ok (.ireturn, 1)) : W p l e room_1 s m #[Value.ref b] below meth c H [] 600000 7302250 (lw_Z below #[Value.ref b] s) (F0 m pc ls [.int 1]) := by
  intro T hT X
  obtain ⟨fs, hret, hrun, hended, hW, hframe⟩ := X.leave (v := some (.int 1)) (hlocks := hlocks) (fun h => by rw [hr] at h; cases h)
  have hmeth' : T.vm.method? m = some meth := X.method'
  refine ⟨T.setFrames fs, ?_, .returned (some (.int 1)), hrun, hended, rfl, ⟨_, rfl⟩, hW, hframe⟩
  jvm_step X.here [X.here.top, hx, hb, hdg, hmeth', hr, ret, narrow_b1]
  (try refine ⟨rfl, ?_⟩); (try refine ⟨rfl, ?_⟩)
  first | (intro acts; rw [hret _ acts rfl rfl rfl]) | rw [hret _ _ rfl rfl rfl]
  exact Steps.refl _
/-- what holds at the law's entry: the machine, the code, the tables' words (any of lw_tbl by 'hts w (by decide +kernel)'), the script of L ints xs at the cell b, what the Statement gives of the start (any of its parts by flat_of_before) -/
def lw_At (p : Program) (s : State) (m : MethodId) (meth : Method) (c : Code) (b L : Nat) (xs : Nat → Int32) : Prop :=
  p.tables.exec = Jvm.exec ∧ c.code = code ∧ meth.sig.returnType = ret ∧ c.maxLocals = 4 ∧ s.vm.findClass R_law = some m.cls ∧ (∀ w ∈ lw_tbl, w.before #[Value.ref b] s = true) ∧ va_X b L xs s s.heap ∧ b < s.heap.size ∧ meth.locks = false ∧ (Jvm.Cond.and given_1 narrow_1).before #[Value.ref b] s = true
theorem zK_of {s : State} {args : Array Value} (hts : ∀ w ∈ lw_tbl, w.before args s = true) : ∃ (dC : Nat → ClassId) (dI : Nat → Nat → Nat) (cA : Nat → ClassId), va_K (dC, dI) zCl [(cA 0, .int), (cA 1, .boolean), (cA 2, .object RX1), (cA 3, .object RX0)] s := by
  have h1 : ∀ ci : Nat, ∃ (cc : ClassId) (iS : Nat → Nat), ci < 8 → u_Kn s (zRn ci) (zT ci) (zN ci) cc iS := by
    intro ci
    by_cases h : ci < 8
    · have hi : Cond.instantiable (zRn ci) (zN ci) ∈ lw_tbl := by
        have h0 : (List.range 8).all (fun ci => decide (Cond.instantiable (zRn ci) (zN ci) ∈ lw_tbl)) = true := by decide +kernel
        exact of_decide_eq_true (List.all_eq_true.mp h0 ci (List.mem_range.mpr h))
      obtain ⟨c0, iS, hk⟩ := u_known (C := zRn ci) (T := zT ci) (N := zN ci) (n := zN ci) hts (fun w hw => (zW_good (zin h w hw)).1) (hts _ hi)
      exact ⟨c0, iS, fun _ => hk⟩
    · exact ⟨0, fun _ => 0, fun g => absurd g h⟩
  obtain ⟨dC, h2⟩ := Classical.skolem.mp h1
  obtain ⟨dI, h3⟩ := Classical.skolem.mp h2
  obtain ⟨c0, k0, p0, a1, a2, a3⟩ := Cond.arrayClass_spec (hts _ (List.mem_of_getElem? zac_i))
  obtain ⟨c1, k1, p1, b1, b2, b3⟩ := Cond.arrayClass_spec (hts _ (List.mem_of_getElem? zac_z))
  obtain ⟨p2, c2, k2, d1, d2, d3, d4, d5⟩ := Cond.arrayOver_spec (hts (Cond.arrayOver (.object RX1)) (List.mem_of_getElem? (i := 65) rfl))
  obtain ⟨p3, c3, k3, f1, f2, f3, f4, f5⟩ := Cond.arrayOver_spec (hts (Cond.arrayOver (.object RX0)) (List.mem_of_getElem? (i := 134) rfl))
  refine ⟨dC, dI, fun k => if k = 0 then c0 else if k = 1 then c1 else if k = 2 then c2 else c3, ⟨fun k q hk => ?_, fun k q hk => ?_⟩⟩
  · by_cases h : k < 8
    · rw [zCl_at h] at hk
      cases hk
      exact h3 k h
    · rw [List.getElem?_eq_none_iff.mpr (by show 8 ≤ k; omega)] at hk
      cases hk
  · match k, hk with
    | 0, hk => cases hk; exact ⟨fun n z => ⟨fun k h => (by cases h), k0, a2, p0, a3⟩, a1⟩
    | 1, hk => cases hk; exact ⟨fun n z => ⟨fun k h => (by cases h), k1, b2, p1, b3⟩, b1⟩
    | 2, hk => cases hk; exact ⟨fun n z => ⟨fun k h => (by cases h), k2, d3, p2, d4⟩, k2, p2, d3, d4, d1, d5⟩
    | 3, hk => cases hk; exact ⟨fun n z => ⟨fun k h => (by cases h), k3, f3, p3, f4⟩, k3, p3, f3, f4, f1, f5⟩
    | k + 4, hk => simp at hk
theorem zds_of {s : State} {args : Array Value} (hts : ∀ w ∈ lw_tbl, w.before args s = true) (h : (Jvm.Cond.and given_1 narrow_1).before args s = true) {A : Nat → Prop} (hA : ∀ a : Nat, a < s.heap.size → ¬ A a) : ∃ t0 : Nat, va_Z "WalkHouses" "DORM_SETS" "[I" (.ref t0) A s s.heap ∧ va_T .int t0 7 (fun k : Nat => .int (Int32.ofInt (zdv (k : Int)))) A s s.heap := by
  have hs := flat_of_before _ h
  have e0 := va_eqt (hs (Cond.eq (.elem (.static "WalkHouses" "DORM_SETS" "[I") (.int 0)) (.int 1)) (by decide +kernel))
  have e1 := va_eqt (hs (Cond.eq (.elem (.static "WalkHouses" "DORM_SETS" "[I") (.int 1)) (.int 2)) (by decide +kernel))
  have e2 := va_eqt (hs (Cond.eq (.elem (.static "WalkHouses" "DORM_SETS" "[I") (.int 2)) (.int 4)) (by decide +kernel))
  have e3 := va_eqt (hs (Cond.eq (.elem (.static "WalkHouses" "DORM_SETS" "[I") (.int 3)) (.int 3)) (by decide +kernel))
  have e4 := va_eqt (hs (Cond.eq (.elem (.static "WalkHouses" "DORM_SETS" "[I") (.int 4)) (.int 5)) (by decide +kernel))
  have e5 := va_eqt (hs (Cond.eq (.elem (.static "WalkHouses" "DORM_SETS" "[I") (.int 5)) (.int 6)) (by decide +kernel))
  have e6 := va_eqt (hs (Cond.eq (.elem (.static "WalkHouses" "DORM_SETS" "[I") (.int 6)) (.int 7)) (by decide +kernel))
  have el := va_eqt (hs (Cond.eq (.length (.static "WalkHouses" "DORM_SETS" "[I")) (.int 7)) (by decide +kernel))
  obtain ⟨t0, ht, hT⟩ := va_Tof (N := 7) (f := fun k : Nat => .int (Int32.ofInt (zdv (k : Int)))) (A := A) (by decide) (hs (Cond.arrayOf (.static "WalkHouses" "DORM_SETS" "[I") .int) (by decide +kernel)) el (fun j hj => by
    rcases (show j = 0 ∨ j = 1 ∨ j = 2 ∨ j = 3 ∨ j = 4 ∨ j = 5 ∨ j = 6 by omega) with rfl | rfl | rfl | rfl | rfl | rfl | rfl
    · exact e0
    · exact e1
    · exact e2
    · exact e3
    · exact e4
    · exact e5
    · exact e6) hA
  exact ⟨t0, va_Zof (hts (Cond.laysStatic "WalkHouses" "DORM_SETS" "[I") (List.mem_of_getElem? (i := 392) rfl)) (hts (Cond.initialized "WalkHouses") (List.mem_of_getElem? (i := 41) rfl)) ht hA, hT⟩
set_option maxRecDepth 20000 in
theorem zEv_of {s : State} {args : Array Value} {b L : Nat} {xs : Nat → Int32} (hL : L ≤ 65536) (hts : ∀ w ∈ lw_tbl, w.before args s = true) (h : (Jvm.Cond.and given_1 narrow_1).before args s = true) (hX : va_X b L xs s s.heap) (hbl : b < s.heap.size) : ∃ (dC : Nat → ClassId) (dI : Nat → Nat → Nat) (cA : Nat → ClassId) (t0 : Nat), zEv dC dI cA s.heap.size b t0 L xs s s.heap := by
  obtain ⟨dC, dI, cA, hK⟩ := zK_of hts
  obtain ⟨t0, hZ, hT⟩ := zds_of (A := zA s.heap.size) hts h (fun a ha => Nat.not_le.mpr ha)
  have hn : ∀ q ∈ zmlT, (q.2.2.1 = 3 ∨ q.2.2.1 = 4) → Cond.methodLinkNest (zRn q.1) q.2.1 (zy q.2.2.2.1) "WalkHouses" ∈ lw_tbl := by
    have h0 : zmlT.all (fun q => !(q.2.2.1 == 3 || q.2.2.1 == 4) || decide (lw_tbl[q.2.2.2.2]? = some (Cond.methodLinkNest (zRn q.1) q.2.1 (zy q.2.2.2.1) "WalkHouses"))) = true := by decide +kernel
    intro q hq hk
    have h1 := List.all_eq_true.mp h0 q hq
    have h2 : (q.2.2.1 == 3 || q.2.2.1 == 4) = true := by rcases hk with hk | hk <;> simp [hk]
    rw [h2] at h1
    simp only [Bool.not_true, Bool.false_or, decide_eq_true_eq] at h1
    exact List.mem_of_getElem? h1
  exact ⟨dC, dI, cA, t0, hK, fun q hq hk => va_Nw.of rfl (hts _ (hn q hq hk)), va_Nw.of rfl (hts (Cond.fieldLinkNest RX1 26 "WalkHouses" "DORM_SETS" "[I" "WalkHouses") (List.mem_of_getElem? (i := 391) rfl)), va_AO.of (hts (Cond.arrayOver (.object RX1)) (List.mem_of_getElem? (i := 65) rfl)), va_AO.of (hts (Cond.arrayOver (.object RX0)) (List.mem_of_getElem? (i := 134) rfl)), hX, hbl, hL, hZ, hT⟩
set_option maxHeartbeats 1000000 in
/-- THE LAW, from its entry: what the small machine answers -/
theorem whole_start {p : Program} {e : Env} {s : State} {m : MethodId} {below : List Frame} {meth : Method} {c : Code} (l : Launch) {b L : Nat} {xs : Nat → Int32} (hL : L ≤ 2560) (C0 : lw_At p s m meth c b L xs) : W p l e room_1 s m #[Value.ref b] below meth c s.heap [] 0 0 (lw_Z below #[Value.ref b] s) (entryFrame m ([Value.ref b] : List Value).toArray 4) := by
  obtain ⟨hx, hb, hr, hml, hown, hts, hX, hbl, hlocks, hgv⟩ := id C0
  obtain ⟨dC, dI, cA, t0, hE⟩ := zEv_of (by omega) hts hgv hX hbl
  obtain ⟨n, M', hrun, hm1, hm2⟩ := zlaw_runs L hL xs
  have hl := zent_LR (f := zad s.heap.size b t0) (j := zlaw) (as := [.inr (.inl (some (-1)))]) rfl (by decide) (fun v hv => by rw [List.mem_singleton.mp hv]; exact trivial)
  rw [lg_entry_eq]
  refine z_sim l n hrun (base := s.heap.size) (b := b) (t0 := t0) (L := L) (xs := xs) (dC := dC) (dI := dI) (cA := cA) (st := []) ⟨hx, hb, hml, hown, fun w hw => hts w (zW_good hw).1, hE, Nat.le_refl _, fun hn => absurd hn (by decide)⟩ (zM0_W (by omega) rfl) va_S.rf hl (fun v hv => by cases hv) (by decide) (by decide) (by show 0 + M'.1 ≤ 600000 + 0; omega) (by show 0 + M'.2.1 ≤ 7302250 + 0; omega) ?_
  intro H' locs' A' pc' cells' slots' i len hd hlk hz hok hW hV e1 e2
  have e1' : cells' + 0 = 0 + M'.1 := e1
  have e2' : slots' + 0 = 0 + M'.2.1 := e2
  have hi : i = .ireturn ∧ len = 1 := by
    have g : i = .ireturn := by
      cases i <;> first | rfl | (simp [zre] at hz)
    subst g
    exact ⟨rfl, zlen_of hlk (by intros; simp)⟩
  obtain ⟨rfl, rfl⟩ := hi
  refine va_forget (fun q hq => hV.2.2 q hq) ?_
  refine W.widen (k := 600000) (n := 7302250) (by omega) (by omega) ?_
  exact lw_ret hx hb hr hlocks hd
set_option maxHeartbeats 4000000 in
theorem lw_walk (l : Launch) (b : Addr) (xs : List Int32) : MetFree l x (headSpec (Jvm.Cond.code x code maxLocals ret :: tables_1) room_1) (lw_P b xs) (fun _ _ _ _ _ => True) lw_Q := by
  refine MetFree.of_bodyS (code := code) (maxLocals := maxLocals) (ret := ret) (by decide) ?_ ?_
  · intro args s m h hn
    obtain ⟨meth, c, h1, h2, h3, h4, h5, h6, -, -⟩ := Cond.code_spec hn (atoms_spec (ws := Jvm.Cond.code x code maxLocals ret :: tables_1) h _ List.mem_cons_self)
    exact ⟨meth, c, h1, h2, h3, h4, h5, h6⟩
  · intro p e s m args below meth c s₁ B hml0 hP _
    obtain ⟨rfl, hx, hbd, hgv⟩ := hP
    obtain ⟨scr, harrAt, hlist, hof, hsmall⟩ := hx
    obtain ⟨hcb, hkn, -, -⟩ := State.arrayAt?_spec harrAt
    have hown : s.vm.findClass R_law = some m.cls := findClass_of_methodNamed B.named
    have hts0 : ∀ c ∈ (Jvm.Cond.code x code maxLocals ret :: tables_1), c.before #[Value.ref b] s = true := atoms_spec (ws := Jvm.Cond.code x code maxLocals ret :: tables_1) B.pre
    have hts : ∀ w ∈ lw_tbl, w.before #[Value.ref b] s = true := k2_hts_sels lw_privs (fun w hw => hts0 w (List.mem_cons_of_mem _ hw)) lw_privs_ok
    have hml : c.maxLocals = 4 := B.maxLocals_eq (hts0 _ List.mem_cons_self)
    have X₀ : Stand p l e room_1 s m #[Value.ref b] below meth c s₁ [] 0 0 := Stand.of_body B
    have hh0 : s₁.heap = s.heap := by rw [B.state]; rfl
    have hsz : scr.slots.size = xs.length := by rw [← Array.length_toList, hlist, List.length_map]
    have hval : ∀ j : Nat, j < xs.length → scr.slots[j]? = some (.int (xs.getD j 0)) := fun j hj => by
      rw [← Array.getElem?_toList, hlist]
      simp [hj]
    have hbl : b < s.heap.size := (Array.getElem?_eq_some_iff.mp hcb).1
    have hX : va_X b xs.length (fun j => xs.getD j 0) s s.heap := ⟨scr, hcb, hof, hkn, hsz, hval⟩
    have K : W p l e room_1 s m #[Value.ref b] below meth c s₁.heap [] 0 0 (lw_Z below #[Value.ref b] s) (entryFrame m ([Value.ref b] : List Value).toArray 4) := by
      rw [hh0]
      exact whole_start l hbd ⟨B.exec, B.bytes, B.returns, hml, hown, hts, hX, hbl, B.notSynchronized, hgv⟩
    obtain ⟨t, a1, o, b1, b2, b3⟩ := K s₁ rfl X₀
    exact ⟨t, o, a1, b1, b2, b3⟩
theorem lw_pre_spec {args : Array Value} {s : State} (h : (Jvm.Cond.and given_1 narrow_1).before args s = true) (hr : rest_1_c.before args s = true) : ∃ (b : Addr) (xs : List Int32), lw_P b xs args s := by
  have hs := flat_of_before _ h
  have hq := flat_of_before _ hr
  have hc : (Cond.count 1).before args s = true := hs _ (by decide +kernel)
  have harr : (Cond.arrayOf (.arg 0) .int).before args s = true := hs _ (by decide +kernel)
  have hle : (Cond.le (.length (.arg 0)) (.int 2560)).before args s = true := hs _ (by decide +kernel)
  have hlen : (Cond.isInt (.length (.arg 0))).before args s = true := hq _ (by decide +kernel)
  have hall : (Cond.all (.arg 0) (.isInt (.elem (.arg 0) (.index 0)))).before args s = true := hq _ (by decide +kernel)
  obtain ⟨b, xs, hb, hx⟩ := State.ints_of_pre rfl harr hlen hall
  have hsm : xs.length < 2 ^ 31 := hx.choose_spec.2.2.2
  have hev : (Term.length (.arg 0)).eval args s none [] s = some (.int xs.length.toInt32) := hx.length_eval hb
  have hv := Cond.le_ints hev (show (Term.int 2560).eval args s none [] s = some (.int 2560) from rfl)
  have hd : xs.length.toInt32 ≤ 2560 := by
    simpa [Cond.before, Cond.holds, hv] using hle
  have hN : xs.length ≤ 2560 := (Int32.ofNat_le_ofNat hsm (by decide)).mp (show Int32.ofNat xs.length ≤ Int32.ofNat 2560 from hd)
  exact ⟨b, xs, Cond.one_arg hc (show args[0]? = some (.ref b) from hb), hx, hN, h⟩
theorem lw_comes (l : Launch) : Comes l x (Jvm.Cond.code x code maxLocals ret :: tables_1) room_1 (fun tb e args s => Calls_1 tb e args s ∧ rest_1 tb e args s ∧ Pre_1 tb e args s)
    (fun _ _ args s o t => lw_Q args s o t) := by
  intro p e ha hc hk s m args below hf hfit hheap happ hpre
  obtain ⟨b, xs, hP⟩ := lw_pre_spec hpre.2.2 hpre.2.1
  obtain ⟨k, o, h1, h2, h3, hQ⟩ := lw_walk l b xs p e ha hc hk s m args below hf ((Spec.applies_iff_loose hf).mp happ).1 hP trivial
  exact ⟨k, o, h1, h2, h3, hQ⟩
theorem lw_frame {s t : State} {o : Outcome} {args : Array Value} (h : Framed s o t [] 600000 7302250) :
    Framed s o t (fieldLocs frame_1_writes args s ++ arrayLocs frame_1_arrays args s ++ staticLocs frame_1_statics s) 600000 7302250 := h
theorem lw_limb (L : Cond) (hL : ∀ (args : Array Value) (s t : State), L.after args s (.returned (some (.int 1))) t = true) :
    ArmFor flags0 classFile x code maxLocals ret World_1 tables_1 room_1 Calls_1 rest_1 Pre_1
      (fun tb e a s o t => postC L tb e a s o t ∧ Framed s o t (fieldLocs frame_1_writes a s ++ arrayLocs frame_1_arrays a s ++ staticLocs frame_1_statics s) 600000 7302250) := by
  intro l _ _ _ p e ha hc hk s m args below hf hfit hheap happ hpre
  obtain ⟨k, o, h1, h2, h3, rfl, hF⟩ := lw_comes l p e ha hc hk s m args below hf hfit hheap happ hpre
  exact ⟨k, _, h1, h2, h3, hL args s _, lw_frame hF⟩
theorem i_vc : Claimed_1_1 ∧ Claimed_1_2 := ⟨lw_limb limb_1_1 (fun args s t => by simp [limb_1_1, Cond.after, Cond.holds, Cond.value]), lw_limb limb_1_2 (fun args s t => Cond.after_iff.mpr (by
  first | (rw [show limb_1_2 = Cond.eq .result (.int 1) from rfl, Cond.eq_ints (x := 1) (y := 1) rfl rfl]; simp; done) | (simp [limb_1_2, Cond.value, Term.eval]; done)))⟩

