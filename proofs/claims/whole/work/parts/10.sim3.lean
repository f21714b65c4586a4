/-! what stays true of the tables and of the old cells; steps over cells -/
def zEv (dC : Nat → ClassId) (dI : Nat → Nat → Nat) (cA : Nat → ClassId) (base b t0 L : Nat) (xs : Nat → Int32) (U : State) (H : Heap) : Prop :=
  va_K (dC, dI) zCl [(cA 0, .int), (cA 1, .boolean), (cA 2, .object RX1), (cA 3, .object RX0)] U ∧
  (∀ q ∈ zmlT, (q.2.2.1 = 3 ∨ q.2.2.1 = 4) → va_Nw (.methodLinkNest (zRn q.1) q.2.1 (zy q.2.2.2.1) "WalkHouses") U) ∧
  va_Nw (.fieldLinkNest RX1 26 "WalkHouses" "DORM_SETS" "[I" "WalkHouses") U ∧ va_AO RX1 U ∧ va_AO RX0 U ∧ va_X b L xs U H ∧ b < base ∧ L ≤ 65536 ∧
  va_Z "WalkHouses" "DORM_SETS" "[I" (.ref t0) (zA base) U H ∧ va_T .int t0 7 (fun k : Nat => .int (Int32.ofInt (zdv (k : Int)))) (zA base) U H
theorem zac_i : lw_tbl[99]? = some (Cond.arrayClass .int) := by decide +kernel
theorem zac_z : lw_tbl[100]? = some (Cond.arrayClass .boolean) := by decide +kernel
section ZEV
variable {dC : Nat → ClassId} {dI : Nat → Nat → Nat} {cA : Nat → ClassId} {base b t0 L : Nat} {xs : Nat → Int32}
theorem zEv.same {u U : State} {H : Heap} (hvm : u.vm = U.vm) (h : zEv dC dI cA base b t0 L xs u H) : zEv dC dI cA base b t0 L xs U H := by
  have ha : u.vm.Alike U.vm := by rw [hvm]; exact Vm.Alike.refl _
  obtain ⟨h1, h2, h3, h4, h5, h6, h7, h8, h9, h10⟩ := h
  exact ⟨h1.moved ha, fun q hq hk => (h2 q hq hk).same rfl hvm, h3.same rfl hvm, h4.moved ha, h5.moved ha, h6.moved ha, h7, h8, h9.moved ha, h10.moved ha⟩
theorem zEv.go {s U : State} {H : Heap} {locs : List Loc} (hW : s.WarmedH U.vm) (hbs : base ≤ s.heap.size) (hS : va_S (zA base) s.heap H locs) (h : zEv dC dI cA base b t0 L xs s s.heap) : zEv dC dI cA base b t0 L xs U H := by
  have ha : s.vm.Alike U.vm := hW.alike
  obtain ⟨h1, h2, h3, h4, h5, h6, h7, h8, h9, h10⟩ := h
  have hk : ∀ a : Nat, a < s.heap.size → ¬ zA base a → H[a]? = s.heap[a]? := fun a h1 h2 => hS.2.1 a h1 h2
  exact ⟨h1.moved ha, fun q hq hz => (h2 q hq hz).warmM hW, h3.warmF hW, h4.moved ha, h5.moved ha, (h6.moved ha).kept (hk b (by omega) (Nat.not_le.mpr h7)), h7, h8, (h9.moved ha).kept hk, (h10.moved ha).kept hk⟩
end ZEV
theorem zdef_ok (ci : Nat) (k : Int) : zok (zdef ci k) := by
  unfold zdef
  split
  · exact ⟨by omega, by omega⟩
  · exact trivial
theorem zdef_v {f : Int → Nat} {ci k : Nat} (h : ci < 8) (hk : k < zN ci) : defaultValue (zty ci k) = zcv f (zdef ci (k : Int)) := by
  unfold zdef
  rw [Int.toNat_natCast]
  rcases zfk h hk with e | ⟨t, e⟩ | ⟨t, e⟩
  · rw [if_pos e, e]; rfl
  · rw [if_neg (by rw [e]; simp), e]; rfl
  · rw [if_neg (by rw [e]; simp), e]; rfl
section SIM3
variable {p : Program} {l : Launch} {e : Env} {R : Room} {s : State} {m : MethodId} {args : Array Value} {below : List Frame} {meth : Method} {c : Code} {H : Heap} {locs : List Loc} {cells slots : Nat} {Q : State → Prop}
variable {dC : Nat → ClassId} {dI : Nat → Nat → Nat} {cA : Nat → ClassId} {base b t0 L : Nat} {xs : Nat → Int32}
set_option maxHeartbeats 2000000 in
theorem z_n3 {j : Nat} {i : Instr} {len pc : Nat} {ls : zL} {st : List zV} {M : zM} {x : zX} {A : Array Slot} (hx : p.tables.exec = Jvm.exec) (hb : c.code = zc j) (hown : s.vm.findClass (zRn (zo j)) = some m.cls) (hts : ∀ w ∈ zW, w.before args s = true) (hE : zEv dC dI cA base b t0 L xs s s.heap) (hbs : base ≤ s.heap.size) (hin : (zy j).name = "<init>" → meth.name = "<init>")
    (hW : zWd dC dI cA base b t0 L xs M H) (hV : va_S (zA base) s.heap H locs) (hS : ∀ v ∈ st, zok v) (hd : decode (zc j) pc = .ok (i, len)) (hl : zlk i len = true) (h : zn3 j i pc ls st M = some x)
    (hc1 : cells + x.2.2.2.1 ≤ R.cells + M.1) (hc2 : slots + x.2.2.2.2.1 ≤ R.slots + M.2.1)
    (kk : ∀ (H' : Heap) (locs' : List Loc) (cells' slots' : Nat), zWd dC dI cA base b t0 L xs x.2.2.2 H' → va_S (zA base) s.heap H' locs' → (∀ v ∈ x.2.2.1, zok v) → x.2.1 = ls → cells' + M.1 = cells + x.2.2.2.1 → slots' + M.2.1 = slots + x.2.2.2.2.1 →
      W p l e R s m args below meth c H' locs' cells' slots' Q (F0 m x.1 A (x.2.2.1.map (zcv (zad base b t0))))) : W p l e R s m args below meth c H locs cells slots Q (F0 m pc A (st.map (zcv (zad base b t0)))) := by
  obtain ⟨hK, hN, hNf, hO1, hO0, hX, hbb, hLL, hZ, hT⟩ := hE
  have hP := hW.1
  have hD : va_D (zA base) (zws (zad base b t0) base cA M) := zws_D
  unfold zn3 at h
  split at h
  · -- getfield
    next n =>
    have hn := zlen_of hl (by intros; simp); simp only [zlen] at hn; subst hn
    split at h
    · next q r ci k hz =>
      obtain ⟨g1, g2, g3⟩ := zfl_in hz
      have hv := List.forall_mem_cons.mp hS
      split at h
      · next hk =>
        have hr := hW.lt (q := q) (by rw [hk]; exact g1) (by intro len; rw [hk]; simp)
        have hat := zws_at (f := zad base b t0) (base := base) (cA := cA) hr.1 hr.2
        rw [zce_obj hk, ← zad_of (b := b) (t0 := t0) hr.1] at hat
        have hfk : ((List.range (zN ci)).map (fun k : Nat => zcv (zad base b t0) ((M.2.2 q).2 (k : Int))))[k]? = some (zcv (zad base b t0) ((M.2.2 q).2 (k : Int))) := by
          rw [List.getElem?_map, List.getElem?_range g2]; rfl
        have row := fun kk => va_get (pc := pc) (ls := A) (locs := locs) (cells := cells) (slots := slots) (Q := Q) (R := R) (l := l) (e := e) (below := below) (meth := meth) (rest := r.map (zcv (zad base b t0))) hx hb hts (zin g1) hown hK hP q.toNat hat (zCl_at g1) k g2 (hts _ g3) (fun y hy => by rw [zdc g1 g2] at hy; exact hy) hfk hd kk
        split at h
        · next v hvv => cases h; refine row ?_; rw [hvv]; exact kk H locs cells slots hW hV (List.forall_mem_cons.mpr ⟨by have := hW.2.2.2.2.2.1 q k; rw [hvv] at this; exact this, hv.2⟩) rfl rfl rfl
        · next v hvv => cases h; refine row ?_; rw [hvv]; exact kk H locs cells slots hW hV (List.forall_mem_cons.mpr ⟨trivial, hv.2⟩) rfl rfl rfl
        · cases h
      · cases h
    · cases h
  · -- putfield
    next n =>
    have hn := zlen_of hl (by intros; simp); simp only [zlen] at hn; subst hn
    split at h
    · next v q r ci k hz =>
      obtain ⟨g1, g2, g3⟩ := zfl_in hz
      have hv := List.forall_mem_cons.mp hS
      have hw := List.forall_mem_cons.mp hv.2
      split at h
      · next hk =>
        cases h
        obtain ⟨hk, hk2, hk3⟩ := hk
        have hr := hW.lt (q := q) (by rw [hk]; exact g1) (by intro len; rw [hk]; simp)
        have hat := zws_at (f := zad base b t0) (base := base) (cA := cA) hr.1 hr.2
        rw [zce_obj hk, ← zad_of (b := b) (t0 := t0) hr.1] at hat
        refine zw_put hx hb hts (zin g1) (zty ci) (zty_p g1) (znm_p g1) hown hK hP hD hV q.toNat hat (zCl_at g1) k g2 (zdc g1 g2) (hts _ g3) (Or.inl hk3) (v := .int (Int32.ofInt v)) (by rw [hk2]; rfl) (by rw [hk2]; rfl) (by rw [List.length_map, List.length_range]; exact g2) hd (fun H1 locs1 z1 hP1 hV1 => ?_)
        refine kk H1 locs1 cells slots (hW.set hr.1 (k := k) (v := .inl v) hv.1 z1 ?_) hV1 hw.2 rfl rfl rfl
        rw [zce_objset hk, ← zad_of (b := b) (t0 := t0) hr.1]
        exact hP1
      · cases h
    · next q2 q r ci k hz =>
      obtain ⟨g1, g2, g3⟩ := zfl_in hz
      have hv := List.forall_mem_cons.mp hS
      have hw := List.forall_mem_cons.mp hv.2
      split at h
      · next hk =>
        cases h
        obtain ⟨hk, hk2, hk3, hk4, hk5⟩ := hk
        have hr := hW.lt (q := q) (by rw [hk]; exact g1) (by intro len; rw [hk]; simp)
        have hat := zws_at (f := zad base b t0) (base := base) (cA := cA) hr.1 hr.2
        rw [zce_obj hk, ← zad_of (b := b) (t0 := t0) hr.1] at hat
        have hty : (∃ t, zty ci k = .array t) ∨ ∃ n, zty ci k = .object n := by
          rcases zfk g1 g2 with h | h
          · exact absurd h hk2
          · exact h
        refine zw_put hx hb hts (zin g1) (zty ci) (zty_p g1) (znm_p g1) hown hK hP hD hV q.toNat hat (zCl_at g1) k g2 (zdc g1 g2) (hts _ g3) (Or.inr ⟨hk3, hin hk5, by rw [hk4]⟩) (v := .ref (zad base b t0 q2)) (by rcases hty with ⟨t, h⟩ | ⟨t, h⟩ <;> rw [h] <;> rfl) (by rcases hty with ⟨t, h⟩ | ⟨t, h⟩ <;> rw [h] <;> rfl) (by rw [List.length_map, List.length_range]; exact g2) hd (fun H1 locs1 z1 hP1 hV1 => ?_)
        refine kk H1 locs1 cells slots (hW.set hr.1 (k := k) (v := .inr (.inl (some q2))) trivial z1 ?_) hV1 hw.2 rfl rfl rfl
        rw [zce_objset hk, ← zad_of (b := b) (t0 := t0) hr.1]
        exact hP1
      · cases h
    · cases h
  · -- iaload
    have hn := zlen_of hl (by intros; simp); simp only [zlen] at hn; subst hn
    split at h
    · next a q r =>
      have hv := List.forall_mem_cons.mp hS
      have hw := List.forall_mem_cons.mp hv.2
      split at h
      · next ln hk =>
        split at h
        · next ha =>
          have hlen := hW.2.2.2.2.2.2 q 0 ln hk
          split at h
          · next v hvv =>
            cases h
            have okv : zok (.inl v) := by have := hW.2.2.2.2.2.1 q a; rw [hvv] at this; exact this
            have kk' := kk H locs cells slots hW hV (List.forall_mem_cons.mpr ⟨okv, hw.2⟩) rfl rfl rfl
            rcases hW.2.2.1 q (by rw [hk]; show (0 : Nat) < 4; decide) with hr | hr | hr
            · have hat := zws_at (f := zad base b t0) (base := base) (cA := cA) hr.1 hr.2
              rw [zce_int hk (by decide), ← zad_of (b := b) (t0 := t0) hr.1] at hat
              refine va_iald hx hb hK hP q.toNat 0 hat rfl (i := Int32.ofInt a) (zvin ha.1 (by omega) (by omega)) hd ?_
              rw [zcl_nat ⟨ha.1, by omega⟩, Int.toNat_of_nonneg ha.1, hvv]
              exact kk'
            · subst hr
              rw [hW.2.2.2.1] at hk hvv
              have hL1 : ln = (L : Int) := by simp [zsc] at hk; exact hk.symm
              have hv1 : v = (xs a.toNat).toInt := by simp [zsc] at hvv; exact hvv.symm
              refine va_sld (b := b) hx hb hX (by omega) (Nat.not_le.mpr hbb) hV (i := Int32.ofInt a) (zvin ha.1 (by omega) hLL) hd ?_
              rw [zcl_nat ⟨ha.1, by omega⟩]
              rw [hv1] at kk'
              simp only [List.map_cons, zcv, Int32.ofInt_toInt] at kk'
              exact kk'
            · subst hr
              rw [hW.2.2.2.2.1] at hk hvv
              have hL1 : ln = 7 := by simp [zds] at hk; exact hk.symm
              have hv1 : v = zdv a := by simp [zds] at hvv; exact hvv.symm
              refine va_ti (t := t0) hx hb hT hV (i := Int32.ofInt a) (zvin ha.1 (by omega) (by omega)) (v := .int (Int32.ofInt v)) ?_ hd ?_
              · show Value.int (Int32.ofInt (zdv ((Int32.ofInt a).toNatClampNeg : Int))) = _
                rw [zcl_nat ⟨ha.1, by omega⟩, Int.toNat_of_nonneg ha.1, hv1]
              · exact kk'
          · cases h
        · cases h
      · cases h
    · cases h
  · -- baload
    have hn := zlen_of hl (by intros; simp); simp only [zlen] at hn; subst hn
    split at h
    · next a q r =>
      have hv := List.forall_mem_cons.mp hS
      have hw := List.forall_mem_cons.mp hv.2
      split at h
      · next ln hk =>
        split at h
        · next ha =>
          have hlen := hW.2.2.2.2.2.2 q 1 ln hk
          split at h
          · next v hvv =>
            cases h
            have okv : zok (.inl v) := by have := hW.2.2.2.2.2.1 q a; rw [hvv] at this; exact this
            have hr := hW.lt (q := q) (by rw [hk]; show (1 : Nat) < 4; decide) (by intro len; rw [hk]; simp)
            have hat := zws_at (f := zad base b t0) (base := base) (cA := cA) hr.1 hr.2
            rw [zce_int hk (by decide), ← zad_of (b := b) (t0 := t0) hr.1] at hat
            refine va_zald hx hb hK hP q.toNat 1 hat rfl (i := Int32.ofInt a) (zvin ha.1 (by omega) (by omega)) hd ?_
            rw [zcl_nat ⟨ha.1, by omega⟩, Int.toNat_of_nonneg ha.1, hvv]
            exact kk H locs cells slots hW hV (List.forall_mem_cons.mpr ⟨okv, hw.2⟩) rfl rfl rfl
          · cases h
        · cases h
      · cases h
    · cases h
  · -- aaload
    have hn := zlen_of hl (by intros; simp); simp only [zlen] at hn; subst hn
    split at h
    · next a q r =>
      have hv := List.forall_mem_cons.mp hS
      have hw := List.forall_mem_cons.mp hv.2
      split at h
      · next t ln hk =>
        split at h
        · next ha =>
          have hlen := hW.2.2.2.2.2.2 q t ln hk
          split at h
          · next v hvv =>
            cases h
            have ht2 : ¬ t < 2 := by omega
            have hr := hW.lt (q := q) (by rw [hk]; show t < 4; omega) (by intro len; rw [hk]; simp; omega)
            have hat := zws_at (f := zad base b t0) (base := base) (cA := cA) hr.1 hr.2
            rw [zce_ref hk ht2, ← zad_of (b := b) (t0 := t0) hr.1] at hat
            have kk' := kk H locs cells slots hW hV (List.forall_mem_cons.mpr ⟨trivial, hw.2⟩) rfl rfl rfl
            rcases ha.1 with rfl | rfl
            · refine va_aldq hx hb hK hP q.toNat 2 hat rfl (i := Int32.ofInt a) (zvin ha.2.1 (by omega) (by omega)) hd ?_
              rw [zcl_nat ⟨ha.2.1, by omega⟩, Int.toNat_of_nonneg ha.2.1, hvv]
              exact kk'
            · refine va_aldq hx hb hK hP q.toNat 3 hat rfl (i := Int32.ofInt a) (zvin ha.2.1 (by omega) (by omega)) hd ?_
              rw [zcl_nat ⟨ha.2.1, by omega⟩, Int.toNat_of_nonneg ha.2.1, hvv]
              exact kk'
          · cases h
        · cases h
      · cases h
    · cases h
  · -- iastore
    have hn := zlen_of hl (by intros; simp); simp only [zlen] at hn; subst hn
    split at h
    · next v a q r =>
      have hv := List.forall_mem_cons.mp hS
      have hw := List.forall_mem_cons.mp hv.2
      have hu := List.forall_mem_cons.mp hw.2
      split at h
      · next ln hk =>
        split at h
        · next ha =>
          cases h
          have hlen := hW.2.2.2.2.2.2 q 0 ln hk
          have hr : 0 ≤ q ∧ q < (M.1 : Int) := by
            rcases hW.2.2.1 q (by rw [hk]; show (0 : Nat) < 4; decide) with hr | hr | hr <;> omega
          have hat := zws_at (f := zad base b t0) (base := base) (cA := cA) hr.1 hr.2
          rw [zce_int hk (by decide), ← zad_of (b := b) (t0 := t0) hr.1] at hat
          refine zw_iast hx hb hK hP hD hV q.toNat 0 hat rfl (i := Int32.ofInt a) (x := Int32.ofInt v) (zvin ha.2.1 (by omega) (by omega)) hd (fun H1 locs1 z1 hP1 hV1 => ?_)
          refine kk H1 locs1 cells slots (hW.set hr.1 (k := a) (v := .inl v) hv.1 z1 ?_) hV1 hu.2 rfl rfl rfl
          rw [zce_intset hk (by decide) ha.2.1 (by omega), ← zad_of (b := b) (t0 := t0) hr.1]
          exact hP1
        · cases h
      · cases h
    · cases h
  · -- bastore
    have hn := zlen_of hl (by intros; simp); simp only [zlen] at hn; subst hn
    split at h
    · next v a q r =>
      have hv := List.forall_mem_cons.mp hS
      have hw := List.forall_mem_cons.mp hv.2
      have hu := List.forall_mem_cons.mp hw.2
      split at h
      · next ln hk =>
        split at h
        · next ha =>
          cases h
          have hlen := hW.2.2.2.2.2.2 q 1 ln hk
          have hr := hW.lt (q := q) (by rw [hk]; show (1 : Nat) < 4; decide) (by intro len; rw [hk]; simp)
          have hat := zws_at (f := zad base b t0) (base := base) (cA := cA) hr.1 hr.2
          rw [zce_int hk (by decide), ← zad_of (b := b) (t0 := t0) hr.1] at hat
          refine zw_zast hx hb hK hP hD hV q.toNat 1 hat rfl (i := Int32.ofInt a) (x := Int32.ofInt v) (by rcases ha.2.2.2 with rfl | rfl <;> rfl) (zvin ha.2.1 (by omega) (by omega)) hd (fun H1 locs1 z1 hP1 hV1 => ?_)
          refine kk H1 locs1 cells slots (hW.set hr.1 (k := a) (v := .inl v) hv.1 z1 ?_) hV1 hu.2 rfl rfl rfl
          rw [zce_intset hk (by decide) ha.2.1 (by omega), ← zad_of (b := b) (t0 := t0) hr.1]
          exact hP1
        · cases h
      · cases h
    · cases h
  · -- aastore
    have hn := zlen_of hl (by intros; simp); simp only [zlen] at hn; subst hn
    split at h
    · next q2 a q r =>
      have hv := List.forall_mem_cons.mp hS
      have hw := List.forall_mem_cons.mp hv.2
      have hu := List.forall_mem_cons.mp hw.2
      split at h
      · next t ln hk =>
        split at h
        · next ha =>
          cases h
          obtain ⟨ht, h0, ha0, ha1, hk2⟩ := ha
          have hlen := hW.2.2.2.2.2.2 q t ln hk
          have ht2 : ¬ t < 2 := by omega
          have hel : zel t < 8 := by rcases ht with rfl | rfl <;> decide
          have hr := hW.lt (q := q) (by rw [hk]; show t < 4; omega) (by intro len; rw [hk]; simp; omega)
          have hr2 := hW.lt (q := q2) (by rw [hk2]; exact hel) (by intro len; rw [hk2]; simp)
          have hat := zws_at (f := zad base b t0) (base := base) (cA := cA) hr.1 hr.2
          rw [zce_ref hk ht2, ← zad_of (b := b) (t0 := t0) hr.1] at hat
          have hat2 := zws_at (f := zad base b t0) (base := base) (cA := cA) hr2.1 hr2.2
          rw [zce_obj hk2, ← zad_of (b := b) (t0 := t0) hr2.1] at hat2
          have fin : ∀ (H1 : Heap) (locs1 : List Loc), H1.size = H.size → va_P (dC, dI) zCl ((zws (zad base b t0) base cA M).set q.toNat (zad base b t0 q, .inl (cA t, ln.toNat, .inr (.inr (.inr (.inr (va_up (fun k : Nat => zq (zad base b t0) ((M.2.2 q).2 (k : Int))) (Int32.ofInt a).toNatClampNeg (some (zad base b t0 q2))))))))) H1 → va_S (zA base) s.heap H1 locs1 → W p l e R s m args below meth c H1 locs1 cells slots Q (F0 m (pc + 1) A (r.map (zcv (zad base b t0)))) := by
            intro H1 locs1 z1 hP1 hV1
            refine kk H1 locs1 cells slots (hW.set hr.1 (k := a) (v := .inr (.inl (some q2))) trivial z1 ?_) hV1 hu.2 rfl rfl rfl
            rw [zce_refset hk ht2 ha0 (by omega), ← zad_of (b := b) (t0 := t0) hr.1]
            exact hP1
          rcases ht with rfl | rfl
          · exact zw_astq hx hb hK hP hD hV q.toNat 2 q2.toNat 1 (r := (zRn 1, zT 1, zN 1)) hat rfl hat2 (zCl_at (by decide)) (i := Int32.ofInt a) (zvin ha0 (by omega) (by omega)) hd fin
          · exact zw_astq hx hb hK hP hD hV q.toNat 3 q2.toNat 0 (r := (zRn 0, zT 0, zN 0)) hat rfl hat2 (zCl_at (by decide)) (i := Int32.ofInt a) (zvin ha0 (by omega) (by omega)) hd fin
        · cases h
      · cases h
    · cases h
  · -- arraylength
    have hn := zlen_of hl (by intros; simp); simp only [zlen] at hn; subst hn
    split at h
    · next q r =>
      have hv := List.forall_mem_cons.mp hS
      split at h
      · next ln hk =>
        cases h
        have hlen := hW.2.2.2.2.2.2 q 0 ln hk
        have kk' := kk H locs cells slots hW hV (List.forall_mem_cons.mpr ⟨⟨by omega, by omega⟩, hv.2⟩) rfl rfl rfl
        have eln : Int32.ofNat ln.toNat = Int32.ofInt ln := by rw [← Int32.ofInt_eq_ofNat]; congr 1; omega
        rcases hW.2.2.1 q (by rw [hk]; show (0 : Nat) < 4; decide) with hr | hr | hr
        · have hat := zws_at (f := zad base b t0) (base := base) (cA := cA) hr.1 hr.2
          rw [zce_int hk (by decide), ← zad_of (b := b) (t0 := t0) hr.1] at hat
          exact va_alen hx hb hK hP q.toNat 0 hat rfl eln hd kk'
        · subst hr
          rw [hW.2.2.2.1] at hk
          have hL1 : ln = (L : Int) := by simp [zsc] at hk; exact hk.symm
          refine va_slen (b := b) hx hb hX (by omega) (Nat.not_le.mpr hbb) hV hd ?_
          rw [hL1] at kk'
          simp only [List.map_cons, zcv, Int32.ofInt_eq_ofNat] at kk'
          exact kk'
        · subst hr
          rw [hW.2.2.2.2.1] at hk
          have hL1 : ln = 7 := by simp [zds] at hk; exact hk.symm
          subst hL1
          exact va_tlen (t := t0) hx hb hT hV rfl hd kk'
      · cases h
    · cases h
  · -- getstatic
    next n =>
    have hn := zlen_of hl (by intros; simp); simp only [zlen] at hn; subst hn
    split at h
    · next hz =>
      cases h
      obtain ⟨hz1, rfl⟩ := hz
      rw [hz1] at hown
      exact va_getsN hx hb hZ hV hown (hNf.use rfl) (fun _ h9 => h9) hd (kk H locs cells slots hW hV (List.forall_mem_cons.mpr ⟨trivial, hS⟩) rfl rfl rfl)
    · cases h
  · -- new
    next n =>
    have hn := zlen_of hl (by intros; simp); simp only [zlen] at hn; subst hn
    split at h
    · next ci hz =>
      obtain ⟨g1, g2, g3⟩ := zcl_in hz
      cases h
      have hc1' : cells + (M.1 + 1) ≤ R.cells + M.1 := hc1
      have hc2' : slots + (M.2.1 + zN ci) ≤ R.slots + M.2.1 := hc2
      have had : zad base b t0 (M.1 : Int) = H.size := by rw [zad_of (by omega), hW.2.1]; simp
      refine zw_new hx hb hts (zin g1) (zty ci) (zty_p g1) hown (hts _ g2) (hts _ g3) (hts _ (zini (by omega))) hK hP hV (zCl_at g1) (fs := (List.range (zN ci)).map (fun k : Nat => zcv (zad base b t0) (zdef ci (k : Int)))) (fun k hk => ?_) (by omega) (by omega) hd (fun H1 z1 hP1 hV1 => ?_)
      · simp only [vp_V, List.getD_eq_getElem?_getD, List.getElem?_map, List.getElem?_range hk, Option.map_some, Option.getD_some]
        exact zdef_v g1 hk
      · rw [← had]
        refine kk H1 locs (cells + 1) (slots + zN ci) (hW.new (fun k => ?_) (fun t len h => by cases h) z1 ?_) hV1 (List.forall_mem_cons.mpr ⟨trivial, hS⟩) rfl ?_ ?_
        · exact zdef_ok ci k
        · rw [zce_obj (ci := ci) rfl]; exact hP1
        · show cells + 1 + M.1 = cells + (M.1 + 1); omega
        · show slots + zN ci + M.2.1 = slots + (M.2.1 + zN ci); omega
    · cases h
  · -- newarray
    next t =>
    have hn := zlen_of hl (by intros; simp); simp only [zlen] at hn; subst hn
    split at h
    · next a r =>
      have hv := List.forall_mem_cons.mp hS
      split at h
      · next ha =>
        have had : zad base b t0 (M.1 : Int) = H.size := by rw [zad_of (by omega), hW.2.1]; simp
        have hneg : ¬ Int32.ofInt a < 0 := by
          intro g
          have := (zlt (b := 0) (⟨by omega, by omega⟩ : -2147483648 ≤ a ∧ a ≤ 2147483647) ⟨by omega, by omega⟩).mp g
          omega
        split at h
        · cases h
          have hc1' : cells + (M.1 + 1) ≤ R.cells + M.1 := hc1
          have hc2' : slots + (M.2.1 + a.toNat) ≤ R.slots + M.2.1 := hc2
          have hw0 : Cond.arrayClass .int ∈ zW := zW_at _ zac_i rfl
          refine zw_newa hx hb (atype := .int) (hts _ hw0) (hK.2 0 _ rfl).2 hP hV (a0 := (a.toNat, .inl (fun _ => 0))) rfl hneg (zcl_nat ⟨ha.1, by omega⟩) (by show a.toNat * 4 ≤ _; omega) (by omega) (by omega) hd (fun H1 z1 hP1 hV1 => ?_)
          rw [← had]
          refine kk H1 locs (cells + 1) (slots + a.toNat) (hW.new (fun k => ⟨by omega, by omega⟩) (fun t len h => by cases h; exact ha) z1 ?_) hV1 (List.forall_mem_cons.mpr ⟨trivial, hv.2⟩) rfl ?_ ?_
          · rw [zce_int (t := 0) (len := a) rfl (by decide)]; exact hP1
          · show cells + 1 + M.1 = cells + (M.1 + 1); omega
          · show slots + a.toNat + M.2.1 = slots + (M.2.1 + a.toNat); omega
        · cases h
          have hc1' : cells + (M.1 + 1) ≤ R.cells + M.1 := hc1
          have hc2' : slots + (M.2.1 + a.toNat) ≤ R.slots + M.2.1 := hc2
          have hw0 : Cond.arrayClass .boolean ∈ zW := zW_at _ zac_z rfl
          refine zw_newa hx hb (atype := .boolean) (hts _ hw0) (hK.2 1 _ rfl).2 hP hV (a0 := (a.toNat, .inl (fun _ => 0))) rfl hneg (zcl_nat ⟨ha.1, by omega⟩) (by show a.toNat * 1 ≤ _; omega) (by omega) (by omega) hd (fun H1 z1 hP1 hV1 => ?_)
          rw [← had]
          refine kk H1 locs (cells + 1) (slots + a.toNat) (hW.new (fun k => ⟨by omega, by omega⟩) (fun t len h => by cases h; exact ha) z1 ?_) hV1 (List.forall_mem_cons.mpr ⟨trivial, hv.2⟩) rfl ?_ ?_
          · rw [zce_int (t := 1) (len := a) rfl (by decide)]; exact hP1
          · show cells + 1 + M.1 = cells + (M.1 + 1); omega
          · show slots + a.toNat + M.2.1 = slots + (M.2.1 + a.toNat); omega
        · cases h
      · cases h
    · cases h
  · -- anewarray
    next n =>
    have hn := zlen_of hl (by intros; simp); simp only [zlen] at hn; subst hn
    split at h
    · next a r ci hz =>
      obtain ⟨g1, g2, g3⟩ := zcl_in hz
      have hv := List.forall_mem_cons.mp hS
      split at h
      · next ha =>
        cases h
        have had : zad base b t0 (M.1 : Int) = H.size := by rw [zad_of (by omega), hW.2.1]; simp
        have hneg : ¬ Int32.ofInt a < 0 := by
          intro g
          have := (zlt (b := 0) (⟨by omega, by omega⟩ : -2147483648 ≤ a ∧ a ≤ 2147483647) ⟨by omega, by omega⟩).mp g
          omega
        have hc1' : cells + (M.1 + 1) ≤ R.cells + M.1 := hc1
        have hc2' : slots + (M.2.1 + a.toNat) ≤ R.slots + M.2.1 := hc2
        have fin : ∀ (H1 : Heap), H1.size = H.size + 1 → va_P (dC, dI) zCl (zws (zad base b t0) base cA M ++ [(H.size, .inl (cA (3 - ci), a.toNat, .inr (.inr (.inr (.inr (fun _ => none))))))]) H1 → va_S (zA base) s.heap H1 locs → W p l e R s m args below meth c H1 locs (cells + 1) (slots + a.toNat) Q (F0 m (pc + 3) A (.ref H.size :: r.map (zcv (zad base b t0)))) := by
          intro H1 z1 hP1 hV1
          rw [← had]
          refine kk H1 locs (cells + 1) (slots + a.toNat) (hW.new (fun k => trivial) (fun t len h => by cases h; exact ⟨ha.1, ha.2.1⟩) z1 ?_) hV1 (List.forall_mem_cons.mpr ⟨trivial, hv.2⟩) rfl ?_ ?_
          · rw [zce_ref (t := 3 - ci) (len := a) rfl (by omega)]; exact hP1
          · show cells + 1 + M.1 = cells + (M.1 + 1); omega
          · show slots + a.toNat + M.2.1 = slots + (M.2.1 + a.toNat); omega
        rcases (show ci = 0 ∨ ci = 1 by omega) with rfl | rfl
        · obtain ⟨kA, comp, k1, k2, k3, k4⟩ := (hK.2 3 _ rfl).2
          exact zw_newq hx hb hown (hts _ g2) hO0 k4 hP hV hneg (zcl_nat ⟨ha.1, by omega⟩) (by omega) (by omega) (by omega) hd fin
        · obtain ⟨kA, comp, k1, k2, k3, k4⟩ := (hK.2 2 _ rfl).2
          exact zw_newq hx hb hown (hts _ g2) hO1 k4 hP hV hneg (zcl_nat ⟨ha.1, by omega⟩) (by omega) (by omega) (by omega) hd fin
      · cases h
    · cases h
  · cases h
end SIM3
