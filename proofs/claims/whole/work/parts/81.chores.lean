/-- the choice of who does a chore -/
def zstW (P : Int → Prop) [DecidablePred P] (sz D : Int → Int) (k e : Int) : Int := if P k ∧ (e = -1 ∨ D k * sz e < D e * sz k) then k else e
theorem zstW_two (P : Int → Prop) [DecidablePred P] (sz D : Int → Int) (k e : Int) : zstW P sz D k e = k ∨ zstW P sz D k e = e := by
  unfold zstW; split
  · exact Or.inl rfl
  · exact Or.inr rfl
theorem zstW_P {P : Int → Prop} [DecidablePred P] {sz D : Int → Int} : ∀ n : Nat, zfd (zstW P sz D) (-1) n = -1 ∨ P (zfd (zstW P sz D) (-1) n)
  | 0 => Or.inl rfl
  | n + 1 => by
    rw [Int.natCast_succ, zfd_s (by omega)]
    have ih := zstW_P (P := P) (sz := sz) (D := D) n
    by_cases h : P n ∧ (zfd (zstW P sz D) (-1) n = -1 ∨ D n * sz (zfd (zstW P sz D) (-1) n) < D (zfd (zstW P sz D) (-1) n) * sz n)
    · have e : zstW P sz D n (zfd (zstW P sz D) (-1) n) = n := if_pos h
      rw [e]
      exact Or.inr h.1
    · have e : zstW P sz D n (zfd (zstW P sz D) (-1) n) = zfd (zstW P sz D) (-1) n := if_neg h
      rw [e]
      exact ih
abbrev MW (b : zmem) (h c : Int) : Prop := (0 ≤ b 264 9 - b 272 c ∧ b 264 9 - b 272 c < b 273 c) ∧ ¬ b 280 c = 0 ∧ b 274 (7 * c + b 264 9 - b 272 c) = h
def Wk (b : zmem) (h : Int) (D : Int → Int) : Int := zfd (zstW (MW b h) (b 271) D) (-1) (b 264 10)
def Dst (b : zmem) (h : Int) (D : Int → Int) : Int → Int := if Wk b h D = -1 then D else zDi D (Wk b h D)
def Dk (b : zmem) (h : Int) : Nat → (Int → Int) → (Int → Int)
  | 0, D => D
  | n + 1, D => Dk b h n (Dst b h D)
def Dh (b : zmem) : Nat → Int → (Int → Int) → (Int → Int)
  | 0, _, D => D
  | n + 1, h, D => Dh b n (h + 1) (Dk b h (b 267 h).toNat D)
abbrev Wy (b : zmem) (c : Int) : Int := b 274 (7 * c + b 264 9 - b 272 c)
def Dok (b : zmem) (h k : Int) (D : Int → Int) : Prop := ∀ c, 0 ≤ c → c < 40 → (0 ≤ D c ∧ D c ≤ 9 * b 264 9 + (if Wy b c < h then 9 else if Wy b c = h then k else 0)) ∧ (b 264 10 ≤ c → D c = b 279 c)
theorem Wk_in {b : zmem} {h : Int} {D : Int → Int} (n0 : 0 ≤ b 264 10) : (-1 ≤ Wk b h D ∧ (Wk b h D = -1 ∨ Wk b h D < b 264 10)) ∧ (Wk b h D = -1 ∨ MW b h (Wk b h D)) := by
  have q := zstW_P (P := MW b h) (sz := b 271) (D := D) (b 264 10).toNat
  rw [show (((b 264 10).toNat : Nat) : Int) = b 264 10 by omega] at q
  exact ⟨zfd_in (f := zstW (MW b h) (b 271) D) (zstW_two _ _ _) n0, q⟩
theorem Dok_b {b : zmem} {h k : Int} {D : Int → Int} (hd : Dok b h k D) (k0 : 0 ≤ k) (k1 : k ≤ 9) (w0 : 0 ≤ b 264 9) (w1 : b 264 9 ≤ 39) : ∀ c, 0 ≤ c → c < 40 → 0 ≤ D c ∧ D c ≤ 9 * b 264 9 + 9 ∧ D c ≤ 400 := by
  intro c c0 c1
  have g := (hd c c0 c1).1
  by_cases z1 : Wy b c < h
  · rw [if_pos z1] at g; omega
  · rw [if_neg z1] at g
    by_cases z2 : Wy b c = h
    · rw [if_pos z2] at g; omega
    · rw [if_neg z2] at g; omega
theorem Dok_s {b : zmem} {h k : Int} {D : Int → Int} (hd : Dok b h k D) (n0 : 0 ≤ b 264 10) : Dok b h (k + 1) (Dst b h D) := by
  intro c c0 c1
  have g := hd c c0 c1
  have q := Wk_in (b := b) (h := h) (D := D) n0
  unfold Dst
  by_cases e : Wk b h D = -1
  · rw [if_pos e]
    refine ⟨?_, g.2⟩
    have g1 := g.1
    by_cases z1 : Wy b c < h
    · rw [if_pos z1] at g1 ⊢; omega
    · rw [if_neg z1] at g1 ⊢
      by_cases z2 : Wy b c = h
      · rw [if_pos z2] at g1 ⊢; omega
      · rw [if_neg z2] at g1 ⊢; omega
  · rw [if_neg e]
    have mw : MW b h (Wk b h D) := by rcases q.2 with z | z; exact absurd z e; exact z
    unfold zDi
    by_cases ec : c = Wk b h D
    · rw [if_pos ec, ← ec]
      rw [← ec] at mw q
      have wy : Wy b c = h := mw.2.2
      have g1 := g.1
      rw [if_neg (by omega), if_pos wy] at g1 ⊢
      exact ⟨by omega, fun z => by omega⟩
    · rw [if_neg ec]
      refine ⟨?_, g.2⟩
      have g1 := g.1
      by_cases z1 : Wy b c < h
      · rw [if_pos z1] at g1 ⊢; omega
      · rw [if_neg z1] at g1 ⊢
        by_cases z2 : Wy b c = h
        · rw [if_pos z2] at g1 ⊢; omega
        · rw [if_neg z2] at g1 ⊢; omega
theorem Dok_k {b : zmem} {h : Int} (n0 : 0 ≤ b 264 10) : ∀ (n : Nat) (k : Int) (D : Int → Int), Dok b h k D → Dok b h (k + n) (Dk b h n D)
  | 0, k, D, hd => by rw [show k + ((0 : Nat) : Int) = k by omega]; exact hd
  | n + 1, k, D, hd => by
    rw [show k + ((n + 1 : Nat) : Int) = k + 1 + (n : Int) by omega]
    exact Dok_k n0 n (k + 1) _ (Dok_s hd n0)
theorem Dok_h {b : zmem} {h k : Int} {D : Int → Int} (k0 : 0 ≤ k) (k1 : k ≤ 9) (hd : Dok b h k D) : Dok b (h + 1) 0 D := by
  intro c c0 c1
  have g := hd c c0 c1
  refine ⟨?_, g.2⟩
  have g1 := g.1
  by_cases z1 : Wy b c < h
  · rw [if_pos z1] at g1; rw [if_pos (by omega)]; omega
  · rw [if_neg z1] at g1
    by_cases z2 : Wy b c = h
    · rw [if_pos z2] at g1; rw [if_pos (by omega)]; omega
    · rw [if_neg z2] at g1; rw [if_neg (by omega)]; split <;> omega
/-- what the class's memory keeps while chores are done -/
def FA (A b : zmem) : Prop := A 0 6 = b 264 10 ∧ A 0 7 = b 264 9 ∧ (∀ c : Int, 0 ≤ c → c < 40 → A (64 + 5 * c) 4 = b 271 c ∧ A (64 + 5 * c) 5 = b 272 c ∧ A (64 + 5 * c) 6 = b 273 c) ∧ (∀ c h : Int, 0 ≤ c → c < b 264 10 → (XS A c h (b 264 9) ↔ MW b h c)) ∧ ∀ h : Int, 0 ≤ h → h < 12 → A (3 + 4 * h) 4 = b 267 h
theorem FA_D {A b : zmem} {D : Int → Int} (h : FA A b) : FA (zDX A D) b := by
  refine ⟨by rw [zDX_n (by omega)]; exact h.1, by rw [zDX_n (by omega)]; exact h.2.1, fun c c0 c1 => by rw [zDX_o (by omega), zDX_o (by omega), zDX_o (by omega)]; exact h.2.2.1 c c0 c1, fun c g c0 c1 => ?_, fun g g0 g1 => by rw [zDX_o (by omega)]; exact h.2.2.2.2 g g0 g1⟩
  have q := h.2.2.2.1 c g c0 c1
  unfold XS XH at q ⊢
  rw [zDX_o (by omega), zDX_o (by omega), zDX_n (p := 68 + 5 * c) (by omega), zDX_n (p := 65 + 5 * c) (by omega)]
  exact q
theorem l_least {L d : Nat} {m : zmem} {b : zmem} (fa : FA m b) {h : Int} {D : Int → Int} (n0 : 0 ≤ b 264 10) (n1 : b 264 10 ≤ 40) (w0 : 0 ≤ b 264 9) (w1 : b 264 9 ≤ 39) (hR : ∀ c, 0 ≤ c → c < 40 → (0 ≤ b 272 c ∧ b 272 c ≤ 39) ∧ (0 ≤ b 273 c ∧ b 273 c ≤ 7)) (hsz : ∀ c, 0 ≤ c → c < 40 → 0 ≤ b 271 c ∧ b 271 c ≤ 12) (hD : ∀ c, 0 ≤ c → c < 40 → m (64 + 5 * c) 8 = D c ∧ 0 ≤ D c ∧ D c ≤ 400)  {Q : Option zV → zM → Prop} (hx : zR (d + 3) 82 60 [some (.inr (.inl (some 0))), some (.inl h), some (.inl (zfd (zstW (MW b h) (b 271) D) (-1) (b 264 10))), some (.inl (b 264 10))] [] (zem L m) Q) : ∀ (n : Nat) (i : Int), 0 ≤ i → i + n = b 264 10 → zR (d + 3) 82 4 [some (.inr (.inl (some 0))), some (.inl h), some (.inl (zfd (zstW (MW b h) (b 271) D) (-1) i)), some (.inl i)] [] (zem L m) Q := by
  intro n
  induction n with
  | zero =>
    intro i hi hn
    have ei : i = b 264 10 := by omega
    rw [ei]
    refine r_iload_n f82_4 rfl ?_
    refine r_aload_n f82_5 rfl ?_
    refine r_getI f82_6 o82 F6_101 g0_6 rfl ?_
    refine r_top (e := b 264 10) fa.1 ?_
    refine r_cge f82_9 (t := 60) (by decide) (fun _ => ?_) (fun h => absurd (by omega) h)
    exact hx
  | succ n ih =>
    intro i hi hn
    have hb := zfd_in (f := zstW (MW b h) (b 271) D) (i := i) (zstW_two _ _ _) hi
    have f1 := fa.2.2.1 i (by omega) (by omega)
    have r1 := hR i (by omega) (by omega)
    have si := hsz i (by omega) (by omega)
    have di := hD i (by omega) (by omega)
    have pi := fa.2.2.2.1 i h (by omega) (by omega)
    refine r_iload_n f82_4 rfl ?_
    refine r_aload_n f82_5 rfl ?_
    refine r_getI f82_6 o82 F6_101 g0_6 rfl ?_
    refine r_top (e := b 264 10) fa.1 ?_
    refine r_cge f82_9 (t := 60) (by decide) (fun h => absurd h (by omega)) (fun _ => ?_)
    refine r_aload_n f82_12 rfl ?_
    refine r_getR f82_13 o82 F6_27 g0_2 rfl ?_
    refine r_iload_n f82_16 rfl ?_
    refine r_aldC f82_17 (by omega) (by omega) ?_
    refine r_iload_n f82_18 rfl ?_
    refine r_aload_n f82_19 rfl ?_
    refine r_getI f82_20 o82 F6_94 g0_7 rfl ?_
    refine r_top (e := b 264 9) fa.2.1 ?_
    refine r_callv2i (m' := m) f82_23 o82 M6_287 p9 o9 (kdC0 (c := i) (by omega) (by omega)) rfl (by simp) (t_sleptAt (c := i) (h := h) (t := b 264 9) (by omega) (by omega) (by omega) (by omega) (by omega) (by omega) (by omega) (by omega)) ?_
    refine r_ite (fun q1 => ?_) (fun q1 => ?_)
    · refine r_zeq f82_26 (t := 54) (by decide) (fun h => absurd h (by omega)) (fun _ => ?_)
      refine r_iload_n f82_29 rfl ?_
      refine r_iconst f82_30 rfl ?_
      refine r_ceq f82_31 (t := 52) (by decide) (fun q2 => ?_) (fun q2 => ?_)
      · refine r_iload_n f82_52 rfl ?_
        refine r_istore_n f82_53 rfl (ls' := [some (.inr (.inl (some 0))), some (.inl h), some (.inl i), some (.inl i)]) rfl ?_
        refine r_iinc f82_54 rfl rfl rfl (e := i + 1) (by omega) (by omega) (by omega) (ls' := [some (.inr (.inl (some 0))), some (.inl h), some (.inl i), some (.inl (i + 1))]) rfl ?_
        refine r_goto f82_57 (t := 4) (by decide) ?_
        refine r_setI (k := 2) (a := i) (e := zfd (zstW (MW b h) (b 271) D) (-1) (i + 1)) (by rw [zfd_s (by omega)]; first | exact (if_pos ⟨pi.1 q1, by omega⟩).symm | exact (if_neg (fun x => q1 (pi.2 x.1))).symm | exact (if_neg (fun x => by have x2 := x.2; omega)).symm) rfl (ls' := [some (.inr (.inl (some 0))), some (.inl h), some (.inl (zfd (zstW (MW b h) (b 271) D) (-1) (i + 1))), some (.inl (i + 1))]) rfl ?_
        exact ih (i + 1) (by omega) (by omega)
      · refine r_aload_n f82_34 rfl ?_
        refine r_getR f82_35 o82 F6_27 g0_2 rfl ?_
        refine r_iload_n f82_38 rfl ?_
        refine r_aldC f82_39 (by omega) (by omega) ?_
        refine r_aload_n f82_40 rfl ?_
        refine r_getR f82_41 o82 F6_27 g0_2 rfl ?_
        refine r_iload_n f82_44 rfl ?_
        refine r_aldC f82_45 (by omega) (by omega) ?_
        have fe := fa.2.2.1 (zfd (zstW (MW b h) (b 271) D) (-1) i) (by omega) (by omega)
        have se := hsz (zfd (zstW (MW b h) (b 271) D) (-1) i) (by omega) (by omega)
        have de := hD (zfd (zstW (MW b h) (b 271) D) (-1) i) (by omega) (by omega)
        have gd := t_didLess (L := L) (d := d + 2) (m := m) (c := i) (e := zfd (zstW (MW b h) (b 271) D) (-1) i) (by omega) (by omega) (by omega) (by omega) (by omega) (by omega) (by omega) (by omega) (by omega) (by omega) (by omega) (by omega)
        rw [di.1, de.1, f1.1, fe.1] at gd
        refine r_callv1i (m' := m) f82_46 o82 M6_290 p11 o11 (kdC0 (c := i) (by omega) (by omega)) rfl (by simp) gd ?_
        refine r_ite (fun q3 => ?_) (fun q3 => ?_)
        · refine r_zeq f82_49 (t := 54) (by decide) (fun h => absurd h (by omega)) (fun _ => ?_)
          refine r_iload_n f82_52 rfl ?_
          refine r_istore_n f82_53 rfl (ls' := [some (.inr (.inl (some 0))), some (.inl h), some (.inl i), some (.inl i)]) rfl ?_
          refine r_iinc f82_54 rfl rfl rfl (e := i + 1) (by omega) (by omega) (by omega) (ls' := [some (.inr (.inl (some 0))), some (.inl h), some (.inl i), some (.inl (i + 1))]) rfl ?_
          refine r_goto f82_57 (t := 4) (by decide) ?_
          refine r_setI (k := 2) (a := i) (e := zfd (zstW (MW b h) (b 271) D) (-1) (i + 1)) (by rw [zfd_s (by omega)]; first | exact (if_pos ⟨pi.1 q1, by omega⟩).symm | exact (if_neg (fun x => q1 (pi.2 x.1))).symm | exact (if_neg (fun x => by have x2 := x.2; omega)).symm) rfl (ls' := [some (.inr (.inl (some 0))), some (.inl h), some (.inl (zfd (zstW (MW b h) (b 271) D) (-1) (i + 1))), some (.inl (i + 1))]) rfl ?_
          exact ih (i + 1) (by omega) (by omega)
        · refine r_zeq f82_49 (t := 54) (by decide) (fun _ => ?_) (fun h => absurd (by omega) h)
          refine r_iinc f82_54 rfl rfl rfl (e := i + 1) (by omega) (by omega) (by omega) (ls' := [some (.inr (.inl (some 0))), some (.inl h), some (.inl (zfd (zstW (MW b h) (b 271) D) (-1) i)), some (.inl (i + 1))]) rfl ?_
          refine r_goto f82_57 (t := 4) (by decide) ?_
          refine r_setI (k := 2) (a := zfd (zstW (MW b h) (b 271) D) (-1) i) (e := zfd (zstW (MW b h) (b 271) D) (-1) (i + 1)) (by rw [zfd_s (by omega)]; first | exact (if_pos ⟨pi.1 q1, by omega⟩).symm | exact (if_neg (fun x => q1 (pi.2 x.1))).symm | exact (if_neg (fun x => by have x2 := x.2; omega)).symm) rfl (ls' := [some (.inr (.inl (some 0))), some (.inl h), some (.inl (zfd (zstW (MW b h) (b 271) D) (-1) (i + 1))), some (.inl (i + 1))]) rfl ?_
          exact ih (i + 1) (by omega) (by omega)
    · refine r_zeq f82_26 (t := 54) (by decide) (fun _ => ?_) (fun h => absurd (by omega) h)
      refine r_iinc f82_54 rfl rfl rfl (e := i + 1) (by omega) (by omega) (by omega) (ls' := [some (.inr (.inl (some 0))), some (.inl h), some (.inl (zfd (zstW (MW b h) (b 271) D) (-1) i)), some (.inl (i + 1))]) rfl ?_
      refine r_goto f82_57 (t := 4) (by decide) ?_
      refine r_setI (k := 2) (a := zfd (zstW (MW b h) (b 271) D) (-1) i) (e := zfd (zstW (MW b h) (b 271) D) (-1) (i + 1)) (by rw [zfd_s (by omega)]; first | exact (if_pos ⟨pi.1 q1, by omega⟩).symm | exact (if_neg (fun x => q1 (pi.2 x.1))).symm | exact (if_neg (fun x => by have x2 := x.2; omega)).symm) rfl (ls' := [some (.inr (.inl (some 0))), some (.inl h), some (.inl (zfd (zstW (MW b h) (b 271) D) (-1) (i + 1))), some (.inl (i + 1))]) rfl ?_
      exact ih (i + 1) (by omega) (by omega)

theorem t_least {L d : Nat} {m : zmem} {b : zmem} (fa : FA m b) {h : Int} {D : Int → Int} (n0 : 0 ≤ b 264 10) (n1 : b 264 10 ≤ 40) (w0 : 0 ≤ b 264 9) (w1 : b 264 9 ≤ 39) (hR : ∀ c, 0 ≤ c → c < 40 → (0 ≤ b 272 c ∧ b 272 c ≤ 39) ∧ (0 ≤ b 273 c ∧ b 273 c ≤ 7)) (hsz : ∀ c, 0 ≤ c → c < 40 → 0 ≤ b 271 c ∧ b 271 c ≤ 12) (hD : ∀ c, 0 ≤ c → c < 40 → m (64 + 5 * c) 8 = D c ∧ 0 ≤ D c ∧ D c ≤ 400)  : zF L (d + 3) 82 [.inr (.inl (some 0)), .inl h] m (some (.inl (Wk b h D))) m := by
  refine zF_of n82 (ls := [some (.inr (.inl (some 0))), some (.inl h), none, none]) rfl ?_
  refine r_iconst f82_0 rfl ?_
  refine r_istore_n f82_1 rfl (ls' := [some (.inr (.inl (some 0))), some (.inl h), some (.inl (-1)), none]) rfl ?_
  refine r_iconst f82_2 rfl ?_
  refine r_istore_n f82_3 rfl (ls' := [some (.inr (.inl (some 0))), some (.inl h), some (.inl (-1)), some (.inl 0)]) rfl ?_
  refine l_least fa n0 n1 w0 w1 hR hsz hD ?_ (b 264 10).toNat 0 (by omega) (by omega)
  refine r_iload_n f82_60 rfl ?_
  exact r_iret f82_61 v82 ⟨rfl, rfl⟩

theorem l_chores {L d : Nat} {A b : zmem} (fa : FA A b) {h : Int} (h0 : 0 ≤ h) (h1 : h < 12) (n0 : 0 ≤ b 264 10) (n1 : b 264 10 ≤ 40) (w0 : 0 ≤ b 264 9) (w1 : b 264 9 ≤ 39) (hR : ∀ c, 0 ≤ c → c < 40 → (0 ≤ b 272 c ∧ b 272 c ≤ 39) ∧ (0 ≤ b 273 c ∧ b 273 c ≤ 7)) (hsz : ∀ c, 0 ≤ c → c < 40 → 0 ≤ b 271 c ∧ b 271 c ≤ 12) (h9 : b 267 h ≤ 9) {Q : Option zV → zM → Prop} : ∀ (n : Nat) (k : Int) (D : Int → Int), 0 ≤ k → k + n = b 267 h → Dok b h k D → zR (d + 4) 81 50 [some (.inr (.inl (some 0))), some (.inl h), some (.inl (b 267 h)), none] [] (zem L (zDX A (Dk b h n D))) Q → zR (d + 4) 81 2 [some (.inr (.inl (some 0))), some (.inl h), some (.inl k), none] [] (zem L (zDX A D)) Q
  | 0, k, D, k0, hn, hd, hk => by
    have fh := fa.2.2.2.2 h h0 h1
    have ek : k = b 267 h := by omega
    rw [ek]
    refine r_iload_n f81_2 rfl ?_
    refine r_aload_n f81_3 rfl ?_
    refine r_getR f81_4 o81 F6_10 g0_0 rfl ?_
    refine r_getR f81_7 o81 F6_70 g1_0 rfl ?_
    refine r_iload_n f81_10 rfl ?_
    refine r_aldH f81_11 (by omega) (by omega) ?_
    refine r_getI f81_12 o81 F6_74 (gH_4 (h := h) (by omega) (by omega)) rfl ?_
    refine r_top (e := b 267 h) (by rw [zDX_o (by omega)]; exact fh) ?_
    refine r_cge f81_15 (t := 50) (by decide) (fun _ => ?_) (fun h => absurd (by omega) h)
    exact hk
  | n + 1, k, D, k0, hn, hd, hk => by
    have fh := fa.2.2.2.2 h h0 h1
    have db := Dok_b hd k0 (by omega) w0 w1
    have wi := Wk_in (b := b) (h := h) (D := D) n0
    have tl := t_least (L := L) (d := d) (FA_D (D := D) fa) (h := h) (D := D) n0 n1 w0 w1 hR hsz (fun c c0 c1 => ⟨zDX_v c0 c1, (db c c0 c1).1, (db c c0 c1).2.2⟩)
    have ih := l_chores (L := L) (d := d) fa h0 h1 n0 n1 w0 w1 hR hsz h9 (Q := Q) n (k + 1) (Dst b h D) (by omega) (by omega) (Dok_s hd n0) hk
    by_cases ew : Wk b h D = -1
    · have es : Dst b h D = D := if_pos ew
      rw [es] at ih
      have wd : 0 ≤ Wk b h D → Wk b h D < 40 → 0 ≤ D (Wk b h D) ∧ D (Wk b h D) ≤ 400 := fun x y => ⟨(db _ x y).1, (db _ x y).2.2⟩
      refine r_iload_n f81_2 rfl ?_
      refine r_aload_n f81_3 rfl ?_
      refine r_getR f81_4 o81 F6_10 g0_0 rfl ?_
      refine r_getR f81_7 o81 F6_70 g1_0 rfl ?_
      refine r_iload_n f81_10 rfl ?_
      refine r_aldH f81_11 (by omega) (by omega) ?_
      refine r_getI f81_12 o81 F6_74 (gH_4 (h := h) (by omega) (by omega)) rfl ?_
      refine r_top (e := b 267 h) (by rw [zDX_o (by omega)]; exact fh) ?_
      refine r_cge f81_15 (t := 50) (by decide) (fun h => absurd h (by omega)) (fun _ => ?_)
      refine r_aload_n f81_18 rfl ?_
      refine r_iload_n f81_19 rfl ?_
      refine r_callv1i (m' := (zDX A D)) (v := Wk b h D) f81_20 o81 M6_284 p82 o82 kd0 rfl (by simp) tl ?_
      refine r_istore_n f81_23 rfl (ls' := [some (.inr (.inl (some 0))), some (.inl h), some (.inl k), some (.inl (Wk b h D))]) rfl ?_
      refine r_iload_n f81_24 rfl ?_
      refine r_iconst f81_25 rfl ?_
      refine r_ceq f81_26 (t := 44) (by decide) (fun _ => ?_) (fun h => absurd (by omega) h)
      refine r_iinc f81_44 rfl rfl rfl (e := k + 1) (by omega) (by omega) (by omega) (ls' := [some (.inr (.inl (some 0))), some (.inl h), some (.inl (k + 1)), some (.inl (Wk b h D))]) rfl ?_
      refine r_goto f81_47 (t := 2) (by decide) ?_
      refine r_forget (ls' := [some (.inr (.inl (some 0))), some (.inl h), some (.inl (k + 1)), none]) ⟨Or.inl rfl, ⟨Or.inl rfl, ⟨Or.inl rfl, ⟨Or.inr ⟨rfl, rfl⟩, trivial⟩⟩⟩⟩ ?_
      exact ih
    · have es : Dst b h D = zDi D (Wk b h D) := if_neg ew
      have wd : 0 ≤ Wk b h D → Wk b h D < 40 → 0 ≤ D (Wk b h D) ∧ D (Wk b h D) ≤ 400 := fun x y => ⟨(db _ x y).1, (db _ x y).2.2⟩
      refine r_iload_n f81_2 rfl ?_
      refine r_aload_n f81_3 rfl ?_
      refine r_getR f81_4 o81 F6_10 g0_0 rfl ?_
      refine r_getR f81_7 o81 F6_70 g1_0 rfl ?_
      refine r_iload_n f81_10 rfl ?_
      refine r_aldH f81_11 (by omega) (by omega) ?_
      refine r_getI f81_12 o81 F6_74 (gH_4 (h := h) (by omega) (by omega)) rfl ?_
      refine r_top (e := b 267 h) (by rw [zDX_o (by omega)]; exact fh) ?_
      refine r_cge f81_15 (t := 50) (by decide) (fun h => absurd h (by omega)) (fun _ => ?_)
      refine r_aload_n f81_18 rfl ?_
      refine r_iload_n f81_19 rfl ?_
      refine r_callv1i (m' := (zDX A D)) (v := Wk b h D) f81_20 o81 M6_284 p82 o82 kd0 rfl (by simp) tl ?_
      refine r_istore_n f81_23 rfl (ls' := [some (.inr (.inl (some 0))), some (.inl h), some (.inl k), some (.inl (Wk b h D))]) rfl ?_
      refine r_iload_n f81_24 rfl ?_
      refine r_iconst f81_25 rfl ?_
      refine r_ceq f81_26 (t := 44) (by decide) (fun h => absurd h (by omega)) (fun _ => ?_)
      refine r_aload_n f81_29 rfl ?_
      refine r_getR f81_30 o81 F6_27 g0_2 rfl ?_
      refine r_iload_n f81_33 rfl ?_
      refine r_aldC f81_34 (by omega) (by omega) ?_
      refine r_dupR f81_35 ?_
      refine r_getI f81_36 o81 F6_167 (gC_8 (c := Wk b h D) (by omega) (by omega)) rfl ?_
      refine r_top (e := D (Wk b h D)) (zDX_v (by omega) (by omega)) ?_
      refine r_iconst f81_39 rfl ?_
      refine r_iadd f81_40 (e := D (Wk b h D) + 1) (by omega) (by omega) (by omega) ?_
      refine r_put f81_41 o81 F6_167 (gC_8 (c := Wk b h D) (by omega) (by omega)) rfl T0_8 U0_8 ?_
      refine r_iinc f81_44 rfl rfl rfl (e := k + 1) (by omega) (by omega) (by omega) (ls' := [some (.inr (.inl (some 0))), some (.inl h), some (.inl (k + 1)), some (.inl (Wk b h D))]) rfl ?_
      refine r_goto f81_47 (t := 2) (by decide) ?_
      refine r_forget (ls' := [some (.inr (.inl (some 0))), some (.inl h), some (.inl (k + 1)), none]) ⟨Or.inl rfl, ⟨Or.inl rfl, ⟨Or.inl rfl, ⟨Or.inr ⟨rfl, rfl⟩, trivial⟩⟩⟩⟩ ?_
      refine r_mem (m1 := zDX A (Dst b h D)) (by rw [es]; exact (zDX_s (by omega) (by omega) rfl).symm) ?_
      exact ih
theorem t_chores {L d : Nat} {m : zmem} {A b : zmem} (fa : FA A b) {h : Int} (h0 : 0 ≤ h) (h1 : h < 12) (n0 : 0 ≤ b 264 10) (n1 : b 264 10 ≤ 40) (w0 : 0 ≤ b 264 9) (w1 : b 264 9 ≤ 39) (hR : ∀ c, 0 ≤ c → c < 40 → (0 ≤ b 272 c ∧ b 272 c ≤ 39) ∧ (0 ≤ b 273 c ∧ b 273 c ≤ 7)) (hsz : ∀ c, 0 ≤ c → c < 40 → 0 ≤ b 271 c ∧ b 271 c ≤ 12) (h9 : b 267 h ≤ 9) {D : Int → Int} (c9 : 0 ≤ b 267 h) (hd : Dok b h 0 D) (em : m = zDX A D)  : zF L (d + 4) 81 [.inr (.inl (some 0)), .inl h] m none (zDX A (Dk b h (b 267 h).toNat D)) := by
  subst em
  refine zF_of n81 (ls := [some (.inr (.inl (some 0))), some (.inl h), none, none]) rfl ?_
  refine r_iconst f81_0 rfl ?_
  refine r_istore_n f81_1 rfl (ls' := [some (.inr (.inl (some 0))), some (.inl h), some (.inl 0), none]) rfl ?_
  refine l_chores fa h0 h1 n0 n1 w0 w1 hR hsz h9 (b 267 h).toNat 0 D (by omega) (by omega) hd ?_
  exact r_vret f81_50 v81 ⟨rfl, rfl⟩

