/-- one night laid, of both sides -/
abbrev XL1 (a : zmem) (c i : Int) : zmem := XWC a (a (65 + 5 * c) i) (i + a (64 + 5 * c) 5) (a (64 + 5 * c) 4) c i
abbrev ML1 (b : zmem) (c i : Int) : zmem := MYa b c i (zsh0 (MF b (b 274 (7 * c + i)) 0 (i + b 272 c)) (MF b (b 274 (7 * c + i)) 1 (i + b 272 c)) (MF b (b 274 (7 * c + i)) 2 (i + b 272 c)) (b 271 c)) (zsh1 (MF b (b 274 (7 * c + i)) 0 (i + b 272 c)) (MF b (b 274 (7 * c + i)) 1 (i + b 272 c)) (MF b (b 274 (7 * c + i)) 2 (i + b 272 c)) (b 271 c)) (zsh2 (MF b (b 274 (7 * c + i)) 0 (i + b 272 c)) (MF b (b 274 (7 * c + i)) 1 (i + b 272 c)) (MF b (b 274 (7 * c + i)) 2 (i + b 272 c)) (b 271 c))
def XLy (c : Int) : Nat → Int → zmem → zmem
  | 0, _, a => a
  | n + 1, i, a => XLy c n (i + 1) (XL1 a c i)
def MLy (c : Int) : Nat → Int → zmem → zmem
  | 0, _, b => b
  | n + 1, i, b => MLy c n (i + 1) (ML1 b c i)
/-- what laying from night i on needs -/
def Lay (b : zmem) (c i : Int) : Prop := ∀ k, i ≤ k → k < b 273 c → b 276 (7 * c + k) = 0 ∧ b 271 c ≤ MO b (b 274 (7 * c + k)) (k + b 272 c)
theorem sm_lay1 {T c i : Int} {a b : zmem} (hs : Sim T a b) (c0 : 0 ≤ c) (c1 : c < b 264 10) (i0 : 0 ≤ i) (i1 : i < b 273 c) (hst : ¬ b 275 c = 0) (hl : Lay b c i) : Sim T (XL1 a c i) (ML1 b c i) ∧ Lay (ML1 b c i) c (i + 1) := by
  have s1 := hs.s1
  unfold S1 at s1
  have g5 := hs.s5 c c0 (by omega)
  have g6 := hs.s6 c c0 (by omega) i i0 (by omega)
  have l1 := hl i (by omega) i1
  have gw := g6.2 i1
  have r0 := Sim_rng hs (b 274 (7 * c + i)) 0 (i + b 272 c) gw.1 gw.2 (by omega) (by omega) (by omega) (by omega)
  have r1 := Sim_rng hs (b 274 (7 * c + i)) 1 (i + b 272 c) gw.1 gw.2 (by omega) (by omega) (by omega) (by omega)
  have r2 := Sim_rng hs (b 274 (7 * c + i)) 2 (i + b 272 c) gw.1 gw.2 (by omega) (by omega) (by omega) (by omega)
  have z := zsh_ok r0.1 r1.1 r2.1 (n := b 271 c) (by omega) l1.2
  have q := sm_lay hs c0 c1 i0 i1 rfl rfl l1.1 hst z.1 z.2.1 z.2.2.1 z.2.2.2
  have e : XL1 a c i = XYa a (b 274 (7 * c + i)) (i + b 272 c) c i (zsh0 (MF b (b 274 (7 * c + i)) 0 (i + b 272 c)) (MF b (b 274 (7 * c + i)) 1 (i + b 272 c)) (MF b (b 274 (7 * c + i)) 2 (i + b 272 c)) (b 271 c)) (zsh1 (MF b (b 274 (7 * c + i)) 0 (i + b 272 c)) (MF b (b 274 (7 * c + i)) 1 (i + b 272 c)) (MF b (b 274 (7 * c + i)) 2 (i + b 272 c)) (b 271 c)) (zsh2 (MF b (b 274 (7 * c + i)) 0 (i + b 272 c)) (MF b (b 274 (7 * c + i)) 1 (i + b 272 c)) (MF b (b 274 (7 * c + i)) 2 (i + b 272 c)) (b 271 c)) := by
    have gg := (hs.s10 (b 274 (7 * c + i)) gw.1 (by omega)).2 gw.2
    have m0 := gg 0 (i + b 272 c) (by omega) (by omega) (by omega) (by omega)
    have m1 := gg 1 (i + b 272 c) (by omega) (by omega) (by omega) (by omega)
    have m2 := gg 2 (i + b 272 c) (by omega) (by omega) (by omega) (by omega)
    rw [show 3 * (i + b 272 c) + 0 = 3 * (i + b 272 c) by omega] at m0
    unfold XL1
    rw [XWC_Y, g6.1, show a (64 + 5 * c) 5 = b 272 c by omega, show a (64 + 5 * c) 4 = b 271 c by omega, m0, m1, m2]
  refine ⟨by rw [e]; exact q, fun k k0 k1 => ?_⟩
  have e3 : ML1 b c i 273 = b 273 := by unfold ML1 MYa; rw [zu_ne (by omega), zu_ne (by omega), zu_ne (by omega), zu_ne (by omega)]
  have e4 : ML1 b c i 274 = b 274 := by unfold ML1 MYa; rw [zu_ne (by omega), zu_ne (by omega), zu_ne (by omega), zu_ne (by omega)]
  have e2 : ML1 b c i 272 = b 272 := by unfold ML1 MYa; rw [zu_ne (by omega), zu_ne (by omega), zu_ne (by omega), zu_ne (by omega)]
  have e1 : ML1 b c i 271 = b 271 := by unfold ML1 MYa; rw [zu_ne (by omega), zu_ne (by omega), zu_ne (by omega), zu_ne (by omega)]
  rw [e3] at k1
  have lk := hl k (by omega) k1
  have f := fun e (q0 : 0 ≤ e) (q1 : e < 3) => MF_lay hs (p := zsh0 (MF b (b 274 (7 * c + i)) 0 (i + b 272 c)) (MF b (b 274 (7 * c + i)) 1 (i + b 272 c)) (MF b (b 274 (7 * c + i)) 2 (i + b 272 c)) (b 271 c)) (q := zsh1 (MF b (b 274 (7 * c + i)) 0 (i + b 272 c)) (MF b (b 274 (7 * c + i)) 1 (i + b 272 c)) (MF b (b 274 (7 * c + i)) 2 (i + b 272 c)) (b 271 c)) (r := zsh2 (MF b (b 274 (7 * c + i)) 0 (i + b 272 c)) (MF b (b 274 (7 * c + i)) 1 (i + b 272 c)) (MF b (b 274 (7 * c + i)) 2 (i + b 272 c)) (b 271 c)) c0 c1 i0 i1 rfl rfl l1.1 (g := b 274 (7 * c + k)) (e := e) (u := k + b 272 c) q0 q1
  have f0 := f 0 (by omega) (by omega)
  have f1 := f 1 (by omega) (by omega)
  have f2 := f 2 (by omega) (by omega)
  rw [if_neg (by omega)] at f0 f1 f2
  refine ⟨?_, ?_⟩
  · unfold ML1 MYa
    rw [zu_ne (by omega), zu_ne (by omega), zu_ne (by omega), zu_ne2 (by omega)]
    exact lk.1
  · rw [e1, e4, e2]
    unfold MO
    have l2 := lk.2
    unfold MO at l2
    rw [f0, f1, f2]
    omega
