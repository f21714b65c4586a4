theorem XL1_sh {a : zmem} {c i s : Int} (c0 : 0 ≤ c) (c1 : c < 40) (h0 : 0 ≤ a (65 + 5 * c) i) (h1 : a (65 + 5 * c) i < 12) : XL1 (zu a (64 + 5 * c) 7 s) c i = zu (XL1 a c i) (64 + 5 * c) 7 s := by
  have e1 : zu a (64 + 5 * c) 7 s (65 + 5 * c) = a (65 + 5 * c) := zu_ne (by omega)
  have e2 : zu a (64 + 5 * c) 7 s (64 + 5 * c) 5 = a (64 + 5 * c) 5 := zu_ne2 (by omega)
  have e3 : zu a (64 + 5 * c) 7 s (64 + 5 * c) 4 = a (64 + 5 * c) 4 := zu_ne2 (by omega)
  have e4 : zu a (64 + 5 * c) 7 s (4 + 4 * a (65 + 5 * c) i) = a (4 + 4 * a (65 + 5 * c) i) := zu_ne (by omega)
  unfold XL1
  rw [e1, e2, e3, XWC_Y, XWC_Y, e4]
  exact XYa_sh h0 h1 c0 c1
