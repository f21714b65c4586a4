theorem zfd_c2 {f g : Int → Int → Int} (h2 : ∀ k b, f k b = k ∨ f k b = b) : ∀ n : Nat, (∀ k b : Int, 0 ≤ k → k < n → (b = -1 ∨ (0 ≤ b ∧ b < k)) → f k b = g k b) → zfd f (-1) n = zfd g (-1) n
  | 0, _ => rfl
  | n + 1, h => by
    have e : ((n + 1 : Nat) : Int) = (n : Int) + 1 := by omega
    rw [e, zfd_s (by omega), zfd_s (by omega), ← zfd_c2 h2 n (fun k b x y z => h k b x (by omega) z)]
    have q := zfd_in h2 (i := (n : Int)) (by omega)
    exact h n _ (by omega) (by omega) (by omega)
theorem XV_o {a : zmem} {c i h t p : Int} (h0 : 0 ≤ h) (h1 : h < 12) (hp : ¬ p = 66 + 5 * c) (hq : 50 < p ∨ p = 1 ∨ p = 0) : XV a h t c i p = a p := by
  unfold XV
  rw [zu_ne (by omega), zu_ne (by omega), zu_ne (by omega), zu_ne (by omega), zu_ne (by omega), zu_ne (by omega)]
theorem XV_an {a : zmem} {c i h t : Int} (h0 : 0 ≤ h) (h1 : h < 12) (c0 : 0 ≤ c) (c1 : c < 40) : zan (XV a h t c i) a := by
  unfold XV
  exact zan_x (zan_x (zan_x (zan_x (zan_x (zan_x (zan_rf a) (by omega)) (by omega)) (by omega)) (by omega)) (by omega)) (by omega)
theorem XLf_o {c p : Int} (c0 : 0 ≤ c) (c1 : c < 40) (hp : ¬ p = 66 + 5 * c) (hq : 50 < p ∨ p = 1 ∨ p = 0) : ∀ (n : Nat) (i : Int) (a : zmem), (∀ k, i ≤ k → k < i + n → 0 ≤ a (65 + 5 * c) k ∧ a (65 + 5 * c) k < 12) → XLf c n i a p = a p
  | 0, _, _, _ => rfl
  | n + 1, i, a, hw => by
    have h := hw i (by omega) (by omega)
    show XLf c n (i + 1) (XV a (a (65 + 5 * c) i) (i + a (64 + 5 * c) 5) c i) p = a p
    rw [XLf_o c0 c1 hp hq n (i + 1) _ (fun k x y => by rw [XV_o h.1 h.2 (by omega) (by omega)]; exact hw k (by omega) (by omega)), XV_o h.1 h.2 hp hq]
theorem XLf_an {c : Int} (c0 : 0 ≤ c) (c1 : c < 40) : ∀ (n : Nat) (i : Int) (a : zmem), (∀ k, i ≤ k → k < i + n → 0 ≤ a (65 + 5 * c) k ∧ a (65 + 5 * c) k < 12) → zan (XLf c n i a) a
  | 0, _, a, _ => zan_rf a
  | n + 1, i, a, hw => by
    have h := hw i (by omega) (by omega)
    exact zan_tr (XLf_an c0 c1 n (i + 1) _ (fun k x y => by rw [XV_o h.1 h.2 (by omega) (by omega)]; exact hw k (by omega) (by omega))) (XV_an h.1 h.2 c0 c1)
theorem MLf_o {c p : Int} (hp : ¬ p = 276) : ∀ (n : Nat) (i : Int) (b : zmem), MLf c n i b p = b p
  | 0, _, _ => rfl
  | n + 1, i, b => by
    show MLf c n (i + 1) (zu b 276 (7 * c + i) 0) p = b p
    rw [MLf_o hp n, zu_ne hp]
theorem MLf_st {c v : Int} : ∀ (n : Nat) (i : Int) (b : zmem), MLf c n i (zu b 275 c v) = zu (MLf c n i b) 275 c v
  | 0, _, _ => rfl
  | n + 1, i, b => by
    show MLf c n (i + 1) (zu (zu b 275 c v) 276 (7 * c + i) 0) = zu (MLf c n (i + 1) (zu b 276 (7 * c + i) 0)) 275 c v
    rw [zu_cm (by omega), MLf_st n]
theorem MLf_an {c : Int} : ∀ (n : Nat) (i : Int) (a b : zmem), zan a b → zan (MLf c n i a) (MLf c n i b)
  | 0, _, _, _, h => h
  | n + 1, i, a, b, h => MLf_an n (i + 1) _ _ (zan_w h)
theorem MLf_ac {c : Int} : ∀ (n : Nat) (i : Int) (b : zmem), zac (MLf c n i b) b
  | 0, _, b => zac_rf b
  | n + 1, i, b => zac_tr (MLf_ac n (i + 1) _) (zac_u (zac_rf b) (by omega))
theorem MLf_v {c : Int} : ∀ (n : Nat) (i : Int) (b : zmem) (k : Int), MLf c n i b 276 k = if 7 * c + i ≤ k ∧ k < 7 * c + i + n then 0 else b 276 k
  | 0, i, b, k => by rw [if_neg (by omega)]; rfl
  | n + 1, i, b, k => by
    show MLf c n (i + 1) (zu b 276 (7 * c + i) 0) 276 k = _
    rw [MLf_v n, zu_if]
    by_cases h : 7 * c + i ≤ k ∧ k < 7 * c + i + ((n + 1 : Nat) : Int)
    · rw [if_pos h]
      by_cases e : k = 7 * c + i
      · rw [if_neg (by omega), if_pos (by omega)]
      · rw [if_pos (by omega)]
    · rw [if_neg h, if_neg (by omega), if_neg (by omega)]
theorem t_liftFrom {L d : Nat} {T c f : Int} {a b : zmem} (hs : Sim T a b) (c0 : 0 ≤ c) (c1 : c < b 264 10) (f0 : 0 ≤ f) (f1 : f ≤ b 273 c) (hx : b 264 9 - b 272 c < f ∨ b 280 c = 0) : zF L (d + 1) 75 [.inr (.inl (some 0)), .inr (.inl (some (64 + 5 * c))), .inl f] a none (XLf c (b 273 c - f).toNat f a) := by
  refine zF_of n75 (ls := [some (.inr (.inl (some 0))), some (.inr (.inl (some (64 + 5 * c)))), some (.inl f), none]) rfl ?_
  refine r_iload_n f75_0 rfl ?_
  refine r_istore_n f75_1 rfl (ls' := [some (.inr (.inl (some 0))), some (.inr (.inl (some (64 + 5 * c)))), some (.inl f), some (.inl f)]) rfl ?_
  refine l_lift (T := T) (b 273 c - f).toNat f a b hs c0 c1 f0 (by omega) hx ?_
  exact r_vret f75_46 v75 ⟨rfl, rfl⟩
theorem l_gup {L d : Nat} {c N : Int} (c0 : 0 ≤ c) (c1 : c < 40) (n1 : N ≤ 7) {Q : Option zV → zM → Prop} : ∀ (n : Nat) (i : Int) (M : zmem), M 273 c = N → 0 ≤ i → i + n = N → zR (d + 1) 113 68 [some (.inr (.inl (some 264))), some (.inl c), some (.inl N), none, none] [] (zem L (MLf c n i M)) Q → zR (d + 1) 113 46 [some (.inr (.inl (some 264))), some (.inl c), some (.inl i), none, none] [] (zem L M) Q
  | 0, i, M, h3, i0, hn, hk => by
    have ei : i = N := by omega
    rw [ei]
    refine r_iload_n f113_46 rfl ?_
    refine r_aload_n f113_47 rfl ?_
    refine r_getR f113_48 o113 F7_35 g264_13 rfl ?_
    refine r_iload_n f113_51 rfl ?_
    refine r_iald f113_52 kd273 (by omega) (by omega) ?_
    refine r_top (e := N) h3 ?_
    refine r_cge f113_53 (t := 68) (by decide) (fun _ => ?_) (fun h => absurd (by omega) h)
    exact hk
  | n + 1, i, M, h3, i0, hn, hk => by
    refine r_iload_n f113_46 rfl ?_
    refine r_aload_n f113_47 rfl ?_
    refine r_getR f113_48 o113 F7_35 g264_13 rfl ?_
    refine r_iload_n f113_51 rfl ?_
    refine r_iald f113_52 kd273 (by omega) (by omega) ?_
    refine r_top (e := N) h3 ?_
    refine r_cge f113_53 (t := 68) (by decide) (fun h => absurd h (by omega)) (fun _ => ?_)
    refine r_aload_n f113_56 rfl ?_
    refine r_iload_n f113_57 rfl ?_
    refine r_iload_n f113_58 rfl ?_
    refine r_callv2u (m' := (zu M 276 (7 * c + i) 0)) f113_59 o113 M7_157 p99 o99 kd264 rfl (by simp) (t_takesOut (c := c) (i := i) (by omega) (by omega) (by omega) (by omega)) ?_
    refine r_iinc f113_62 rfl rfl rfl (e := i + 1) (by omega) (by omega) (by omega) (ls' := [some (.inr (.inl (some 264))), some (.inl c), some (.inl (i + 1)), none, none]) rfl ?_
    refine r_goto f113_65 (t := 46) (by decide) ?_
    exact l_gup c0 c1 n1 n (i + 1) _ (by rw [zu_ne (by omega)]; exact h3) (by omega) (by omega) hk
theorem l_best {L d : Nat} {m : zmem} {c : Int} (c0 : 0 ≤ c) (c1 : c < 40) (p0 : 0 ≤ m 264 24) (p1 : m 264 24 ≤ 20) (f0 : 0 ≤ m 272 c) (f1 : m 272 c ≤ 39) (w0 : 0 ≤ m 264 9) (w1 : m 264 9 ≤ 39)  {Q : Option zV → zM → Prop} (hx : zR (d) 113 144 [some (.inr (.inl (some 264))), some (.inl c), some (.inl (zfd (zstP (m 284) (m 272 c - m 264 9)) (-1) (m 264 24))), some (.inl (m 264 24)), none] [] (zem L m) Q) : ∀ (n : Nat) (i : Int), 0 ≤ i → i + n = m 264 24 → zR (d) 113 72 [some (.inr (.inl (some 264))), some (.inl c), some (.inl (zfd (zstP (m 284) (m 272 c - m 264 9)) (-1) i)), some (.inl i), none] [] (zem L m) Q := by
  intro n
  induction n with
  | zero =>
    intro i hi hn
    have ei : i = m 264 24 := by omega
    rw [ei]
    refine r_iload_n f113_72 rfl ?_
    refine r_aload_n f113_73 rfl ?_
    refine r_getI f113_74 o113 F7_154 g264_24 rfl ?_
    refine r_cge f113_77 (t := 144) (by decide) (fun _ => ?_) (fun h => absurd (by omega) h)
    exact hx
  | succ n ih =>
    intro i hi hn
    have hb := zfd_in (f := zstP (m 284) (m 272 c - m 264 9)) (zstP_two _ _) hi
    refine r_iload_n f113_72 rfl ?_
    refine r_aload_n f113_73 rfl ?_
    refine r_getI f113_74 o113 F7_154 g264_24 rfl ?_
    refine r_cge f113_77 (t := 144) (by decide) (fun h => absurd h (by omega)) (fun _ => ?_)
    refine r_aload_n f113_80 rfl ?_
    refine r_getR f113_81 o113 F7_68 g264_25 rfl ?_
    refine r_iload_n f113_84 rfl ?_
    refine r_iald f113_85 kd284 (by omega) (by omega) ?_
    refine r_aload_n f113_86 rfl ?_
    refine r_getR f113_87 o113 F7_32 g264_12 rfl ?_
    refine r_iload_n f113_90 rfl ?_
    refine r_iald f113_91 kd272 (by omega) (by omega) ?_
    refine r_aload_n f113_92 rfl ?_
    refine r_getI f113_93 o113 F7_122 g264_9 rfl ?_
    refine r_isub f113_96 (e := m 272 c - m 264 9) (by omega) (by omega) (by omega) ?_
    refine r_cgt f113_97 (t := 104) (by decide) (fun q1 => ?_) (fun q1 => ?_)
    · refine r_iconst f113_104 rfl ?_
      refine r_istore f113_105 rfl (ls' := [some (.inr (.inl (some 264))), some (.inl c), some (.inl (zfd (zstP (m 284) (m 272 c - m 264 9)) (-1) i)), some (.inl i), some (.inl 0)]) rfl ?_
      refine r_iload f113_107 rfl ?_
      refine r_zeq f113_109 (t := 136) (by decide) (fun _ => ?_) (fun h => absurd (by omega) h)
      refine r_iload_n f113_136 rfl ?_
      refine r_istore_n f113_137 rfl (ls' := [some (.inr (.inl (some 264))), some (.inl c), some (.inl (zfd (zstP (m 284) (m 272 c - m 264 9)) (-1) i)), some (.inl i), some (.inl 0)]) rfl ?_
      refine r_iinc f113_138 rfl rfl rfl (e := i + 1) (by omega) (by omega) (by omega) (ls' := [some (.inr (.inl (some 264))), some (.inl c), some (.inl (zfd (zstP (m 284) (m 272 c - m 264 9)) (-1) i)), some (.inl (i + 1)), some (.inl 0)]) rfl ?_
      refine r_goto f113_141 (t := 72) (by decide) ?_
      refine r_forget (ls' := [some (.inr (.inl (some 264))), some (.inl c), some (.inl (zfd (zstP (m 284) (m 272 c - m 264 9)) (-1) i)), some (.inl (i + 1)), none]) ⟨Or.inl rfl, ⟨Or.inl rfl, ⟨Or.inl rfl, ⟨Or.inl rfl, ⟨Or.inr ⟨rfl, rfl⟩, trivial⟩⟩⟩⟩⟩ ?_
      refine r_setI (k := 2) (a := zfd (zstP (m 284) (m 272 c - m 264 9)) (-1) i) (e := zfd (zstP (m 284) (m 272 c - m 264 9)) (-1) (i + 1)) (by rw [zfd_s (by omega)]; first | exact (if_pos (by omega)).symm | exact (if_neg (by omega)).symm) rfl (ls' := [some (.inr (.inl (some 264))), some (.inl c), some (.inl (zfd (zstP (m 284) (m 272 c - m 264 9)) (-1) (i + 1))), some (.inl (i + 1)), none]) rfl ?_
      exact ih (i + 1) (by omega) (by omega)
    · refine r_iconst f113_100 rfl ?_
      refine r_goto f113_101 (t := 105) (by decide) ?_
      refine r_istore f113_105 rfl (ls' := [some (.inr (.inl (some 264))), some (.inl c), some (.inl (zfd (zstP (m 284) (m 272 c - m 264 9)) (-1) i)), some (.inl i), some (.inl 1)]) rfl ?_
      refine r_iload f113_107 rfl ?_
      refine r_zeq f113_109 (t := 136) (by decide) (fun h => absurd h (by omega)) (fun _ => ?_)
      refine r_iload_n f113_112 rfl ?_
      refine r_iconst f113_113 rfl ?_
      refine r_ceq f113_114 (t := 132) (by decide) (fun q2 => ?_) (fun q2 => ?_)
      · refine r_iload_n f113_132 rfl ?_
        refine r_goto f113_133 (t := 137) (by decide) ?_
        refine r_istore_n f113_137 rfl (ls' := [some (.inr (.inl (some 264))), some (.inl c), some (.inl i), some (.inl i), some (.inl 1)]) rfl ?_
        refine r_iinc f113_138 rfl rfl rfl (e := i + 1) (by omega) (by omega) (by omega) (ls' := [some (.inr (.inl (some 264))), some (.inl c), some (.inl i), some (.inl (i + 1)), some (.inl 1)]) rfl ?_
        refine r_goto f113_141 (t := 72) (by decide) ?_
        refine r_forget (ls' := [some (.inr (.inl (some 264))), some (.inl c), some (.inl i), some (.inl (i + 1)), none]) ⟨Or.inl rfl, ⟨Or.inl rfl, ⟨Or.inl rfl, ⟨Or.inl rfl, ⟨Or.inr ⟨rfl, rfl⟩, trivial⟩⟩⟩⟩⟩ ?_
        refine r_setI (k := 2) (a := i) (e := zfd (zstP (m 284) (m 272 c - m 264 9)) (-1) (i + 1)) (by rw [zfd_s (by omega)]; first | exact (if_pos (by omega)).symm | exact (if_neg (by omega)).symm) rfl (ls' := [some (.inr (.inl (some 264))), some (.inl c), some (.inl (zfd (zstP (m 284) (m 272 c - m 264 9)) (-1) (i + 1))), some (.inl (i + 1)), none]) rfl ?_
        exact ih (i + 1) (by omega) (by omega)
      · refine r_aload_n f113_117 rfl ?_
        refine r_getR f113_118 o113 F7_68 g264_25 rfl ?_
        refine r_iload_n f113_121 rfl ?_
        refine r_iald f113_122 kd284 (by omega) (by omega) ?_
        refine r_aload_n f113_123 rfl ?_
        refine r_getR f113_124 o113 F7_68 g264_25 rfl ?_
        refine r_iload_n f113_127 rfl ?_
        refine r_iald f113_128 kd284 (by omega) (by omega) ?_
        refine r_clt f113_129 (t := 136) (by decide) (fun q3 => ?_) (fun q3 => ?_)
        · refine r_iload_n f113_136 rfl ?_
          refine r_istore_n f113_137 rfl (ls' := [some (.inr (.inl (some 264))), some (.inl c), some (.inl (zfd (zstP (m 284) (m 272 c - m 264 9)) (-1) i)), some (.inl i), some (.inl 1)]) rfl ?_
          refine r_iinc f113_138 rfl rfl rfl (e := i + 1) (by omega) (by omega) (by omega) (ls' := [some (.inr (.inl (some 264))), some (.inl c), some (.inl (zfd (zstP (m 284) (m 272 c - m 264 9)) (-1) i)), some (.inl (i + 1)), some (.inl 1)]) rfl ?_
          refine r_goto f113_141 (t := 72) (by decide) ?_
          refine r_forget (ls' := [some (.inr (.inl (some 264))), some (.inl c), some (.inl (zfd (zstP (m 284) (m 272 c - m 264 9)) (-1) i)), some (.inl (i + 1)), none]) ⟨Or.inl rfl, ⟨Or.inl rfl, ⟨Or.inl rfl, ⟨Or.inl rfl, ⟨Or.inr ⟨rfl, rfl⟩, trivial⟩⟩⟩⟩⟩ ?_
          refine r_setI (k := 2) (a := zfd (zstP (m 284) (m 272 c - m 264 9)) (-1) i) (e := zfd (zstP (m 284) (m 272 c - m 264 9)) (-1) (i + 1)) (by rw [zfd_s (by omega)]; first | exact (if_pos (by omega)).symm | exact (if_neg (by omega)).symm) rfl (ls' := [some (.inr (.inl (some 264))), some (.inl c), some (.inl (zfd (zstP (m 284) (m 272 c - m 264 9)) (-1) (i + 1))), some (.inl (i + 1)), none]) rfl ?_
          exact ih (i + 1) (by omega) (by omega)
        · refine r_iload_n f113_132 rfl ?_
          refine r_goto f113_133 (t := 137) (by decide) ?_
          refine r_istore_n f113_137 rfl (ls' := [some (.inr (.inl (some 264))), some (.inl c), some (.inl i), some (.inl i), some (.inl 1)]) rfl ?_
          refine r_iinc f113_138 rfl rfl rfl (e := i + 1) (by omega) (by omega) (by omega) (ls' := [some (.inr (.inl (some 264))), some (.inl c), some (.inl i), some (.inl (i + 1)), some (.inl 1)]) rfl ?_
          refine r_goto f113_141 (t := 72) (by decide) ?_
          refine r_forget (ls' := [some (.inr (.inl (some 264))), some (.inl c), some (.inl i), some (.inl (i + 1)), none]) ⟨Or.inl rfl, ⟨Or.inl rfl, ⟨Or.inl rfl, ⟨Or.inl rfl, ⟨Or.inr ⟨rfl, rfl⟩, trivial⟩⟩⟩⟩⟩ ?_
          refine r_setI (k := 2) (a := i) (e := zfd (zstP (m 284) (m 272 c - m 264 9)) (-1) (i + 1)) (by rw [zfd_s (by omega)]; first | exact (if_pos (by omega)).symm | exact (if_neg (by omega)).symm) rfl (ls' := [some (.inr (.inl (some 264))), some (.inl c), some (.inl (zfd (zstP (m 284) (m 272 c - m 264 9)) (-1) (i + 1))), some (.inl (i + 1)), none]) rfl ?_
          exact ih (i + 1) (by omega) (by omega)

theorem t_XgiveUp {L d : Nat} {m : zmem} (k0 : 0 ≤ m 0 6) (k1 : m 0 6 ≤ 40) {c : Int} {v : Int} {X : zmem} (hX : (0 ≤ c ∧ c < m 0 6) → (m (64 + 5 * c) 7 = 1 ∧ m 0 7 < m (64 + 5 * c) 5) → zF L (d + 4) 75 [.inr (.inl (some 0)), .inr (.inl (some (64 + 5 * c))), .inl 0] m none X) (hR : (0 ≤ c ∧ c < m 0 6) → (m (64 + 5 * c) 7 = 1 ∧ m 0 7 < m (64 + 5 * c) 5) → (0 ≤ X (64 + 5 * c) 5 ∧ X (64 + 5 * c) 5 ≤ 39) ∧ (0 ≤ X 0 7 ∧ X 0 7 ≤ 39)) (hP : (0 ≤ c ∧ c < m 0 6) → (m (64 + 5 * c) 7 = 1 ∧ m 0 7 < m (64 + 5 * c) 5) → zF L (d + 4) 28 [.inr (.inl (some 60)), .inl (X (64 + 5 * c) 5 - X 0 7)] (zu X (64 + 5 * c) 7 2) (some (.inl v)) (zu X (64 + 5 * c) 7 2))  : zF L (d + 5) 55 [.inr (.inl (some 0)), .inl c] m (some (.inl (if (0 ≤ c ∧ c < m 0 6) then (if (m (64 + 5 * c) 7 = 1 ∧ m 0 7 < m (64 + 5 * c) 5) then v else -3) else -2))) (if (0 ≤ c ∧ c < m 0 6) then (if (m (64 + 5 * c) 7 = 1 ∧ m 0 7 < m (64 + 5 * c) 5) then (zu X (64 + 5 * c) 7 2) else m) else m) := by
  refine zF_of n55 (ls := [some (.inr (.inl (some 0))), some (.inl c), none]) rfl ?_
  refine r_aload_n f55_0 rfl ?_
  refine r_iload_n f55_1 rfl ?_
  refine r_callv1i (m' := m) f55_2 o55 M6_118 p69 o69 kd0 rfl (by simp) (t_isChainX c k0 k1) ?_
  refine r_ite (fun q1 => ?_) (fun q1 => ?_)
  · refine r_zne f55_5 (t := 11) (by decide) (fun _ => ?_) (fun h => absurd (by omega) h)
    refine r_aload_n f55_11 rfl ?_
    refine r_getR f55_12 o55 F6_27 g0_2 rfl ?_
    refine r_iload_n f55_15 rfl ?_
    refine r_aldC f55_16 (by omega) (by omega) ?_
    refine r_astore_n f55_17 rfl (ls' := [some (.inr (.inl (some 0))), some (.inl c), some (.inr (.inl (some (64 + 5 * c))))]) rfl ?_
    refine r_aload_n f55_18 rfl ?_
    refine r_getI f55_19 o55 F6_104 (gC_7 (c := c) (by omega) (by omega)) rfl ?_
    refine r_iconst f55_22 rfl ?_
    refine r_cne f55_23 (t := 37) (by decide) (fun q2 => ?_) (fun q2 => ?_)
    · refine r_bipush f55_37 (by decide) ?_
      exact r_iret f55_39 v55 ⟨zs_eq (by first | rfl | omega | ((repeat (first | rw [if_pos (by omega)] | rw [if_neg (by omega)])) <;> first | rfl | omega)), (by first | rfl | ((repeat (first | rw [if_pos (by omega)] | rw [if_neg (by omega)])); done) | ((repeat (first | rw [if_pos (by omega)] | rw [if_neg (by omega)])); rfl))⟩
    · refine r_aload_n f55_26 rfl ?_
      refine r_getI f55_27 o55 F6_121 (gC_5 (c := c) (by omega) (by omega)) rfl ?_
      refine r_aload_n f55_30 rfl ?_
      refine r_getI f55_31 o55 F6_94 g0_7 rfl ?_
      refine r_cgt f55_34 (t := 40) (by decide) (fun q3 => ?_) (fun q3 => ?_)
      · refine r_aload_n f55_40 rfl ?_
        refine r_aload_n f55_41 rfl ?_
        refine r_iconst f55_42 rfl ?_
        refine r_callv2u (m' := X) f55_43 o55 M6_152 p75 o75 kd0 rfl (by simp) (hX (by omega) (by omega)) ?_
        have hr := hR (by omega) (by omega)
        refine r_aload_n f55_46 rfl ?_
        refine r_iconst f55_47 rfl ?_
        refine r_put f55_48 o55 F6_104 (gC_7 (c := c) (by omega) (by omega)) rfl T0_7 U0_7 ?_
        refine r_aload_n f55_51 rfl ?_
        refine r_getR f55_52 o55 F6_41 g0_4 rfl ?_
        refine r_aload_n f55_55 rfl ?_
        refine r_getI f55_56 o55 F6_121 (gC_5 (c := c) (by omega) (by omega)) rfl ?_
        refine r_top (e := X (64 + 5 * c) 5) (by rw [zu_if, if_neg (by omega)]) ?_
        refine r_aload_n f55_59 rfl ?_
        refine r_getI f55_60 o55 F6_94 g0_7 rfl ?_
        refine r_top (e := X 0 7) (by rw [zu_if, if_neg (by omega)]) ?_
        refine r_isub f55_63 (e := X (64 + 5 * c) 5 - X 0 7) (by omega) (by omega) (by omega) ?_
        refine r_callv1i (m' := (zu X (64 + 5 * c) 7 2)) (v := v) f55_64 o55 M6_155 p28 o28 kd60 rfl (by simp) (hP (by omega) (by omega)) ?_
        exact r_iret f55_67 v55 ⟨zs_eq (by first | rfl | omega | ((repeat (first | rw [if_pos (by omega)] | rw [if_neg (by omega)])) <;> first | rfl | omega)), (by first | rfl | ((repeat (first | rw [if_pos (by omega)] | rw [if_neg (by omega)])); done) | ((repeat (first | rw [if_pos (by omega)] | rw [if_neg (by omega)])); rfl))⟩
      · refine r_bipush f55_37 (by decide) ?_
        exact r_iret f55_39 v55 ⟨zs_eq (by first | rfl | omega | ((repeat (first | rw [if_pos (by omega)] | rw [if_neg (by omega)])) <;> first | rfl | omega)), (by first | rfl | ((repeat (first | rw [if_pos (by omega)] | rw [if_neg (by omega)])); done) | ((repeat (first | rw [if_pos (by omega)] | rw [if_neg (by omega)])); rfl))⟩
  · refine r_zne f55_5 (t := 11) (by decide) (fun h => absurd h (by omega)) (fun _ => ?_)
    refine r_bipush f55_8 (by decide) ?_
    exact r_iret f55_10 v55 ⟨zs_eq (by first | rfl | omega | ((repeat (first | rw [if_pos (by omega)] | rw [if_neg (by omega)])) <;> first | rfl | omega)), (by first | rfl | ((repeat (first | rw [if_pos (by omega)] | rw [if_neg (by omega)])); done) | ((repeat (first | rw [if_pos (by omega)] | rw [if_neg (by omega)])); rfl))⟩

theorem t_MgiveUp {L d : Nat} {m1 m : zmem} (ha : zan m1 m) (k0 : 0 ≤ m 264 10) (k1 : m 264 10 ≤ 40) {c : Int} {M2 : zmem} {N : Int} (h3 : m 273 c = N) (hM : M2 = MLf c N.toNat 0 (zu m1 275 c 2)) (hW : (0 ≤ c ∧ c < m 264 10) → (m 275 c = 1 ∧ m 264 9 < m 272 c) → (0 ≤ N ∧ N ≤ 7) ∧ (0 ≤ M2 264 24 ∧ M2 264 24 ≤ 20) ∧ (0 ≤ M2 272 c ∧ M2 272 c ≤ 39) ∧ (0 ≤ M2 264 9 ∧ M2 264 9 ≤ 39))  : zF L (d + 5) 113 [.inr (.inl (some 264)), .inl c] m1 (some (.inl (if (0 ≤ c ∧ c < m 264 10) then (if (m 275 c = 1 ∧ m 264 9 < m 272 c) then (if zfd (zstP (M2 284) (M2 272 c - M2 264 9)) (-1) (M2 264 24) = -1 then 0 else M2 285 (zfd (zstP (M2 284) (M2 272 c - M2 264 9)) (-1) (M2 264 24))) else -3) else -2))) (if (0 ≤ c ∧ c < m 264 10) then (if (m 275 c = 1 ∧ m 264 9 < m 272 c) then M2 else m1) else m1) := by
  refine zF_of n113 (ls := [some (.inr (.inl (some 264))), some (.inl c), none, none, none]) rfl ?_
  refine r_aload_n f113_0 rfl ?_
  refine r_iload_n f113_1 rfl ?_
  refine r_callv1i (m' := m1) f113_2 o113 M7_125 p88 o88 kd264 rfl (by simp) (tN_isChain ha k0 k1 c) ?_
  refine r_ite (fun q1 => ?_) (fun q1 => ?_)
  · refine r_zne f113_5 (t := 11) (by decide) (fun _ => ?_) (fun h => absurd (by omega) h)
    refine r_aload_n f113_11 rfl ?_
    refine r_getR f113_12 o113 F7_41 g264_15 rfl ?_
    refine r_iload_n f113_15 rfl ?_
    refine r_iald f113_16 kd275 (by omega) (by omega) ?_
    refine r_top (e := m 275 c) (zan_f ha (by omega) (by omega) (by omega) _) ?_
    refine r_iconst f113_17 rfl ?_
    refine r_cne f113_18 (t := 34) (by decide) (fun q2 => ?_) (fun q2 => ?_)
    · refine r_bipush f113_34 (by decide) ?_
      exact r_iret f113_36 v113 ⟨zs_eq (by first | rfl | omega | ((repeat (first | rw [if_pos (by omega)] | rw [if_neg (by omega)])) <;> first | rfl | omega)), (by first | rfl | ((repeat (first | rw [if_pos (by omega)] | rw [if_neg (by omega)])); done) | ((repeat (first | rw [if_pos (by omega)] | rw [if_neg (by omega)])); rfl))⟩
    · refine r_aload_n f113_21 rfl ?_
      refine r_getR f113_22 o113 F7_32 g264_12 rfl ?_
      refine r_iload_n f113_25 rfl ?_
      refine r_iald f113_26 kd272 (by omega) (by omega) ?_
      refine r_top (e := m 272 c) (zan_f ha (by omega) (by omega) (by omega) _) ?_
      refine r_aload_n f113_27 rfl ?_
      refine r_getI f113_28 o113 F7_122 g264_9 rfl ?_
      refine r_top (e := m 264 9) (zan_f ha (by omega) (by omega) (by omega) _) ?_
      refine r_cgt f113_31 (t := 37) (by decide) (fun q3 => ?_) (fun q3 => ?_)
      · refine r_aload_n f113_37 rfl ?_
        refine r_getR f113_38 o113 F7_41 g264_15 rfl ?_
        refine r_iload_n f113_41 rfl ?_
        refine r_iconst f113_42 rfl ?_
        refine r_iast f113_43 kd275 (by omega) (by omega) (by omega) ?_
        refine r_iconst f113_44 rfl ?_
        refine r_istore_n f113_45 rfl (ls' := [some (.inr (.inl (some 264))), some (.inl c), some (.inl 0), none, none]) rfl ?_
        have hw := hW (by omega) (by omega)
        refine l_gup (N := N) (by omega) (by omega) (by omega) N.toNat 0 (zu m1 275 c 2) (by rw [zu_ne (by omega)]; exact (zan_f ha (by omega) (by omega) (by omega) _).trans h3) (by omega) (by omega) ?_
        rw [← hM]
        refine r_iconst f113_68 rfl ?_
        refine r_istore_n f113_69 rfl (ls' := [some (.inr (.inl (some 264))), some (.inl c), some (.inl (-1)), none, none]) rfl ?_
        refine r_iconst f113_70 rfl ?_
        refine r_istore_n f113_71 rfl (ls' := [some (.inr (.inl (some 264))), some (.inl c), some (.inl (-1)), some (.inl 0), none]) rfl ?_
        refine l_best (m := M2) (c := c) (by omega) (by omega) (by omega) (by omega) (by omega) (by omega) (by omega) (by omega) ?_ (M2 264 24).toNat 0 (by omega) (by omega)
        have hb := zfd_in (f := zstP (M2 284) (M2 272 c - M2 264 9)) (i := M2 264 24) (zstP_two _ _) (by omega)
        refine r_iload_n f113_144 rfl ?_
        refine r_iconst f113_145 rfl ?_
        refine r_cne f113_146 (t := 153) (by decide) (fun q4 => ?_) (fun q4 => ?_)
        · refine r_aload_n f113_153 rfl ?_
          refine r_getR f113_154 o113 F7_71 g264_26 rfl ?_
          refine r_iload_n f113_157 rfl ?_
          refine r_iald f113_158 kd285 (by omega) (by omega) ?_
          exact r_iret f113_159 v113 ⟨zs_eq (by first | rfl | omega | ((repeat (first | rw [if_pos (by omega)] | rw [if_neg (by omega)])) <;> first | rfl | omega)), (by first | rfl | ((repeat (first | rw [if_pos (by omega)] | rw [if_neg (by omega)])); done) | ((repeat (first | rw [if_pos (by omega)] | rw [if_neg (by omega)])); rfl))⟩
        · refine r_iconst f113_149 rfl ?_
          refine r_goto f113_150 (t := 159) (by decide) ?_
          exact r_iret f113_159 v113 ⟨zs_eq (by first | rfl | omega | ((repeat (first | rw [if_pos (by omega)] | rw [if_neg (by omega)])) <;> first | rfl | omega)), (by first | rfl | ((repeat (first | rw [if_pos (by omega)] | rw [if_neg (by omega)])); done) | ((repeat (first | rw [if_pos (by omega)] | rw [if_neg (by omega)])); rfl))⟩
      · refine r_bipush f113_34 (by decide) ?_
        exact r_iret f113_36 v113 ⟨zs_eq (by first | rfl | omega | ((repeat (first | rw [if_pos (by omega)] | rw [if_neg (by omega)])) <;> first | rfl | omega)), (by first | rfl | ((repeat (first | rw [if_pos (by omega)] | rw [if_neg (by omega)])); done) | ((repeat (first | rw [if_pos (by omega)] | rw [if_neg (by omega)])); rfl))⟩
  · refine r_zne f113_5 (t := 11) (by decide) (fun h => absurd h (by omega)) (fun _ => ?_)
    refine r_bipush f113_8 (by decide) ?_
    exact r_iret f113_10 v113 ⟨zs_eq (by first | rfl | omega | ((repeat (first | rw [if_pos (by omega)] | rw [if_neg (by omega)])) <;> first | rfl | omega)), (by first | rfl | ((repeat (first | rw [if_pos (by omega)] | rw [if_neg (by omega)])); done) | ((repeat (first | rw [if_pos (by omega)] | rw [if_neg (by omega)])); rfl))⟩

theorem pr_giveUp {L : Nat} {T : Int} {m : zmem} (hs : Sim T m m) (c : Int) : zPr L 55 113 [.inl c] T m := by
  have s1 := hs.s1
  unfold S1 at s1
  by_cases hg : (0 ≤ c ∧ c < m 264 10)
  · have k5 := hs.s5 c (by omega) (by omega)
    have hg2 : (0 ≤ c ∧ c < m 0 6) := by omega
    by_cases hc : (m 275 c = 1 ∧ m 264 9 < m 272 c)
    · have hc2 : (m (64 + 5 * c) 7 = 1 ∧ m 0 7 < m (64 + 5 * c) 5) := by omega
      have k8 := hs.s8 c (by omega) (by omega)
      have h280 : m 280 c = 0 := k8.2.2.1 (by omega)
      have hw : ∀ k, (0 : Int) ≤ k → k < 0 + ((m 273 c).toNat : Int) → 0 ≤ m (65 + 5 * c) k ∧ m (65 + 5 * c) k < 12 := fun k x y => by have := hs.s6 c hg.1 (by omega) k x (by omega); omega
      have lf := t_liftFrom (L := L) (d := 6) (f := 0) hs hg.1 hg.2 (by omega) (by omega) (Or.inr h280)
      rw [show m 273 c - 0 = m 273 c by omega] at lf
      have x0 : XLf c (m 273 c).toNat 0 m 0 = m 0 := XLf_o hg.1 (by omega) (by omega) (by omega) _ _ _ hw
      have x60 : XLf c (m 273 c).toNat 0 m 60 = m 60 := XLf_o hg.1 (by omega) (by omega) (by omega) _ _ _ hw
      have x61 : XLf c (m 273 c).toNat 0 m 61 = m 61 := XLf_o hg.1 (by omega) (by omega) (by omega) _ _ _ hw
      have x62 : XLf c (m 273 c).toNat 0 m 62 = m 62 := XLf_o hg.1 (by omega) (by omega) (by omega) _ _ _ hw
      have xc : XLf c (m 273 c).toNat 0 m (64 + 5 * c) = m (64 + 5 * c) := XLf_o hg.1 (by omega) (by omega) (by omega) _ _ _ hw
      have y60 : zu (XLf c (m 273 c).toNat 0 m) (64 + 5 * c) 7 2 60 = m 60 := by rw [zu_ne (by omega), x60]
      have y61 : zu (XLf c (m 273 c).toNat 0 m) (64 + 5 * c) 7 2 61 = m 61 := by rw [zu_ne (by omega), x61]
      have y62 : zu (XLf c (m 273 c).toNat 0 m) (64 + 5 * c) 7 2 62 = m 62 := by rw [zu_ne (by omega), x62]
      have hp := t_pay (L := L) (d := 7) (m := zu (XLf c (m 273 c).toNat 0 m) (64 + 5 * c) 7 2) (u := XLf c (m 273 c).toNat 0 m (64 + 5 * c) 5 - XLf c (m 273 c).toNat 0 m 0 7) (by rw [y60]; omega) (by rw [y60]; omega)
      have gx := t_XgiveUp (L := L) (d := 3) (m := m) (c := c) (by omega) (by omega) (fun _ _ => lf) (fun _ _ => by rw [xc, x0]; omega) (fun _ _ => hp)
      rw [if_pos hg2, if_pos hg2, if_pos hc2, if_pos hc2, y60, y61, y62, xc, x0, show m (64 + 5 * c) 5 = m 272 c by omega, show m 0 7 = m 264 9 by omega, show m 60 2 = m 264 24 by omega] at gx
      have fin := sm_refused (sm_lifts (m 273 c).toNat 0 m m hs hg.1 hg.2 (by omega) (by omega) (Or.inr h280)) hg.1 (by rw [MLf_o (by omega)]; exact hg.2)
      refine zPr_of gx (zan_x (XLf_an hg.1 (by omega) _ _ _ hw) (by omega)) (fun m1 ha => ?_) (Sim_T fin (by omega))
      have an : zan (MLf c (m 273 c).toNat 0 (zu m1 275 c 2)) (zu (MLf c (m 273 c).toNat 0 m) 275 c 2) := by
        rw [← MLf_st]
        exact MLf_an _ _ _ _ (zan_w ha)
      have e : ∀ p, ¬ p = 276 → ¬ p = 275 → (p ≠ 281 ∧ 264 ≤ p) → p ≠ 282 → p ≠ 283 → MLf c (m 273 c).toNat 0 (zu m1 275 c 2) p = m p := fun p q1 q2 q3 q4 q5 => by
        rw [MLf_o q1, zu_ne q2]; exact ha p q3 q4 q5
      have e264 := e 264 (by omega) (by omega) (by omega) (by omega) (by omega)
      have e272 := e 272 (by omega) (by omega) (by omega) (by omega) (by omega)
      have e284 := e 284 (by omega) (by omega) (by omega) (by omega) (by omega)
      have e285 := e 285 (by omega) (by omega) (by omega) (by omega) (by omega)
      have gm := t_MgiveUp (L := L) (d := 3) ha (c := c) (M2 := MLf c (m 273 c).toNat 0 (zu m1 275 c 2)) (N := m 273 c) (by omega) (by omega) rfl rfl (fun _ _ => by rw [e264, e272]; omega)
      rw [if_pos hg, if_pos hg, if_pos hc, if_pos hc, e264, e272, e284, e285] at gm
      have ez : zfd (zstP (m 284) (m 272 c - m 264 9)) (-1) (m 264 24) = zfd (zstP (m 61) (m 272 c - m 264 9)) (-1) (m 264 24) := by
        have q := zfd_c2 (f := zstP (m 61) (m 272 c - m 264 9)) (g := zstP (m 284) (m 272 c - m 264 9)) (zstP_two _ _) (m 264 24).toNat (fun k b k0 k1 kb => by
          have g1 := hs.s13 k k0 (by omega)
          unfold zstP
          rw [g1.1]
          rcases kb with z | z
          · rw [z]
            by_cases q : m 284 k ≤ m 272 c - m 264 9
            · rw [if_pos ⟨q, Or.inl rfl⟩, if_pos ⟨q, Or.inl rfl⟩]
            · rw [if_neg (fun x => q x.1), if_neg (fun x => q x.1)]
          · have g2 := hs.s13 b z.1 (by omega)
            rw [g2.1])
        rw [show (((m 264 24).toNat : Nat) : Int) = m 264 24 by omega] at q
        exact q.symm
      have zi := zfd_in (f := zstP (m 61) (m 272 c - m 264 9)) (i := m 264 24) (zstP_two _ _) (by omega)
      refine ⟨_, _, gm, ?_, zac_tr (MLf_ac _ _ _) (zac_u (zac_rf _) (by omega)), an⟩
      rw [ez]
      by_cases q : zfd (zstP (m 61) (m 272 c - m 264 9)) (-1) (m 264 24) = -1
      · rw [if_pos q, if_pos q]
      · rw [if_neg q, if_neg q]
        exact (hs.s13 _ (by omega) (by omega)).2.symm
    · have hc2 : ¬ (m (64 + 5 * c) 7 = 1 ∧ m 0 7 < m (64 + 5 * c) 5) := by omega
      have gx := t_XgiveUp (L := L) (d := 3) (m := m) (c := c) (v := 0) (X := m) (by omega) (by omega) (fun _ h => absurd h hc2) (fun _ h => absurd h hc2) (fun _ h => absurd h hc2)
      rw [if_pos hg2, if_pos hg2, if_neg hc2, if_neg hc2] at gx
      refine zPr_of gx (zan_rf m) (fun m1 ha => ?_) (Sim_T hs (by omega))
      have gm := t_MgiveUp (L := L) (d := 3) ha (c := c) (by omega) (by omega) rfl rfl (fun _ h => absurd h hc)
      rw [if_pos hg, if_pos hg, if_neg hc, if_neg hc] at gm
      exact ⟨_, _, gm, rfl, zac_rf _, ha⟩
  · have hg2 : ¬ (0 ≤ c ∧ c < m 0 6) := by omega
    have gx := t_XgiveUp (L := L) (d := 3) (m := m) (c := c) (v := 0) (X := m) (by omega) (by omega) (fun h => absurd h hg2) (fun h => absurd h hg2) (fun h => absurd h hg2)
    rw [if_neg hg2, if_neg hg2] at gx
    refine zPr_of gx (zan_rf m) (fun m1 ha => ?_) (Sim_T hs (by omega))
    have gm := t_MgiveUp (L := L) (d := 3) ha (c := c) (by omega) (by omega) rfl rfl (fun h => absurd h hg)
    rw [if_neg hg, if_neg hg] at gm
    exact ⟨_, _, gm, rfl, zac_rf _, ha⟩
