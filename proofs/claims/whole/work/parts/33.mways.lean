theorem zff_spec {P : Int → Prop} [DecidablePred P] : ∀ (n : Nat) (i : Int), (∃ k, i ≤ k ∧ k < i + n ∧ P k) → P (zff P i n) ∧ i ≤ zff P i n ∧ zff P i n < i + n ∧ ∀ k, i ≤ k → k < zff P i n → ¬ P k
  | 0, i, ⟨k, h1, h2, _⟩ => by omega
  | n + 1, i, ⟨k, h1, h2, h3⟩ => by
    unfold zff
    by_cases h : P i
    · rw [if_pos h]
      exact ⟨h, by omega, by omega, fun k a b => by omega⟩
    · rw [if_neg h]
      have hne : k ≠ i := fun e => h (e ▸ h3)
      obtain ⟨a, b, c, d⟩ := zff_spec n (i + 1) ⟨k, by omega, by omega, h3⟩
      refine ⟨a, by omega, by omega, fun k2 e1 e2 => ?_⟩
      by_cases e3 : k2 = i
      · rw [e3]; exact h
      · exact d k2 (by omega) e2
def zstM (ρ : Int → Int) (J : Int → Prop) [DecidablePred J] (g b : Int) : Int := if ¬ ρ g = -1 ∧ J g ∧ (b = -1 ∨ ρ g < b) then ρ g else b
theorem zstM_ex {ρ : Int → Int} {J : Int → Prop} [DecidablePred J] : ∀ {i : Int}, 0 ≤ i → zfd (zstM ρ J) (-1) i = -1 ∨ ∃ g, 0 ≤ g ∧ g < i ∧ J g ∧ ρ g = zfd (zstM ρ J) (-1) i ∧ ¬ ρ g = -1 := by
  intro i hi
  obtain ⟨n, rfl⟩ := Int.eq_ofNat_of_zero_le hi
  induction n with
  | zero => exact Or.inl rfl
  | succ n ih =>
    have ih := ih (by omega)
    rw [Int.natCast_succ, zfd_s (by omega)]
    generalize zfd (zstM ρ J) (-1) (n : Int) = b at ih
    by_cases h : (¬ ρ n = -1 ∧ J n ∧ (b = -1 ∨ ρ n < b))
    · rw [show zstM ρ J n b = ρ n from if_pos h]
      exact Or.inr ⟨n, by omega, by omega, h.2.1, rfl, h.1⟩
    · rw [show zstM ρ J n b = b from if_neg h]
      rcases ih with ih | ⟨g, a1, a2, a3, a4, a5⟩
      · exact Or.inl ih
      · exact Or.inr ⟨g, a1, by omega, a3, a4, a5⟩
/-- the model's table: fewest changes from a night on, -1: no way -/
def zTm (nh : Int) (J : Int → Int → Prop) [∀ a b, Decidable (J a b)] (Ma : Int → Int → Prop) [∀ a b, Decidable (Ma a b)] (wy : Int → Int) (last : Int) : Nat → Int → Int
  | 0, h => if Ma last h then (if wy last = h then 0 else 1) else -1
  | r + 1, h => if Ma (last - (r + 1 : Nat)) h ∧ ¬ zfd (zstM (zTm nh J Ma wy last r) (J h)) (-1) nh = -1 then zfd (zstM (zTm nh J Ma wy last r) (J h)) (-1) nh + (if wy (last - (r + 1 : Nat)) = h then 0 else 1) else -1
theorem zTm_b {nh : Int} (hn : 0 ≤ nh) {J : Int → Int → Prop} [∀ a b, Decidable (J a b)] {Ma : Int → Int → Prop} [∀ a b, Decidable (Ma a b)] {wy : Int → Int} {last : Int} : ∀ (r : Nat) (h : Int), zTm nh J Ma wy last r h = -1 ∨ (0 ≤ zTm nh J Ma wy last r h ∧ zTm nh J Ma wy last r h ≤ r + 1)
  | 0, h => by
    unfold zTm
    split
    · right; split <;> simp
    · left; rfl
  | r + 1, h => by
    unfold zTm
    split
    · next g =>
      rcases zstM_ex (ρ := zTm nh J Ma wy last r) (J := J h) hn with e | ⟨k, a1, a2, a3, a4, a5⟩
      · exact absurd e g.2
      · have := zTm_b hn (J := J) (Ma := Ma) (wy := wy) (last := last) r k
        rw [a4] at this
        right
        split <;> omega
    · left; rfl
abbrev MMa (m : zmem) (c a q i h : Int) : Prop := (¬ (i = a ∨ i = m 273 c - 1) ∨ m 274 (7 * c + i) = h) ∧ ((i = a ∧ q = 0) ∨ MR m h (i + m 272 c) (m 271 c))
abbrev MT (m : zmem) (c a q : Int) : Nat → Int → Int := zTm (m 264 0) (MJ m) (MMa m c a q) (fun k => m 274 (7 * c + k)) (m 273 c - 1)
abbrev MGa (m : zmem) (c a q i h : Int) : Int := MT m c a q (m 273 c - 1 - i).toNat h

def zpn (m : zmem) (G : Int → Int → Int) (nh last i h : Int) : zmem := fun p b => if p = 282 ∧ 0 ≤ b ∧ b % 12 < nh ∧ b / 12 ≤ last ∧ (i < b / 12 ∨ (b / 12 = i ∧ b % 12 < h)) then G (b / 12) (b % 12) else m p b
theorem zpn_n {m : zmem} {G : Int → Int → Int} {nh last i h p : Int} (hp : ¬ p = 282) : zpn m G nh last i h p = m p := by
  funext b
  unfold zpn
  rw [if_neg (by omega)]
theorem zpn_s {m : zmem} {G : Int → Int → Int} {nh last i h : Int} (h0 : 0 ≤ h) (h1 : h < nh) (h2 : nh ≤ 12) (i0 : 0 ≤ i) (i1 : i ≤ last) : zu (zpn m G nh last i h) 282 (h + 12 * i) (G i h) = zpn m G nh last i (h + 1) := by
  funext p b
  rw [zu_if]
  unfold zpn
  by_cases g : p = 282 ∧ b = h + 12 * i
  · rw [if_pos g, if_pos (by omega), show b / 12 = i by omega, show b % 12 = h by omega]
  · rw [if_neg g]
    by_cases g2 : p = 282 ∧ 0 ≤ b ∧ b % 12 < nh ∧ b / 12 ≤ last ∧ (i < b / 12 ∨ (b / 12 = i ∧ b % 12 < h))
    · rw [if_pos g2, if_pos (by omega)]
    · rw [if_neg g2, if_neg (by omega)]
theorem zpn_r {m : zmem} {G : Int → Int → Int} {nh last i : Int} : zpn m G nh last i nh = zpn m G nh last (i - 1) 0 := by
  funext p b
  unfold zpn
  by_cases g2 : p = 282 ∧ 0 ≤ b ∧ b % 12 < nh ∧ b / 12 ≤ last ∧ (i < b / 12 ∨ (b / 12 = i ∧ b % 12 < nh))
  · rw [if_pos g2, if_pos (by omega)]
  · rw [if_neg g2, if_neg (by omega)]
theorem zpn_0 {m : zmem} {G : Int → Int → Int} {nh last : Int} : zpn m G nh last last 0 = m := by
  funext p b
  unfold zpn
  rw [if_neg (by omega)]

theorem zpn_v {m : zmem} {G : Int → Int → Int} {nh last i h g k : Int} (g0 : 0 ≤ g) (g1 : g < nh) (g2 : nh ≤ 12) (i0 : 0 ≤ k) (i1 : k ≤ last) (hk : i < k ∨ (i = k ∧ g < h)) : zpn m G nh last i h 282 (g + 12 * k) = G k g := by
  unfold zpn
  rw [if_pos (by omega), show (g + 12 * k) / 12 = k by omega, show (g + 12 * k) % 12 = g by omega]
theorem zpn_an {m1 m : zmem} (ha : zan m1 m) {G : Int → Int → Int} {nh last i h : Int} : zan (zpn m1 G nh last i h) m := by
  intro p h1 h2 h3
  rw [zpn_n h2]
  exact ha p h1 h2 h3
abbrev MPm (m1 m : zmem) (c a q i h : Int) : zmem := zpn m1 (MGa m c a q) (m 264 0) (m 273 c - 1) i h
theorem MGa_0 {m : zmem} {c a q i h : Int} (hi : i = m 273 c - 1) : MGa m c a q i h = if MMa m c a q i h then (if m 274 (7 * c + i) = h then 0 else 1) else -1 := by
  unfold MGa MT
  rw [show (m 273 c - 1 - i).toNat = 0 by omega, hi]
  rfl
theorem MGa_s {m : zmem} {c a q i h : Int} (hi : i < m 273 c - 1) : MGa m c a q i h = if MMa m c a q i h ∧ ¬ zfd (zstM (MGa m c a q (i + 1)) (MJ m h)) (-1) (m 264 0) = -1 then zfd (zstM (MGa m c a q (i + 1)) (MJ m h)) (-1) (m 264 0) + (if m 274 (7 * c + i) = h then 0 else 1) else -1 := by
  have e : MGa m c a q (i + 1) = MT m c a q (m 273 c - 1 - i - 1).toNat := by
    funext g
    show MT m c a q _ g = _
    rw [show m 273 c - 1 - (i + 1) = m 273 c - 1 - i - 1 by omega]
  rw [e]
  unfold MGa MT
  obtain ⟨r, hr⟩ : ∃ r : Nat, m 273 c - 1 - i = (r + 1 : Nat) := ⟨(m 273 c - 2 - i).toNat, by omega⟩
  rw [show (m 273 c - 1 - i).toNat = r + 1 by omega, show (m 273 c - 1 - i - 1).toNat = r by omega, zTm, show m 273 c - 1 - ((r + 1 : Nat) : Int) = i by omega]
theorem l_waysg {L d : Nat} {m1 m : zmem} (ha : zan m1 m) (hk : MOk m) (hr : MRng m) {c : Int} (c0 : 0 ≤ c) (c1 : c < 40) (l2 : m 272 c + m 273 c ≤ 40) (hw : ∀ k, 0 ≤ k → k < m 273 c → 0 ≤ m 274 (7 * c + k) ∧ m 274 (7 * c + k) < m 264 0) {a q : Int} (a0 : 0 ≤ a) (a1 : a < m 273 c) (q0 : q = 0 ∨ q = 1) {i h x y : Int} (i0 : 0 ≤ i) (i1 : i < m 273 c - 1) (h0 : 0 ≤ h) (h1 : h < m 264 0) {Q : Option zV → zM → Prop} (hx : zR (d + 5) 108 210 [some (.inr (.inl (some 264))), some (.inl c), some (.inl a), some (.inl q), some (.inl (m 273 c - 1)), some (.inl i), some (.inl h), some (.inl x), some (.inl y), some (.inl (zfd (zstM (MGa m c a q (i + 1)) (MJ m h)) (-1) (m 264 0))), some (.inl (m 264 0)), none] [] (zem L (MPm m1 m c a q i h)) Q) : ∀ (n : Nat) (j : Int), 0 ≤ j → j + n = m 264 0 → zR (d + 5) 108 132 [some (.inr (.inl (some 264))), some (.inl c), some (.inl a), some (.inl q), some (.inl (m 273 c - 1)), some (.inl i), some (.inl h), some (.inl x), some (.inl y), some (.inl (zfd (zstM (MGa m c a q (i + 1)) (MJ m h)) (-1) j)), some (.inl j), none] [] (zem L (MPm m1 m c a q i h)) Q := by
  have kc := hk.2.2.1 c c0 c1
  have kh := hk.2.1
  intro n
  induction n with
  | zero =>
    intro j hj hn
    have ei : j = m 264 0 := by omega
    rw [ei]
    refine r_iload f108_132 rfl ?_
    refine r_aload_n f108_134 rfl ?_
    refine r_getI f108_135 o108 F7_86 g264_0 rfl ?_
    refine r_top (e := m 264 0) (zan_f (zpn_an ha) (by omega) (by omega) (by omega) _) ?_
    refine r_cge f108_138 (t := 210) (by decide) (fun _ => ?_) (fun h => absurd (by omega) h)
    exact hx
  | succ n ih =>
    intro j hj hn
    have hb := zTm_b kh.1 (J := MJ m) (Ma := MMa m c a q) (wy := fun k => m 274 (7 * c + k)) (last := m 273 c - 1) (m 273 c - 1 - (i + 1)).toNat j
    have hb : MGa m c a q (i + 1) j = -1 ∨ (0 ≤ MGa m c a q (i + 1) j ∧ MGa m c a q (i + 1) j ≤ 8) := by
      rcases hb with hb | hb
      · exact Or.inl hb
      · exact Or.inr ⟨hb.1, Int.le_trans hb.2 (by omega)⟩
    refine r_iload f108_132 rfl ?_
    refine r_aload_n f108_134 rfl ?_
    refine r_getI f108_135 o108 F7_86 g264_0 rfl ?_
    refine r_top (e := m 264 0) (zan_f (zpn_an ha) (by omega) (by omega) (by omega) _) ?_
    refine r_cge f108_138 (t := 210) (by decide) (fun h => absurd h (by omega)) (fun _ => ?_)
    refine r_iload f108_141 rfl ?_
    refine r_iload f108_143 rfl ?_
    refine r_cge f108_145 (t := 210) (by decide) (fun h => absurd h (by omega)) (fun _ => ?_)
    refine r_aload_n f108_148 rfl ?_
    refine r_getR f108_149 o108 F7_62 g264_22 rfl ?_
    refine r_bipush f108_152 (by decide) ?_
    refine r_iload f108_154 rfl ?_
    refine r_iconst f108_156 rfl ?_
    refine r_iadd f108_157 (e := i + 1) (by omega) (by omega) (by omega) ?_
    refine r_imul f108_158 (e := 12 * i + 12) (by omega) (by omega) (by omega) ?_
    refine r_iload f108_159 rfl ?_
    refine r_iadd f108_161 (e := 12 * i + j + 12) (by omega) (by omega) (by omega) ?_
    refine r_iald f108_162 kd282 (by omega) (by omega) ?_
    refine r_top (e := MGa m c a q (i + 1) j) ((congrArg ((MPm m1 m c a q i h) 282) (show _ = j + 12 * (i + 1) by omega)).trans (zpn_v (by omega) (by omega) (by omega) (by omega) (by omega) (by omega))) ?_
    refine r_istore f108_163 rfl (ls' := [some (.inr (.inl (some 264))), some (.inl c), some (.inl a), some (.inl q), some (.inl (m 273 c - 1)), some (.inl i), some (.inl h), some (.inl x), some (.inl y), some (.inl (zfd (zstM (MGa m c a q (i + 1)) (MJ m h)) (-1) j)), some (.inl j), some (.inl (MGa m c a q (i + 1) j))]) rfl ?_
    refine r_iload f108_165 rfl ?_
    refine r_iconst f108_167 rfl ?_
    refine r_ceq f108_168 (t := 200) (by decide) (fun q1 => ?_) (fun q1 => ?_)
    · refine r_iload f108_200 rfl ?_
      refine r_istore f108_202 rfl (ls' := [some (.inr (.inl (some 264))), some (.inl c), some (.inl a), some (.inl q), some (.inl (m 273 c - 1)), some (.inl i), some (.inl h), some (.inl x), some (.inl y), some (.inl (zfd (zstM (MGa m c a q (i + 1)) (MJ m h)) (-1) j)), some (.inl j), some (.inl (MGa m c a q (i + 1) j))]) rfl ?_
      refine r_iinc f108_204 rfl rfl rfl (e := j + 1) (by omega) (by omega) (by omega) (ls' := [some (.inr (.inl (some 264))), some (.inl c), some (.inl a), some (.inl q), some (.inl (m 273 c - 1)), some (.inl i), some (.inl h), some (.inl x), some (.inl y), some (.inl (zfd (zstM (MGa m c a q (i + 1)) (MJ m h)) (-1) j)), some (.inl (j + 1)), some (.inl (MGa m c a q (i + 1) j))]) rfl ?_
      refine r_goto f108_207 (t := 132) (by decide) ?_
      refine r_forget (ls' := [some (.inr (.inl (some 264))), some (.inl c), some (.inl a), some (.inl q), some (.inl (m 273 c - 1)), some (.inl i), some (.inl h), some (.inl x), some (.inl y), some (.inl (zfd (zstM (MGa m c a q (i + 1)) (MJ m h)) (-1) j)), some (.inl (j + 1)), none]) ⟨Or.inl rfl, ⟨Or.inl rfl, ⟨Or.inl rfl, ⟨Or.inl rfl, ⟨Or.inl rfl, ⟨Or.inl rfl, ⟨Or.inl rfl, ⟨Or.inl rfl, ⟨Or.inl rfl, ⟨Or.inl rfl, ⟨Or.inl rfl, ⟨Or.inr ⟨rfl, rfl⟩, trivial⟩⟩⟩⟩⟩⟩⟩⟩⟩⟩⟩⟩ ?_
      refine r_setI (k := 9) (a := zfd (zstM (MGa m c a q (i + 1)) (MJ m h)) (-1) j) (e := zfd (zstM (MGa m c a q (i + 1)) (MJ m h)) (-1) (j + 1)) (by rw [zfd_s (by omega)]; first | exact (if_pos (by omega)).symm | exact (if_neg (by omega)).symm) rfl (ls' := [some (.inr (.inl (some 264))), some (.inl c), some (.inl a), some (.inl q), some (.inl (m 273 c - 1)), some (.inl i), some (.inl h), some (.inl x), some (.inl y), some (.inl (zfd (zstM (MGa m c a q (i + 1)) (MJ m h)) (-1) (j + 1))), some (.inl (j + 1)), none]) rfl ?_
      exact ih (j + 1) (by omega) (by omega)
    · refine r_aload_n f108_171 rfl ?_
      refine r_iload f108_172 rfl ?_
      refine r_iload f108_174 rfl ?_
      refine r_callv2i (m' := (MPm m1 m c a q i h)) f108_176 o108 M7_128 p102 o102 kd264 rfl (by simp) (t_joinM (zpn_an ha) (a := h) (b := j) (by omega) (by omega) (by omega) (by omega)) ?_
      refine r_ite (fun q2 => ?_) (fun q2 => ?_)
      · refine r_zeq f108_179 (t := 200) (by decide) (fun h => absurd h (by omega)) (fun _ => ?_)
        refine r_iload f108_182 rfl ?_
        refine r_iconst f108_184 rfl ?_
        refine r_ceq f108_185 (t := 195) (by decide) (fun q3 => ?_) (fun q3 => ?_)
        · refine r_iload f108_195 rfl ?_
          refine r_goto f108_197 (t := 202) (by decide) ?_
          refine r_istore f108_202 rfl (ls' := [some (.inr (.inl (some 264))), some (.inl c), some (.inl a), some (.inl q), some (.inl (m 273 c - 1)), some (.inl i), some (.inl h), some (.inl x), some (.inl y), some (.inl (MGa m c a q (i + 1) j)), some (.inl j), some (.inl (MGa m c a q (i + 1) j))]) rfl ?_
          refine r_iinc f108_204 rfl rfl rfl (e := j + 1) (by omega) (by omega) (by omega) (ls' := [some (.inr (.inl (some 264))), some (.inl c), some (.inl a), some (.inl q), some (.inl (m 273 c - 1)), some (.inl i), some (.inl h), some (.inl x), some (.inl y), some (.inl (MGa m c a q (i + 1) j)), some (.inl (j + 1)), some (.inl (MGa m c a q (i + 1) j))]) rfl ?_
          refine r_goto f108_207 (t := 132) (by decide) ?_
          refine r_forget (ls' := [some (.inr (.inl (some 264))), some (.inl c), some (.inl a), some (.inl q), some (.inl (m 273 c - 1)), some (.inl i), some (.inl h), some (.inl x), some (.inl y), some (.inl (MGa m c a q (i + 1) j)), some (.inl (j + 1)), none]) ⟨Or.inl rfl, ⟨Or.inl rfl, ⟨Or.inl rfl, ⟨Or.inl rfl, ⟨Or.inl rfl, ⟨Or.inl rfl, ⟨Or.inl rfl, ⟨Or.inl rfl, ⟨Or.inl rfl, ⟨Or.inl rfl, ⟨Or.inl rfl, ⟨Or.inr ⟨rfl, rfl⟩, trivial⟩⟩⟩⟩⟩⟩⟩⟩⟩⟩⟩⟩ ?_
          refine r_setI (k := 9) (a := MGa m c a q (i + 1) j) (e := zfd (zstM (MGa m c a q (i + 1)) (MJ m h)) (-1) (j + 1)) (by rw [zfd_s (by omega)]; first | exact (if_pos (by omega)).symm | exact (if_neg (by omega)).symm) rfl (ls' := [some (.inr (.inl (some 264))), some (.inl c), some (.inl a), some (.inl q), some (.inl (m 273 c - 1)), some (.inl i), some (.inl h), some (.inl x), some (.inl y), some (.inl (zfd (zstM (MGa m c a q (i + 1)) (MJ m h)) (-1) (j + 1))), some (.inl (j + 1)), none]) rfl ?_
          exact ih (j + 1) (by omega) (by omega)
        · refine r_iload f108_188 rfl ?_
          refine r_iload f108_190 rfl ?_
          refine r_cge f108_192 (t := 200) (by decide) (fun q4 => ?_) (fun q4 => ?_)
          · refine r_iload f108_200 rfl ?_
            refine r_istore f108_202 rfl (ls' := [some (.inr (.inl (some 264))), some (.inl c), some (.inl a), some (.inl q), some (.inl (m 273 c - 1)), some (.inl i), some (.inl h), some (.inl x), some (.inl y), some (.inl (zfd (zstM (MGa m c a q (i + 1)) (MJ m h)) (-1) j)), some (.inl j), some (.inl (MGa m c a q (i + 1) j))]) rfl ?_
            refine r_iinc f108_204 rfl rfl rfl (e := j + 1) (by omega) (by omega) (by omega) (ls' := [some (.inr (.inl (some 264))), some (.inl c), some (.inl a), some (.inl q), some (.inl (m 273 c - 1)), some (.inl i), some (.inl h), some (.inl x), some (.inl y), some (.inl (zfd (zstM (MGa m c a q (i + 1)) (MJ m h)) (-1) j)), some (.inl (j + 1)), some (.inl (MGa m c a q (i + 1) j))]) rfl ?_
            refine r_goto f108_207 (t := 132) (by decide) ?_
            refine r_forget (ls' := [some (.inr (.inl (some 264))), some (.inl c), some (.inl a), some (.inl q), some (.inl (m 273 c - 1)), some (.inl i), some (.inl h), some (.inl x), some (.inl y), some (.inl (zfd (zstM (MGa m c a q (i + 1)) (MJ m h)) (-1) j)), some (.inl (j + 1)), none]) ⟨Or.inl rfl, ⟨Or.inl rfl, ⟨Or.inl rfl, ⟨Or.inl rfl, ⟨Or.inl rfl, ⟨Or.inl rfl, ⟨Or.inl rfl, ⟨Or.inl rfl, ⟨Or.inl rfl, ⟨Or.inl rfl, ⟨Or.inl rfl, ⟨Or.inr ⟨rfl, rfl⟩, trivial⟩⟩⟩⟩⟩⟩⟩⟩⟩⟩⟩⟩ ?_
            refine r_setI (k := 9) (a := zfd (zstM (MGa m c a q (i + 1)) (MJ m h)) (-1) j) (e := zfd (zstM (MGa m c a q (i + 1)) (MJ m h)) (-1) (j + 1)) (by rw [zfd_s (by omega)]; first | exact (if_pos (by omega)).symm | exact (if_neg (by omega)).symm) rfl (ls' := [some (.inr (.inl (some 264))), some (.inl c), some (.inl a), some (.inl q), some (.inl (m 273 c - 1)), some (.inl i), some (.inl h), some (.inl x), some (.inl y), some (.inl (zfd (zstM (MGa m c a q (i + 1)) (MJ m h)) (-1) (j + 1))), some (.inl (j + 1)), none]) rfl ?_
            exact ih (j + 1) (by omega) (by omega)
          · refine r_iload f108_195 rfl ?_
            refine r_goto f108_197 (t := 202) (by decide) ?_
            refine r_istore f108_202 rfl (ls' := [some (.inr (.inl (some 264))), some (.inl c), some (.inl a), some (.inl q), some (.inl (m 273 c - 1)), some (.inl i), some (.inl h), some (.inl x), some (.inl y), some (.inl (MGa m c a q (i + 1) j)), some (.inl j), some (.inl (MGa m c a q (i + 1) j))]) rfl ?_
            refine r_iinc f108_204 rfl rfl rfl (e := j + 1) (by omega) (by omega) (by omega) (ls' := [some (.inr (.inl (some 264))), some (.inl c), some (.inl a), some (.inl q), some (.inl (m 273 c - 1)), some (.inl i), some (.inl h), some (.inl x), some (.inl y), some (.inl (MGa m c a q (i + 1) j)), some (.inl (j + 1)), some (.inl (MGa m c a q (i + 1) j))]) rfl ?_
            refine r_goto f108_207 (t := 132) (by decide) ?_
            refine r_forget (ls' := [some (.inr (.inl (some 264))), some (.inl c), some (.inl a), some (.inl q), some (.inl (m 273 c - 1)), some (.inl i), some (.inl h), some (.inl x), some (.inl y), some (.inl (MGa m c a q (i + 1) j)), some (.inl (j + 1)), none]) ⟨Or.inl rfl, ⟨Or.inl rfl, ⟨Or.inl rfl, ⟨Or.inl rfl, ⟨Or.inl rfl, ⟨Or.inl rfl, ⟨Or.inl rfl, ⟨Or.inl rfl, ⟨Or.inl rfl, ⟨Or.inl rfl, ⟨Or.inl rfl, ⟨Or.inr ⟨rfl, rfl⟩, trivial⟩⟩⟩⟩⟩⟩⟩⟩⟩⟩⟩⟩ ?_
            refine r_setI (k := 9) (a := MGa m c a q (i + 1) j) (e := zfd (zstM (MGa m c a q (i + 1)) (MJ m h)) (-1) (j + 1)) (by rw [zfd_s (by omega)]; first | exact (if_pos (by omega)).symm | exact (if_neg (by omega)).symm) rfl (ls' := [some (.inr (.inl (some 264))), some (.inl c), some (.inl a), some (.inl q), some (.inl (m 273 c - 1)), some (.inl i), some (.inl h), some (.inl x), some (.inl y), some (.inl (zfd (zstM (MGa m c a q (i + 1)) (MJ m h)) (-1) (j + 1))), some (.inl (j + 1)), none]) rfl ?_
            exact ih (j + 1) (by omega) (by omega)
      · refine r_zeq f108_179 (t := 200) (by decide) (fun _ => ?_) (fun h => absurd (by omega) h)
        refine r_iload f108_200 rfl ?_
        refine r_istore f108_202 rfl (ls' := [some (.inr (.inl (some 264))), some (.inl c), some (.inl a), some (.inl q), some (.inl (m 273 c - 1)), some (.inl i), some (.inl h), some (.inl x), some (.inl y), some (.inl (zfd (zstM (MGa m c a q (i + 1)) (MJ m h)) (-1) j)), some (.inl j), some (.inl (MGa m c a q (i + 1) j))]) rfl ?_
        refine r_iinc f108_204 rfl rfl rfl (e := j + 1) (by omega) (by omega) (by omega) (ls' := [some (.inr (.inl (some 264))), some (.inl c), some (.inl a), some (.inl q), some (.inl (m 273 c - 1)), some (.inl i), some (.inl h), some (.inl x), some (.inl y), some (.inl (zfd (zstM (MGa m c a q (i + 1)) (MJ m h)) (-1) j)), some (.inl (j + 1)), some (.inl (MGa m c a q (i + 1) j))]) rfl ?_
        refine r_goto f108_207 (t := 132) (by decide) ?_
        refine r_forget (ls' := [some (.inr (.inl (some 264))), some (.inl c), some (.inl a), some (.inl q), some (.inl (m 273 c - 1)), some (.inl i), some (.inl h), some (.inl x), some (.inl y), some (.inl (zfd (zstM (MGa m c a q (i + 1)) (MJ m h)) (-1) j)), some (.inl (j + 1)), none]) ⟨Or.inl rfl, ⟨Or.inl rfl, ⟨Or.inl rfl, ⟨Or.inl rfl, ⟨Or.inl rfl, ⟨Or.inl rfl, ⟨Or.inl rfl, ⟨Or.inl rfl, ⟨Or.inl rfl, ⟨Or.inl rfl, ⟨Or.inl rfl, ⟨Or.inr ⟨rfl, rfl⟩, trivial⟩⟩⟩⟩⟩⟩⟩⟩⟩⟩⟩⟩ ?_
        refine r_setI (k := 9) (a := zfd (zstM (MGa m c a q (i + 1)) (MJ m h)) (-1) j) (e := zfd (zstM (MGa m c a q (i + 1)) (MJ m h)) (-1) (j + 1)) (by rw [zfd_s (by omega)]; first | exact (if_pos (by omega)).symm | exact (if_neg (by omega)).symm) rfl (ls' := [some (.inr (.inl (some 264))), some (.inl c), some (.inl a), some (.inl q), some (.inl (m 273 c - 1)), some (.inl i), some (.inl h), some (.inl x), some (.inl y), some (.inl (zfd (zstM (MGa m c a q (i + 1)) (MJ m h)) (-1) (j + 1))), some (.inl (j + 1)), none]) rfl ?_
        exact ih (j + 1) (by omega) (by omega)
