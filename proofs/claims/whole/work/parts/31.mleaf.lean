abbrev MH (m : zmem) (c t : Int) : Prop := 0 ≤ t - m 272 c ∧ t - m 272 c < m 273 c
theorem t_placeOf {L d : Nat} {m : zmem} {c : Int} (c0 : 0 ≤ c) (c1 : c < 40) (f0 : 0 ≤ m 272 c) (f1 : m 272 c ≤ 39) (l0 : 0 ≤ m 273 c) (l1 : m 273 c ≤ 7) {t : Int} (t0 : 0 ≤ t) (t1 : t < 40)  : zF L (d + 1) 92 [.inr (.inl (some 264)), .inl c, .inl t] m (some (.inl (if MH m c t then 7 * c + t - m 272 c else -1))) m := by
  refine zF_of n92 (ls := [some (.inr (.inl (some 264))), some (.inl c), some (.inl t), none]) rfl ?_
  refine r_iload_n f92_0 rfl ?_
  refine r_aload_n f92_1 rfl ?_
  refine r_getR f92_2 o92 F7_32 g264_12 rfl ?_
  refine r_iload_n f92_5 rfl ?_
  refine r_iald f92_6 kd272 (by omega) (by omega) ?_
  refine r_isub f92_7 (e := t - m 272 c) (by omega) (by omega) (by omega) ?_
  refine r_istore_n f92_8 rfl (ls' := [some (.inr (.inl (some 264))), some (.inl c), some (.inl t), some (.inl (t - m 272 c))]) rfl ?_
  refine r_iload_n f92_9 rfl ?_
  refine r_iconst f92_10 rfl ?_
  refine r_aload_n f92_11 rfl ?_
  refine r_getR f92_12 o92 F7_35 g264_13 rfl ?_
  refine r_iload_n f92_15 rfl ?_
  refine r_iald f92_16 kd273 (by omega) (by omega) ?_
  refine r_iconst f92_17 rfl ?_
  refine r_isub f92_18 (e := m 273 c - 1) (by omega) (by omega) (by omega) ?_
  refine r_calls3i (m' := m) f92_19 o92 M7_90 (Or.inl rfl) p85 rfl (by simp) (t_in (t - m 272 c) 0 (m 273 c - 1)) ?_
  refine r_ite (fun q1 => ?_) (fun q1 => ?_)
  · refine r_zeq f92_22 (t := 34) (by decide) (fun h => absurd h (by omega)) (fun _ => ?_)
    refine r_bipush f92_25 (by decide) ?_
    refine r_iload_n f92_27 rfl ?_
    refine r_imul f92_28 (e := 7 * c) (by omega) (by omega) (by omega) ?_
    refine r_iload_n f92_29 rfl ?_
    refine r_iadd f92_30 (e := 7 * c + t - m 272 c) (by omega) (by omega) (by omega) ?_
    refine r_goto f92_31 (t := 35) (by decide) ?_
    exact r_iret f92_35 v92 ⟨zs_eq (by first | rfl | omega | (repeat (first | rw [if_pos (by omega)] | rw [if_neg (by omega)]))), rfl⟩
  · refine r_zeq f92_22 (t := 34) (by decide) (fun _ => ?_) (fun h => absurd (by omega) h)
    refine r_iconst f92_34 rfl ?_
    exact r_iret f92_35 v92 ⟨zs_eq (by first | rfl | omega | (repeat (first | rw [if_pos (by omega)] | rw [if_neg (by omega)]))), rfl⟩

abbrev MJ (m : zmem) (a b : Int) : Prop := a = b ∨ 0 < m 270 (12 * a + b)
theorem t_areJoined {L d : Nat} {m : zmem} {a b : Int} (a0 : 0 ≤ a) (a1 : a < 12) (b0 : 0 ≤ b) (b1 : b < 12) : zF L (d) 102 [.inr (.inl (some 264)), .inl a, .inl b] m (some (.inl (if MJ m a b then 1 else 0))) m := by
  refine zF_of n102 (ls := [some (.inr (.inl (some 264))), some (.inl a), some (.inl b)]) rfl ?_
  refine r_iload_n f102_0 rfl ?_
  refine r_iload_n f102_1 rfl ?_
  refine r_ceq f102_2 (t := 19) (by decide) (fun q1 => ?_) (fun q1 => ?_)
  · refine r_iconst f102_19 rfl ?_
    refine r_goto f102_20 (t := 24) (by decide) ?_
    exact r_zret f102_24 v102 (by omega) ⟨zs_eq (by first | rfl | omega | (repeat (first | rw [if_pos (by omega)] | rw [if_neg (by omega)]))), rfl⟩
  · refine r_aload_n f102_5 rfl ?_
    refine r_getR f102_6 o102 F7_26 g264_8 rfl ?_
    refine r_bipush f102_9 (by decide) ?_
    refine r_iload_n f102_11 rfl ?_
    refine r_imul f102_12 (e := 12 * a) (by omega) (by omega) (by omega) ?_
    refine r_iload_n f102_13 rfl ?_
    refine r_iadd f102_14 (e := 12 * a + b) (by omega) (by omega) (by omega) ?_
    refine r_iald f102_15 kd270 (by omega) (by omega) ?_
    refine r_zle f102_16 (t := 23) (by decide) (fun q2 => ?_) (fun q2 => ?_)
    · refine r_iconst f102_23 rfl ?_
      exact r_zret f102_24 v102 (by omega) ⟨zs_eq (by first | rfl | omega | (repeat (first | rw [if_pos (by omega)] | rw [if_neg (by omega)]))), rfl⟩
    · refine r_iconst f102_19 rfl ?_
      refine r_goto f102_20 (t := 24) (by decide) ?_
      exact r_zret f102_24 v102 (by omega) ⟨zs_eq (by first | rfl | omega | (repeat (first | rw [if_pos (by omega)] | rw [if_neg (by omega)]))), rfl⟩

def MCf (m : zmem) (h e t i : Int) : Int := if MH m i t ∧ ¬ m 276 (7 * i + t - m 272 i) = 0 ∧ m 274 (7 * i + t - m 272 i) = h then m 277 (e + 21 * i + 3 * t - 3 * (m 272 i)) else 0
def MF (m : zmem) (h e t : Int) : Int := m 265 (e + 3 * h) - m 269 (e + 120 * h + 3 * t) - zsum (MCf m h e t) (m 264 10)
/-- ranges that the model's reads need -/
def MOk (m : zmem) : Prop := (0 ≤ m 264 10 ∧ m 264 10 ≤ 40) ∧ (0 ≤ m 264 0 ∧ m 264 0 ≤ 12) ∧ (∀ c, 0 ≤ c → c < 40 → (0 ≤ m 272 c ∧ m 272 c ≤ 39) ∧ (0 ≤ m 273 c ∧ m 273 c ≤ 7)) ∧ (∀ k, 0 ≤ k → k < 840 → 0 ≤ m 277 k ∧ m 277 k ≤ 9) ∧ (∀ k, 0 ≤ k → k < 36 → 0 ≤ m 265 k ∧ m 265 k ≤ 9) ∧ (∀ k, 0 ≤ k → k < 1440 → 0 ≤ m 269 k ∧ m 269 k ≤ 9)
theorem l_freeIn {L d : Nat} {m : zmem} (hk : MOk m) {h e : Int} (h0 : 0 ≤ h) (h1 : h < 12) (e0 : 0 ≤ e) (e1 : e < 3) {t : Int} (t0 : 0 ≤ t) (t1 : t < 40)  {Q : Option zV → zM → Prop} (hx : zR (d + 2) 93 98 [some (.inr (.inl (some 264))), some (.inl h), some (.inl e), some (.inl t), some (.inl (m 265 (e + 3 * h) - m 269 (e + 120 * h + 3 * t) - zsum (MCf m h e t) (m 264 10))), some (.inl (m 264 10)), none] [] (zem L m) Q) : ∀ (n : Nat) (i : Int), 0 ≤ i → i + n = m 264 10 → zR (d + 2) 93 31 [some (.inr (.inl (some 264))), some (.inl h), some (.inl e), some (.inl t), some (.inl (m 265 (e + 3 * h) - m 269 (e + 120 * h + 3 * t) - zsum (MCf m h e t) i)), some (.inl i), none] [] (zem L m) Q := by
  intro n
  induction n with
  | zero =>
    intro i hi hn
    have ei : i = m 264 10 := by omega
    rw [ei]
    refine r_iload f93_31 rfl ?_
    refine r_aload_n f93_33 rfl ?_
    refine r_getI f93_34 o93 F7_94 g264_10 rfl ?_
    refine r_cge f93_37 (t := 98) (by decide) (fun _ => ?_) (fun h => absurd (by omega) h)
    exact hx
  | succ n ih =>
    intro i hi hn
    have k1 := hk.1
    have b1 := hk.2.2.2.2.1 (e + 3 * h) (by omega) (by omega)
    have b2 := hk.2.2.2.2.2 (e + 120 * h + 3 * t) (by omega) (by omega)
    have b3 := hk.2.2.1 i (by omega) (by omega)
    have b4 : MH m i t → 0 ≤ m 277 (e + 21 * i + 3 * t - 3 * (m 272 i)) ∧ m 277 (e + 21 * i + 3 * t - 3 * (m 272 i)) ≤ 9 := fun g => hk.2.2.2.1 _ (by omega) (by omega)
    have hz := zsum_b (f := MCf m h e t) (A := 0) (B := 9) hi (fun k a b => by
      have b5 := hk.2.2.1 k (by omega) (by omega)
      unfold MCf
      split
      · next g => exact hk.2.2.2.1 _ (by omega) (by omega)
      · omega)
    refine r_iload f93_31 rfl ?_
    refine r_aload_n f93_33 rfl ?_
    refine r_getI f93_34 o93 F7_94 g264_10 rfl ?_
    refine r_cge f93_37 (t := 98) (by decide) (fun h => absurd h (by omega)) (fun _ => ?_)
    refine r_aload_n f93_40 rfl ?_
    refine r_iload f93_41 rfl ?_
    refine r_iload_n f93_43 rfl ?_
    have okz1 := hk.2.2.1 i (by omega) (by omega)
    refine r_callv2i (m' := m) f93_44 o93 M7_104 p92 o92 kd264 rfl (by simp) (t_placeOf (c := i) (t := t) (by omega) (by omega) okz1.1.1 okz1.1.2 okz1.2.1 okz1.2.2 (by omega) (by omega)) ?_
    refine r_ite (fun q2 => ?_) (fun q2 => ?_)
    · refine r_istore f93_47 rfl (ls' := [some (.inr (.inl (some 264))), some (.inl h), some (.inl e), some (.inl t), some (.inl (m 265 (e + 3 * h) - m 269 (e + 120 * h + 3 * t) - zsum (MCf m h e t) i)), some (.inl i), some (.inl (7 * i + t - m 272 i))]) rfl ?_
      refine r_iload f93_49 rfl ?_
      refine r_iconst f93_51 rfl ?_
      refine r_ceq f93_52 (t := 92) (by decide) (fun q3 => ?_) (fun q3 => ?_)
      · refine r_iinc f93_92 rfl rfl rfl (e := i + 1) (by omega) (by omega) (by omega) (ls' := [some (.inr (.inl (some 264))), some (.inl h), some (.inl e), some (.inl t), some (.inl (m 265 (e + 3 * h) - m 269 (e + 120 * h + 3 * t) - zsum (MCf m h e t) i)), some (.inl (i + 1)), some (.inl (7 * i + t - m 272 i))]) rfl ?_
        refine r_goto f93_95 (t := 31) (by decide) ?_
        refine r_forget (ls' := [some (.inr (.inl (some 264))), some (.inl h), some (.inl e), some (.inl t), some (.inl (m 265 (e + 3 * h) - m 269 (e + 120 * h + 3 * t) - zsum (MCf m h e t) i)), some (.inl (i + 1)), none]) ⟨Or.inl rfl, ⟨Or.inl rfl, ⟨Or.inl rfl, ⟨Or.inl rfl, ⟨Or.inl rfl, ⟨Or.inl rfl, ⟨Or.inr ⟨rfl, rfl⟩, trivial⟩⟩⟩⟩⟩⟩⟩ ?_
        refine r_setI (k := 4) (a := m 265 (e + 3 * h) - m 269 (e + 120 * h + 3 * t) - zsum (MCf m h e t) i) (e := m 265 (e + 3 * h) - m 269 (e + 120 * h + 3 * t) - zsum (MCf m h e t) (i + 1)) (by rw [zsum_s (by omega)]; unfold MCf; first | (rw [if_pos (by omega)]; omega) | (rw [if_neg (by omega)]; omega)) rfl (ls' := [some (.inr (.inl (some 264))), some (.inl h), some (.inl e), some (.inl t), some (.inl (m 265 (e + 3 * h) - m 269 (e + 120 * h + 3 * t) - zsum (MCf m h e t) (i + 1))), some (.inl (i + 1)), none]) rfl ?_
        exact ih (i + 1) (by omega) (by omega)
      · refine r_aload_n f93_55 rfl ?_
        refine r_getR f93_56 o93 F7_44 g264_16 rfl ?_
        refine r_iload f93_59 rfl ?_
        refine r_bald f93_61 kd276 (by omega) (by omega) ?_
        refine r_zeq f93_62 (t := 92) (by decide) (fun q4 => ?_) (fun q4 => ?_)
        · refine r_iinc f93_92 rfl rfl rfl (e := i + 1) (by omega) (by omega) (by omega) (ls' := [some (.inr (.inl (some 264))), some (.inl h), some (.inl e), some (.inl t), some (.inl (m 265 (e + 3 * h) - m 269 (e + 120 * h + 3 * t) - zsum (MCf m h e t) i)), some (.inl (i + 1)), some (.inl (7 * i + t - m 272 i))]) rfl ?_
          refine r_goto f93_95 (t := 31) (by decide) ?_
          refine r_forget (ls' := [some (.inr (.inl (some 264))), some (.inl h), some (.inl e), some (.inl t), some (.inl (m 265 (e + 3 * h) - m 269 (e + 120 * h + 3 * t) - zsum (MCf m h e t) i)), some (.inl (i + 1)), none]) ⟨Or.inl rfl, ⟨Or.inl rfl, ⟨Or.inl rfl, ⟨Or.inl rfl, ⟨Or.inl rfl, ⟨Or.inl rfl, ⟨Or.inr ⟨rfl, rfl⟩, trivial⟩⟩⟩⟩⟩⟩⟩ ?_
          refine r_setI (k := 4) (a := m 265 (e + 3 * h) - m 269 (e + 120 * h + 3 * t) - zsum (MCf m h e t) i) (e := m 265 (e + 3 * h) - m 269 (e + 120 * h + 3 * t) - zsum (MCf m h e t) (i + 1)) (by rw [zsum_s (by omega)]; unfold MCf; first | (rw [if_pos (by omega)]; omega) | (rw [if_neg (by omega)]; omega)) rfl (ls' := [some (.inr (.inl (some 264))), some (.inl h), some (.inl e), some (.inl t), some (.inl (m 265 (e + 3 * h) - m 269 (e + 120 * h + 3 * t) - zsum (MCf m h e t) (i + 1))), some (.inl (i + 1)), none]) rfl ?_
          exact ih (i + 1) (by omega) (by omega)
        · refine r_aload_n f93_65 rfl ?_
          refine r_getR f93_66 o93 F7_38 g264_14 rfl ?_
          refine r_iload f93_69 rfl ?_
          refine r_iald f93_71 kd274 (by omega) (by omega) ?_
          refine r_iload_n f93_72 rfl ?_
          refine r_cne f93_73 (t := 92) (by decide) (fun q5 => ?_) (fun q5 => ?_)
          · refine r_iinc f93_92 rfl rfl rfl (e := i + 1) (by omega) (by omega) (by omega) (ls' := [some (.inr (.inl (some 264))), some (.inl h), some (.inl e), some (.inl t), some (.inl (m 265 (e + 3 * h) - m 269 (e + 120 * h + 3 * t) - zsum (MCf m h e t) i)), some (.inl (i + 1)), some (.inl (7 * i + t - m 272 i))]) rfl ?_
            refine r_goto f93_95 (t := 31) (by decide) ?_
            refine r_forget (ls' := [some (.inr (.inl (some 264))), some (.inl h), some (.inl e), some (.inl t), some (.inl (m 265 (e + 3 * h) - m 269 (e + 120 * h + 3 * t) - zsum (MCf m h e t) i)), some (.inl (i + 1)), none]) ⟨Or.inl rfl, ⟨Or.inl rfl, ⟨Or.inl rfl, ⟨Or.inl rfl, ⟨Or.inl rfl, ⟨Or.inl rfl, ⟨Or.inr ⟨rfl, rfl⟩, trivial⟩⟩⟩⟩⟩⟩⟩ ?_
            refine r_setI (k := 4) (a := m 265 (e + 3 * h) - m 269 (e + 120 * h + 3 * t) - zsum (MCf m h e t) i) (e := m 265 (e + 3 * h) - m 269 (e + 120 * h + 3 * t) - zsum (MCf m h e t) (i + 1)) (by rw [zsum_s (by omega)]; unfold MCf; first | (rw [if_pos (by omega)]; omega) | (rw [if_neg (by omega)]; omega)) rfl (ls' := [some (.inr (.inl (some 264))), some (.inl h), some (.inl e), some (.inl t), some (.inl (m 265 (e + 3 * h) - m 269 (e + 120 * h + 3 * t) - zsum (MCf m h e t) (i + 1))), some (.inl (i + 1)), none]) rfl ?_
            exact ih (i + 1) (by omega) (by omega)
          · refine r_iload f93_76 rfl ?_
            refine r_aload_n f93_78 rfl ?_
            refine r_getR f93_79 o93 F7_47 g264_17 rfl ?_
            refine r_iconst f93_82 rfl ?_
            refine r_iload f93_83 rfl ?_
            refine r_imul f93_85 (e := 21 * i + 3 * t - 3 * (m 272 i)) (by omega) (by omega) (by omega) ?_
            refine r_iload_n f93_86 rfl ?_
            refine r_iadd f93_87 (e := e + 21 * i + 3 * t - 3 * (m 272 i)) (by omega) (by omega) (by omega) ?_
            refine r_iald f93_88 kd277 (by omega) (by omega) ?_
            refine r_isub f93_89 (e := m 265 (e + 3 * h) - m 269 (e + 120 * h + 3 * t) - m 277 (e + 21 * i + 3 * t - 3 * (m 272 i)) - zsum (MCf m h e t) i) (by omega) (by omega) (by omega) ?_
            refine r_istore f93_90 rfl (ls' := [some (.inr (.inl (some 264))), some (.inl h), some (.inl e), some (.inl t), some (.inl (m 265 (e + 3 * h) - m 269 (e + 120 * h + 3 * t) - m 277 (e + 21 * i + 3 * t - 3 * (m 272 i)) - zsum (MCf m h e t) i)), some (.inl i), some (.inl (7 * i + t - m 272 i))]) rfl ?_
            refine r_iinc f93_92 rfl rfl rfl (e := i + 1) (by omega) (by omega) (by omega) (ls' := [some (.inr (.inl (some 264))), some (.inl h), some (.inl e), some (.inl t), some (.inl (m 265 (e + 3 * h) - m 269 (e + 120 * h + 3 * t) - m 277 (e + 21 * i + 3 * t - 3 * (m 272 i)) - zsum (MCf m h e t) i)), some (.inl (i + 1)), some (.inl (7 * i + t - m 272 i))]) rfl ?_
            refine r_goto f93_95 (t := 31) (by decide) ?_
            refine r_forget (ls' := [some (.inr (.inl (some 264))), some (.inl h), some (.inl e), some (.inl t), some (.inl (m 265 (e + 3 * h) - m 269 (e + 120 * h + 3 * t) - m 277 (e + 21 * i + 3 * t - 3 * (m 272 i)) - zsum (MCf m h e t) i)), some (.inl (i + 1)), none]) ⟨Or.inl rfl, ⟨Or.inl rfl, ⟨Or.inl rfl, ⟨Or.inl rfl, ⟨Or.inl rfl, ⟨Or.inl rfl, ⟨Or.inr ⟨rfl, rfl⟩, trivial⟩⟩⟩⟩⟩⟩⟩ ?_
            refine r_setI (k := 4) (a := m 265 (e + 3 * h) - m 269 (e + 120 * h + 3 * t) - m 277 (e + 21 * i + 3 * t - 3 * (m 272 i)) - zsum (MCf m h e t) i) (e := m 265 (e + 3 * h) - m 269 (e + 120 * h + 3 * t) - zsum (MCf m h e t) (i + 1)) (by rw [zsum_s (by omega)]; unfold MCf; first | (rw [if_pos (by omega)]; omega) | (rw [if_neg (by omega)]; omega)) rfl (ls' := [some (.inr (.inl (some 264))), some (.inl h), some (.inl e), some (.inl t), some (.inl (m 265 (e + 3 * h) - m 269 (e + 120 * h + 3 * t) - zsum (MCf m h e t) (i + 1))), some (.inl (i + 1)), none]) rfl ?_
            exact ih (i + 1) (by omega) (by omega)
    · refine r_istore f93_47 rfl (ls' := [some (.inr (.inl (some 264))), some (.inl h), some (.inl e), some (.inl t), some (.inl (m 265 (e + 3 * h) - m 269 (e + 120 * h + 3 * t) - zsum (MCf m h e t) i)), some (.inl i), some (.inl (-1))]) rfl ?_
      refine r_iload f93_49 rfl ?_
      refine r_iconst f93_51 rfl ?_
      refine r_ceq f93_52 (t := 92) (by decide) (fun _ => ?_) (fun h => absurd (by omega) h)
      refine r_iinc f93_92 rfl rfl rfl (e := i + 1) (by omega) (by omega) (by omega) (ls' := [some (.inr (.inl (some 264))), some (.inl h), some (.inl e), some (.inl t), some (.inl (m 265 (e + 3 * h) - m 269 (e + 120 * h + 3 * t) - zsum (MCf m h e t) i)), some (.inl (i + 1)), some (.inl (-1))]) rfl ?_
      refine r_goto f93_95 (t := 31) (by decide) ?_
      refine r_forget (ls' := [some (.inr (.inl (some 264))), some (.inl h), some (.inl e), some (.inl t), some (.inl (m 265 (e + 3 * h) - m 269 (e + 120 * h + 3 * t) - zsum (MCf m h e t) i)), some (.inl (i + 1)), none]) ⟨Or.inl rfl, ⟨Or.inl rfl, ⟨Or.inl rfl, ⟨Or.inl rfl, ⟨Or.inl rfl, ⟨Or.inl rfl, ⟨Or.inr ⟨rfl, rfl⟩, trivial⟩⟩⟩⟩⟩⟩⟩ ?_
      refine r_setI (k := 4) (a := m 265 (e + 3 * h) - m 269 (e + 120 * h + 3 * t) - zsum (MCf m h e t) i) (e := m 265 (e + 3 * h) - m 269 (e + 120 * h + 3 * t) - zsum (MCf m h e t) (i + 1)) (by rw [zsum_s (by omega)]; unfold MCf; first | (rw [if_pos (by omega)]; omega) | (rw [if_neg (by omega)]; omega)) rfl (ls' := [some (.inr (.inl (some 264))), some (.inl h), some (.inl e), some (.inl t), some (.inl (m 265 (e + 3 * h) - m 269 (e + 120 * h + 3 * t) - zsum (MCf m h e t) (i + 1))), some (.inl (i + 1)), none]) rfl ?_
      exact ih (i + 1) (by omega) (by omega)

theorem t_freeIn0 {L d : Nat} {m : zmem} (hk : MOk m) {h e : Int} (h0 : 0 ≤ h) (h1 : h < 12) (e0 : 0 ≤ e) (e1 : e < 3) {t : Int} (t0 : 0 ≤ t) (t1 : t < 40)  : zF L (d + 2) 93 [.inr (.inl (some 264)), .inl h, .inl e, .inl t] m (some (.inl (MF m h e t))) m := by
  have k1 := hk.1
  have b1 := hk.2.2.2.2.1 (e + 3 * h) (by omega) (by omega)
  have b2 := hk.2.2.2.2.2 (e + 120 * h + 3 * t) (by omega) (by omega)
  refine zF_of n93 (ls := [some (.inr (.inl (some 264))), some (.inl h), some (.inl e), some (.inl t), none, none, none]) rfl ?_
  refine r_aload_n f93_0 rfl ?_
  refine r_getR f93_1 o93 F7_7 g264_1 rfl ?_
  refine r_iconst f93_4 rfl ?_
  refine r_iload_n f93_5 rfl ?_
  refine r_imul f93_6 (e := 3 * h) (by omega) (by omega) (by omega) ?_
  refine r_iload_n f93_7 rfl ?_
  refine r_iadd f93_8 (e := e + 3 * h) (by omega) (by omega) (by omega) ?_
  refine r_iald f93_9 kd265 (by omega) (by omega) ?_
  refine r_aload_n f93_10 rfl ?_
  refine r_getR f93_11 o93 F7_23 g264_5 rfl ?_
  refine r_bipush f93_14 (by decide) ?_
  refine r_iload_n f93_16 rfl ?_
  refine r_imul f93_17 (e := 120 * h) (by omega) (by omega) (by omega) ?_
  refine r_iconst f93_18 rfl ?_
  refine r_iload_n f93_19 rfl ?_
  refine r_imul f93_20 (e := 3 * t) (by omega) (by omega) (by omega) ?_
  refine r_iadd f93_21 (e := 120 * h + 3 * t) (by omega) (by omega) (by omega) ?_
  refine r_iload_n f93_22 rfl ?_
  refine r_iadd f93_23 (e := e + 120 * h + 3 * t) (by omega) (by omega) (by omega) ?_
  refine r_iald f93_24 kd269 (by omega) (by omega) ?_
  refine r_isub f93_25 (e := m 265 (e + 3 * h) - m 269 (e + 120 * h + 3 * t)) (by omega) (by omega) (by omega) ?_
  refine r_istore f93_26 rfl (ls' := [some (.inr (.inl (some 264))), some (.inl h), some (.inl e), some (.inl t), some (.inl (m 265 (e + 3 * h) - m 269 (e + 120 * h + 3 * t))), none, none]) rfl ?_
  refine r_iconst f93_28 rfl ?_
  refine r_istore f93_29 rfl (ls' := [some (.inr (.inl (some 264))), some (.inl h), some (.inl e), some (.inl t), some (.inl (m 265 (e + 3 * h) - m 269 (e + 120 * h + 3 * t))), some (.inl 0), none]) rfl ?_
  refine r_setI (k := 4) (a := m 265 (e + 3 * h) - m 269 (e + 120 * h + 3 * t)) (e := m 265 (e + 3 * h) - m 269 (e + 120 * h + 3 * t) - zsum (MCf m h e t) 0) (by rw [zsum_0]; omega) rfl (ls' := [some (.inr (.inl (some 264))), some (.inl h), some (.inl e), some (.inl t), some (.inl (m 265 (e + 3 * h) - m 269 (e + 120 * h + 3 * t) - zsum (MCf m h e t) 0)), some (.inl 0), none]) rfl ?_
  refine l_freeIn hk h0 h1 e0 e1 t0 t1 ?_ (m 264 10).toNat 0 (by omega) (by omega)
  refine r_iload f93_98 rfl ?_
  exact r_iret f93_100 v93 ⟨zs_eq (by rfl), rfl⟩

/-- the model's cells are the same, but 281 to 283, which are for notes alone -/
def zan (m1 m : zmem) : Prop := ∀ p : Int, (p ≠ 281 ∧ 264 ≤ p) → p ≠ 282 → p ≠ 283 → m1 p = m p
theorem zan_f {m1 m : zmem} (ha : zan m1 m) {p : Int} (h1 : p ≠ 281 ∧ 264 ≤ p) (h2 : p ≠ 282) (h3 : p ≠ 283) (b : Int) : m1 p b = m p b := congrFun (ha p h1 h2 h3) b
theorem zan_rf (m : zmem) : zan m m := fun _ _ _ _ => rfl
theorem zan_tr {a b c : zmem} (h1 : zan a b) (h2 : zan b c) : zan a c := fun p x y z => (h1 p x y z).trans (h2 p x y z)
theorem zan_sy {a b : zmem} (h1 : zan a b) : zan b a := fun p x y z => (h1 p x y z).symm
theorem zan_u {a b : zmem} {p k v : Int} (h : zan a b) (hp : p = 281 ∨ p = 282 ∨ p = 283) : zan (zu a p k v) b := by
  intro q x y z
  rw [zu_ne (by omega)]
  exact h q x y z
theorem zan_w {a b : zmem} {p k v : Int} (h : zan a b) : zan (zu a p k v) (zu b p k v) := by
  intro q x y z
  unfold zu
  by_cases e : q = p
  · subst e; simp only [if_true]; rw [h q x y z]
  · simp only [e, if_false]; exact h q x y z
theorem MOk_n {m1 m : zmem} (ha : zan m1 m) (h : MOk m) : MOk m1 := by
  unfold MOk at h ⊢
  rw [ha 264 (by omega) (by omega) (by omega), ha 272 (by omega) (by omega) (by omega), ha 273 (by omega) (by omega) (by omega), ha 277 (by omega) (by omega) (by omega), ha 265 (by omega) (by omega) (by omega), ha 269 (by omega) (by omega) (by omega)]
  exact h
theorem MCf_n {m1 m : zmem} (ha : zan m1 m) : MCf m1 = MCf m := by
  funext h e t i
  unfold MCf MH
  rw [ha 272 (by omega) (by omega) (by omega), ha 273 (by omega) (by omega) (by omega), ha 274 (by omega) (by omega) (by omega), ha 276 (by omega) (by omega) (by omega), ha 277 (by omega) (by omega) (by omega)]
theorem MF_n {m1 m : zmem} (ha : zan m1 m) : MF m1 = MF m := by
  funext h e t
  unfold MF
  rw [MCf_n ha, ha 264 (by omega) (by omega) (by omega), ha 265 (by omega) (by omega) (by omega), ha 269 (by omega) (by omega) (by omega)]
theorem t_freeIn {L d : Nat} {m1 m : zmem} (ha : zan m1 m) (hk : MOk m) {h e : Int} (h0 : 0 ≤ h) (h1 : h < 12) (e0 : 0 ≤ e) (e1 : e < 3) {t : Int} (t0 : 0 ≤ t) (t1 : t < 40) : zF L (d + 2) 93 [.inr (.inl (some 264)), .inl h, .inl e, .inl t] m1 (some (.inl (MF m h e t))) m1 := by
  have g := t_freeIn0 (L := L) (d := d) (MOk_n ha hk) h0 h1 e0 e1 t0 t1
  rw [MF_n ha] at g
  exact g
abbrev MO (m : zmem) (h t : Int) : Int := MF m h 0 t + MF m h 1 t + MF m h 2 t
theorem t_freeOf {L d : Nat} {m1 m : zmem} (ha : zan m1 m) (hk : MOk m) {h : Int} (h0 : 0 ≤ h) (h1 : h < 12) {t : Int} (t0 : 0 ≤ t) (t1 : t < 40) (g0 : 0 ≤ MF m h 0 t) (g1 : MF m h 0 t ≤ 9) (g2 : 0 ≤ MF m h 1 t) (g3 : MF m h 1 t ≤ 9) (g4 : 0 ≤ MF m h 2 t) (g5 : MF m h 2 t ≤ 9)  : zF L (d + 3) 94 [.inr (.inl (some 264)), .inl h, .inl t] m1 (some (.inl (MO m h t))) m1 := by
  refine zF_of n94 (ls := [some (.inr (.inl (some 264))), some (.inl h), some (.inl t)]) rfl ?_
  refine r_aload_n f94_0 rfl ?_
  refine r_iload_n f94_1 rfl ?_
  refine r_iconst f94_2 rfl ?_
  refine r_iload_n f94_3 rfl ?_
  refine r_callv3i (m' := m1) (v := MF m h 0 t) f94_4 o94 M7_108 p93 o93 kd264 rfl (by simp) (t_freeIn (m := m) ha hk (e := 0) h0 h1 (by omega) (by omega) t0 t1) ?_
  refine r_aload_n f94_7 rfl ?_
  refine r_iload_n f94_8 rfl ?_
  refine r_iconst f94_9 rfl ?_
  refine r_iload_n f94_10 rfl ?_
  refine r_callv3i (m' := m1) (v := MF m h 1 t) f94_11 o94 M7_108 p93 o93 kd264 rfl (by simp) (t_freeIn (m := m) ha hk (e := 1) h0 h1 (by omega) (by omega) t0 t1) ?_
  refine r_iadd f94_14 (e := MF m h 0 t + MF m h 1 t) (by omega) (by omega) (by omega) ?_
  refine r_aload_n f94_15 rfl ?_
  refine r_iload_n f94_16 rfl ?_
  refine r_iconst f94_17 rfl ?_
  refine r_iload_n f94_18 rfl ?_
  refine r_callv3i (m' := m1) (v := MF m h 2 t) f94_19 o94 M7_108 p93 o93 kd264 rfl (by simp) (t_freeIn (m := m) ha hk (e := 2) h0 h1 (by omega) (by omega) t0 t1) ?_
  refine r_iadd f94_22 (e := MF m h 0 t + MF m h 1 t + MF m h 2 t) (by omega) (by omega) (by omega) ?_
  exact r_iret f94_23 v94 ⟨zs_eq (by unfold MO; omega), rfl⟩

abbrev MR (m : zmem) (h t n : Int) : Prop := m 268 (40 * h + t) = 0 ∧ n ≤ MO m h t
theorem t_isOpen {L d : Nat} {m1 m : zmem} (ha : zan m1 m) (hk : MOk m) {h : Int} (h0 : 0 ≤ h) (h1 : h < 12) {t : Int} (t0 : 0 ≤ t) (t1 : t < 40) (g0 : 0 ≤ MF m h 0 t) (g1 : MF m h 0 t ≤ 9) (g2 : 0 ≤ MF m h 1 t) (g3 : MF m h 1 t ≤ 9) (g4 : 0 ≤ MF m h 2 t) (g5 : MF m h 2 t ≤ 9) {n : Int} : zF L (d + 4) 103 [.inr (.inl (some 264)), .inl h, .inl t, .inl n] m1 (some (.inl (if MR m h t n then 1 else 0))) m1 := by
  refine zF_of n103 (ls := [some (.inr (.inl (some 264))), some (.inl h), some (.inl t), some (.inl n)]) rfl ?_
  refine r_aload_n f103_0 rfl ?_
  refine r_getR f103_1 o103 F7_19 g264_4 rfl ?_
  refine r_bipush f103_4 (by decide) ?_
  refine r_iload_n f103_6 rfl ?_
  refine r_imul f103_7 (e := 40 * h) (by omega) (by omega) (by omega) ?_
  refine r_iload_n f103_8 rfl ?_
  refine r_iadd f103_9 (e := 40 * h + t) (by omega) (by omega) (by omega) ?_
  refine r_bald f103_10 kd268 (by omega) (by omega) ?_
  refine r_top (e := m 268 (40 * h + t)) (zan_f ha (by omega) (by omega) (by omega) _) ?_
  refine r_zne f103_11 (t := 28) (by decide) (fun q1 => ?_) (fun q1 => ?_)
  · refine r_iconst f103_28 rfl ?_
    exact r_zret f103_29 v103 (by omega) ⟨zs_eq (by first | rfl | omega | (repeat (first | rw [if_pos (by omega)] | rw [if_neg (by omega)]))), rfl⟩
  · refine r_aload_n f103_14 rfl ?_
    refine r_iload_n f103_15 rfl ?_
    refine r_iload_n f103_16 rfl ?_
    refine r_callv2i (m' := m1) (v := MO m h t) f103_17 o103 M7_115 p94 o94 kd264 rfl (by simp) (t_freeOf ha hk h0 h1 t0 t1 g0 g1 g2 g3 g4 g5) ?_
    refine r_iload_n f103_20 rfl ?_
    refine r_clt f103_21 (t := 28) (by decide) (fun q2 => ?_) (fun q2 => ?_)
    · refine r_iconst f103_28 rfl ?_
      exact r_zret f103_29 v103 (by omega) ⟨zs_eq (by first | rfl | omega | (repeat (first | rw [if_pos (by omega)] | rw [if_neg (by omega)]))), rfl⟩
    · refine r_iconst f103_24 rfl ?_
      refine r_goto f103_25 (t := 29) (by decide) ?_
      exact r_zret f103_29 v103 (by omega) ⟨zs_eq (by first | rfl | omega | (repeat (first | rw [if_pos (by omega)] | rw [if_neg (by omega)]))), rfl⟩

