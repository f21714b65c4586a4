def MRng (m : zmem) : Prop := ∀ h e t, 0 ≤ h → h < m 264 0 → 0 ≤ e → e < 3 → 0 ≤ t → t < 40 → 0 ≤ MF m h e t ∧ MF m h e t ≤ 9
theorem t_isOpenR {L d : Nat} {m1 m : zmem} (ha : zan m1 m) (hk : MOk m) (hr : MRng m) {h t n : Int} (h0 : 0 ≤ h) (h1 : h < m 264 0) (t0 : 0 ≤ t) (t1 : t < 40) : zF L (d + 4) 103 [.inr (.inl (some 264)), .inl h, .inl t, .inl n] m1 (some (.inl (if MR m h t n then 1 else 0))) m1 := by
  have k := hk.2.1
  have a := hr h 0 t h0 h1 (by omega) (by omega) t0 t1
  have b := hr h 1 t h0 h1 (by omega) (by omega) t0 t1
  have c := hr h 2 t h0 h1 (by omega) (by omega) t0 t1
  exact t_isOpen ha hk h0 (by omega) t0 t1 a.1 a.2 b.1 b.2 c.1 c.2
theorem t_joinM {L d : Nat} {m1 m : zmem} (ha : zan m1 m) {a b : Int} (a0 : 0 ≤ a) (a1 : a < 12) (b0 : 0 ≤ b) (b1 : b < 12) : zF L d 102 [.inr (.inl (some 264)), .inl a, .inl b] m1 (some (.inl (if MJ m a b then 1 else 0))) m1 := by
  have g := t_areJoined (L := L) (d := d) (m := m1) a0 a1 b0 b1
  have e : MJ m1 a b ↔ MJ m a b := by unfold MJ; rw [ha 270 (by omega) (by omega) (by omega)]
  have e2 : (if MJ m1 a b then (1 : Int) else 0) = if MJ m a b then 1 else 0 := by
    by_cases q : MJ m a b
    · rw [if_pos q, if_pos (e.mpr q)]
    · rw [if_neg q, if_neg (fun x => q (e.mp x))]
  rw [e2] at g
  exact g
abbrev MBr (m : zmem) (c i : Int) : Prop := ¬ ((i = 0 ∨ MJ m (m 274 (7 * c + i - 1)) (m 274 (7 * c + i))) ∧ MR m (m 274 (7 * c + i)) (i + m 272 c) (m 271 c))
theorem l_bar {L d : Nat} {m1 m : zmem} (ha : zan m1 m) (hk : MOk m) (hr : MRng m) {c : Int} (c0 : 0 ≤ c) (c1 : c < 40) (l2 : m 272 c + m 273 c ≤ 40) (hw : ∀ k, 0 ≤ k → k < m 273 c → 0 ≤ m 274 (7 * c + k) ∧ m 274 (7 * c + k) < m 264 0) : ∀ (n : Nat) (i : Int), 0 ≤ i → i + n = m 273 c → zR (d + 5) 104 2 [some (.inr (.inl (some 264))), some (.inl c), some (.inl i), none] [] (zem L m1) (fun r M => r = some (.inl (zff (MBr m c) i n)) ∧ M = zem L m1) := by
  intro n
  induction n with
  | zero =>
    intro i hi hn
    refine r_iload_n f104_2 rfl ?_
    refine r_aload_n f104_3 rfl ?_
    refine r_getR f104_4 o104 F7_35 g264_13 rfl ?_
    refine r_iload_n f104_7 rfl ?_
    refine r_iald f104_8 kd273 (by omega) (by omega) ?_
    refine r_top (e := m 273 c) (zan_f ha (by omega) (by omega) (by omega) _) ?_
    refine r_cge f104_9 (t := 79) (by decide) (fun _ => ?_) (fun h => absurd (by omega) h)
    refine r_iconst f104_79 rfl ?_
    exact r_iret f104_80 v104 ⟨rfl, rfl⟩
  | succ n ih =>
    intro i hi hn
    have kc := hk.2.2.1 c c0 c1
    have kh := hk.2.1
    have w0 := hw i (by omega) (by omega)
    have w1 : 0 < i → 0 ≤ m 274 (7 * c + i - 1) ∧ m 274 (7 * c + i - 1) < m 264 0 := fun h => by have := hw (i - 1) (by omega) (by omega); rw [show 7 * c + (i - 1) = 7 * c + i - 1 by omega] at this; exact this
    refine r_iload_n f104_2 rfl ?_
    refine r_aload_n f104_3 rfl ?_
    refine r_getR f104_4 o104 F7_35 g264_13 rfl ?_
    refine r_iload_n f104_7 rfl ?_
    refine r_iald f104_8 kd273 (by omega) (by omega) ?_
    refine r_top (e := m 273 c) (zan_f ha (by omega) (by omega) (by omega) _) ?_
    refine r_cge f104_9 (t := 79) (by decide) (fun h => absurd h (by omega)) (fun _ => ?_)
    refine r_aload_n f104_12 rfl ?_
    refine r_getR f104_13 o104 F7_38 g264_14 rfl ?_
    refine r_bipush f104_16 (by decide) ?_
    refine r_iload_n f104_18 rfl ?_
    refine r_imul f104_19 (e := 7 * c) (by omega) (by omega) (by omega) ?_
    refine r_iload_n f104_20 rfl ?_
    refine r_iadd f104_21 (e := 7 * c + i) (by omega) (by omega) (by omega) ?_
    refine r_iald f104_22 kd274 (by omega) (by omega) ?_
    refine r_top (e := m 274 (7 * c + i)) (zan_f ha (by omega) (by omega) (by omega) _) ?_
    refine r_istore_n f104_23 rfl (ls' := [some (.inr (.inl (some 264))), some (.inl c), some (.inl i), some (.inl (m 274 (7 * c + i)))]) rfl ?_
    refine r_iload_n f104_24 rfl ?_
    refine r_zle f104_25 (t := 49) (by decide) (fun q1 => ?_) (fun q1 => ?_)
    · refine r_aload_n f104_49 rfl ?_
      refine r_iload_n f104_50 rfl ?_
      refine r_aload_n f104_51 rfl ?_
      refine r_getR f104_52 o104 F7_32 g264_12 rfl ?_
      refine r_iload_n f104_55 rfl ?_
      refine r_iald f104_56 kd272 (by omega) (by omega) ?_
      refine r_top (e := m 272 c) (zan_f ha (by omega) (by omega) (by omega) _) ?_
      refine r_iload_n f104_57 rfl ?_
      refine r_iadd f104_58 (e := i + m 272 c) (by omega) (by omega) (by omega) ?_
      refine r_aload_n f104_59 rfl ?_
      refine r_getR f104_60 o104 F7_29 g264_11 rfl ?_
      refine r_iload_n f104_63 rfl ?_
      refine r_iald f104_64 kd271 (by omega) (by omega) ?_
      refine r_top (e := m 271 c) (zan_f ha (by omega) (by omega) (by omega) _) ?_
      refine r_callv3i (m' := m1) f104_65 o104 M7_132 p103 o103 kd264 rfl (by simp) (t_isOpenR ha hk hr (h := m 274 (7 * c + i)) (t := i + m 272 c) (n := m 271 c) (by omega) (by omega) (by omega) (by omega)) ?_
      refine r_ite (fun q2 => ?_) (fun q2 => ?_)
      · refine r_zne f104_68 (t := 73) (by decide) (fun _ => ?_) (fun h => absurd (by omega) h)
        refine r_iinc f104_73 rfl rfl rfl (e := i + 1) (by omega) (by omega) (by omega) (ls' := [some (.inr (.inl (some 264))), some (.inl c), some (.inl (i + 1)), some (.inl (m 274 (7 * c + i)))]) rfl ?_
        refine r_goto f104_76 (t := 2) (by decide) ?_
        refine r_forget (ls' := [some (.inr (.inl (some 264))), some (.inl c), some (.inl (i + 1)), none]) ⟨Or.inl rfl, ⟨Or.inl rfl, ⟨Or.inl rfl, ⟨Or.inr ⟨rfl, rfl⟩, trivial⟩⟩⟩⟩ ?_
        refine zR_im (ih (i + 1) (by omega) (by omega)) (fun r M h => ?_)
        rw [zff, if_neg (by omega)]
        exact h
      · refine r_zne f104_68 (t := 73) (by decide) (fun h => absurd h (by omega)) (fun _ => ?_)
        refine r_iload_n f104_71 rfl ?_
        exact r_iret f104_72 v104 ⟨zs_eq (by rw [zff, if_pos (by omega)]), rfl⟩
    · refine r_aload_n f104_28 rfl ?_
      refine r_aload_n f104_29 rfl ?_
      refine r_getR f104_30 o104 F7_38 g264_14 rfl ?_
      refine r_bipush f104_33 (by decide) ?_
      refine r_iload_n f104_35 rfl ?_
      refine r_imul f104_36 (e := 7 * c) (by omega) (by omega) (by omega) ?_
      refine r_iload_n f104_37 rfl ?_
      refine r_iadd f104_38 (e := 7 * c + i) (by omega) (by omega) (by omega) ?_
      refine r_iconst f104_39 rfl ?_
      refine r_isub f104_40 (e := 7 * c + i - 1) (by omega) (by omega) (by omega) ?_
      refine r_iald f104_41 kd274 (by omega) (by omega) ?_
      refine r_top (e := m 274 (7 * c + i - 1)) (zan_f ha (by omega) (by omega) (by omega) _) ?_
      refine r_iload_n f104_42 rfl ?_
      refine r_callv2i (m' := m1) f104_43 o104 M7_128 p102 o102 kd264 rfl (by simp) (t_joinM ha (a := m 274 (7 * c + i - 1)) (b := m 274 (7 * c + i)) (by omega) (by omega) (by omega) (by omega)) ?_
      refine r_ite (fun q3 => ?_) (fun q3 => ?_)
      · refine r_zeq f104_46 (t := 71) (by decide) (fun h => absurd h (by omega)) (fun _ => ?_)
        refine r_aload_n f104_49 rfl ?_
        refine r_iload_n f104_50 rfl ?_
        refine r_aload_n f104_51 rfl ?_
        refine r_getR f104_52 o104 F7_32 g264_12 rfl ?_
        refine r_iload_n f104_55 rfl ?_
        refine r_iald f104_56 kd272 (by omega) (by omega) ?_
        refine r_top (e := m 272 c) (zan_f ha (by omega) (by omega) (by omega) _) ?_
        refine r_iload_n f104_57 rfl ?_
        refine r_iadd f104_58 (e := i + m 272 c) (by omega) (by omega) (by omega) ?_
        refine r_aload_n f104_59 rfl ?_
        refine r_getR f104_60 o104 F7_29 g264_11 rfl ?_
        refine r_iload_n f104_63 rfl ?_
        refine r_iald f104_64 kd271 (by omega) (by omega) ?_
        refine r_top (e := m 271 c) (zan_f ha (by omega) (by omega) (by omega) _) ?_
        refine r_callv3i (m' := m1) f104_65 o104 M7_132 p103 o103 kd264 rfl (by simp) (t_isOpenR ha hk hr (h := m 274 (7 * c + i)) (t := i + m 272 c) (n := m 271 c) (by omega) (by omega) (by omega) (by omega)) ?_
        refine r_ite (fun q4 => ?_) (fun q4 => ?_)
        · refine r_zne f104_68 (t := 73) (by decide) (fun _ => ?_) (fun h => absurd (by omega) h)
          refine r_iinc f104_73 rfl rfl rfl (e := i + 1) (by omega) (by omega) (by omega) (ls' := [some (.inr (.inl (some 264))), some (.inl c), some (.inl (i + 1)), some (.inl (m 274 (7 * c + i)))]) rfl ?_
          refine r_goto f104_76 (t := 2) (by decide) ?_
          refine r_forget (ls' := [some (.inr (.inl (some 264))), some (.inl c), some (.inl (i + 1)), none]) ⟨Or.inl rfl, ⟨Or.inl rfl, ⟨Or.inl rfl, ⟨Or.inr ⟨rfl, rfl⟩, trivial⟩⟩⟩⟩ ?_
          refine zR_im (ih (i + 1) (by omega) (by omega)) (fun r M h => ?_)
          rw [zff, if_neg (by omega)]
          exact h
        · refine r_zne f104_68 (t := 73) (by decide) (fun h => absurd h (by omega)) (fun _ => ?_)
          refine r_iload_n f104_71 rfl ?_
          exact r_iret f104_72 v104 ⟨zs_eq (by rw [zff, if_pos (by omega)]), rfl⟩
      · refine r_zeq f104_46 (t := 71) (by decide) (fun _ => ?_) (fun h => absurd (by omega) h)
        refine r_iload_n f104_71 rfl ?_
        exact r_iret f104_72 v104 ⟨zs_eq (by rw [zff, if_pos (by omega)]), rfl⟩

theorem t_bar {L d : Nat} {m1 m : zmem} (ha : zan m1 m) (hk : MOk m) (hr : MRng m) {c : Int} (c0 : 0 ≤ c) (c1 : c < 40) (l2 : m 272 c + m 273 c ≤ 40) (hw : ∀ k, 0 ≤ k → k < m 273 c → 0 ≤ m 274 (7 * c + k) ∧ m 274 (7 * c + k) < m 264 0)  : zF L (d + 5) 104 [.inr (.inl (some 264)), .inl c] m1 (some (.inl (zff (MBr m c) 0 (m 273 c).toNat))) m1 := by
  have kc := hk.2.2.1 c c0 c1
  refine zF_of n104 (ls := [some (.inr (.inl (some 264))), some (.inl c), none, none]) rfl ?_
  refine r_iconst f104_0 rfl ?_
  refine r_istore_n f104_1 rfl (ls' := [some (.inr (.inl (some 264))), some (.inl c), some (.inl 0), none]) rfl ?_
  exact l_bar ha hk hr c0 c1 l2 hw (m 273 c).toNat 0 (by omega) (by omega)

theorem skip77 {L d : Nat} {m : zmem} {h t n x y z u v k : Int} (hs : y ≤ u) {Q : Option zV → zM → Prop} (kk : zR d 97 98 [some (.inr (.inl (some 264))), some (.inl h), some (.inl t), some (.inl n), some (.inl x), some (.inl y), some (.inl z), some (.inl u), some (.inl v), some (.inl k)] [] (zem L m) Q) : zR d 97 77 [some (.inr (.inl (some 264))), some (.inl h), some (.inl t), some (.inl n), some (.inl x), some (.inl y), some (.inl z), some (.inl u), some (.inl v), some (.inl k)] [] (zem L m) Q := by
  refine r_iload f97_77 rfl ?_
  refine r_iload_n f97_79 rfl ?_
  refine r_clt f97_80 (t := 98) (by decide) (fun q1 => ?_) (fun q1 => ?_)
  · exact kk
  · refine r_iload f97_83 rfl ?_
    refine r_iload f97_85 rfl ?_
    refine r_cge f97_87 (t := 98) (by decide) (fun _ => ?_) (fun h => absurd (by omega) h)
    exact kk
abbrev MPt (m1 m : zmem) (h t n : Int) : zmem := zu (zu (zu m1 281 0 (zsh0 (MF m h 0 t) (MF m h 1 t) (MF m h 2 t) n)) 281 1 (zsh1 (MF m h 0 t) (MF m h 1 t) (MF m h 2 t) n)) 281 2 (zsh2 (MF m h 0 t) (MF m h 1 t) (MF m h 2 t) n)
theorem t_parts {L d : Nat} {m1 m : zmem} (ha : zan m1 m) (hk : MOk m) {h : Int} (h0 : 0 ≤ h) (h1 : h < 12) {t : Int} (t0 : 0 ≤ t) (t1 : t < 40) (g0 : 0 ≤ MF m h 0 t) (g1 : MF m h 0 t ≤ 9) (g2 : 0 ≤ MF m h 1 t) (g3 : MF m h 1 t ≤ 9) (g4 : 0 ≤ MF m h 2 t) (g5 : MF m h 2 t ≤ 9) {n : Int} (n0 : 1 ≤ n) (n1 : n ≤ MF m h 0 t + MF m h 1 t + MF m h 2 t) : zF L (d + 3) 97 [.inr (.inl (some 264)), .inl h, .inl t, .inl n] m1 none (MPt m1 m h t n) := by
  refine zF_of n97 (ls := [some (.inr (.inl (some 264))), some (.inl h), some (.inl t), some (.inl n), none, none, none, none, none, none]) rfl ?_
  refine r_iconst f97_0 rfl ?_
  refine r_istore f97_1 rfl (ls' := [some (.inr (.inl (some 264))), some (.inl h), some (.inl t), some (.inl n), some (.inl (-1)), none, none, none, none, none]) rfl ?_
  refine r_iconst f97_3 rfl ?_
  refine r_istore f97_4 rfl (ls' := [some (.inr (.inl (some 264))), some (.inl h), some (.inl t), some (.inl n), some (.inl (-1)), some (.inl 4), none, none, none, none]) rfl ?_
  refine r_iconst f97_6 rfl ?_
  refine r_istore f97_7 rfl (ls' := [some (.inr (.inl (some 264))), some (.inl h), some (.inl t), some (.inl n), some (.inl (-1)), some (.inl 4), some (.inl 1), none, none, none]) rfl ?_
  refine r_iload f97_9 rfl ?_
  refine r_bipush f97_11 (by decide) ?_
  refine r_cge f97_13 (t := 104) (by decide) (fun h => absurd h (by omega)) (fun _ => ?_)
  refine r_iconst f97_16 rfl ?_
  refine r_istore f97_17 rfl (ls' := [some (.inr (.inl (some 264))), some (.inl h), some (.inl t), some (.inl n), some (.inl (-1)), some (.inl 4), some (.inl 1), some (.inl 0), none, none]) rfl ?_
  refine r_iconst f97_19 rfl ?_
  refine r_istore f97_20 rfl (ls' := [some (.inr (.inl (some 264))), some (.inl h), some (.inl t), some (.inl n), some (.inl (-1)), some (.inl 4), some (.inl 1), some (.inl 0), some (.inl 0), none]) rfl ?_
  refine r_iconst f97_22 rfl ?_
  refine r_istore f97_23 rfl (ls' := [some (.inr (.inl (some 264))), some (.inl h), some (.inl t), some (.inl n), some (.inl (-1)), some (.inl 4), some (.inl 1), some (.inl 0), some (.inl 0), some (.inl 0)]) rfl ?_
  refine r_iload f97_25 rfl ?_
  refine r_iconst f97_27 rfl ?_
  refine r_cge f97_28 (t := 77) (by decide) (fun h => absurd h (by omega)) (fun _ => ?_)
  refine r_iload f97_31 rfl ?_
  refine r_iload f97_33 rfl ?_
  refine r_iload f97_35 rfl ?_
  refine r_ishr f97_37 (e := 1) (by decide) ?_
  refine r_iconst f97_38 rfl ?_
  refine r_iand f97_39 (e := 1) (by decide) ?_
  refine r_iadd f97_40 (e := 1) (by omega) (by omega) (by omega) ?_
  refine r_istore f97_41 rfl (ls' := [some (.inr (.inl (some 264))), some (.inl h), some (.inl t), some (.inl n), some (.inl (-1)), some (.inl 4), some (.inl 1), some (.inl 1), some (.inl 0), some (.inl 0)]) rfl ?_
  refine r_iload f97_43 rfl ?_
  refine r_iload f97_45 rfl ?_
  refine r_iload f97_47 rfl ?_
  refine r_ishr f97_49 (e := 1) (by decide) ?_
  refine r_iconst f97_50 rfl ?_
  refine r_iand f97_51 (e := 1) (by decide) ?_
  refine r_iconst f97_52 rfl ?_
  refine r_cne f97_53 (t := 67) (by decide) (fun h => absurd h (by omega)) (fun _ => ?_)
  refine r_aload_n f97_56 rfl ?_
  refine r_iload_n f97_57 rfl ?_
  refine r_iload f97_58 rfl ?_
  refine r_iload_n f97_60 rfl ?_
  refine r_callv3i (m' := m1) (v := MF m h 0 t) f97_61 o97 M7_108 p93 o93 kd264 rfl (by simp) (t_freeIn (m := m) ha hk (e := 0) h0 h1 (by omega) (by omega) t0 t1) ?_
  refine r_goto f97_64 (t := 68) (by decide) ?_
  refine r_iadd f97_68 (e := MF m h 0 t) (by omega) (by omega) (by omega) ?_
  refine r_istore f97_69 rfl (ls' := [some (.inr (.inl (some 264))), some (.inl h), some (.inl t), some (.inl n), some (.inl (-1)), some (.inl 4), some (.inl 1), some (.inl 1), some (.inl (MF m h 0 t)), some (.inl 0)]) rfl ?_
  refine r_iinc f97_71 rfl rfl rfl (e := 1) (by omega) (by omega) (by omega) (ls' := [some (.inr (.inl (some 264))), some (.inl h), some (.inl t), some (.inl n), some (.inl (-1)), some (.inl 4), some (.inl 1), some (.inl 1), some (.inl (MF m h 0 t)), some (.inl 1)]) rfl ?_
  refine r_goto f97_74 (t := 25) (by decide) ?_
  refine r_iload f97_25 rfl ?_
  refine r_iconst f97_27 rfl ?_
  refine r_cge f97_28 (t := 77) (by decide) (fun h => absurd h (by omega)) (fun _ => ?_)
  refine r_iload f97_31 rfl ?_
  refine r_iload f97_33 rfl ?_
  refine r_iload f97_35 rfl ?_
  refine r_ishr f97_37 (e := 0) (by decide) ?_
  refine r_iconst f97_38 rfl ?_
  refine r_iand f97_39 (e := 0) (by decide) ?_
  refine r_iadd f97_40 (e := 1) (by omega) (by omega) (by omega) ?_
  refine r_istore f97_41 rfl (ls' := [some (.inr (.inl (some 264))), some (.inl h), some (.inl t), some (.inl n), some (.inl (-1)), some (.inl 4), some (.inl 1), some (.inl 1), some (.inl (MF m h 0 t)), some (.inl 1)]) rfl ?_
  refine r_iload f97_43 rfl ?_
  refine r_iload f97_45 rfl ?_
  refine r_iload f97_47 rfl ?_
  refine r_ishr f97_49 (e := 0) (by decide) ?_
  refine r_iconst f97_50 rfl ?_
  refine r_iand f97_51 (e := 0) (by decide) ?_
  refine r_iconst f97_52 rfl ?_
  refine r_cne f97_53 (t := 67) (by decide) (fun _ => ?_) (fun h => absurd (by omega) h)
  refine r_iconst f97_67 rfl ?_
  refine r_iadd f97_68 (e := MF m h 0 t) (by omega) (by omega) (by omega) ?_
  refine r_istore f97_69 rfl (ls' := [some (.inr (.inl (some 264))), some (.inl h), some (.inl t), some (.inl n), some (.inl (-1)), some (.inl 4), some (.inl 1), some (.inl 1), some (.inl (MF m h 0 t)), some (.inl 1)]) rfl ?_
  refine r_iinc f97_71 rfl rfl rfl (e := 2) (by omega) (by omega) (by omega) (ls' := [some (.inr (.inl (some 264))), some (.inl h), some (.inl t), some (.inl n), some (.inl (-1)), some (.inl 4), some (.inl 1), some (.inl 1), some (.inl (MF m h 0 t)), some (.inl 2)]) rfl ?_
  refine r_goto f97_74 (t := 25) (by decide) ?_
  refine r_iload f97_25 rfl ?_
  refine r_iconst f97_27 rfl ?_
  refine r_cge f97_28 (t := 77) (by decide) (fun h => absurd h (by omega)) (fun _ => ?_)
  refine r_iload f97_31 rfl ?_
  refine r_iload f97_33 rfl ?_
  refine r_iload f97_35 rfl ?_
  refine r_ishr f97_37 (e := 0) (by decide) ?_
  refine r_iconst f97_38 rfl ?_
  refine r_iand f97_39 (e := 0) (by decide) ?_
  refine r_iadd f97_40 (e := 1) (by omega) (by omega) (by omega) ?_
  refine r_istore f97_41 rfl (ls' := [some (.inr (.inl (some 264))), some (.inl h), some (.inl t), some (.inl n), some (.inl (-1)), some (.inl 4), some (.inl 1), some (.inl 1), some (.inl (MF m h 0 t)), some (.inl 2)]) rfl ?_
  refine r_iload f97_43 rfl ?_
  refine r_iload f97_45 rfl ?_
  refine r_iload f97_47 rfl ?_
  refine r_ishr f97_49 (e := 0) (by decide) ?_
  refine r_iconst f97_50 rfl ?_
  refine r_iand f97_51 (e := 0) (by decide) ?_
  refine r_iconst f97_52 rfl ?_
  refine r_cne f97_53 (t := 67) (by decide) (fun _ => ?_) (fun h => absurd (by omega) h)
  refine r_iconst f97_67 rfl ?_
  refine r_iadd f97_68 (e := MF m h 0 t) (by omega) (by omega) (by omega) ?_
  refine r_istore f97_69 rfl (ls' := [some (.inr (.inl (some 264))), some (.inl h), some (.inl t), some (.inl n), some (.inl (-1)), some (.inl 4), some (.inl 1), some (.inl 1), some (.inl (MF m h 0 t)), some (.inl 2)]) rfl ?_
  refine r_iinc f97_71 rfl rfl rfl (e := 3) (by omega) (by omega) (by omega) (ls' := [some (.inr (.inl (some 264))), some (.inl h), some (.inl t), some (.inl n), some (.inl (-1)), some (.inl 4), some (.inl 1), some (.inl 1), some (.inl (MF m h 0 t)), some (.inl 3)]) rfl ?_
  refine r_goto f97_74 (t := 25) (by decide) ?_
  refine r_iload f97_25 rfl ?_
  refine r_iconst f97_27 rfl ?_
  refine r_cge f97_28 (t := 77) (by decide) (fun _ => ?_) (fun h => absurd (by omega) h)
  refine r_iload f97_77 rfl ?_
  refine r_iload_n f97_79 rfl ?_
  refine r_clt f97_80 (t := 98) (by decide) (fun q1 => ?_) (fun q1 => ?_)
  · refine r_iinc f97_98 rfl rfl rfl (e := 2) (by omega) (by omega) (by omega) (ls' := [some (.inr (.inl (some 264))), some (.inl h), some (.inl t), some (.inl n), some (.inl (-1)), some (.inl 4), some (.inl 2), some (.inl 1), some (.inl (MF m h 0 t)), some (.inl 3)]) rfl ?_
    refine r_goto f97_101 (t := 9) (by decide) ?_
    refine r_iload f97_9 rfl ?_
    refine r_bipush f97_11 (by decide) ?_
    refine r_cge f97_13 (t := 104) (by decide) (fun h => absurd h (by omega)) (fun _ => ?_)
    refine r_iconst f97_16 rfl ?_
    refine r_istore f97_17 rfl (ls' := [some (.inr (.inl (some 264))), some (.inl h), some (.inl t), some (.inl n), some (.inl (-1)), some (.inl 4), some (.inl 2), some (.inl 0), some (.inl (MF m h 0 t)), some (.inl 3)]) rfl ?_
    refine r_iconst f97_19 rfl ?_
    refine r_istore f97_20 rfl (ls' := [some (.inr (.inl (some 264))), some (.inl h), some (.inl t), some (.inl n), some (.inl (-1)), some (.inl 4), some (.inl 2), some (.inl 0), some (.inl 0), some (.inl 3)]) rfl ?_
    refine r_iconst f97_22 rfl ?_
    refine r_istore f97_23 rfl (ls' := [some (.inr (.inl (some 264))), some (.inl h), some (.inl t), some (.inl n), some (.inl (-1)), some (.inl 4), some (.inl 2), some (.inl 0), some (.inl 0), some (.inl 0)]) rfl ?_
    refine r_iload f97_25 rfl ?_
    refine r_iconst f97_27 rfl ?_
    refine r_cge f97_28 (t := 77) (by decide) (fun h => absurd h (by omega)) (fun _ => ?_)
    refine r_iload f97_31 rfl ?_
    refine r_iload f97_33 rfl ?_
    refine r_iload f97_35 rfl ?_
    refine r_ishr f97_37 (e := 2) (by decide) ?_
    refine r_iconst f97_38 rfl ?_
    refine r_iand f97_39 (e := 0) (by decide) ?_
    refine r_iadd f97_40 (e := 0) (by omega) (by omega) (by omega) ?_
    refine r_istore f97_41 rfl (ls' := [some (.inr (.inl (some 264))), some (.inl h), some (.inl t), some (.inl n), some (.inl (-1)), some (.inl 4), some (.inl 2), some (.inl 0), some (.inl 0), some (.inl 0)]) rfl ?_
    refine r_iload f97_43 rfl ?_
    refine r_iload f97_45 rfl ?_
    refine r_iload f97_47 rfl ?_
    refine r_ishr f97_49 (e := 2) (by decide) ?_
    refine r_iconst f97_50 rfl ?_
    refine r_iand f97_51 (e := 0) (by decide) ?_
    refine r_iconst f97_52 rfl ?_
    refine r_cne f97_53 (t := 67) (by decide) (fun _ => ?_) (fun h => absurd (by omega) h)
    refine r_iconst f97_67 rfl ?_
    refine r_iadd f97_68 (e := 0) (by omega) (by omega) (by omega) ?_
    refine r_istore f97_69 rfl (ls' := [some (.inr (.inl (some 264))), some (.inl h), some (.inl t), some (.inl n), some (.inl (-1)), some (.inl 4), some (.inl 2), some (.inl 0), some (.inl 0), some (.inl 0)]) rfl ?_
    refine r_iinc f97_71 rfl rfl rfl (e := 1) (by omega) (by omega) (by omega) (ls' := [some (.inr (.inl (some 264))), some (.inl h), some (.inl t), some (.inl n), some (.inl (-1)), some (.inl 4), some (.inl 2), some (.inl 0), some (.inl 0), some (.inl 1)]) rfl ?_
    refine r_goto f97_74 (t := 25) (by decide) ?_
    refine r_iload f97_25 rfl ?_
    refine r_iconst f97_27 rfl ?_
    refine r_cge f97_28 (t := 77) (by decide) (fun h => absurd h (by omega)) (fun _ => ?_)
    refine r_iload f97_31 rfl ?_
    refine r_iload f97_33 rfl ?_
    refine r_iload f97_35 rfl ?_
    refine r_ishr f97_37 (e := 1) (by decide) ?_
    refine r_iconst f97_38 rfl ?_
    refine r_iand f97_39 (e := 1) (by decide) ?_
    refine r_iadd f97_40 (e := 1) (by omega) (by omega) (by omega) ?_
    refine r_istore f97_41 rfl (ls' := [some (.inr (.inl (some 264))), some (.inl h), some (.inl t), some (.inl n), some (.inl (-1)), some (.inl 4), some (.inl 2), some (.inl 1), some (.inl 0), some (.inl 1)]) rfl ?_
    refine r_iload f97_43 rfl ?_
    refine r_iload f97_45 rfl ?_
    refine r_iload f97_47 rfl ?_
    refine r_ishr f97_49 (e := 1) (by decide) ?_
    refine r_iconst f97_50 rfl ?_
    refine r_iand f97_51 (e := 1) (by decide) ?_
    refine r_iconst f97_52 rfl ?_
    refine r_cne f97_53 (t := 67) (by decide) (fun h => absurd h (by omega)) (fun _ => ?_)
    refine r_aload_n f97_56 rfl ?_
    refine r_iload_n f97_57 rfl ?_
    refine r_iload f97_58 rfl ?_
    refine r_iload_n f97_60 rfl ?_
    refine r_callv3i (m' := m1) (v := MF m h 1 t) f97_61 o97 M7_108 p93 o93 kd264 rfl (by simp) (t_freeIn (m := m) ha hk (e := 1) h0 h1 (by omega) (by omega) t0 t1) ?_
    refine r_goto f97_64 (t := 68) (by decide) ?_
    refine r_iadd f97_68 (e := MF m h 1 t) (by omega) (by omega) (by omega) ?_
    refine r_istore f97_69 rfl (ls' := [some (.inr (.inl (some 264))), some (.inl h), some (.inl t), some (.inl n), some (.inl (-1)), some (.inl 4), some (.inl 2), some (.inl 1), some (.inl (MF m h 1 t)), some (.inl 1)]) rfl ?_
    refine r_iinc f97_71 rfl rfl rfl (e := 2) (by omega) (by omega) (by omega) (ls' := [some (.inr (.inl (some 264))), some (.inl h), some (.inl t), some (.inl n), some (.inl (-1)), some (.inl 4), some (.inl 2), some (.inl 1), some (.inl (MF m h 1 t)), some (.inl 2)]) rfl ?_
    refine r_goto f97_74 (t := 25) (by decide) ?_
    refine r_iload f97_25 rfl ?_
    refine r_iconst f97_27 rfl ?_
    refine r_cge f97_28 (t := 77) (by decide) (fun h => absurd h (by omega)) (fun _ => ?_)
    refine r_iload f97_31 rfl ?_
    refine r_iload f97_33 rfl ?_
    refine r_iload f97_35 rfl ?_
    refine r_ishr f97_37 (e := 0) (by decide) ?_
    refine r_iconst f97_38 rfl ?_
    refine r_iand f97_39 (e := 0) (by decide) ?_
    refine r_iadd f97_40 (e := 1) (by omega) (by omega) (by omega) ?_
    refine r_istore f97_41 rfl (ls' := [some (.inr (.inl (some 264))), some (.inl h), some (.inl t), some (.inl n), some (.inl (-1)), some (.inl 4), some (.inl 2), some (.inl 1), some (.inl (MF m h 1 t)), some (.inl 2)]) rfl ?_
    refine r_iload f97_43 rfl ?_
    refine r_iload f97_45 rfl ?_
    refine r_iload f97_47 rfl ?_
    refine r_ishr f97_49 (e := 0) (by decide) ?_
    refine r_iconst f97_50 rfl ?_
    refine r_iand f97_51 (e := 0) (by decide) ?_
    refine r_iconst f97_52 rfl ?_
    refine r_cne f97_53 (t := 67) (by decide) (fun _ => ?_) (fun h => absurd (by omega) h)
    refine r_iconst f97_67 rfl ?_
    refine r_iadd f97_68 (e := MF m h 1 t) (by omega) (by omega) (by omega) ?_
    refine r_istore f97_69 rfl (ls' := [some (.inr (.inl (some 264))), some (.inl h), some (.inl t), some (.inl n), some (.inl (-1)), some (.inl 4), some (.inl 2), some (.inl 1), some (.inl (MF m h 1 t)), some (.inl 2)]) rfl ?_
    refine r_iinc f97_71 rfl rfl rfl (e := 3) (by omega) (by omega) (by omega) (ls' := [some (.inr (.inl (some 264))), some (.inl h), some (.inl t), some (.inl n), some (.inl (-1)), some (.inl 4), some (.inl 2), some (.inl 1), some (.inl (MF m h 1 t)), some (.inl 3)]) rfl ?_
    refine r_goto f97_74 (t := 25) (by decide) ?_
    refine r_iload f97_25 rfl ?_
    refine r_iconst f97_27 rfl ?_
    refine r_cge f97_28 (t := 77) (by decide) (fun _ => ?_) (fun h => absurd (by omega) h)
    refine r_iload f97_77 rfl ?_
    refine r_iload_n f97_79 rfl ?_
    refine r_clt f97_80 (t := 98) (by decide) (fun q2 => ?_) (fun q2 => ?_)
    · refine r_iinc f97_98 rfl rfl rfl (e := 3) (by omega) (by omega) (by omega) (ls' := [some (.inr (.inl (some 264))), some (.inl h), some (.inl t), some (.inl n), some (.inl (-1)), some (.inl 4), some (.inl 3), some (.inl 1), some (.inl (MF m h 1 t)), some (.inl 3)]) rfl ?_
      refine r_goto f97_101 (t := 9) (by decide) ?_
      refine r_iload f97_9 rfl ?_
      refine r_bipush f97_11 (by decide) ?_
      refine r_cge f97_13 (t := 104) (by decide) (fun h => absurd h (by omega)) (fun _ => ?_)
      refine r_iconst f97_16 rfl ?_
      refine r_istore f97_17 rfl (ls' := [some (.inr (.inl (some 264))), some (.inl h), some (.inl t), some (.inl n), some (.inl (-1)), some (.inl 4), some (.inl 3), some (.inl 0), some (.inl (MF m h 1 t)), some (.inl 3)]) rfl ?_
      refine r_iconst f97_19 rfl ?_
      refine r_istore f97_20 rfl (ls' := [some (.inr (.inl (some 264))), some (.inl h), some (.inl t), some (.inl n), some (.inl (-1)), some (.inl 4), some (.inl 3), some (.inl 0), some (.inl 0), some (.inl 3)]) rfl ?_
      refine r_iconst f97_22 rfl ?_
      refine r_istore f97_23 rfl (ls' := [some (.inr (.inl (some 264))), some (.inl h), some (.inl t), some (.inl n), some (.inl (-1)), some (.inl 4), some (.inl 3), some (.inl 0), some (.inl 0), some (.inl 0)]) rfl ?_
      refine r_iload f97_25 rfl ?_
      refine r_iconst f97_27 rfl ?_
      refine r_cge f97_28 (t := 77) (by decide) (fun h => absurd h (by omega)) (fun _ => ?_)
      refine r_iload f97_31 rfl ?_
      refine r_iload f97_33 rfl ?_
      refine r_iload f97_35 rfl ?_
      refine r_ishr f97_37 (e := 3) (by decide) ?_
      refine r_iconst f97_38 rfl ?_
      refine r_iand f97_39 (e := 1) (by decide) ?_
      refine r_iadd f97_40 (e := 1) (by omega) (by omega) (by omega) ?_
      refine r_istore f97_41 rfl (ls' := [some (.inr (.inl (some 264))), some (.inl h), some (.inl t), some (.inl n), some (.inl (-1)), some (.inl 4), some (.inl 3), some (.inl 1), some (.inl 0), some (.inl 0)]) rfl ?_
      refine r_iload f97_43 rfl ?_
      refine r_iload f97_45 rfl ?_
      refine r_iload f97_47 rfl ?_
      refine r_ishr f97_49 (e := 3) (by decide) ?_
      refine r_iconst f97_50 rfl ?_
      refine r_iand f97_51 (e := 1) (by decide) ?_
      refine r_iconst f97_52 rfl ?_
      refine r_cne f97_53 (t := 67) (by decide) (fun h => absurd h (by omega)) (fun _ => ?_)
      refine r_aload_n f97_56 rfl ?_
      refine r_iload_n f97_57 rfl ?_
      refine r_iload f97_58 rfl ?_
      refine r_iload_n f97_60 rfl ?_
      refine r_callv3i (m' := m1) (v := MF m h 0 t) f97_61 o97 M7_108 p93 o93 kd264 rfl (by simp) (t_freeIn (m := m) ha hk (e := 0) h0 h1 (by omega) (by omega) t0 t1) ?_
      refine r_goto f97_64 (t := 68) (by decide) ?_
      refine r_iadd f97_68 (e := MF m h 0 t) (by omega) (by omega) (by omega) ?_
      refine r_istore f97_69 rfl (ls' := [some (.inr (.inl (some 264))), some (.inl h), some (.inl t), some (.inl n), some (.inl (-1)), some (.inl 4), some (.inl 3), some (.inl 1), some (.inl (MF m h 0 t)), some (.inl 0)]) rfl ?_
      refine r_iinc f97_71 rfl rfl rfl (e := 1) (by omega) (by omega) (by omega) (ls' := [some (.inr (.inl (some 264))), some (.inl h), some (.inl t), some (.inl n), some (.inl (-1)), some (.inl 4), some (.inl 3), some (.inl 1), some (.inl (MF m h 0 t)), some (.inl 1)]) rfl ?_
      refine r_goto f97_74 (t := 25) (by decide) ?_
      refine r_iload f97_25 rfl ?_
      refine r_iconst f97_27 rfl ?_
      refine r_cge f97_28 (t := 77) (by decide) (fun h => absurd h (by omega)) (fun _ => ?_)
      refine r_iload f97_31 rfl ?_
      refine r_iload f97_33 rfl ?_
      refine r_iload f97_35 rfl ?_
      refine r_ishr f97_37 (e := 1) (by decide) ?_
      refine r_iconst f97_38 rfl ?_
      refine r_iand f97_39 (e := 1) (by decide) ?_
      refine r_iadd f97_40 (e := 2) (by omega) (by omega) (by omega) ?_
      refine r_istore f97_41 rfl (ls' := [some (.inr (.inl (some 264))), some (.inl h), some (.inl t), some (.inl n), some (.inl (-1)), some (.inl 4), some (.inl 3), some (.inl 2), some (.inl (MF m h 0 t)), some (.inl 1)]) rfl ?_
      refine r_iload f97_43 rfl ?_
      refine r_iload f97_45 rfl ?_
      refine r_iload f97_47 rfl ?_
      refine r_ishr f97_49 (e := 1) (by decide) ?_
      refine r_iconst f97_50 rfl ?_
      refine r_iand f97_51 (e := 1) (by decide) ?_
      refine r_iconst f97_52 rfl ?_
      refine r_cne f97_53 (t := 67) (by decide) (fun h => absurd h (by omega)) (fun _ => ?_)
      refine r_aload_n f97_56 rfl ?_
      refine r_iload_n f97_57 rfl ?_
      refine r_iload f97_58 rfl ?_
      refine r_iload_n f97_60 rfl ?_
      refine r_callv3i (m' := m1) (v := MF m h 1 t) f97_61 o97 M7_108 p93 o93 kd264 rfl (by simp) (t_freeIn (m := m) ha hk (e := 1) h0 h1 (by omega) (by omega) t0 t1) ?_
      refine r_goto f97_64 (t := 68) (by decide) ?_
      refine r_iadd f97_68 (e := MF m h 0 t + MF m h 1 t) (by omega) (by omega) (by omega) ?_
      refine r_istore f97_69 rfl (ls' := [some (.inr (.inl (some 264))), some (.inl h), some (.inl t), some (.inl n), some (.inl (-1)), some (.inl 4), some (.inl 3), some (.inl 2), some (.inl (MF m h 0 t + MF m h 1 t)), some (.inl 1)]) rfl ?_
      refine r_iinc f97_71 rfl rfl rfl (e := 2) (by omega) (by omega) (by omega) (ls' := [some (.inr (.inl (some 264))), some (.inl h), some (.inl t), some (.inl n), some (.inl (-1)), some (.inl 4), some (.inl 3), some (.inl 2), some (.inl (MF m h 0 t + MF m h 1 t)), some (.inl 2)]) rfl ?_
      refine r_goto f97_74 (t := 25) (by decide) ?_
      refine r_iload f97_25 rfl ?_
      refine r_iconst f97_27 rfl ?_
      refine r_cge f97_28 (t := 77) (by decide) (fun h => absurd h (by omega)) (fun _ => ?_)
      refine r_iload f97_31 rfl ?_
      refine r_iload f97_33 rfl ?_
      refine r_iload f97_35 rfl ?_
      refine r_ishr f97_37 (e := 0) (by decide) ?_
      refine r_iconst f97_38 rfl ?_
      refine r_iand f97_39 (e := 0) (by decide) ?_
      refine r_iadd f97_40 (e := 2) (by omega) (by omega) (by omega) ?_
      refine r_istore f97_41 rfl (ls' := [some (.inr (.inl (some 264))), some (.inl h), some (.inl t), some (.inl n), some (.inl (-1)), some (.inl 4), some (.inl 3), some (.inl 2), some (.inl (MF m h 0 t + MF m h 1 t)), some (.inl 2)]) rfl ?_
      refine r_iload f97_43 rfl ?_
      refine r_iload f97_45 rfl ?_
      refine r_iload f97_47 rfl ?_
      refine r_ishr f97_49 (e := 0) (by decide) ?_
      refine r_iconst f97_50 rfl ?_
      refine r_iand f97_51 (e := 0) (by decide) ?_
      refine r_iconst f97_52 rfl ?_
      refine r_cne f97_53 (t := 67) (by decide) (fun _ => ?_) (fun h => absurd (by omega) h)
      refine r_iconst f97_67 rfl ?_
      refine r_iadd f97_68 (e := MF m h 0 t + MF m h 1 t) (by omega) (by omega) (by omega) ?_
      refine r_istore f97_69 rfl (ls' := [some (.inr (.inl (some 264))), some (.inl h), some (.inl t), some (.inl n), some (.inl (-1)), some (.inl 4), some (.inl 3), some (.inl 2), some (.inl (MF m h 0 t + MF m h 1 t)), some (.inl 2)]) rfl ?_
      refine r_iinc f97_71 rfl rfl rfl (e := 3) (by omega) (by omega) (by omega) (ls' := [some (.inr (.inl (some 264))), some (.inl h), some (.inl t), some (.inl n), some (.inl (-1)), some (.inl 4), some (.inl 3), some (.inl 2), some (.inl (MF m h 0 t + MF m h 1 t)), some (.inl 3)]) rfl ?_
      refine r_goto f97_74 (t := 25) (by decide) ?_
      refine r_iload f97_25 rfl ?_
      refine r_iconst f97_27 rfl ?_
      refine r_cge f97_28 (t := 77) (by decide) (fun _ => ?_) (fun h => absurd (by omega) h)
      refine r_iload f97_77 rfl ?_
      refine r_iload_n f97_79 rfl ?_
      refine r_clt f97_80 (t := 98) (by decide) (fun q3 => ?_) (fun q3 => ?_)
      · refine r_iinc f97_98 rfl rfl rfl (e := 4) (by omega) (by omega) (by omega) (ls' := [some (.inr (.inl (some 264))), some (.inl h), some (.inl t), some (.inl n), some (.inl (-1)), some (.inl 4), some (.inl 4), some (.inl 2), some (.inl (MF m h 0 t + MF m h 1 t)), some (.inl 3)]) rfl ?_
        refine r_goto f97_101 (t := 9) (by decide) ?_
        refine r_iload f97_9 rfl ?_
        refine r_bipush f97_11 (by decide) ?_
        refine r_cge f97_13 (t := 104) (by decide) (fun h => absurd h (by omega)) (fun _ => ?_)
        refine r_iconst f97_16 rfl ?_
        refine r_istore f97_17 rfl (ls' := [some (.inr (.inl (some 264))), some (.inl h), some (.inl t), some (.inl n), some (.inl (-1)), some (.inl 4), some (.inl 4), some (.inl 0), some (.inl (MF m h 0 t + MF m h 1 t)), some (.inl 3)]) rfl ?_
        refine r_iconst f97_19 rfl ?_
        refine r_istore f97_20 rfl (ls' := [some (.inr (.inl (some 264))), some (.inl h), some (.inl t), some (.inl n), some (.inl (-1)), some (.inl 4), some (.inl 4), some (.inl 0), some (.inl 0), some (.inl 3)]) rfl ?_
        refine r_iconst f97_22 rfl ?_
        refine r_istore f97_23 rfl (ls' := [some (.inr (.inl (some 264))), some (.inl h), some (.inl t), some (.inl n), some (.inl (-1)), some (.inl 4), some (.inl 4), some (.inl 0), some (.inl 0), some (.inl 0)]) rfl ?_
        refine r_iload f97_25 rfl ?_
        refine r_iconst f97_27 rfl ?_
        refine r_cge f97_28 (t := 77) (by decide) (fun h => absurd h (by omega)) (fun _ => ?_)
        refine r_iload f97_31 rfl ?_
        refine r_iload f97_33 rfl ?_
        refine r_iload f97_35 rfl ?_
        refine r_ishr f97_37 (e := 4) (by decide) ?_
        refine r_iconst f97_38 rfl ?_
        refine r_iand f97_39 (e := 0) (by decide) ?_
        refine r_iadd f97_40 (e := 0) (by omega) (by omega) (by omega) ?_
        refine r_istore f97_41 rfl (ls' := [some (.inr (.inl (some 264))), some (.inl h), some (.inl t), some (.inl n), some (.inl (-1)), some (.inl 4), some (.inl 4), some (.inl 0), some (.inl 0), some (.inl 0)]) rfl ?_
        refine r_iload f97_43 rfl ?_
        refine r_iload f97_45 rfl ?_
        refine r_iload f97_47 rfl ?_
        refine r_ishr f97_49 (e := 4) (by decide) ?_
        refine r_iconst f97_50 rfl ?_
        refine r_iand f97_51 (e := 0) (by decide) ?_
        refine r_iconst f97_52 rfl ?_
        refine r_cne f97_53 (t := 67) (by decide) (fun _ => ?_) (fun h => absurd (by omega) h)
        refine r_iconst f97_67 rfl ?_
        refine r_iadd f97_68 (e := 0) (by omega) (by omega) (by omega) ?_
        refine r_istore f97_69 rfl (ls' := [some (.inr (.inl (some 264))), some (.inl h), some (.inl t), some (.inl n), some (.inl (-1)), some (.inl 4), some (.inl 4), some (.inl 0), some (.inl 0), some (.inl 0)]) rfl ?_
        refine r_iinc f97_71 rfl rfl rfl (e := 1) (by omega) (by omega) (by omega) (ls' := [some (.inr (.inl (some 264))), some (.inl h), some (.inl t), some (.inl n), some (.inl (-1)), some (.inl 4), some (.inl 4), some (.inl 0), some (.inl 0), some (.inl 1)]) rfl ?_
        refine r_goto f97_74 (t := 25) (by decide) ?_
        refine r_iload f97_25 rfl ?_
        refine r_iconst f97_27 rfl ?_
        refine r_cge f97_28 (t := 77) (by decide) (fun h => absurd h (by omega)) (fun _ => ?_)
        refine r_iload f97_31 rfl ?_
        refine r_iload f97_33 rfl ?_
        refine r_iload f97_35 rfl ?_
        refine r_ishr f97_37 (e := 2) (by decide) ?_
        refine r_iconst f97_38 rfl ?_
        refine r_iand f97_39 (e := 0) (by decide) ?_
        refine r_iadd f97_40 (e := 0) (by omega) (by omega) (by omega) ?_
        refine r_istore f97_41 rfl (ls' := [some (.inr (.inl (some 264))), some (.inl h), some (.inl t), some (.inl n), some (.inl (-1)), some (.inl 4), some (.inl 4), some (.inl 0), some (.inl 0), some (.inl 1)]) rfl ?_
        refine r_iload f97_43 rfl ?_
        refine r_iload f97_45 rfl ?_
        refine r_iload f97_47 rfl ?_
        refine r_ishr f97_49 (e := 2) (by decide) ?_
        refine r_iconst f97_50 rfl ?_
        refine r_iand f97_51 (e := 0) (by decide) ?_
        refine r_iconst f97_52 rfl ?_
        refine r_cne f97_53 (t := 67) (by decide) (fun _ => ?_) (fun h => absurd (by omega) h)
        refine r_iconst f97_67 rfl ?_
        refine r_iadd f97_68 (e := 0) (by omega) (by omega) (by omega) ?_
        refine r_istore f97_69 rfl (ls' := [some (.inr (.inl (some 264))), some (.inl h), some (.inl t), some (.inl n), some (.inl (-1)), some (.inl 4), some (.inl 4), some (.inl 0), some (.inl 0), some (.inl 1)]) rfl ?_
        refine r_iinc f97_71 rfl rfl rfl (e := 2) (by omega) (by omega) (by omega) (ls' := [some (.inr (.inl (some 264))), some (.inl h), some (.inl t), some (.inl n), some (.inl (-1)), some (.inl 4), some (.inl 4), some (.inl 0), some (.inl 0), some (.inl 2)]) rfl ?_
        refine r_goto f97_74 (t := 25) (by decide) ?_
        refine r_iload f97_25 rfl ?_
        refine r_iconst f97_27 rfl ?_
        refine r_cge f97_28 (t := 77) (by decide) (fun h => absurd h (by omega)) (fun _ => ?_)
        refine r_iload f97_31 rfl ?_
        refine r_iload f97_33 rfl ?_
        refine r_iload f97_35 rfl ?_
        refine r_ishr f97_37 (e := 1) (by decide) ?_
        refine r_iconst f97_38 rfl ?_
        refine r_iand f97_39 (e := 1) (by decide) ?_
        refine r_iadd f97_40 (e := 1) (by omega) (by omega) (by omega) ?_
        refine r_istore f97_41 rfl (ls' := [some (.inr (.inl (some 264))), some (.inl h), some (.inl t), some (.inl n), some (.inl (-1)), some (.inl 4), some (.inl 4), some (.inl 1), some (.inl 0), some (.inl 2)]) rfl ?_
        refine r_iload f97_43 rfl ?_
        refine r_iload f97_45 rfl ?_
        refine r_iload f97_47 rfl ?_
        refine r_ishr f97_49 (e := 1) (by decide) ?_
        refine r_iconst f97_50 rfl ?_
        refine r_iand f97_51 (e := 1) (by decide) ?_
        refine r_iconst f97_52 rfl ?_
        refine r_cne f97_53 (t := 67) (by decide) (fun h => absurd h (by omega)) (fun _ => ?_)
        refine r_aload_n f97_56 rfl ?_
        refine r_iload_n f97_57 rfl ?_
        refine r_iload f97_58 rfl ?_
        refine r_iload_n f97_60 rfl ?_
        refine r_callv3i (m' := m1) (v := MF m h 2 t) f97_61 o97 M7_108 p93 o93 kd264 rfl (by simp) (t_freeIn (m := m) ha hk (e := 2) h0 h1 (by omega) (by omega) t0 t1) ?_
        refine r_goto f97_64 (t := 68) (by decide) ?_
        refine r_iadd f97_68 (e := MF m h 2 t) (by omega) (by omega) (by omega) ?_
        refine r_istore f97_69 rfl (ls' := [some (.inr (.inl (some 264))), some (.inl h), some (.inl t), some (.inl n), some (.inl (-1)), some (.inl 4), some (.inl 4), some (.inl 1), some (.inl (MF m h 2 t)), some (.inl 2)]) rfl ?_
        refine r_iinc f97_71 rfl rfl rfl (e := 3) (by omega) (by omega) (by omega) (ls' := [some (.inr (.inl (some 264))), some (.inl h), some (.inl t), some (.inl n), some (.inl (-1)), some (.inl 4), some (.inl 4), some (.inl 1), some (.inl (MF m h 2 t)), some (.inl 3)]) rfl ?_
        refine r_goto f97_74 (t := 25) (by decide) ?_
        refine r_iload f97_25 rfl ?_
        refine r_iconst f97_27 rfl ?_
        refine r_cge f97_28 (t := 77) (by decide) (fun _ => ?_) (fun h => absurd (by omega) h)
        refine r_iload f97_77 rfl ?_
        refine r_iload_n f97_79 rfl ?_
        refine r_clt f97_80 (t := 98) (by decide) (fun q4 => ?_) (fun q4 => ?_)
        · refine r_iinc f97_98 rfl rfl rfl (e := 5) (by omega) (by omega) (by omega) (ls' := [some (.inr (.inl (some 264))), some (.inl h), some (.inl t), some (.inl n), some (.inl (-1)), some (.inl 4), some (.inl 5), some (.inl 1), some (.inl (MF m h 2 t)), some (.inl 3)]) rfl ?_
          refine r_goto f97_101 (t := 9) (by decide) ?_
          refine r_iload f97_9 rfl ?_
          refine r_bipush f97_11 (by decide) ?_
          refine r_cge f97_13 (t := 104) (by decide) (fun h => absurd h (by omega)) (fun _ => ?_)
          refine r_iconst f97_16 rfl ?_
          refine r_istore f97_17 rfl (ls' := [some (.inr (.inl (some 264))), some (.inl h), some (.inl t), some (.inl n), some (.inl (-1)), some (.inl 4), some (.inl 5), some (.inl 0), some (.inl (MF m h 2 t)), some (.inl 3)]) rfl ?_
          refine r_iconst f97_19 rfl ?_
          refine r_istore f97_20 rfl (ls' := [some (.inr (.inl (some 264))), some (.inl h), some (.inl t), some (.inl n), some (.inl (-1)), some (.inl 4), some (.inl 5), some (.inl 0), some (.inl 0), some (.inl 3)]) rfl ?_
          refine r_iconst f97_22 rfl ?_
          refine r_istore f97_23 rfl (ls' := [some (.inr (.inl (some 264))), some (.inl h), some (.inl t), some (.inl n), some (.inl (-1)), some (.inl 4), some (.inl 5), some (.inl 0), some (.inl 0), some (.inl 0)]) rfl ?_
          refine r_iload f97_25 rfl ?_
          refine r_iconst f97_27 rfl ?_
          refine r_cge f97_28 (t := 77) (by decide) (fun h => absurd h (by omega)) (fun _ => ?_)
          refine r_iload f97_31 rfl ?_
          refine r_iload f97_33 rfl ?_
          refine r_iload f97_35 rfl ?_
          refine r_ishr f97_37 (e := 5) (by decide) ?_
          refine r_iconst f97_38 rfl ?_
          refine r_iand f97_39 (e := 1) (by decide) ?_
          refine r_iadd f97_40 (e := 1) (by omega) (by omega) (by omega) ?_
          refine r_istore f97_41 rfl (ls' := [some (.inr (.inl (some 264))), some (.inl h), some (.inl t), some (.inl n), some (.inl (-1)), some (.inl 4), some (.inl 5), some (.inl 1), some (.inl 0), some (.inl 0)]) rfl ?_
          refine r_iload f97_43 rfl ?_
          refine r_iload f97_45 rfl ?_
          refine r_iload f97_47 rfl ?_
          refine r_ishr f97_49 (e := 5) (by decide) ?_
          refine r_iconst f97_50 rfl ?_
          refine r_iand f97_51 (e := 1) (by decide) ?_
          refine r_iconst f97_52 rfl ?_
          refine r_cne f97_53 (t := 67) (by decide) (fun h => absurd h (by omega)) (fun _ => ?_)
          refine r_aload_n f97_56 rfl ?_
          refine r_iload_n f97_57 rfl ?_
          refine r_iload f97_58 rfl ?_
          refine r_iload_n f97_60 rfl ?_
          refine r_callv3i (m' := m1) (v := MF m h 0 t) f97_61 o97 M7_108 p93 o93 kd264 rfl (by simp) (t_freeIn (m := m) ha hk (e := 0) h0 h1 (by omega) (by omega) t0 t1) ?_
          refine r_goto f97_64 (t := 68) (by decide) ?_
          refine r_iadd f97_68 (e := MF m h 0 t) (by omega) (by omega) (by omega) ?_
          refine r_istore f97_69 rfl (ls' := [some (.inr (.inl (some 264))), some (.inl h), some (.inl t), some (.inl n), some (.inl (-1)), some (.inl 4), some (.inl 5), some (.inl 1), some (.inl (MF m h 0 t)), some (.inl 0)]) rfl ?_
          refine r_iinc f97_71 rfl rfl rfl (e := 1) (by omega) (by omega) (by omega) (ls' := [some (.inr (.inl (some 264))), some (.inl h), some (.inl t), some (.inl n), some (.inl (-1)), some (.inl 4), some (.inl 5), some (.inl 1), some (.inl (MF m h 0 t)), some (.inl 1)]) rfl ?_
          refine r_goto f97_74 (t := 25) (by decide) ?_
          refine r_iload f97_25 rfl ?_
          refine r_iconst f97_27 rfl ?_
          refine r_cge f97_28 (t := 77) (by decide) (fun h => absurd h (by omega)) (fun _ => ?_)
          refine r_iload f97_31 rfl ?_
          refine r_iload f97_33 rfl ?_
          refine r_iload f97_35 rfl ?_
          refine r_ishr f97_37 (e := 2) (by decide) ?_
          refine r_iconst f97_38 rfl ?_
          refine r_iand f97_39 (e := 0) (by decide) ?_
          refine r_iadd f97_40 (e := 1) (by omega) (by omega) (by omega) ?_
          refine r_istore f97_41 rfl (ls' := [some (.inr (.inl (some 264))), some (.inl h), some (.inl t), some (.inl n), some (.inl (-1)), some (.inl 4), some (.inl 5), some (.inl 1), some (.inl (MF m h 0 t)), some (.inl 1)]) rfl ?_
          refine r_iload f97_43 rfl ?_
          refine r_iload f97_45 rfl ?_
          refine r_iload f97_47 rfl ?_
          refine r_ishr f97_49 (e := 2) (by decide) ?_
          refine r_iconst f97_50 rfl ?_
          refine r_iand f97_51 (e := 0) (by decide) ?_
          refine r_iconst f97_52 rfl ?_
          refine r_cne f97_53 (t := 67) (by decide) (fun _ => ?_) (fun h => absurd (by omega) h)
          refine r_iconst f97_67 rfl ?_
          refine r_iadd f97_68 (e := MF m h 0 t) (by omega) (by omega) (by omega) ?_
          refine r_istore f97_69 rfl (ls' := [some (.inr (.inl (some 264))), some (.inl h), some (.inl t), some (.inl n), some (.inl (-1)), some (.inl 4), some (.inl 5), some (.inl 1), some (.inl (MF m h 0 t)), some (.inl 1)]) rfl ?_
          refine r_iinc f97_71 rfl rfl rfl (e := 2) (by omega) (by omega) (by omega) (ls' := [some (.inr (.inl (some 264))), some (.inl h), some (.inl t), some (.inl n), some (.inl (-1)), some (.inl 4), some (.inl 5), some (.inl 1), some (.inl (MF m h 0 t)), some (.inl 2)]) rfl ?_
          refine r_goto f97_74 (t := 25) (by decide) ?_
          refine r_iload f97_25 rfl ?_
          refine r_iconst f97_27 rfl ?_
          refine r_cge f97_28 (t := 77) (by decide) (fun h => absurd h (by omega)) (fun _ => ?_)
          refine r_iload f97_31 rfl ?_
          refine r_iload f97_33 rfl ?_
          refine r_iload f97_35 rfl ?_
          refine r_ishr f97_37 (e := 1) (by decide) ?_
          refine r_iconst f97_38 rfl ?_
          refine r_iand f97_39 (e := 1) (by decide) ?_
          refine r_iadd f97_40 (e := 2) (by omega) (by omega) (by omega) ?_
          refine r_istore f97_41 rfl (ls' := [some (.inr (.inl (some 264))), some (.inl h), some (.inl t), some (.inl n), some (.inl (-1)), some (.inl 4), some (.inl 5), some (.inl 2), some (.inl (MF m h 0 t)), some (.inl 2)]) rfl ?_
          refine r_iload f97_43 rfl ?_
          refine r_iload f97_45 rfl ?_
          refine r_iload f97_47 rfl ?_
          refine r_ishr f97_49 (e := 1) (by decide) ?_
          refine r_iconst f97_50 rfl ?_
          refine r_iand f97_51 (e := 1) (by decide) ?_
          refine r_iconst f97_52 rfl ?_
          refine r_cne f97_53 (t := 67) (by decide) (fun h => absurd h (by omega)) (fun _ => ?_)
          refine r_aload_n f97_56 rfl ?_
          refine r_iload_n f97_57 rfl ?_
          refine r_iload f97_58 rfl ?_
          refine r_iload_n f97_60 rfl ?_
          refine r_callv3i (m' := m1) (v := MF m h 2 t) f97_61 o97 M7_108 p93 o93 kd264 rfl (by simp) (t_freeIn (m := m) ha hk (e := 2) h0 h1 (by omega) (by omega) t0 t1) ?_
          refine r_goto f97_64 (t := 68) (by decide) ?_
          refine r_iadd f97_68 (e := MF m h 0 t + MF m h 2 t) (by omega) (by omega) (by omega) ?_
          refine r_istore f97_69 rfl (ls' := [some (.inr (.inl (some 264))), some (.inl h), some (.inl t), some (.inl n), some (.inl (-1)), some (.inl 4), some (.inl 5), some (.inl 2), some (.inl (MF m h 0 t + MF m h 2 t)), some (.inl 2)]) rfl ?_
          refine r_iinc f97_71 rfl rfl rfl (e := 3) (by omega) (by omega) (by omega) (ls' := [some (.inr (.inl (some 264))), some (.inl h), some (.inl t), some (.inl n), some (.inl (-1)), some (.inl 4), some (.inl 5), some (.inl 2), some (.inl (MF m h 0 t + MF m h 2 t)), some (.inl 3)]) rfl ?_
          refine r_goto f97_74 (t := 25) (by decide) ?_
          refine r_iload f97_25 rfl ?_
          refine r_iconst f97_27 rfl ?_
          refine r_cge f97_28 (t := 77) (by decide) (fun _ => ?_) (fun h => absurd (by omega) h)
          refine r_iload f97_77 rfl ?_
          refine r_iload_n f97_79 rfl ?_
          refine r_clt f97_80 (t := 98) (by decide) (fun q5 => ?_) (fun q5 => ?_)
          · refine r_iinc f97_98 rfl rfl rfl (e := 6) (by omega) (by omega) (by omega) (ls' := [some (.inr (.inl (some 264))), some (.inl h), some (.inl t), some (.inl n), some (.inl (-1)), some (.inl 4), some (.inl 6), some (.inl 2), some (.inl (MF m h 0 t + MF m h 2 t)), some (.inl 3)]) rfl ?_
            refine r_goto f97_101 (t := 9) (by decide) ?_
            refine r_iload f97_9 rfl ?_
            refine r_bipush f97_11 (by decide) ?_
            refine r_cge f97_13 (t := 104) (by decide) (fun h => absurd h (by omega)) (fun _ => ?_)
            refine r_iconst f97_16 rfl ?_
            refine r_istore f97_17 rfl (ls' := [some (.inr (.inl (some 264))), some (.inl h), some (.inl t), some (.inl n), some (.inl (-1)), some (.inl 4), some (.inl 6), some (.inl 0), some (.inl (MF m h 0 t + MF m h 2 t)), some (.inl 3)]) rfl ?_
            refine r_iconst f97_19 rfl ?_
            refine r_istore f97_20 rfl (ls' := [some (.inr (.inl (some 264))), some (.inl h), some (.inl t), some (.inl n), some (.inl (-1)), some (.inl 4), some (.inl 6), some (.inl 0), some (.inl 0), some (.inl 3)]) rfl ?_
            refine r_iconst f97_22 rfl ?_
            refine r_istore f97_23 rfl (ls' := [some (.inr (.inl (some 264))), some (.inl h), some (.inl t), some (.inl n), some (.inl (-1)), some (.inl 4), some (.inl 6), some (.inl 0), some (.inl 0), some (.inl 0)]) rfl ?_
            refine r_iload f97_25 rfl ?_
            refine r_iconst f97_27 rfl ?_
            refine r_cge f97_28 (t := 77) (by decide) (fun h => absurd h (by omega)) (fun _ => ?_)
            refine r_iload f97_31 rfl ?_
            refine r_iload f97_33 rfl ?_
            refine r_iload f97_35 rfl ?_
            refine r_ishr f97_37 (e := 6) (by decide) ?_
            refine r_iconst f97_38 rfl ?_
            refine r_iand f97_39 (e := 0) (by decide) ?_
            refine r_iadd f97_40 (e := 0) (by omega) (by omega) (by omega) ?_
            refine r_istore f97_41 rfl (ls' := [some (.inr (.inl (some 264))), some (.inl h), some (.inl t), some (.inl n), some (.inl (-1)), some (.inl 4), some (.inl 6), some (.inl 0), some (.inl 0), some (.inl 0)]) rfl ?_
            refine r_iload f97_43 rfl ?_
            refine r_iload f97_45 rfl ?_
            refine r_iload f97_47 rfl ?_
            refine r_ishr f97_49 (e := 6) (by decide) ?_
            refine r_iconst f97_50 rfl ?_
            refine r_iand f97_51 (e := 0) (by decide) ?_
            refine r_iconst f97_52 rfl ?_
            refine r_cne f97_53 (t := 67) (by decide) (fun _ => ?_) (fun h => absurd (by omega) h)
            refine r_iconst f97_67 rfl ?_
            refine r_iadd f97_68 (e := 0) (by omega) (by omega) (by omega) ?_
            refine r_istore f97_69 rfl (ls' := [some (.inr (.inl (some 264))), some (.inl h), some (.inl t), some (.inl n), some (.inl (-1)), some (.inl 4), some (.inl 6), some (.inl 0), some (.inl 0), some (.inl 0)]) rfl ?_
            refine r_iinc f97_71 rfl rfl rfl (e := 1) (by omega) (by omega) (by omega) (ls' := [some (.inr (.inl (some 264))), some (.inl h), some (.inl t), some (.inl n), some (.inl (-1)), some (.inl 4), some (.inl 6), some (.inl 0), some (.inl 0), some (.inl 1)]) rfl ?_
            refine r_goto f97_74 (t := 25) (by decide) ?_
            refine r_iload f97_25 rfl ?_
            refine r_iconst f97_27 rfl ?_
            refine r_cge f97_28 (t := 77) (by decide) (fun h => absurd h (by omega)) (fun _ => ?_)
            refine r_iload f97_31 rfl ?_
            refine r_iload f97_33 rfl ?_
            refine r_iload f97_35 rfl ?_
            refine r_ishr f97_37 (e := 3) (by decide) ?_
            refine r_iconst f97_38 rfl ?_
            refine r_iand f97_39 (e := 1) (by decide) ?_
            refine r_iadd f97_40 (e := 1) (by omega) (by omega) (by omega) ?_
            refine r_istore f97_41 rfl (ls' := [some (.inr (.inl (some 264))), some (.inl h), some (.inl t), some (.inl n), some (.inl (-1)), some (.inl 4), some (.inl 6), some (.inl 1), some (.inl 0), some (.inl 1)]) rfl ?_
            refine r_iload f97_43 rfl ?_
            refine r_iload f97_45 rfl ?_
            refine r_iload f97_47 rfl ?_
            refine r_ishr f97_49 (e := 3) (by decide) ?_
            refine r_iconst f97_50 rfl ?_
            refine r_iand f97_51 (e := 1) (by decide) ?_
            refine r_iconst f97_52 rfl ?_
            refine r_cne f97_53 (t := 67) (by decide) (fun h => absurd h (by omega)) (fun _ => ?_)
            refine r_aload_n f97_56 rfl ?_
            refine r_iload_n f97_57 rfl ?_
            refine r_iload f97_58 rfl ?_
            refine r_iload_n f97_60 rfl ?_
            refine r_callv3i (m' := m1) (v := MF m h 1 t) f97_61 o97 M7_108 p93 o93 kd264 rfl (by simp) (t_freeIn (m := m) ha hk (e := 1) h0 h1 (by omega) (by omega) t0 t1) ?_
            refine r_goto f97_64 (t := 68) (by decide) ?_
            refine r_iadd f97_68 (e := MF m h 1 t) (by omega) (by omega) (by omega) ?_
            refine r_istore f97_69 rfl (ls' := [some (.inr (.inl (some 264))), some (.inl h), some (.inl t), some (.inl n), some (.inl (-1)), some (.inl 4), some (.inl 6), some (.inl 1), some (.inl (MF m h 1 t)), some (.inl 1)]) rfl ?_
            refine r_iinc f97_71 rfl rfl rfl (e := 2) (by omega) (by omega) (by omega) (ls' := [some (.inr (.inl (some 264))), some (.inl h), some (.inl t), some (.inl n), some (.inl (-1)), some (.inl 4), some (.inl 6), some (.inl 1), some (.inl (MF m h 1 t)), some (.inl 2)]) rfl ?_
            refine r_goto f97_74 (t := 25) (by decide) ?_
            refine r_iload f97_25 rfl ?_
            refine r_iconst f97_27 rfl ?_
            refine r_cge f97_28 (t := 77) (by decide) (fun h => absurd h (by omega)) (fun _ => ?_)
            refine r_iload f97_31 rfl ?_
            refine r_iload f97_33 rfl ?_
            refine r_iload f97_35 rfl ?_
            refine r_ishr f97_37 (e := 1) (by decide) ?_
            refine r_iconst f97_38 rfl ?_
            refine r_iand f97_39 (e := 1) (by decide) ?_
            refine r_iadd f97_40 (e := 2) (by omega) (by omega) (by omega) ?_
            refine r_istore f97_41 rfl (ls' := [some (.inr (.inl (some 264))), some (.inl h), some (.inl t), some (.inl n), some (.inl (-1)), some (.inl 4), some (.inl 6), some (.inl 2), some (.inl (MF m h 1 t)), some (.inl 2)]) rfl ?_
            refine r_iload f97_43 rfl ?_
            refine r_iload f97_45 rfl ?_
            refine r_iload f97_47 rfl ?_
            refine r_ishr f97_49 (e := 1) (by decide) ?_
            refine r_iconst f97_50 rfl ?_
            refine r_iand f97_51 (e := 1) (by decide) ?_
            refine r_iconst f97_52 rfl ?_
            refine r_cne f97_53 (t := 67) (by decide) (fun h => absurd h (by omega)) (fun _ => ?_)
            refine r_aload_n f97_56 rfl ?_
            refine r_iload_n f97_57 rfl ?_
            refine r_iload f97_58 rfl ?_
            refine r_iload_n f97_60 rfl ?_
            refine r_callv3i (m' := m1) (v := MF m h 2 t) f97_61 o97 M7_108 p93 o93 kd264 rfl (by simp) (t_freeIn (m := m) ha hk (e := 2) h0 h1 (by omega) (by omega) t0 t1) ?_
            refine r_goto f97_64 (t := 68) (by decide) ?_
            refine r_iadd f97_68 (e := MF m h 1 t + MF m h 2 t) (by omega) (by omega) (by omega) ?_
            refine r_istore f97_69 rfl (ls' := [some (.inr (.inl (some 264))), some (.inl h), some (.inl t), some (.inl n), some (.inl (-1)), some (.inl 4), some (.inl 6), some (.inl 2), some (.inl (MF m h 1 t + MF m h 2 t)), some (.inl 2)]) rfl ?_
            refine r_iinc f97_71 rfl rfl rfl (e := 3) (by omega) (by omega) (by omega) (ls' := [some (.inr (.inl (some 264))), some (.inl h), some (.inl t), some (.inl n), some (.inl (-1)), some (.inl 4), some (.inl 6), some (.inl 2), some (.inl (MF m h 1 t + MF m h 2 t)), some (.inl 3)]) rfl ?_
            refine r_goto f97_74 (t := 25) (by decide) ?_
            refine r_iload f97_25 rfl ?_
            refine r_iconst f97_27 rfl ?_
            refine r_cge f97_28 (t := 77) (by decide) (fun _ => ?_) (fun h => absurd (by omega) h)
            refine r_iload f97_77 rfl ?_
            refine r_iload_n f97_79 rfl ?_
            refine r_clt f97_80 (t := 98) (by decide) (fun q6 => ?_) (fun q6 => ?_)
            · refine r_iinc f97_98 rfl rfl rfl (e := 7) (by omega) (by omega) (by omega) (ls' := [some (.inr (.inl (some 264))), some (.inl h), some (.inl t), some (.inl n), some (.inl (-1)), some (.inl 4), some (.inl 7), some (.inl 2), some (.inl (MF m h 1 t + MF m h 2 t)), some (.inl 3)]) rfl ?_
              refine r_goto f97_101 (t := 9) (by decide) ?_
              refine r_iload f97_9 rfl ?_
              refine r_bipush f97_11 (by decide) ?_
              refine r_cge f97_13 (t := 104) (by decide) (fun h => absurd h (by omega)) (fun _ => ?_)
              refine r_iconst f97_16 rfl ?_
              refine r_istore f97_17 rfl (ls' := [some (.inr (.inl (some 264))), some (.inl h), some (.inl t), some (.inl n), some (.inl (-1)), some (.inl 4), some (.inl 7), some (.inl 0), some (.inl (MF m h 1 t + MF m h 2 t)), some (.inl 3)]) rfl ?_
              refine r_iconst f97_19 rfl ?_
              refine r_istore f97_20 rfl (ls' := [some (.inr (.inl (some 264))), some (.inl h), some (.inl t), some (.inl n), some (.inl (-1)), some (.inl 4), some (.inl 7), some (.inl 0), some (.inl 0), some (.inl 3)]) rfl ?_
              refine r_iconst f97_22 rfl ?_
              refine r_istore f97_23 rfl (ls' := [some (.inr (.inl (some 264))), some (.inl h), some (.inl t), some (.inl n), some (.inl (-1)), some (.inl 4), some (.inl 7), some (.inl 0), some (.inl 0), some (.inl 0)]) rfl ?_
              refine r_iload f97_25 rfl ?_
              refine r_iconst f97_27 rfl ?_
              refine r_cge f97_28 (t := 77) (by decide) (fun h => absurd h (by omega)) (fun _ => ?_)
              refine r_iload f97_31 rfl ?_
              refine r_iload f97_33 rfl ?_
              refine r_iload f97_35 rfl ?_
              refine r_ishr f97_37 (e := 7) (by decide) ?_
              refine r_iconst f97_38 rfl ?_
              refine r_iand f97_39 (e := 1) (by decide) ?_
              refine r_iadd f97_40 (e := 1) (by omega) (by omega) (by omega) ?_
              refine r_istore f97_41 rfl (ls' := [some (.inr (.inl (some 264))), some (.inl h), some (.inl t), some (.inl n), some (.inl (-1)), some (.inl 4), some (.inl 7), some (.inl 1), some (.inl 0), some (.inl 0)]) rfl ?_
              refine r_iload f97_43 rfl ?_
              refine r_iload f97_45 rfl ?_
              refine r_iload f97_47 rfl ?_
              refine r_ishr f97_49 (e := 7) (by decide) ?_
              refine r_iconst f97_50 rfl ?_
              refine r_iand f97_51 (e := 1) (by decide) ?_
              refine r_iconst f97_52 rfl ?_
              refine r_cne f97_53 (t := 67) (by decide) (fun h => absurd h (by omega)) (fun _ => ?_)
              refine r_aload_n f97_56 rfl ?_
              refine r_iload_n f97_57 rfl ?_
              refine r_iload f97_58 rfl ?_
              refine r_iload_n f97_60 rfl ?_
              refine r_callv3i (m' := m1) (v := MF m h 0 t) f97_61 o97 M7_108 p93 o93 kd264 rfl (by simp) (t_freeIn (m := m) ha hk (e := 0) h0 h1 (by omega) (by omega) t0 t1) ?_
              refine r_goto f97_64 (t := 68) (by decide) ?_
              refine r_iadd f97_68 (e := MF m h 0 t) (by omega) (by omega) (by omega) ?_
              refine r_istore f97_69 rfl (ls' := [some (.inr (.inl (some 264))), some (.inl h), some (.inl t), some (.inl n), some (.inl (-1)), some (.inl 4), some (.inl 7), some (.inl 1), some (.inl (MF m h 0 t)), some (.inl 0)]) rfl ?_
              refine r_iinc f97_71 rfl rfl rfl (e := 1) (by omega) (by omega) (by omega) (ls' := [some (.inr (.inl (some 264))), some (.inl h), some (.inl t), some (.inl n), some (.inl (-1)), some (.inl 4), some (.inl 7), some (.inl 1), some (.inl (MF m h 0 t)), some (.inl 1)]) rfl ?_
              refine r_goto f97_74 (t := 25) (by decide) ?_
              refine r_iload f97_25 rfl ?_
              refine r_iconst f97_27 rfl ?_
              refine r_cge f97_28 (t := 77) (by decide) (fun h => absurd h (by omega)) (fun _ => ?_)
              refine r_iload f97_31 rfl ?_
              refine r_iload f97_33 rfl ?_
              refine r_iload f97_35 rfl ?_
              refine r_ishr f97_37 (e := 3) (by decide) ?_
              refine r_iconst f97_38 rfl ?_
              refine r_iand f97_39 (e := 1) (by decide) ?_
              refine r_iadd f97_40 (e := 2) (by omega) (by omega) (by omega) ?_
              refine r_istore f97_41 rfl (ls' := [some (.inr (.inl (some 264))), some (.inl h), some (.inl t), some (.inl n), some (.inl (-1)), some (.inl 4), some (.inl 7), some (.inl 2), some (.inl (MF m h 0 t)), some (.inl 1)]) rfl ?_
              refine r_iload f97_43 rfl ?_
              refine r_iload f97_45 rfl ?_
              refine r_iload f97_47 rfl ?_
              refine r_ishr f97_49 (e := 3) (by decide) ?_
              refine r_iconst f97_50 rfl ?_
              refine r_iand f97_51 (e := 1) (by decide) ?_
              refine r_iconst f97_52 rfl ?_
              refine r_cne f97_53 (t := 67) (by decide) (fun h => absurd h (by omega)) (fun _ => ?_)
              refine r_aload_n f97_56 rfl ?_
              refine r_iload_n f97_57 rfl ?_
              refine r_iload f97_58 rfl ?_
              refine r_iload_n f97_60 rfl ?_
              refine r_callv3i (m' := m1) (v := MF m h 1 t) f97_61 o97 M7_108 p93 o93 kd264 rfl (by simp) (t_freeIn (m := m) ha hk (e := 1) h0 h1 (by omega) (by omega) t0 t1) ?_
              refine r_goto f97_64 (t := 68) (by decide) ?_
              refine r_iadd f97_68 (e := MF m h 0 t + MF m h 1 t) (by omega) (by omega) (by omega) ?_
              refine r_istore f97_69 rfl (ls' := [some (.inr (.inl (some 264))), some (.inl h), some (.inl t), some (.inl n), some (.inl (-1)), some (.inl 4), some (.inl 7), some (.inl 2), some (.inl (MF m h 0 t + MF m h 1 t)), some (.inl 1)]) rfl ?_
              refine r_iinc f97_71 rfl rfl rfl (e := 2) (by omega) (by omega) (by omega) (ls' := [some (.inr (.inl (some 264))), some (.inl h), some (.inl t), some (.inl n), some (.inl (-1)), some (.inl 4), some (.inl 7), some (.inl 2), some (.inl (MF m h 0 t + MF m h 1 t)), some (.inl 2)]) rfl ?_
              refine r_goto f97_74 (t := 25) (by decide) ?_
              refine r_iload f97_25 rfl ?_
              refine r_iconst f97_27 rfl ?_
              refine r_cge f97_28 (t := 77) (by decide) (fun h => absurd h (by omega)) (fun _ => ?_)
              refine r_iload f97_31 rfl ?_
              refine r_iload f97_33 rfl ?_
              refine r_iload f97_35 rfl ?_
              refine r_ishr f97_37 (e := 1) (by decide) ?_
              refine r_iconst f97_38 rfl ?_
              refine r_iand f97_39 (e := 1) (by decide) ?_
              refine r_iadd f97_40 (e := 3) (by omega) (by omega) (by omega) ?_
              refine r_istore f97_41 rfl (ls' := [some (.inr (.inl (some 264))), some (.inl h), some (.inl t), some (.inl n), some (.inl (-1)), some (.inl 4), some (.inl 7), some (.inl 3), some (.inl (MF m h 0 t + MF m h 1 t)), some (.inl 2)]) rfl ?_
              refine r_iload f97_43 rfl ?_
              refine r_iload f97_45 rfl ?_
              refine r_iload f97_47 rfl ?_
              refine r_ishr f97_49 (e := 1) (by decide) ?_
              refine r_iconst f97_50 rfl ?_
              refine r_iand f97_51 (e := 1) (by decide) ?_
              refine r_iconst f97_52 rfl ?_
              refine r_cne f97_53 (t := 67) (by decide) (fun h => absurd h (by omega)) (fun _ => ?_)
              refine r_aload_n f97_56 rfl ?_
              refine r_iload_n f97_57 rfl ?_
              refine r_iload f97_58 rfl ?_
              refine r_iload_n f97_60 rfl ?_
              refine r_callv3i (m' := m1) (v := MF m h 2 t) f97_61 o97 M7_108 p93 o93 kd264 rfl (by simp) (t_freeIn (m := m) ha hk (e := 2) h0 h1 (by omega) (by omega) t0 t1) ?_
              refine r_goto f97_64 (t := 68) (by decide) ?_
              refine r_iadd f97_68 (e := MF m h 0 t + MF m h 1 t + MF m h 2 t) (by omega) (by omega) (by omega) ?_
              refine r_istore f97_69 rfl (ls' := [some (.inr (.inl (some 264))), some (.inl h), some (.inl t), some (.inl n), some (.inl (-1)), some (.inl 4), some (.inl 7), some (.inl 3), some (.inl (MF m h 0 t + MF m h 1 t + MF m h 2 t)), some (.inl 2)]) rfl ?_
              refine r_iinc f97_71 rfl rfl rfl (e := 3) (by omega) (by omega) (by omega) (ls' := [some (.inr (.inl (some 264))), some (.inl h), some (.inl t), some (.inl n), some (.inl (-1)), some (.inl 4), some (.inl 7), some (.inl 3), some (.inl (MF m h 0 t + MF m h 1 t + MF m h 2 t)), some (.inl 3)]) rfl ?_
              refine r_goto f97_74 (t := 25) (by decide) ?_
              refine r_iload f97_25 rfl ?_
              refine r_iconst f97_27 rfl ?_
              refine r_cge f97_28 (t := 77) (by decide) (fun _ => ?_) (fun h => absurd (by omega) h)
              refine r_iload f97_77 rfl ?_
              refine r_iload_n f97_79 rfl ?_
              refine r_clt f97_80 (t := 98) (by decide) (fun h => absurd h (by omega)) (fun _ => ?_)
              refine r_iload f97_83 rfl ?_
              refine r_iload f97_85 rfl ?_
              refine r_cge f97_87 (t := 98) (by decide) (fun h => absurd h (by omega)) (fun _ => ?_)
              refine r_iload f97_90 rfl ?_
              refine r_istore f97_92 rfl (ls' := [some (.inr (.inl (some 264))), some (.inl h), some (.inl t), some (.inl n), some (.inl 7), some (.inl 4), some (.inl 7), some (.inl 3), some (.inl (MF m h 0 t + MF m h 1 t + MF m h 2 t)), some (.inl 3)]) rfl ?_
              refine r_iload f97_94 rfl ?_
              refine r_istore f97_96 rfl (ls' := [some (.inr (.inl (some 264))), some (.inl h), some (.inl t), some (.inl n), some (.inl 7), some (.inl 3), some (.inl 7), some (.inl 3), some (.inl (MF m h 0 t + MF m h 1 t + MF m h 2 t)), some (.inl 3)]) rfl ?_
              refine r_iinc f97_98 rfl rfl rfl (e := 8) (by omega) (by omega) (by omega) (ls' := [some (.inr (.inl (some 264))), some (.inl h), some (.inl t), some (.inl n), some (.inl 7), some (.inl 3), some (.inl 8), some (.inl 3), some (.inl (MF m h 0 t + MF m h 1 t + MF m h 2 t)), some (.inl 3)]) rfl ?_
              refine r_goto f97_101 (t := 9) (by decide) ?_
              refine r_iload f97_9 rfl ?_
              refine r_bipush f97_11 (by decide) ?_
              refine r_cge f97_13 (t := 104) (by decide) (fun _ => ?_) (fun h => absurd (by omega) h)
              refine r_iload_n f97_104 rfl ?_
              refine r_istore f97_105 rfl (ls' := [some (.inr (.inl (some 264))), some (.inl h), some (.inl t), some (.inl n), some (.inl 7), some (.inl 3), some (.inl n), some (.inl 3), some (.inl (MF m h 0 t + MF m h 1 t + MF m h 2 t)), some (.inl 3)]) rfl ?_
              refine r_iconst f97_107 rfl ?_
              refine r_istore f97_108 rfl (ls' := [some (.inr (.inl (some 264))), some (.inl h), some (.inl t), some (.inl n), some (.inl 7), some (.inl 3), some (.inl n), some (.inl 0), some (.inl (MF m h 0 t + MF m h 1 t + MF m h 2 t)), some (.inl 3)]) rfl ?_
              refine r_iload f97_110 rfl ?_
              refine r_iconst f97_112 rfl ?_
              refine r_cge f97_113 (t := 180) (by decide) (fun h => absurd h (by omega)) (fun _ => ?_)
              refine r_iload f97_116 rfl ?_
              refine r_iload f97_118 rfl ?_
              refine r_ishr f97_120 (e := 7) (by decide) ?_
              refine r_iconst f97_121 rfl ?_
              refine r_iand f97_122 (e := 1) (by decide) ?_
              refine r_iconst f97_123 rfl ?_
              refine r_cne f97_124 (t := 138) (by decide) (fun h => absurd h (by omega)) (fun _ => ?_)
              refine r_aload_n f97_127 rfl ?_
              refine r_iload_n f97_128 rfl ?_
              refine r_iload f97_129 rfl ?_
              refine r_iload_n f97_131 rfl ?_
              refine r_callv3i (m' := m1) (v := MF m h 0 t) f97_132 o97 M7_108 p93 o93 kd264 rfl (by simp) (t_freeIn (m := m) ha hk (e := 0) h0 h1 (by omega) (by omega) t0 t1) ?_
              refine r_goto f97_135 (t := 139) (by decide) ?_
              refine r_istore f97_139 rfl (ls' := [some (.inr (.inl (some 264))), some (.inl h), some (.inl t), some (.inl n), some (.inl 7), some (.inl 3), some (.inl n), some (.inl 0), some (.inl (MF m h 0 t)), some (.inl 3)]) rfl ?_
              refine r_aload_n f97_141 rfl ?_
              refine r_getR f97_142 o97 F7_59 g264_21 rfl ?_
              refine r_iload f97_145 rfl ?_
              refine r_iload f97_147 rfl ?_
              refine r_iload f97_149 rfl ?_
              refine r_cge f97_151 (t := 159) (by decide) (fun h => absurd h (by omega)) (fun _ => ?_)
              refine r_iload f97_154 rfl ?_
              refine r_goto f97_156 (t := 161) (by decide) ?_
              refine r_iast f97_161 kd281 (by omega) (by omega) (by omega) ?_
              refine r_iload f97_162 rfl ?_
              refine r_aload_n f97_164 rfl ?_
              refine r_getR f97_165 o97 F7_59 g264_21 rfl ?_
              refine r_iload f97_168 rfl ?_
              refine r_iald f97_170 kd281 (by omega) (by omega) ?_
              refine r_top (e := MF m h 0 t) (by rw [zu_if, if_pos (by omega)]) ?_
              refine r_isub f97_171 (e := n - MF m h 0 t) (by omega) (by omega) (by omega) ?_
              refine r_istore f97_172 rfl (ls' := [some (.inr (.inl (some 264))), some (.inl h), some (.inl t), some (.inl n), some (.inl 7), some (.inl 3), some (.inl (n - MF m h 0 t)), some (.inl 0), some (.inl (MF m h 0 t)), some (.inl 3)]) rfl ?_
              refine r_iinc f97_174 rfl rfl rfl (e := 1) (by omega) (by omega) (by omega) (ls' := [some (.inr (.inl (some 264))), some (.inl h), some (.inl t), some (.inl n), some (.inl 7), some (.inl 3), some (.inl (n - MF m h 0 t)), some (.inl 1), some (.inl (MF m h 0 t)), some (.inl 3)]) rfl ?_
              refine r_goto f97_177 (t := 110) (by decide) ?_
              refine r_iload f97_110 rfl ?_
              refine r_iconst f97_112 rfl ?_
              refine r_cge f97_113 (t := 180) (by decide) (fun h => absurd h (by omega)) (fun _ => ?_)
              refine r_iload f97_116 rfl ?_
              refine r_iload f97_118 rfl ?_
              refine r_ishr f97_120 (e := 3) (by decide) ?_
              refine r_iconst f97_121 rfl ?_
              refine r_iand f97_122 (e := 1) (by decide) ?_
              refine r_iconst f97_123 rfl ?_
              refine r_cne f97_124 (t := 138) (by decide) (fun h => absurd h (by omega)) (fun _ => ?_)
              refine r_aload_n f97_127 rfl ?_
              refine r_iload_n f97_128 rfl ?_
              refine r_iload f97_129 rfl ?_
              refine r_iload_n f97_131 rfl ?_
              refine r_callv3i (m' := (zu m1 281 0 (MF m h 0 t))) (v := MF m h 1 t) f97_132 o97 M7_108 p93 o93 kd264 rfl (by simp) (t_freeIn (m := m) (zan_u ha (Or.inl rfl)) hk (e := 1) h0 h1 (by omega) (by omega) t0 t1) ?_
              refine r_goto f97_135 (t := 139) (by decide) ?_
              refine r_istore f97_139 rfl (ls' := [some (.inr (.inl (some 264))), some (.inl h), some (.inl t), some (.inl n), some (.inl 7), some (.inl 3), some (.inl (n - MF m h 0 t)), some (.inl 1), some (.inl (MF m h 1 t)), some (.inl 3)]) rfl ?_
              refine r_aload_n f97_141 rfl ?_
              refine r_getR f97_142 o97 F7_59 g264_21 rfl ?_
              refine r_iload f97_145 rfl ?_
              refine r_iload f97_147 rfl ?_
              refine r_iload f97_149 rfl ?_
              refine r_cge f97_151 (t := 159) (by decide) (fun h => absurd h (by omega)) (fun _ => ?_)
              refine r_iload f97_154 rfl ?_
              refine r_goto f97_156 (t := 161) (by decide) ?_
              refine r_iast f97_161 kd281 (by omega) (by omega) (by omega) ?_
              refine r_iload f97_162 rfl ?_
              refine r_aload_n f97_164 rfl ?_
              refine r_getR f97_165 o97 F7_59 g264_21 rfl ?_
              refine r_iload f97_168 rfl ?_
              refine r_iald f97_170 kd281 (by omega) (by omega) ?_
              refine r_top (e := MF m h 1 t) (by rw [zu_if, if_pos (by omega)]) ?_
              refine r_isub f97_171 (e := n - MF m h 0 t - MF m h 1 t) (by omega) (by omega) (by omega) ?_
              refine r_istore f97_172 rfl (ls' := [some (.inr (.inl (some 264))), some (.inl h), some (.inl t), some (.inl n), some (.inl 7), some (.inl 3), some (.inl (n - MF m h 0 t - MF m h 1 t)), some (.inl 1), some (.inl (MF m h 1 t)), some (.inl 3)]) rfl ?_
              refine r_iinc f97_174 rfl rfl rfl (e := 2) (by omega) (by omega) (by omega) (ls' := [some (.inr (.inl (some 264))), some (.inl h), some (.inl t), some (.inl n), some (.inl 7), some (.inl 3), some (.inl (n - MF m h 0 t - MF m h 1 t)), some (.inl 2), some (.inl (MF m h 1 t)), some (.inl 3)]) rfl ?_
              refine r_goto f97_177 (t := 110) (by decide) ?_
              refine r_iload f97_110 rfl ?_
              refine r_iconst f97_112 rfl ?_
              refine r_cge f97_113 (t := 180) (by decide) (fun h => absurd h (by omega)) (fun _ => ?_)
              refine r_iload f97_116 rfl ?_
              refine r_iload f97_118 rfl ?_
              refine r_ishr f97_120 (e := 1) (by decide) ?_
              refine r_iconst f97_121 rfl ?_
              refine r_iand f97_122 (e := 1) (by decide) ?_
              refine r_iconst f97_123 rfl ?_
              refine r_cne f97_124 (t := 138) (by decide) (fun h => absurd h (by omega)) (fun _ => ?_)
              refine r_aload_n f97_127 rfl ?_
              refine r_iload_n f97_128 rfl ?_
              refine r_iload f97_129 rfl ?_
              refine r_iload_n f97_131 rfl ?_
              refine r_callv3i (m' := (zu (zu m1 281 0 (MF m h 0 t)) 281 1 (MF m h 1 t))) (v := MF m h 2 t) f97_132 o97 M7_108 p93 o93 kd264 rfl (by simp) (t_freeIn (m := m) (zan_u (zan_u ha (Or.inl rfl)) (Or.inl rfl)) hk (e := 2) h0 h1 (by omega) (by omega) t0 t1) ?_
              refine r_goto f97_135 (t := 139) (by decide) ?_
              refine r_istore f97_139 rfl (ls' := [some (.inr (.inl (some 264))), some (.inl h), some (.inl t), some (.inl n), some (.inl 7), some (.inl 3), some (.inl (n - MF m h 0 t - MF m h 1 t)), some (.inl 2), some (.inl (MF m h 2 t)), some (.inl 3)]) rfl ?_
              refine r_aload_n f97_141 rfl ?_
              refine r_getR f97_142 o97 F7_59 g264_21 rfl ?_
              refine r_iload f97_145 rfl ?_
              refine r_iload f97_147 rfl ?_
              refine r_iload f97_149 rfl ?_
              refine r_cge f97_151 (t := 159) (by decide) (fun _ => ?_) (fun h => absurd (by omega) h)
              refine r_iload f97_159 rfl ?_
              refine r_iast f97_161 kd281 (by omega) (by omega) (by omega) ?_
              refine r_iload f97_162 rfl ?_
              refine r_aload_n f97_164 rfl ?_
              refine r_getR f97_165 o97 F7_59 g264_21 rfl ?_
              refine r_iload f97_168 rfl ?_
              refine r_iald f97_170 kd281 (by omega) (by omega) ?_
              refine r_top (e := n - MF m h 0 t - MF m h 1 t) (by rw [zu_if, if_pos (by omega)]) ?_
              refine r_isub f97_171 (e := 0) (by omega) (by omega) (by omega) ?_
              refine r_istore f97_172 rfl (ls' := [some (.inr (.inl (some 264))), some (.inl h), some (.inl t), some (.inl n), some (.inl 7), some (.inl 3), some (.inl 0), some (.inl 2), some (.inl (MF m h 2 t)), some (.inl 3)]) rfl ?_
              refine r_iinc f97_174 rfl rfl rfl (e := 3) (by omega) (by omega) (by omega) (ls' := [some (.inr (.inl (some 264))), some (.inl h), some (.inl t), some (.inl n), some (.inl 7), some (.inl 3), some (.inl 0), some (.inl 3), some (.inl (MF m h 2 t)), some (.inl 3)]) rfl ?_
              refine r_goto f97_177 (t := 110) (by decide) ?_
              refine r_iload f97_110 rfl ?_
              refine r_iconst f97_112 rfl ?_
              refine r_cge f97_113 (t := 180) (by decide) (fun _ => ?_) (fun h => absurd (by omega) h)
              exact r_vret f97_180 v97 ⟨rfl, by unfold MPt; rw [show zsh0 (MF m h 0 t) (MF m h 1 t) (MF m h 2 t) n = MF m h 0 t from by unfold zsh0; (repeat (first | rw [if_pos (by omega)] | rw [if_neg (by omega)])); try omega, show zsh1 (MF m h 0 t) (MF m h 1 t) (MF m h 2 t) n = MF m h 1 t from by unfold zsh1; (repeat (first | rw [if_pos (by omega)] | rw [if_neg (by omega)])); try omega, show zsh2 (MF m h 0 t) (MF m h 1 t) (MF m h 2 t) n = n - MF m h 0 t - MF m h 1 t from by unfold zsh2; (repeat (first | rw [if_pos (by omega)] | rw [if_neg (by omega)])); try omega]⟩
            · refine r_iload f97_83 rfl ?_
              refine r_iload f97_85 rfl ?_
              refine r_cge f97_87 (t := 98) (by decide) (fun h => absurd h (by omega)) (fun _ => ?_)
              refine r_iload f97_90 rfl ?_
              refine r_istore f97_92 rfl (ls' := [some (.inr (.inl (some 264))), some (.inl h), some (.inl t), some (.inl n), some (.inl 6), some (.inl 4), some (.inl 6), some (.inl 2), some (.inl (MF m h 1 t + MF m h 2 t)), some (.inl 3)]) rfl ?_
              refine r_iload f97_94 rfl ?_
              refine r_istore f97_96 rfl (ls' := [some (.inr (.inl (some 264))), some (.inl h), some (.inl t), some (.inl n), some (.inl 6), some (.inl 2), some (.inl 6), some (.inl 2), some (.inl (MF m h 1 t + MF m h 2 t)), some (.inl 3)]) rfl ?_
              refine r_iinc f97_98 rfl rfl rfl (e := 7) (by omega) (by omega) (by omega) (ls' := [some (.inr (.inl (some 264))), some (.inl h), some (.inl t), some (.inl n), some (.inl 6), some (.inl 2), some (.inl 7), some (.inl 2), some (.inl (MF m h 1 t + MF m h 2 t)), some (.inl 3)]) rfl ?_
              refine r_goto f97_101 (t := 9) (by decide) ?_
              refine r_iload f97_9 rfl ?_
              refine r_bipush f97_11 (by decide) ?_
              refine r_cge f97_13 (t := 104) (by decide) (fun h => absurd h (by omega)) (fun _ => ?_)
              refine r_iconst f97_16 rfl ?_
              refine r_istore f97_17 rfl (ls' := [some (.inr (.inl (some 264))), some (.inl h), some (.inl t), some (.inl n), some (.inl 6), some (.inl 2), some (.inl 7), some (.inl 0), some (.inl (MF m h 1 t + MF m h 2 t)), some (.inl 3)]) rfl ?_
              refine r_iconst f97_19 rfl ?_
              refine r_istore f97_20 rfl (ls' := [some (.inr (.inl (some 264))), some (.inl h), some (.inl t), some (.inl n), some (.inl 6), some (.inl 2), some (.inl 7), some (.inl 0), some (.inl 0), some (.inl 3)]) rfl ?_
              refine r_iconst f97_22 rfl ?_
              refine r_istore f97_23 rfl (ls' := [some (.inr (.inl (some 264))), some (.inl h), some (.inl t), some (.inl n), some (.inl 6), some (.inl 2), some (.inl 7), some (.inl 0), some (.inl 0), some (.inl 0)]) rfl ?_
              refine r_iload f97_25 rfl ?_
              refine r_iconst f97_27 rfl ?_
              refine r_cge f97_28 (t := 77) (by decide) (fun h => absurd h (by omega)) (fun _ => ?_)
              refine r_iload f97_31 rfl ?_
              refine r_iload f97_33 rfl ?_
              refine r_iload f97_35 rfl ?_
              refine r_ishr f97_37 (e := 7) (by decide) ?_
              refine r_iconst f97_38 rfl ?_
              refine r_iand f97_39 (e := 1) (by decide) ?_
              refine r_iadd f97_40 (e := 1) (by omega) (by omega) (by omega) ?_
              refine r_istore f97_41 rfl (ls' := [some (.inr (.inl (some 264))), some (.inl h), some (.inl t), some (.inl n), some (.inl 6), some (.inl 2), some (.inl 7), some (.inl 1), some (.inl 0), some (.inl 0)]) rfl ?_
              refine r_iload f97_43 rfl ?_
              refine r_iload f97_45 rfl ?_
              refine r_iload f97_47 rfl ?_
              refine r_ishr f97_49 (e := 7) (by decide) ?_
              refine r_iconst f97_50 rfl ?_
              refine r_iand f97_51 (e := 1) (by decide) ?_
              refine r_iconst f97_52 rfl ?_
              refine r_cne f97_53 (t := 67) (by decide) (fun h => absurd h (by omega)) (fun _ => ?_)
              refine r_aload_n f97_56 rfl ?_
              refine r_iload_n f97_57 rfl ?_
              refine r_iload f97_58 rfl ?_
              refine r_iload_n f97_60 rfl ?_
              refine r_callv3i (m' := m1) (v := MF m h 0 t) f97_61 o97 M7_108 p93 o93 kd264 rfl (by simp) (t_freeIn (m := m) ha hk (e := 0) h0 h1 (by omega) (by omega) t0 t1) ?_
              refine r_goto f97_64 (t := 68) (by decide) ?_
              refine r_iadd f97_68 (e := MF m h 0 t) (by omega) (by omega) (by omega) ?_
              refine r_istore f97_69 rfl (ls' := [some (.inr (.inl (some 264))), some (.inl h), some (.inl t), some (.inl n), some (.inl 6), some (.inl 2), some (.inl 7), some (.inl 1), some (.inl (MF m h 0 t)), some (.inl 0)]) rfl ?_
              refine r_iinc f97_71 rfl rfl rfl (e := 1) (by omega) (by omega) (by omega) (ls' := [some (.inr (.inl (some 264))), some (.inl h), some (.inl t), some (.inl n), some (.inl 6), some (.inl 2), some (.inl 7), some (.inl 1), some (.inl (MF m h 0 t)), some (.inl 1)]) rfl ?_
              refine r_goto f97_74 (t := 25) (by decide) ?_
              refine r_iload f97_25 rfl ?_
              refine r_iconst f97_27 rfl ?_
              refine r_cge f97_28 (t := 77) (by decide) (fun h => absurd h (by omega)) (fun _ => ?_)
              refine r_iload f97_31 rfl ?_
              refine r_iload f97_33 rfl ?_
              refine r_iload f97_35 rfl ?_
              refine r_ishr f97_37 (e := 3) (by decide) ?_
              refine r_iconst f97_38 rfl ?_
              refine r_iand f97_39 (e := 1) (by decide) ?_
              refine r_iadd f97_40 (e := 2) (by omega) (by omega) (by omega) ?_
              refine r_istore f97_41 rfl (ls' := [some (.inr (.inl (some 264))), some (.inl h), some (.inl t), some (.inl n), some (.inl 6), some (.inl 2), some (.inl 7), some (.inl 2), some (.inl (MF m h 0 t)), some (.inl 1)]) rfl ?_
              refine r_iload f97_43 rfl ?_
              refine r_iload f97_45 rfl ?_
              refine r_iload f97_47 rfl ?_
              refine r_ishr f97_49 (e := 3) (by decide) ?_
              refine r_iconst f97_50 rfl ?_
              refine r_iand f97_51 (e := 1) (by decide) ?_
              refine r_iconst f97_52 rfl ?_
              refine r_cne f97_53 (t := 67) (by decide) (fun h => absurd h (by omega)) (fun _ => ?_)
              refine r_aload_n f97_56 rfl ?_
              refine r_iload_n f97_57 rfl ?_
              refine r_iload f97_58 rfl ?_
              refine r_iload_n f97_60 rfl ?_
              refine r_callv3i (m' := m1) (v := MF m h 1 t) f97_61 o97 M7_108 p93 o93 kd264 rfl (by simp) (t_freeIn (m := m) ha hk (e := 1) h0 h1 (by omega) (by omega) t0 t1) ?_
              refine r_goto f97_64 (t := 68) (by decide) ?_
              refine r_iadd f97_68 (e := MF m h 0 t + MF m h 1 t) (by omega) (by omega) (by omega) ?_
              refine r_istore f97_69 rfl (ls' := [some (.inr (.inl (some 264))), some (.inl h), some (.inl t), some (.inl n), some (.inl 6), some (.inl 2), some (.inl 7), some (.inl 2), some (.inl (MF m h 0 t + MF m h 1 t)), some (.inl 1)]) rfl ?_
              refine r_iinc f97_71 rfl rfl rfl (e := 2) (by omega) (by omega) (by omega) (ls' := [some (.inr (.inl (some 264))), some (.inl h), some (.inl t), some (.inl n), some (.inl 6), some (.inl 2), some (.inl 7), some (.inl 2), some (.inl (MF m h 0 t + MF m h 1 t)), some (.inl 2)]) rfl ?_
              refine r_goto f97_74 (t := 25) (by decide) ?_
              refine r_iload f97_25 rfl ?_
              refine r_iconst f97_27 rfl ?_
              refine r_cge f97_28 (t := 77) (by decide) (fun h => absurd h (by omega)) (fun _ => ?_)
              refine r_iload f97_31 rfl ?_
              refine r_iload f97_33 rfl ?_
              refine r_iload f97_35 rfl ?_
              refine r_ishr f97_37 (e := 1) (by decide) ?_
              refine r_iconst f97_38 rfl ?_
              refine r_iand f97_39 (e := 1) (by decide) ?_
              refine r_iadd f97_40 (e := 3) (by omega) (by omega) (by omega) ?_
              refine r_istore f97_41 rfl (ls' := [some (.inr (.inl (some 264))), some (.inl h), some (.inl t), some (.inl n), some (.inl 6), some (.inl 2), some (.inl 7), some (.inl 3), some (.inl (MF m h 0 t + MF m h 1 t)), some (.inl 2)]) rfl ?_
              refine r_iload f97_43 rfl ?_
              refine r_iload f97_45 rfl ?_
              refine r_iload f97_47 rfl ?_
              refine r_ishr f97_49 (e := 1) (by decide) ?_
              refine r_iconst f97_50 rfl ?_
              refine r_iand f97_51 (e := 1) (by decide) ?_
              refine r_iconst f97_52 rfl ?_
              refine r_cne f97_53 (t := 67) (by decide) (fun h => absurd h (by omega)) (fun _ => ?_)
              refine r_aload_n f97_56 rfl ?_
              refine r_iload_n f97_57 rfl ?_
              refine r_iload f97_58 rfl ?_
              refine r_iload_n f97_60 rfl ?_
              refine r_callv3i (m' := m1) (v := MF m h 2 t) f97_61 o97 M7_108 p93 o93 kd264 rfl (by simp) (t_freeIn (m := m) ha hk (e := 2) h0 h1 (by omega) (by omega) t0 t1) ?_
              refine r_goto f97_64 (t := 68) (by decide) ?_
              refine r_iadd f97_68 (e := MF m h 0 t + MF m h 1 t + MF m h 2 t) (by omega) (by omega) (by omega) ?_
              refine r_istore f97_69 rfl (ls' := [some (.inr (.inl (some 264))), some (.inl h), some (.inl t), some (.inl n), some (.inl 6), some (.inl 2), some (.inl 7), some (.inl 3), some (.inl (MF m h 0 t + MF m h 1 t + MF m h 2 t)), some (.inl 2)]) rfl ?_
              refine r_iinc f97_71 rfl rfl rfl (e := 3) (by omega) (by omega) (by omega) (ls' := [some (.inr (.inl (some 264))), some (.inl h), some (.inl t), some (.inl n), some (.inl 6), some (.inl 2), some (.inl 7), some (.inl 3), some (.inl (MF m h 0 t + MF m h 1 t + MF m h 2 t)), some (.inl 3)]) rfl ?_
              refine r_goto f97_74 (t := 25) (by decide) ?_
              refine r_iload f97_25 rfl ?_
              refine r_iconst f97_27 rfl ?_
              refine r_cge f97_28 (t := 77) (by decide) (fun _ => ?_) (fun h => absurd (by omega) h)
              refine skip77 (by omega) ?_
              refine r_iinc f97_98 rfl rfl rfl (e := 8) (by omega) (by omega) (by omega) (ls' := [some (.inr (.inl (some 264))), some (.inl h), some (.inl t), some (.inl n), some (.inl 6), some (.inl 2), some (.inl 8), some (.inl 3), some (.inl (MF m h 0 t + MF m h 1 t + MF m h 2 t)), some (.inl 3)]) rfl ?_
              refine r_goto f97_101 (t := 9) (by decide) ?_
              refine r_iload f97_9 rfl ?_
              refine r_bipush f97_11 (by decide) ?_
              refine r_cge f97_13 (t := 104) (by decide) (fun _ => ?_) (fun h => absurd (by omega) h)
              refine r_iload_n f97_104 rfl ?_
              refine r_istore f97_105 rfl (ls' := [some (.inr (.inl (some 264))), some (.inl h), some (.inl t), some (.inl n), some (.inl 6), some (.inl 2), some (.inl n), some (.inl 3), some (.inl (MF m h 0 t + MF m h 1 t + MF m h 2 t)), some (.inl 3)]) rfl ?_
              refine r_iconst f97_107 rfl ?_
              refine r_istore f97_108 rfl (ls' := [some (.inr (.inl (some 264))), some (.inl h), some (.inl t), some (.inl n), some (.inl 6), some (.inl 2), some (.inl n), some (.inl 0), some (.inl (MF m h 0 t + MF m h 1 t + MF m h 2 t)), some (.inl 3)]) rfl ?_
              refine r_iload f97_110 rfl ?_
              refine r_iconst f97_112 rfl ?_
              refine r_cge f97_113 (t := 180) (by decide) (fun h => absurd h (by omega)) (fun _ => ?_)
              refine r_iload f97_116 rfl ?_
              refine r_iload f97_118 rfl ?_
              refine r_ishr f97_120 (e := 6) (by decide) ?_
              refine r_iconst f97_121 rfl ?_
              refine r_iand f97_122 (e := 0) (by decide) ?_
              refine r_iconst f97_123 rfl ?_
              refine r_cne f97_124 (t := 138) (by decide) (fun _ => ?_) (fun h => absurd (by omega) h)
              refine r_iconst f97_138 rfl ?_
              refine r_istore f97_139 rfl (ls' := [some (.inr (.inl (some 264))), some (.inl h), some (.inl t), some (.inl n), some (.inl 6), some (.inl 2), some (.inl n), some (.inl 0), some (.inl 0), some (.inl 3)]) rfl ?_
              refine r_aload_n f97_141 rfl ?_
              refine r_getR f97_142 o97 F7_59 g264_21 rfl ?_
              refine r_iload f97_145 rfl ?_
              refine r_iload f97_147 rfl ?_
              refine r_iload f97_149 rfl ?_
              refine r_cge f97_151 (t := 159) (by decide) (fun h => absurd h (by omega)) (fun _ => ?_)
              refine r_iload f97_154 rfl ?_
              refine r_goto f97_156 (t := 161) (by decide) ?_
              refine r_iast f97_161 kd281 (by omega) (by omega) (by omega) ?_
              refine r_iload f97_162 rfl ?_
              refine r_aload_n f97_164 rfl ?_
              refine r_getR f97_165 o97 F7_59 g264_21 rfl ?_
              refine r_iload f97_168 rfl ?_
              refine r_iald f97_170 kd281 (by omega) (by omega) ?_
              refine r_top (e := 0) (by rw [zu_if, if_pos (by omega)]) ?_
              refine r_isub f97_171 (e := n) (by omega) (by omega) (by omega) ?_
              refine r_istore f97_172 rfl (ls' := [some (.inr (.inl (some 264))), some (.inl h), some (.inl t), some (.inl n), some (.inl 6), some (.inl 2), some (.inl n), some (.inl 0), some (.inl 0), some (.inl 3)]) rfl ?_
              refine r_iinc f97_174 rfl rfl rfl (e := 1) (by omega) (by omega) (by omega) (ls' := [some (.inr (.inl (some 264))), some (.inl h), some (.inl t), some (.inl n), some (.inl 6), some (.inl 2), some (.inl n), some (.inl 1), some (.inl 0), some (.inl 3)]) rfl ?_
              refine r_goto f97_177 (t := 110) (by decide) ?_
              refine r_iload f97_110 rfl ?_
              refine r_iconst f97_112 rfl ?_
              refine r_cge f97_113 (t := 180) (by decide) (fun h => absurd h (by omega)) (fun _ => ?_)
              refine r_iload f97_116 rfl ?_
              refine r_iload f97_118 rfl ?_
              refine r_ishr f97_120 (e := 3) (by decide) ?_
              refine r_iconst f97_121 rfl ?_
              refine r_iand f97_122 (e := 1) (by decide) ?_
              refine r_iconst f97_123 rfl ?_
              refine r_cne f97_124 (t := 138) (by decide) (fun h => absurd h (by omega)) (fun _ => ?_)
              refine r_aload_n f97_127 rfl ?_
              refine r_iload_n f97_128 rfl ?_
              refine r_iload f97_129 rfl ?_
              refine r_iload_n f97_131 rfl ?_
              refine r_callv3i (m' := (zu m1 281 0 0)) (v := MF m h 1 t) f97_132 o97 M7_108 p93 o93 kd264 rfl (by simp) (t_freeIn (m := m) (zan_u ha (Or.inl rfl)) hk (e := 1) h0 h1 (by omega) (by omega) t0 t1) ?_
              refine r_goto f97_135 (t := 139) (by decide) ?_
              refine r_istore f97_139 rfl (ls' := [some (.inr (.inl (some 264))), some (.inl h), some (.inl t), some (.inl n), some (.inl 6), some (.inl 2), some (.inl n), some (.inl 1), some (.inl (MF m h 1 t)), some (.inl 3)]) rfl ?_
              refine r_aload_n f97_141 rfl ?_
              refine r_getR f97_142 o97 F7_59 g264_21 rfl ?_
              refine r_iload f97_145 rfl ?_
              refine r_iload f97_147 rfl ?_
              refine r_iload f97_149 rfl ?_
              refine r_cge f97_151 (t := 159) (by decide) (fun h => absurd h (by omega)) (fun _ => ?_)
              refine r_iload f97_154 rfl ?_
              refine r_goto f97_156 (t := 161) (by decide) ?_
              refine r_iast f97_161 kd281 (by omega) (by omega) (by omega) ?_
              refine r_iload f97_162 rfl ?_
              refine r_aload_n f97_164 rfl ?_
              refine r_getR f97_165 o97 F7_59 g264_21 rfl ?_
              refine r_iload f97_168 rfl ?_
              refine r_iald f97_170 kd281 (by omega) (by omega) ?_
              refine r_top (e := MF m h 1 t) (by rw [zu_if, if_pos (by omega)]) ?_
              refine r_isub f97_171 (e := n - MF m h 1 t) (by omega) (by omega) (by omega) ?_
              refine r_istore f97_172 rfl (ls' := [some (.inr (.inl (some 264))), some (.inl h), some (.inl t), some (.inl n), some (.inl 6), some (.inl 2), some (.inl (n - MF m h 1 t)), some (.inl 1), some (.inl (MF m h 1 t)), some (.inl 3)]) rfl ?_
              refine r_iinc f97_174 rfl rfl rfl (e := 2) (by omega) (by omega) (by omega) (ls' := [some (.inr (.inl (some 264))), some (.inl h), some (.inl t), some (.inl n), some (.inl 6), some (.inl 2), some (.inl (n - MF m h 1 t)), some (.inl 2), some (.inl (MF m h 1 t)), some (.inl 3)]) rfl ?_
              refine r_goto f97_177 (t := 110) (by decide) ?_
              refine r_iload f97_110 rfl ?_
              refine r_iconst f97_112 rfl ?_
              refine r_cge f97_113 (t := 180) (by decide) (fun h => absurd h (by omega)) (fun _ => ?_)
              refine r_iload f97_116 rfl ?_
              refine r_iload f97_118 rfl ?_
              refine r_ishr f97_120 (e := 1) (by decide) ?_
              refine r_iconst f97_121 rfl ?_
              refine r_iand f97_122 (e := 1) (by decide) ?_
              refine r_iconst f97_123 rfl ?_
              refine r_cne f97_124 (t := 138) (by decide) (fun h => absurd h (by omega)) (fun _ => ?_)
              refine r_aload_n f97_127 rfl ?_
              refine r_iload_n f97_128 rfl ?_
              refine r_iload f97_129 rfl ?_
              refine r_iload_n f97_131 rfl ?_
              refine r_callv3i (m' := (zu (zu m1 281 0 0) 281 1 (MF m h 1 t))) (v := MF m h 2 t) f97_132 o97 M7_108 p93 o93 kd264 rfl (by simp) (t_freeIn (m := m) (zan_u (zan_u ha (Or.inl rfl)) (Or.inl rfl)) hk (e := 2) h0 h1 (by omega) (by omega) t0 t1) ?_
              refine r_goto f97_135 (t := 139) (by decide) ?_
              refine r_istore f97_139 rfl (ls' := [some (.inr (.inl (some 264))), some (.inl h), some (.inl t), some (.inl n), some (.inl 6), some (.inl 2), some (.inl (n - MF m h 1 t)), some (.inl 2), some (.inl (MF m h 2 t)), some (.inl 3)]) rfl ?_
              refine r_aload_n f97_141 rfl ?_
              refine r_getR f97_142 o97 F7_59 g264_21 rfl ?_
              refine r_iload f97_145 rfl ?_
              refine r_iload f97_147 rfl ?_
              refine r_iload f97_149 rfl ?_
              refine r_cge f97_151 (t := 159) (by decide) (fun _ => ?_) (fun h => absurd (by omega) h)
              refine r_iload f97_159 rfl ?_
              refine r_iast f97_161 kd281 (by omega) (by omega) (by omega) ?_
              refine r_iload f97_162 rfl ?_
              refine r_aload_n f97_164 rfl ?_
              refine r_getR f97_165 o97 F7_59 g264_21 rfl ?_
              refine r_iload f97_168 rfl ?_
              refine r_iald f97_170 kd281 (by omega) (by omega) ?_
              refine r_top (e := n - MF m h 1 t) (by rw [zu_if, if_pos (by omega)]) ?_
              refine r_isub f97_171 (e := 0) (by omega) (by omega) (by omega) ?_
              refine r_istore f97_172 rfl (ls' := [some (.inr (.inl (some 264))), some (.inl h), some (.inl t), some (.inl n), some (.inl 6), some (.inl 2), some (.inl 0), some (.inl 2), some (.inl (MF m h 2 t)), some (.inl 3)]) rfl ?_
              refine r_iinc f97_174 rfl rfl rfl (e := 3) (by omega) (by omega) (by omega) (ls' := [some (.inr (.inl (some 264))), some (.inl h), some (.inl t), some (.inl n), some (.inl 6), some (.inl 2), some (.inl 0), some (.inl 3), some (.inl (MF m h 2 t)), some (.inl 3)]) rfl ?_
              refine r_goto f97_177 (t := 110) (by decide) ?_
              refine r_iload f97_110 rfl ?_
              refine r_iconst f97_112 rfl ?_
              refine r_cge f97_113 (t := 180) (by decide) (fun _ => ?_) (fun h => absurd (by omega) h)
              exact r_vret f97_180 v97 ⟨rfl, by unfold MPt; rw [show zsh0 (MF m h 0 t) (MF m h 1 t) (MF m h 2 t) n = 0 from by unfold zsh0; (repeat (first | rw [if_pos (by omega)] | rw [if_neg (by omega)])); try omega, show zsh1 (MF m h 0 t) (MF m h 1 t) (MF m h 2 t) n = MF m h 1 t from by unfold zsh1; (repeat (first | rw [if_pos (by omega)] | rw [if_neg (by omega)])); try omega, show zsh2 (MF m h 0 t) (MF m h 1 t) (MF m h 2 t) n = n - MF m h 1 t from by unfold zsh2; (repeat (first | rw [if_pos (by omega)] | rw [if_neg (by omega)])); try omega]⟩
          · refine r_iload f97_83 rfl ?_
            refine r_iload f97_85 rfl ?_
            refine r_cge f97_87 (t := 98) (by decide) (fun h => absurd h (by omega)) (fun _ => ?_)
            refine r_iload f97_90 rfl ?_
            refine r_istore f97_92 rfl (ls' := [some (.inr (.inl (some 264))), some (.inl h), some (.inl t), some (.inl n), some (.inl 5), some (.inl 4), some (.inl 5), some (.inl 2), some (.inl (MF m h 0 t + MF m h 2 t)), some (.inl 3)]) rfl ?_
            refine r_iload f97_94 rfl ?_
            refine r_istore f97_96 rfl (ls' := [some (.inr (.inl (some 264))), some (.inl h), some (.inl t), some (.inl n), some (.inl 5), some (.inl 2), some (.inl 5), some (.inl 2), some (.inl (MF m h 0 t + MF m h 2 t)), some (.inl 3)]) rfl ?_
            refine r_iinc f97_98 rfl rfl rfl (e := 6) (by omega) (by omega) (by omega) (ls' := [some (.inr (.inl (some 264))), some (.inl h), some (.inl t), some (.inl n), some (.inl 5), some (.inl 2), some (.inl 6), some (.inl 2), some (.inl (MF m h 0 t + MF m h 2 t)), some (.inl 3)]) rfl ?_
            refine r_goto f97_101 (t := 9) (by decide) ?_
            refine r_iload f97_9 rfl ?_
            refine r_bipush f97_11 (by decide) ?_
            refine r_cge f97_13 (t := 104) (by decide) (fun h => absurd h (by omega)) (fun _ => ?_)
            refine r_iconst f97_16 rfl ?_
            refine r_istore f97_17 rfl (ls' := [some (.inr (.inl (some 264))), some (.inl h), some (.inl t), some (.inl n), some (.inl 5), some (.inl 2), some (.inl 6), some (.inl 0), some (.inl (MF m h 0 t + MF m h 2 t)), some (.inl 3)]) rfl ?_
            refine r_iconst f97_19 rfl ?_
            refine r_istore f97_20 rfl (ls' := [some (.inr (.inl (some 264))), some (.inl h), some (.inl t), some (.inl n), some (.inl 5), some (.inl 2), some (.inl 6), some (.inl 0), some (.inl 0), some (.inl 3)]) rfl ?_
            refine r_iconst f97_22 rfl ?_
            refine r_istore f97_23 rfl (ls' := [some (.inr (.inl (some 264))), some (.inl h), some (.inl t), some (.inl n), some (.inl 5), some (.inl 2), some (.inl 6), some (.inl 0), some (.inl 0), some (.inl 0)]) rfl ?_
            refine r_iload f97_25 rfl ?_
            refine r_iconst f97_27 rfl ?_
            refine r_cge f97_28 (t := 77) (by decide) (fun h => absurd h (by omega)) (fun _ => ?_)
            refine r_iload f97_31 rfl ?_
            refine r_iload f97_33 rfl ?_
            refine r_iload f97_35 rfl ?_
            refine r_ishr f97_37 (e := 6) (by decide) ?_
            refine r_iconst f97_38 rfl ?_
            refine r_iand f97_39 (e := 0) (by decide) ?_
            refine r_iadd f97_40 (e := 0) (by omega) (by omega) (by omega) ?_
            refine r_istore f97_41 rfl (ls' := [some (.inr (.inl (some 264))), some (.inl h), some (.inl t), some (.inl n), some (.inl 5), some (.inl 2), some (.inl 6), some (.inl 0), some (.inl 0), some (.inl 0)]) rfl ?_
            refine r_iload f97_43 rfl ?_
            refine r_iload f97_45 rfl ?_
            refine r_iload f97_47 rfl ?_
            refine r_ishr f97_49 (e := 6) (by decide) ?_
            refine r_iconst f97_50 rfl ?_
            refine r_iand f97_51 (e := 0) (by decide) ?_
            refine r_iconst f97_52 rfl ?_
            refine r_cne f97_53 (t := 67) (by decide) (fun _ => ?_) (fun h => absurd (by omega) h)
            refine r_iconst f97_67 rfl ?_
            refine r_iadd f97_68 (e := 0) (by omega) (by omega) (by omega) ?_
            refine r_istore f97_69 rfl (ls' := [some (.inr (.inl (some 264))), some (.inl h), some (.inl t), some (.inl n), some (.inl 5), some (.inl 2), some (.inl 6), some (.inl 0), some (.inl 0), some (.inl 0)]) rfl ?_
            refine r_iinc f97_71 rfl rfl rfl (e := 1) (by omega) (by omega) (by omega) (ls' := [some (.inr (.inl (some 264))), some (.inl h), some (.inl t), some (.inl n), some (.inl 5), some (.inl 2), some (.inl 6), some (.inl 0), some (.inl 0), some (.inl 1)]) rfl ?_
            refine r_goto f97_74 (t := 25) (by decide) ?_
            refine r_iload f97_25 rfl ?_
            refine r_iconst f97_27 rfl ?_
            refine r_cge f97_28 (t := 77) (by decide) (fun h => absurd h (by omega)) (fun _ => ?_)
            refine r_iload f97_31 rfl ?_
            refine r_iload f97_33 rfl ?_
            refine r_iload f97_35 rfl ?_
            refine r_ishr f97_37 (e := 3) (by decide) ?_
            refine r_iconst f97_38 rfl ?_
            refine r_iand f97_39 (e := 1) (by decide) ?_
            refine r_iadd f97_40 (e := 1) (by omega) (by omega) (by omega) ?_
            refine r_istore f97_41 rfl (ls' := [some (.inr (.inl (some 264))), some (.inl h), some (.inl t), some (.inl n), some (.inl 5), some (.inl 2), some (.inl 6), some (.inl 1), some (.inl 0), some (.inl 1)]) rfl ?_
            refine r_iload f97_43 rfl ?_
            refine r_iload f97_45 rfl ?_
            refine r_iload f97_47 rfl ?_
            refine r_ishr f97_49 (e := 3) (by decide) ?_
            refine r_iconst f97_50 rfl ?_
            refine r_iand f97_51 (e := 1) (by decide) ?_
            refine r_iconst f97_52 rfl ?_
            refine r_cne f97_53 (t := 67) (by decide) (fun h => absurd h (by omega)) (fun _ => ?_)
            refine r_aload_n f97_56 rfl ?_
            refine r_iload_n f97_57 rfl ?_
            refine r_iload f97_58 rfl ?_
            refine r_iload_n f97_60 rfl ?_
            refine r_callv3i (m' := m1) (v := MF m h 1 t) f97_61 o97 M7_108 p93 o93 kd264 rfl (by simp) (t_freeIn (m := m) ha hk (e := 1) h0 h1 (by omega) (by omega) t0 t1) ?_
            refine r_goto f97_64 (t := 68) (by decide) ?_
            refine r_iadd f97_68 (e := MF m h 1 t) (by omega) (by omega) (by omega) ?_
            refine r_istore f97_69 rfl (ls' := [some (.inr (.inl (some 264))), some (.inl h), some (.inl t), some (.inl n), some (.inl 5), some (.inl 2), some (.inl 6), some (.inl 1), some (.inl (MF m h 1 t)), some (.inl 1)]) rfl ?_
            refine r_iinc f97_71 rfl rfl rfl (e := 2) (by omega) (by omega) (by omega) (ls' := [some (.inr (.inl (some 264))), some (.inl h), some (.inl t), some (.inl n), some (.inl 5), some (.inl 2), some (.inl 6), some (.inl 1), some (.inl (MF m h 1 t)), some (.inl 2)]) rfl ?_
            refine r_goto f97_74 (t := 25) (by decide) ?_
            refine r_iload f97_25 rfl ?_
            refine r_iconst f97_27 rfl ?_
            refine r_cge f97_28 (t := 77) (by decide) (fun h => absurd h (by omega)) (fun _ => ?_)
            refine r_iload f97_31 rfl ?_
            refine r_iload f97_33 rfl ?_
            refine r_iload f97_35 rfl ?_
            refine r_ishr f97_37 (e := 1) (by decide) ?_
            refine r_iconst f97_38 rfl ?_
            refine r_iand f97_39 (e := 1) (by decide) ?_
            refine r_iadd f97_40 (e := 2) (by omega) (by omega) (by omega) ?_
            refine r_istore f97_41 rfl (ls' := [some (.inr (.inl (some 264))), some (.inl h), some (.inl t), some (.inl n), some (.inl 5), some (.inl 2), some (.inl 6), some (.inl 2), some (.inl (MF m h 1 t)), some (.inl 2)]) rfl ?_
            refine r_iload f97_43 rfl ?_
            refine r_iload f97_45 rfl ?_
            refine r_iload f97_47 rfl ?_
            refine r_ishr f97_49 (e := 1) (by decide) ?_
            refine r_iconst f97_50 rfl ?_
            refine r_iand f97_51 (e := 1) (by decide) ?_
            refine r_iconst f97_52 rfl ?_
            refine r_cne f97_53 (t := 67) (by decide) (fun h => absurd h (by omega)) (fun _ => ?_)
            refine r_aload_n f97_56 rfl ?_
            refine r_iload_n f97_57 rfl ?_
            refine r_iload f97_58 rfl ?_
            refine r_iload_n f97_60 rfl ?_
            refine r_callv3i (m' := m1) (v := MF m h 2 t) f97_61 o97 M7_108 p93 o93 kd264 rfl (by simp) (t_freeIn (m := m) ha hk (e := 2) h0 h1 (by omega) (by omega) t0 t1) ?_
            refine r_goto f97_64 (t := 68) (by decide) ?_
            refine r_iadd f97_68 (e := MF m h 1 t + MF m h 2 t) (by omega) (by omega) (by omega) ?_
            refine r_istore f97_69 rfl (ls' := [some (.inr (.inl (some 264))), some (.inl h), some (.inl t), some (.inl n), some (.inl 5), some (.inl 2), some (.inl 6), some (.inl 2), some (.inl (MF m h 1 t + MF m h 2 t)), some (.inl 2)]) rfl ?_
            refine r_iinc f97_71 rfl rfl rfl (e := 3) (by omega) (by omega) (by omega) (ls' := [some (.inr (.inl (some 264))), some (.inl h), some (.inl t), some (.inl n), some (.inl 5), some (.inl 2), some (.inl 6), some (.inl 2), some (.inl (MF m h 1 t + MF m h 2 t)), some (.inl 3)]) rfl ?_
            refine r_goto f97_74 (t := 25) (by decide) ?_
            refine r_iload f97_25 rfl ?_
            refine r_iconst f97_27 rfl ?_
            refine r_cge f97_28 (t := 77) (by decide) (fun _ => ?_) (fun h => absurd (by omega) h)
            refine skip77 (by omega) ?_
            refine r_iinc f97_98 rfl rfl rfl (e := 7) (by omega) (by omega) (by omega) (ls' := [some (.inr (.inl (some 264))), some (.inl h), some (.inl t), some (.inl n), some (.inl 5), some (.inl 2), some (.inl 7), some (.inl 2), some (.inl (MF m h 1 t + MF m h 2 t)), some (.inl 3)]) rfl ?_
            refine r_goto f97_101 (t := 9) (by decide) ?_
            refine r_iload f97_9 rfl ?_
            refine r_bipush f97_11 (by decide) ?_
            refine r_cge f97_13 (t := 104) (by decide) (fun h => absurd h (by omega)) (fun _ => ?_)
            refine r_iconst f97_16 rfl ?_
            refine r_istore f97_17 rfl (ls' := [some (.inr (.inl (some 264))), some (.inl h), some (.inl t), some (.inl n), some (.inl 5), some (.inl 2), some (.inl 7), some (.inl 0), some (.inl (MF m h 1 t + MF m h 2 t)), some (.inl 3)]) rfl ?_
            refine r_iconst f97_19 rfl ?_
            refine r_istore f97_20 rfl (ls' := [some (.inr (.inl (some 264))), some (.inl h), some (.inl t), some (.inl n), some (.inl 5), some (.inl 2), some (.inl 7), some (.inl 0), some (.inl 0), some (.inl 3)]) rfl ?_
            refine r_iconst f97_22 rfl ?_
            refine r_istore f97_23 rfl (ls' := [some (.inr (.inl (some 264))), some (.inl h), some (.inl t), some (.inl n), some (.inl 5), some (.inl 2), some (.inl 7), some (.inl 0), some (.inl 0), some (.inl 0)]) rfl ?_
            refine r_iload f97_25 rfl ?_
            refine r_iconst f97_27 rfl ?_
            refine r_cge f97_28 (t := 77) (by decide) (fun h => absurd h (by omega)) (fun _ => ?_)
            refine r_iload f97_31 rfl ?_
            refine r_iload f97_33 rfl ?_
            refine r_iload f97_35 rfl ?_
            refine r_ishr f97_37 (e := 7) (by decide) ?_
            refine r_iconst f97_38 rfl ?_
            refine r_iand f97_39 (e := 1) (by decide) ?_
            refine r_iadd f97_40 (e := 1) (by omega) (by omega) (by omega) ?_
            refine r_istore f97_41 rfl (ls' := [some (.inr (.inl (some 264))), some (.inl h), some (.inl t), some (.inl n), some (.inl 5), some (.inl 2), some (.inl 7), some (.inl 1), some (.inl 0), some (.inl 0)]) rfl ?_
            refine r_iload f97_43 rfl ?_
            refine r_iload f97_45 rfl ?_
            refine r_iload f97_47 rfl ?_
            refine r_ishr f97_49 (e := 7) (by decide) ?_
            refine r_iconst f97_50 rfl ?_
            refine r_iand f97_51 (e := 1) (by decide) ?_
            refine r_iconst f97_52 rfl ?_
            refine r_cne f97_53 (t := 67) (by decide) (fun h => absurd h (by omega)) (fun _ => ?_)
            refine r_aload_n f97_56 rfl ?_
            refine r_iload_n f97_57 rfl ?_
            refine r_iload f97_58 rfl ?_
            refine r_iload_n f97_60 rfl ?_
            refine r_callv3i (m' := m1) (v := MF m h 0 t) f97_61 o97 M7_108 p93 o93 kd264 rfl (by simp) (t_freeIn (m := m) ha hk (e := 0) h0 h1 (by omega) (by omega) t0 t1) ?_
            refine r_goto f97_64 (t := 68) (by decide) ?_
            refine r_iadd f97_68 (e := MF m h 0 t) (by omega) (by omega) (by omega) ?_
            refine r_istore f97_69 rfl (ls' := [some (.inr (.inl (some 264))), some (.inl h), some (.inl t), some (.inl n), some (.inl 5), some (.inl 2), some (.inl 7), some (.inl 1), some (.inl (MF m h 0 t)), some (.inl 0)]) rfl ?_
            refine r_iinc f97_71 rfl rfl rfl (e := 1) (by omega) (by omega) (by omega) (ls' := [some (.inr (.inl (some 264))), some (.inl h), some (.inl t), some (.inl n), some (.inl 5), some (.inl 2), some (.inl 7), some (.inl 1), some (.inl (MF m h 0 t)), some (.inl 1)]) rfl ?_
            refine r_goto f97_74 (t := 25) (by decide) ?_
            refine r_iload f97_25 rfl ?_
            refine r_iconst f97_27 rfl ?_
            refine r_cge f97_28 (t := 77) (by decide) (fun h => absurd h (by omega)) (fun _ => ?_)
            refine r_iload f97_31 rfl ?_
            refine r_iload f97_33 rfl ?_
            refine r_iload f97_35 rfl ?_
            refine r_ishr f97_37 (e := 3) (by decide) ?_
            refine r_iconst f97_38 rfl ?_
            refine r_iand f97_39 (e := 1) (by decide) ?_
            refine r_iadd f97_40 (e := 2) (by omega) (by omega) (by omega) ?_
            refine r_istore f97_41 rfl (ls' := [some (.inr (.inl (some 264))), some (.inl h), some (.inl t), some (.inl n), some (.inl 5), some (.inl 2), some (.inl 7), some (.inl 2), some (.inl (MF m h 0 t)), some (.inl 1)]) rfl ?_
            refine r_iload f97_43 rfl ?_
            refine r_iload f97_45 rfl ?_
            refine r_iload f97_47 rfl ?_
            refine r_ishr f97_49 (e := 3) (by decide) ?_
            refine r_iconst f97_50 rfl ?_
            refine r_iand f97_51 (e := 1) (by decide) ?_
            refine r_iconst f97_52 rfl ?_
            refine r_cne f97_53 (t := 67) (by decide) (fun h => absurd h (by omega)) (fun _ => ?_)
            refine r_aload_n f97_56 rfl ?_
            refine r_iload_n f97_57 rfl ?_
            refine r_iload f97_58 rfl ?_
            refine r_iload_n f97_60 rfl ?_
            refine r_callv3i (m' := m1) (v := MF m h 1 t) f97_61 o97 M7_108 p93 o93 kd264 rfl (by simp) (t_freeIn (m := m) ha hk (e := 1) h0 h1 (by omega) (by omega) t0 t1) ?_
            refine r_goto f97_64 (t := 68) (by decide) ?_
            refine r_iadd f97_68 (e := MF m h 0 t + MF m h 1 t) (by omega) (by omega) (by omega) ?_
            refine r_istore f97_69 rfl (ls' := [some (.inr (.inl (some 264))), some (.inl h), some (.inl t), some (.inl n), some (.inl 5), some (.inl 2), some (.inl 7), some (.inl 2), some (.inl (MF m h 0 t + MF m h 1 t)), some (.inl 1)]) rfl ?_
            refine r_iinc f97_71 rfl rfl rfl (e := 2) (by omega) (by omega) (by omega) (ls' := [some (.inr (.inl (some 264))), some (.inl h), some (.inl t), some (.inl n), some (.inl 5), some (.inl 2), some (.inl 7), some (.inl 2), some (.inl (MF m h 0 t + MF m h 1 t)), some (.inl 2)]) rfl ?_
            refine r_goto f97_74 (t := 25) (by decide) ?_
            refine r_iload f97_25 rfl ?_
            refine r_iconst f97_27 rfl ?_
            refine r_cge f97_28 (t := 77) (by decide) (fun h => absurd h (by omega)) (fun _ => ?_)
            refine r_iload f97_31 rfl ?_
            refine r_iload f97_33 rfl ?_
            refine r_iload f97_35 rfl ?_
            refine r_ishr f97_37 (e := 1) (by decide) ?_
            refine r_iconst f97_38 rfl ?_
            refine r_iand f97_39 (e := 1) (by decide) ?_
            refine r_iadd f97_40 (e := 3) (by omega) (by omega) (by omega) ?_
            refine r_istore f97_41 rfl (ls' := [some (.inr (.inl (some 264))), some (.inl h), some (.inl t), some (.inl n), some (.inl 5), some (.inl 2), some (.inl 7), some (.inl 3), some (.inl (MF m h 0 t + MF m h 1 t)), some (.inl 2)]) rfl ?_
            refine r_iload f97_43 rfl ?_
            refine r_iload f97_45 rfl ?_
            refine r_iload f97_47 rfl ?_
            refine r_ishr f97_49 (e := 1) (by decide) ?_
            refine r_iconst f97_50 rfl ?_
            refine r_iand f97_51 (e := 1) (by decide) ?_
            refine r_iconst f97_52 rfl ?_
            refine r_cne f97_53 (t := 67) (by decide) (fun h => absurd h (by omega)) (fun _ => ?_)
            refine r_aload_n f97_56 rfl ?_
            refine r_iload_n f97_57 rfl ?_
            refine r_iload f97_58 rfl ?_
            refine r_iload_n f97_60 rfl ?_
            refine r_callv3i (m' := m1) (v := MF m h 2 t) f97_61 o97 M7_108 p93 o93 kd264 rfl (by simp) (t_freeIn (m := m) ha hk (e := 2) h0 h1 (by omega) (by omega) t0 t1) ?_
            refine r_goto f97_64 (t := 68) (by decide) ?_
            refine r_iadd f97_68 (e := MF m h 0 t + MF m h 1 t + MF m h 2 t) (by omega) (by omega) (by omega) ?_
            refine r_istore f97_69 rfl (ls' := [some (.inr (.inl (some 264))), some (.inl h), some (.inl t), some (.inl n), some (.inl 5), some (.inl 2), some (.inl 7), some (.inl 3), some (.inl (MF m h 0 t + MF m h 1 t + MF m h 2 t)), some (.inl 2)]) rfl ?_
            refine r_iinc f97_71 rfl rfl rfl (e := 3) (by omega) (by omega) (by omega) (ls' := [some (.inr (.inl (some 264))), some (.inl h), some (.inl t), some (.inl n), some (.inl 5), some (.inl 2), some (.inl 7), some (.inl 3), some (.inl (MF m h 0 t + MF m h 1 t + MF m h 2 t)), some (.inl 3)]) rfl ?_
            refine r_goto f97_74 (t := 25) (by decide) ?_
            refine r_iload f97_25 rfl ?_
            refine r_iconst f97_27 rfl ?_
            refine r_cge f97_28 (t := 77) (by decide) (fun _ => ?_) (fun h => absurd (by omega) h)
            refine skip77 (by omega) ?_
            refine r_iinc f97_98 rfl rfl rfl (e := 8) (by omega) (by omega) (by omega) (ls' := [some (.inr (.inl (some 264))), some (.inl h), some (.inl t), some (.inl n), some (.inl 5), some (.inl 2), some (.inl 8), some (.inl 3), some (.inl (MF m h 0 t + MF m h 1 t + MF m h 2 t)), some (.inl 3)]) rfl ?_
            refine r_goto f97_101 (t := 9) (by decide) ?_
            refine r_iload f97_9 rfl ?_
            refine r_bipush f97_11 (by decide) ?_
            refine r_cge f97_13 (t := 104) (by decide) (fun _ => ?_) (fun h => absurd (by omega) h)
            refine r_iload_n f97_104 rfl ?_
            refine r_istore f97_105 rfl (ls' := [some (.inr (.inl (some 264))), some (.inl h), some (.inl t), some (.inl n), some (.inl 5), some (.inl 2), some (.inl n), some (.inl 3), some (.inl (MF m h 0 t + MF m h 1 t + MF m h 2 t)), some (.inl 3)]) rfl ?_
            refine r_iconst f97_107 rfl ?_
            refine r_istore f97_108 rfl (ls' := [some (.inr (.inl (some 264))), some (.inl h), some (.inl t), some (.inl n), some (.inl 5), some (.inl 2), some (.inl n), some (.inl 0), some (.inl (MF m h 0 t + MF m h 1 t + MF m h 2 t)), some (.inl 3)]) rfl ?_
            refine r_iload f97_110 rfl ?_
            refine r_iconst f97_112 rfl ?_
            refine r_cge f97_113 (t := 180) (by decide) (fun h => absurd h (by omega)) (fun _ => ?_)
            refine r_iload f97_116 rfl ?_
            refine r_iload f97_118 rfl ?_
            refine r_ishr f97_120 (e := 5) (by decide) ?_
            refine r_iconst f97_121 rfl ?_
            refine r_iand f97_122 (e := 1) (by decide) ?_
            refine r_iconst f97_123 rfl ?_
            refine r_cne f97_124 (t := 138) (by decide) (fun h => absurd h (by omega)) (fun _ => ?_)
            refine r_aload_n f97_127 rfl ?_
            refine r_iload_n f97_128 rfl ?_
            refine r_iload f97_129 rfl ?_
            refine r_iload_n f97_131 rfl ?_
            refine r_callv3i (m' := m1) (v := MF m h 0 t) f97_132 o97 M7_108 p93 o93 kd264 rfl (by simp) (t_freeIn (m := m) ha hk (e := 0) h0 h1 (by omega) (by omega) t0 t1) ?_
            refine r_goto f97_135 (t := 139) (by decide) ?_
            refine r_istore f97_139 rfl (ls' := [some (.inr (.inl (some 264))), some (.inl h), some (.inl t), some (.inl n), some (.inl 5), some (.inl 2), some (.inl n), some (.inl 0), some (.inl (MF m h 0 t)), some (.inl 3)]) rfl ?_
            refine r_aload_n f97_141 rfl ?_
            refine r_getR f97_142 o97 F7_59 g264_21 rfl ?_
            refine r_iload f97_145 rfl ?_
            refine r_iload f97_147 rfl ?_
            refine r_iload f97_149 rfl ?_
            refine r_cge f97_151 (t := 159) (by decide) (fun h => absurd h (by omega)) (fun _ => ?_)
            refine r_iload f97_154 rfl ?_
            refine r_goto f97_156 (t := 161) (by decide) ?_
            refine r_iast f97_161 kd281 (by omega) (by omega) (by omega) ?_
            refine r_iload f97_162 rfl ?_
            refine r_aload_n f97_164 rfl ?_
            refine r_getR f97_165 o97 F7_59 g264_21 rfl ?_
            refine r_iload f97_168 rfl ?_
            refine r_iald f97_170 kd281 (by omega) (by omega) ?_
            refine r_top (e := MF m h 0 t) (by rw [zu_if, if_pos (by omega)]) ?_
            refine r_isub f97_171 (e := n - MF m h 0 t) (by omega) (by omega) (by omega) ?_
            refine r_istore f97_172 rfl (ls' := [some (.inr (.inl (some 264))), some (.inl h), some (.inl t), some (.inl n), some (.inl 5), some (.inl 2), some (.inl (n - MF m h 0 t)), some (.inl 0), some (.inl (MF m h 0 t)), some (.inl 3)]) rfl ?_
            refine r_iinc f97_174 rfl rfl rfl (e := 1) (by omega) (by omega) (by omega) (ls' := [some (.inr (.inl (some 264))), some (.inl h), some (.inl t), some (.inl n), some (.inl 5), some (.inl 2), some (.inl (n - MF m h 0 t)), some (.inl 1), some (.inl (MF m h 0 t)), some (.inl 3)]) rfl ?_
            refine r_goto f97_177 (t := 110) (by decide) ?_
            refine r_iload f97_110 rfl ?_
            refine r_iconst f97_112 rfl ?_
            refine r_cge f97_113 (t := 180) (by decide) (fun h => absurd h (by omega)) (fun _ => ?_)
            refine r_iload f97_116 rfl ?_
            refine r_iload f97_118 rfl ?_
            refine r_ishr f97_120 (e := 2) (by decide) ?_
            refine r_iconst f97_121 rfl ?_
            refine r_iand f97_122 (e := 0) (by decide) ?_
            refine r_iconst f97_123 rfl ?_
            refine r_cne f97_124 (t := 138) (by decide) (fun _ => ?_) (fun h => absurd (by omega) h)
            refine r_iconst f97_138 rfl ?_
            refine r_istore f97_139 rfl (ls' := [some (.inr (.inl (some 264))), some (.inl h), some (.inl t), some (.inl n), some (.inl 5), some (.inl 2), some (.inl (n - MF m h 0 t)), some (.inl 1), some (.inl 0), some (.inl 3)]) rfl ?_
            refine r_aload_n f97_141 rfl ?_
            refine r_getR f97_142 o97 F7_59 g264_21 rfl ?_
            refine r_iload f97_145 rfl ?_
            refine r_iload f97_147 rfl ?_
            refine r_iload f97_149 rfl ?_
            refine r_cge f97_151 (t := 159) (by decide) (fun h => absurd h (by omega)) (fun _ => ?_)
            refine r_iload f97_154 rfl ?_
            refine r_goto f97_156 (t := 161) (by decide) ?_
            refine r_iast f97_161 kd281 (by omega) (by omega) (by omega) ?_
            refine r_iload f97_162 rfl ?_
            refine r_aload_n f97_164 rfl ?_
            refine r_getR f97_165 o97 F7_59 g264_21 rfl ?_
            refine r_iload f97_168 rfl ?_
            refine r_iald f97_170 kd281 (by omega) (by omega) ?_
            refine r_top (e := 0) (by rw [zu_if, if_pos (by omega)]) ?_
            refine r_isub f97_171 (e := n - MF m h 0 t) (by omega) (by omega) (by omega) ?_
            refine r_istore f97_172 rfl (ls' := [some (.inr (.inl (some 264))), some (.inl h), some (.inl t), some (.inl n), some (.inl 5), some (.inl 2), some (.inl (n - MF m h 0 t)), some (.inl 1), some (.inl 0), some (.inl 3)]) rfl ?_
            refine r_iinc f97_174 rfl rfl rfl (e := 2) (by omega) (by omega) (by omega) (ls' := [some (.inr (.inl (some 264))), some (.inl h), some (.inl t), some (.inl n), some (.inl 5), some (.inl 2), some (.inl (n - MF m h 0 t)), some (.inl 2), some (.inl 0), some (.inl 3)]) rfl ?_
            refine r_goto f97_177 (t := 110) (by decide) ?_
            refine r_iload f97_110 rfl ?_
            refine r_iconst f97_112 rfl ?_
            refine r_cge f97_113 (t := 180) (by decide) (fun h => absurd h (by omega)) (fun _ => ?_)
            refine r_iload f97_116 rfl ?_
            refine r_iload f97_118 rfl ?_
            refine r_ishr f97_120 (e := 1) (by decide) ?_
            refine r_iconst f97_121 rfl ?_
            refine r_iand f97_122 (e := 1) (by decide) ?_
            refine r_iconst f97_123 rfl ?_
            refine r_cne f97_124 (t := 138) (by decide) (fun h => absurd h (by omega)) (fun _ => ?_)
            refine r_aload_n f97_127 rfl ?_
            refine r_iload_n f97_128 rfl ?_
            refine r_iload f97_129 rfl ?_
            refine r_iload_n f97_131 rfl ?_
            refine r_callv3i (m' := (zu (zu m1 281 0 (MF m h 0 t)) 281 1 0)) (v := MF m h 2 t) f97_132 o97 M7_108 p93 o93 kd264 rfl (by simp) (t_freeIn (m := m) (zan_u (zan_u ha (Or.inl rfl)) (Or.inl rfl)) hk (e := 2) h0 h1 (by omega) (by omega) t0 t1) ?_
            refine r_goto f97_135 (t := 139) (by decide) ?_
            refine r_istore f97_139 rfl (ls' := [some (.inr (.inl (some 264))), some (.inl h), some (.inl t), some (.inl n), some (.inl 5), some (.inl 2), some (.inl (n - MF m h 0 t)), some (.inl 2), some (.inl (MF m h 2 t)), some (.inl 3)]) rfl ?_
            refine r_aload_n f97_141 rfl ?_
            refine r_getR f97_142 o97 F7_59 g264_21 rfl ?_
            refine r_iload f97_145 rfl ?_
            refine r_iload f97_147 rfl ?_
            refine r_iload f97_149 rfl ?_
            refine r_cge f97_151 (t := 159) (by decide) (fun _ => ?_) (fun h => absurd (by omega) h)
            refine r_iload f97_159 rfl ?_
            refine r_iast f97_161 kd281 (by omega) (by omega) (by omega) ?_
            refine r_iload f97_162 rfl ?_
            refine r_aload_n f97_164 rfl ?_
            refine r_getR f97_165 o97 F7_59 g264_21 rfl ?_
            refine r_iload f97_168 rfl ?_
            refine r_iald f97_170 kd281 (by omega) (by omega) ?_
            refine r_top (e := n - MF m h 0 t) (by rw [zu_if, if_pos (by omega)]) ?_
            refine r_isub f97_171 (e := 0) (by omega) (by omega) (by omega) ?_
            refine r_istore f97_172 rfl (ls' := [some (.inr (.inl (some 264))), some (.inl h), some (.inl t), some (.inl n), some (.inl 5), some (.inl 2), some (.inl 0), some (.inl 2), some (.inl (MF m h 2 t)), some (.inl 3)]) rfl ?_
            refine r_iinc f97_174 rfl rfl rfl (e := 3) (by omega) (by omega) (by omega) (ls' := [some (.inr (.inl (some 264))), some (.inl h), some (.inl t), some (.inl n), some (.inl 5), some (.inl 2), some (.inl 0), some (.inl 3), some (.inl (MF m h 2 t)), some (.inl 3)]) rfl ?_
            refine r_goto f97_177 (t := 110) (by decide) ?_
            refine r_iload f97_110 rfl ?_
            refine r_iconst f97_112 rfl ?_
            refine r_cge f97_113 (t := 180) (by decide) (fun _ => ?_) (fun h => absurd (by omega) h)
            exact r_vret f97_180 v97 ⟨rfl, by unfold MPt; rw [show zsh0 (MF m h 0 t) (MF m h 1 t) (MF m h 2 t) n = MF m h 0 t from by unfold zsh0; (repeat (first | rw [if_pos (by omega)] | rw [if_neg (by omega)])); try omega, show zsh1 (MF m h 0 t) (MF m h 1 t) (MF m h 2 t) n = 0 from by unfold zsh1; (repeat (first | rw [if_pos (by omega)] | rw [if_neg (by omega)])); try omega, show zsh2 (MF m h 0 t) (MF m h 1 t) (MF m h 2 t) n = n - MF m h 0 t from by unfold zsh2; (repeat (first | rw [if_pos (by omega)] | rw [if_neg (by omega)])); try omega]⟩
        · refine r_iload f97_83 rfl ?_
          refine r_iload f97_85 rfl ?_
          refine r_cge f97_87 (t := 98) (by decide) (fun h => absurd h (by omega)) (fun _ => ?_)
          refine r_iload f97_90 rfl ?_
          refine r_istore f97_92 rfl (ls' := [some (.inr (.inl (some 264))), some (.inl h), some (.inl t), some (.inl n), some (.inl 4), some (.inl 4), some (.inl 4), some (.inl 1), some (.inl (MF m h 2 t)), some (.inl 3)]) rfl ?_
          refine r_iload f97_94 rfl ?_
          refine r_istore f97_96 rfl (ls' := [some (.inr (.inl (some 264))), some (.inl h), some (.inl t), some (.inl n), some (.inl 4), some (.inl 1), some (.inl 4), some (.inl 1), some (.inl (MF m h 2 t)), some (.inl 3)]) rfl ?_
          refine r_iinc f97_98 rfl rfl rfl (e := 5) (by omega) (by omega) (by omega) (ls' := [some (.inr (.inl (some 264))), some (.inl h), some (.inl t), some (.inl n), some (.inl 4), some (.inl 1), some (.inl 5), some (.inl 1), some (.inl (MF m h 2 t)), some (.inl 3)]) rfl ?_
          refine r_goto f97_101 (t := 9) (by decide) ?_
          refine r_iload f97_9 rfl ?_
          refine r_bipush f97_11 (by decide) ?_
          refine r_cge f97_13 (t := 104) (by decide) (fun h => absurd h (by omega)) (fun _ => ?_)
          refine r_iconst f97_16 rfl ?_
          refine r_istore f97_17 rfl (ls' := [some (.inr (.inl (some 264))), some (.inl h), some (.inl t), some (.inl n), some (.inl 4), some (.inl 1), some (.inl 5), some (.inl 0), some (.inl (MF m h 2 t)), some (.inl 3)]) rfl ?_
          refine r_iconst f97_19 rfl ?_
          refine r_istore f97_20 rfl (ls' := [some (.inr (.inl (some 264))), some (.inl h), some (.inl t), some (.inl n), some (.inl 4), some (.inl 1), some (.inl 5), some (.inl 0), some (.inl 0), some (.inl 3)]) rfl ?_
          refine r_iconst f97_22 rfl ?_
          refine r_istore f97_23 rfl (ls' := [some (.inr (.inl (some 264))), some (.inl h), some (.inl t), some (.inl n), some (.inl 4), some (.inl 1), some (.inl 5), some (.inl 0), some (.inl 0), some (.inl 0)]) rfl ?_
          refine r_iload f97_25 rfl ?_
          refine r_iconst f97_27 rfl ?_
          refine r_cge f97_28 (t := 77) (by decide) (fun h => absurd h (by omega)) (fun _ => ?_)
          refine r_iload f97_31 rfl ?_
          refine r_iload f97_33 rfl ?_
          refine r_iload f97_35 rfl ?_
          refine r_ishr f97_37 (e := 5) (by decide) ?_
          refine r_iconst f97_38 rfl ?_
          refine r_iand f97_39 (e := 1) (by decide) ?_
          refine r_iadd f97_40 (e := 1) (by omega) (by omega) (by omega) ?_
          refine r_istore f97_41 rfl (ls' := [some (.inr (.inl (some 264))), some (.inl h), some (.inl t), some (.inl n), some (.inl 4), some (.inl 1), some (.inl 5), some (.inl 1), some (.inl 0), some (.inl 0)]) rfl ?_
          refine r_iload f97_43 rfl ?_
          refine r_iload f97_45 rfl ?_
          refine r_iload f97_47 rfl ?_
          refine r_ishr f97_49 (e := 5) (by decide) ?_
          refine r_iconst f97_50 rfl ?_
          refine r_iand f97_51 (e := 1) (by decide) ?_
          refine r_iconst f97_52 rfl ?_
          refine r_cne f97_53 (t := 67) (by decide) (fun h => absurd h (by omega)) (fun _ => ?_)
          refine r_aload_n f97_56 rfl ?_
          refine r_iload_n f97_57 rfl ?_
          refine r_iload f97_58 rfl ?_
          refine r_iload_n f97_60 rfl ?_
          refine r_callv3i (m' := m1) (v := MF m h 0 t) f97_61 o97 M7_108 p93 o93 kd264 rfl (by simp) (t_freeIn (m := m) ha hk (e := 0) h0 h1 (by omega) (by omega) t0 t1) ?_
          refine r_goto f97_64 (t := 68) (by decide) ?_
          refine r_iadd f97_68 (e := MF m h 0 t) (by omega) (by omega) (by omega) ?_
          refine r_istore f97_69 rfl (ls' := [some (.inr (.inl (some 264))), some (.inl h), some (.inl t), some (.inl n), some (.inl 4), some (.inl 1), some (.inl 5), some (.inl 1), some (.inl (MF m h 0 t)), some (.inl 0)]) rfl ?_
          refine r_iinc f97_71 rfl rfl rfl (e := 1) (by omega) (by omega) (by omega) (ls' := [some (.inr (.inl (some 264))), some (.inl h), some (.inl t), some (.inl n), some (.inl 4), some (.inl 1), some (.inl 5), some (.inl 1), some (.inl (MF m h 0 t)), some (.inl 1)]) rfl ?_
          refine r_goto f97_74 (t := 25) (by decide) ?_
          refine r_iload f97_25 rfl ?_
          refine r_iconst f97_27 rfl ?_
          refine r_cge f97_28 (t := 77) (by decide) (fun h => absurd h (by omega)) (fun _ => ?_)
          refine r_iload f97_31 rfl ?_
          refine r_iload f97_33 rfl ?_
          refine r_iload f97_35 rfl ?_
          refine r_ishr f97_37 (e := 2) (by decide) ?_
          refine r_iconst f97_38 rfl ?_
          refine r_iand f97_39 (e := 0) (by decide) ?_
          refine r_iadd f97_40 (e := 1) (by omega) (by omega) (by omega) ?_
          refine r_istore f97_41 rfl (ls' := [some (.inr (.inl (some 264))), some (.inl h), some (.inl t), some (.inl n), some (.inl 4), some (.inl 1), some (.inl 5), some (.inl 1), some (.inl (MF m h 0 t)), some (.inl 1)]) rfl ?_
          refine r_iload f97_43 rfl ?_
          refine r_iload f97_45 rfl ?_
          refine r_iload f97_47 rfl ?_
          refine r_ishr f97_49 (e := 2) (by decide) ?_
          refine r_iconst f97_50 rfl ?_
          refine r_iand f97_51 (e := 0) (by decide) ?_
          refine r_iconst f97_52 rfl ?_
          refine r_cne f97_53 (t := 67) (by decide) (fun _ => ?_) (fun h => absurd (by omega) h)
          refine r_iconst f97_67 rfl ?_
          refine r_iadd f97_68 (e := MF m h 0 t) (by omega) (by omega) (by omega) ?_
          refine r_istore f97_69 rfl (ls' := [some (.inr (.inl (some 264))), some (.inl h), some (.inl t), some (.inl n), some (.inl 4), some (.inl 1), some (.inl 5), some (.inl 1), some (.inl (MF m h 0 t)), some (.inl 1)]) rfl ?_
          refine r_iinc f97_71 rfl rfl rfl (e := 2) (by omega) (by omega) (by omega) (ls' := [some (.inr (.inl (some 264))), some (.inl h), some (.inl t), some (.inl n), some (.inl 4), some (.inl 1), some (.inl 5), some (.inl 1), some (.inl (MF m h 0 t)), some (.inl 2)]) rfl ?_
          refine r_goto f97_74 (t := 25) (by decide) ?_
          refine r_iload f97_25 rfl ?_
          refine r_iconst f97_27 rfl ?_
          refine r_cge f97_28 (t := 77) (by decide) (fun h => absurd h (by omega)) (fun _ => ?_)
          refine r_iload f97_31 rfl ?_
          refine r_iload f97_33 rfl ?_
          refine r_iload f97_35 rfl ?_
          refine r_ishr f97_37 (e := 1) (by decide) ?_
          refine r_iconst f97_38 rfl ?_
          refine r_iand f97_39 (e := 1) (by decide) ?_
          refine r_iadd f97_40 (e := 2) (by omega) (by omega) (by omega) ?_
          refine r_istore f97_41 rfl (ls' := [some (.inr (.inl (some 264))), some (.inl h), some (.inl t), some (.inl n), some (.inl 4), some (.inl 1), some (.inl 5), some (.inl 2), some (.inl (MF m h 0 t)), some (.inl 2)]) rfl ?_
          refine r_iload f97_43 rfl ?_
          refine r_iload f97_45 rfl ?_
          refine r_iload f97_47 rfl ?_
          refine r_ishr f97_49 (e := 1) (by decide) ?_
          refine r_iconst f97_50 rfl ?_
          refine r_iand f97_51 (e := 1) (by decide) ?_
          refine r_iconst f97_52 rfl ?_
          refine r_cne f97_53 (t := 67) (by decide) (fun h => absurd h (by omega)) (fun _ => ?_)
          refine r_aload_n f97_56 rfl ?_
          refine r_iload_n f97_57 rfl ?_
          refine r_iload f97_58 rfl ?_
          refine r_iload_n f97_60 rfl ?_
          refine r_callv3i (m' := m1) (v := MF m h 2 t) f97_61 o97 M7_108 p93 o93 kd264 rfl (by simp) (t_freeIn (m := m) ha hk (e := 2) h0 h1 (by omega) (by omega) t0 t1) ?_
          refine r_goto f97_64 (t := 68) (by decide) ?_
          refine r_iadd f97_68 (e := MF m h 0 t + MF m h 2 t) (by omega) (by omega) (by omega) ?_
          refine r_istore f97_69 rfl (ls' := [some (.inr (.inl (some 264))), some (.inl h), some (.inl t), some (.inl n), some (.inl 4), some (.inl 1), some (.inl 5), some (.inl 2), some (.inl (MF m h 0 t + MF m h 2 t)), some (.inl 2)]) rfl ?_
          refine r_iinc f97_71 rfl rfl rfl (e := 3) (by omega) (by omega) (by omega) (ls' := [some (.inr (.inl (some 264))), some (.inl h), some (.inl t), some (.inl n), some (.inl 4), some (.inl 1), some (.inl 5), some (.inl 2), some (.inl (MF m h 0 t + MF m h 2 t)), some (.inl 3)]) rfl ?_
          refine r_goto f97_74 (t := 25) (by decide) ?_
          refine r_iload f97_25 rfl ?_
          refine r_iconst f97_27 rfl ?_
          refine r_cge f97_28 (t := 77) (by decide) (fun _ => ?_) (fun h => absurd (by omega) h)
          refine skip77 (by omega) ?_
          refine r_iinc f97_98 rfl rfl rfl (e := 6) (by omega) (by omega) (by omega) (ls' := [some (.inr (.inl (some 264))), some (.inl h), some (.inl t), some (.inl n), some (.inl 4), some (.inl 1), some (.inl 6), some (.inl 2), some (.inl (MF m h 0 t + MF m h 2 t)), some (.inl 3)]) rfl ?_
          refine r_goto f97_101 (t := 9) (by decide) ?_
          refine r_iload f97_9 rfl ?_
          refine r_bipush f97_11 (by decide) ?_
          refine r_cge f97_13 (t := 104) (by decide) (fun h => absurd h (by omega)) (fun _ => ?_)
          refine r_iconst f97_16 rfl ?_
          refine r_istore f97_17 rfl (ls' := [some (.inr (.inl (some 264))), some (.inl h), some (.inl t), some (.inl n), some (.inl 4), some (.inl 1), some (.inl 6), some (.inl 0), some (.inl (MF m h 0 t + MF m h 2 t)), some (.inl 3)]) rfl ?_
          refine r_iconst f97_19 rfl ?_
          refine r_istore f97_20 rfl (ls' := [some (.inr (.inl (some 264))), some (.inl h), some (.inl t), some (.inl n), some (.inl 4), some (.inl 1), some (.inl 6), some (.inl 0), some (.inl 0), some (.inl 3)]) rfl ?_
          refine r_iconst f97_22 rfl ?_
          refine r_istore f97_23 rfl (ls' := [some (.inr (.inl (some 264))), some (.inl h), some (.inl t), some (.inl n), some (.inl 4), some (.inl 1), some (.inl 6), some (.inl 0), some (.inl 0), some (.inl 0)]) rfl ?_
          refine r_iload f97_25 rfl ?_
          refine r_iconst f97_27 rfl ?_
          refine r_cge f97_28 (t := 77) (by decide) (fun h => absurd h (by omega)) (fun _ => ?_)
          refine r_iload f97_31 rfl ?_
          refine r_iload f97_33 rfl ?_
          refine r_iload f97_35 rfl ?_
          refine r_ishr f97_37 (e := 6) (by decide) ?_
          refine r_iconst f97_38 rfl ?_
          refine r_iand f97_39 (e := 0) (by decide) ?_
          refine r_iadd f97_40 (e := 0) (by omega) (by omega) (by omega) ?_
          refine r_istore f97_41 rfl (ls' := [some (.inr (.inl (some 264))), some (.inl h), some (.inl t), some (.inl n), some (.inl 4), some (.inl 1), some (.inl 6), some (.inl 0), some (.inl 0), some (.inl 0)]) rfl ?_
          refine r_iload f97_43 rfl ?_
          refine r_iload f97_45 rfl ?_
          refine r_iload f97_47 rfl ?_
          refine r_ishr f97_49 (e := 6) (by decide) ?_
          refine r_iconst f97_50 rfl ?_
          refine r_iand f97_51 (e := 0) (by decide) ?_
          refine r_iconst f97_52 rfl ?_
          refine r_cne f97_53 (t := 67) (by decide) (fun _ => ?_) (fun h => absurd (by omega) h)
          refine r_iconst f97_67 rfl ?_
          refine r_iadd f97_68 (e := 0) (by omega) (by omega) (by omega) ?_
          refine r_istore f97_69 rfl (ls' := [some (.inr (.inl (some 264))), some (.inl h), some (.inl t), some (.inl n), some (.inl 4), some (.inl 1), some (.inl 6), some (.inl 0), some (.inl 0), some (.inl 0)]) rfl ?_
          refine r_iinc f97_71 rfl rfl rfl (e := 1) (by omega) (by omega) (by omega) (ls' := [some (.inr (.inl (some 264))), some (.inl h), some (.inl t), some (.inl n), some (.inl 4), some (.inl 1), some (.inl 6), some (.inl 0), some (.inl 0), some (.inl 1)]) rfl ?_
          refine r_goto f97_74 (t := 25) (by decide) ?_
          refine r_iload f97_25 rfl ?_
          refine r_iconst f97_27 rfl ?_
          refine r_cge f97_28 (t := 77) (by decide) (fun h => absurd h (by omega)) (fun _ => ?_)
          refine r_iload f97_31 rfl ?_
          refine r_iload f97_33 rfl ?_
          refine r_iload f97_35 rfl ?_
          refine r_ishr f97_37 (e := 3) (by decide) ?_
          refine r_iconst f97_38 rfl ?_
          refine r_iand f97_39 (e := 1) (by decide) ?_
          refine r_iadd f97_40 (e := 1) (by omega) (by omega) (by omega) ?_
          refine r_istore f97_41 rfl (ls' := [some (.inr (.inl (some 264))), some (.inl h), some (.inl t), some (.inl n), some (.inl 4), some (.inl 1), some (.inl 6), some (.inl 1), some (.inl 0), some (.inl 1)]) rfl ?_
          refine r_iload f97_43 rfl ?_
          refine r_iload f97_45 rfl ?_
          refine r_iload f97_47 rfl ?_
          refine r_ishr f97_49 (e := 3) (by decide) ?_
          refine r_iconst f97_50 rfl ?_
          refine r_iand f97_51 (e := 1) (by decide) ?_
          refine r_iconst f97_52 rfl ?_
          refine r_cne f97_53 (t := 67) (by decide) (fun h => absurd h (by omega)) (fun _ => ?_)
          refine r_aload_n f97_56 rfl ?_
          refine r_iload_n f97_57 rfl ?_
          refine r_iload f97_58 rfl ?_
          refine r_iload_n f97_60 rfl ?_
          refine r_callv3i (m' := m1) (v := MF m h 1 t) f97_61 o97 M7_108 p93 o93 kd264 rfl (by simp) (t_freeIn (m := m) ha hk (e := 1) h0 h1 (by omega) (by omega) t0 t1) ?_
          refine r_goto f97_64 (t := 68) (by decide) ?_
          refine r_iadd f97_68 (e := MF m h 1 t) (by omega) (by omega) (by omega) ?_
          refine r_istore f97_69 rfl (ls' := [some (.inr (.inl (some 264))), some (.inl h), some (.inl t), some (.inl n), some (.inl 4), some (.inl 1), some (.inl 6), some (.inl 1), some (.inl (MF m h 1 t)), some (.inl 1)]) rfl ?_
          refine r_iinc f97_71 rfl rfl rfl (e := 2) (by omega) (by omega) (by omega) (ls' := [some (.inr (.inl (some 264))), some (.inl h), some (.inl t), some (.inl n), some (.inl 4), some (.inl 1), some (.inl 6), some (.inl 1), some (.inl (MF m h 1 t)), some (.inl 2)]) rfl ?_
          refine r_goto f97_74 (t := 25) (by decide) ?_
          refine r_iload f97_25 rfl ?_
          refine r_iconst f97_27 rfl ?_
          refine r_cge f97_28 (t := 77) (by decide) (fun h => absurd h (by omega)) (fun _ => ?_)
          refine r_iload f97_31 rfl ?_
          refine r_iload f97_33 rfl ?_
          refine r_iload f97_35 rfl ?_
          refine r_ishr f97_37 (e := 1) (by decide) ?_
          refine r_iconst f97_38 rfl ?_
          refine r_iand f97_39 (e := 1) (by decide) ?_
          refine r_iadd f97_40 (e := 2) (by omega) (by omega) (by omega) ?_
          refine r_istore f97_41 rfl (ls' := [some (.inr (.inl (some 264))), some (.inl h), some (.inl t), some (.inl n), some (.inl 4), some (.inl 1), some (.inl 6), some (.inl 2), some (.inl (MF m h 1 t)), some (.inl 2)]) rfl ?_
          refine r_iload f97_43 rfl ?_
          refine r_iload f97_45 rfl ?_
          refine r_iload f97_47 rfl ?_
          refine r_ishr f97_49 (e := 1) (by decide) ?_
          refine r_iconst f97_50 rfl ?_
          refine r_iand f97_51 (e := 1) (by decide) ?_
          refine r_iconst f97_52 rfl ?_
          refine r_cne f97_53 (t := 67) (by decide) (fun h => absurd h (by omega)) (fun _ => ?_)
          refine r_aload_n f97_56 rfl ?_
          refine r_iload_n f97_57 rfl ?_
          refine r_iload f97_58 rfl ?_
          refine r_iload_n f97_60 rfl ?_
          refine r_callv3i (m' := m1) (v := MF m h 2 t) f97_61 o97 M7_108 p93 o93 kd264 rfl (by simp) (t_freeIn (m := m) ha hk (e := 2) h0 h1 (by omega) (by omega) t0 t1) ?_
          refine r_goto f97_64 (t := 68) (by decide) ?_
          refine r_iadd f97_68 (e := MF m h 1 t + MF m h 2 t) (by omega) (by omega) (by omega) ?_
          refine r_istore f97_69 rfl (ls' := [some (.inr (.inl (some 264))), some (.inl h), some (.inl t), some (.inl n), some (.inl 4), some (.inl 1), some (.inl 6), some (.inl 2), some (.inl (MF m h 1 t + MF m h 2 t)), some (.inl 2)]) rfl ?_
          refine r_iinc f97_71 rfl rfl rfl (e := 3) (by omega) (by omega) (by omega) (ls' := [some (.inr (.inl (some 264))), some (.inl h), some (.inl t), some (.inl n), some (.inl 4), some (.inl 1), some (.inl 6), some (.inl 2), some (.inl (MF m h 1 t + MF m h 2 t)), some (.inl 3)]) rfl ?_
          refine r_goto f97_74 (t := 25) (by decide) ?_
          refine r_iload f97_25 rfl ?_
          refine r_iconst f97_27 rfl ?_
          refine r_cge f97_28 (t := 77) (by decide) (fun _ => ?_) (fun h => absurd (by omega) h)
          refine skip77 (by omega) ?_
          refine r_iinc f97_98 rfl rfl rfl (e := 7) (by omega) (by omega) (by omega) (ls' := [some (.inr (.inl (some 264))), some (.inl h), some (.inl t), some (.inl n), some (.inl 4), some (.inl 1), some (.inl 7), some (.inl 2), some (.inl (MF m h 1 t + MF m h 2 t)), some (.inl 3)]) rfl ?_
          refine r_goto f97_101 (t := 9) (by decide) ?_
          refine r_iload f97_9 rfl ?_
          refine r_bipush f97_11 (by decide) ?_
          refine r_cge f97_13 (t := 104) (by decide) (fun h => absurd h (by omega)) (fun _ => ?_)
          refine r_iconst f97_16 rfl ?_
          refine r_istore f97_17 rfl (ls' := [some (.inr (.inl (some 264))), some (.inl h), some (.inl t), some (.inl n), some (.inl 4), some (.inl 1), some (.inl 7), some (.inl 0), some (.inl (MF m h 1 t + MF m h 2 t)), some (.inl 3)]) rfl ?_
          refine r_iconst f97_19 rfl ?_
          refine r_istore f97_20 rfl (ls' := [some (.inr (.inl (some 264))), some (.inl h), some (.inl t), some (.inl n), some (.inl 4), some (.inl 1), some (.inl 7), some (.inl 0), some (.inl 0), some (.inl 3)]) rfl ?_
          refine r_iconst f97_22 rfl ?_
          refine r_istore f97_23 rfl (ls' := [some (.inr (.inl (some 264))), some (.inl h), some (.inl t), some (.inl n), some (.inl 4), some (.inl 1), some (.inl 7), some (.inl 0), some (.inl 0), some (.inl 0)]) rfl ?_
          refine r_iload f97_25 rfl ?_
          refine r_iconst f97_27 rfl ?_
          refine r_cge f97_28 (t := 77) (by decide) (fun h => absurd h (by omega)) (fun _ => ?_)
          refine r_iload f97_31 rfl ?_
          refine r_iload f97_33 rfl ?_
          refine r_iload f97_35 rfl ?_
          refine r_ishr f97_37 (e := 7) (by decide) ?_
          refine r_iconst f97_38 rfl ?_
          refine r_iand f97_39 (e := 1) (by decide) ?_
          refine r_iadd f97_40 (e := 1) (by omega) (by omega) (by omega) ?_
          refine r_istore f97_41 rfl (ls' := [some (.inr (.inl (some 264))), some (.inl h), some (.inl t), some (.inl n), some (.inl 4), some (.inl 1), some (.inl 7), some (.inl 1), some (.inl 0), some (.inl 0)]) rfl ?_
          refine r_iload f97_43 rfl ?_
          refine r_iload f97_45 rfl ?_
          refine r_iload f97_47 rfl ?_
          refine r_ishr f97_49 (e := 7) (by decide) ?_
          refine r_iconst f97_50 rfl ?_
          refine r_iand f97_51 (e := 1) (by decide) ?_
          refine r_iconst f97_52 rfl ?_
          refine r_cne f97_53 (t := 67) (by decide) (fun h => absurd h (by omega)) (fun _ => ?_)
          refine r_aload_n f97_56 rfl ?_
          refine r_iload_n f97_57 rfl ?_
          refine r_iload f97_58 rfl ?_
          refine r_iload_n f97_60 rfl ?_
          refine r_callv3i (m' := m1) (v := MF m h 0 t) f97_61 o97 M7_108 p93 o93 kd264 rfl (by simp) (t_freeIn (m := m) ha hk (e := 0) h0 h1 (by omega) (by omega) t0 t1) ?_
          refine r_goto f97_64 (t := 68) (by decide) ?_
          refine r_iadd f97_68 (e := MF m h 0 t) (by omega) (by omega) (by omega) ?_
          refine r_istore f97_69 rfl (ls' := [some (.inr (.inl (some 264))), some (.inl h), some (.inl t), some (.inl n), some (.inl 4), some (.inl 1), some (.inl 7), some (.inl 1), some (.inl (MF m h 0 t)), some (.inl 0)]) rfl ?_
          refine r_iinc f97_71 rfl rfl rfl (e := 1) (by omega) (by omega) (by omega) (ls' := [some (.inr (.inl (some 264))), some (.inl h), some (.inl t), some (.inl n), some (.inl 4), some (.inl 1), some (.inl 7), some (.inl 1), some (.inl (MF m h 0 t)), some (.inl 1)]) rfl ?_
          refine r_goto f97_74 (t := 25) (by decide) ?_
          refine r_iload f97_25 rfl ?_
          refine r_iconst f97_27 rfl ?_
          refine r_cge f97_28 (t := 77) (by decide) (fun h => absurd h (by omega)) (fun _ => ?_)
          refine r_iload f97_31 rfl ?_
          refine r_iload f97_33 rfl ?_
          refine r_iload f97_35 rfl ?_
          refine r_ishr f97_37 (e := 3) (by decide) ?_
          refine r_iconst f97_38 rfl ?_
          refine r_iand f97_39 (e := 1) (by decide) ?_
          refine r_iadd f97_40 (e := 2) (by omega) (by omega) (by omega) ?_
          refine r_istore f97_41 rfl (ls' := [some (.inr (.inl (some 264))), some (.inl h), some (.inl t), some (.inl n), some (.inl 4), some (.inl 1), some (.inl 7), some (.inl 2), some (.inl (MF m h 0 t)), some (.inl 1)]) rfl ?_
          refine r_iload f97_43 rfl ?_
          refine r_iload f97_45 rfl ?_
          refine r_iload f97_47 rfl ?_
          refine r_ishr f97_49 (e := 3) (by decide) ?_
          refine r_iconst f97_50 rfl ?_
          refine r_iand f97_51 (e := 1) (by decide) ?_
          refine r_iconst f97_52 rfl ?_
          refine r_cne f97_53 (t := 67) (by decide) (fun h => absurd h (by omega)) (fun _ => ?_)
          refine r_aload_n f97_56 rfl ?_
          refine r_iload_n f97_57 rfl ?_
          refine r_iload f97_58 rfl ?_
          refine r_iload_n f97_60 rfl ?_
          refine r_callv3i (m' := m1) (v := MF m h 1 t) f97_61 o97 M7_108 p93 o93 kd264 rfl (by simp) (t_freeIn (m := m) ha hk (e := 1) h0 h1 (by omega) (by omega) t0 t1) ?_
          refine r_goto f97_64 (t := 68) (by decide) ?_
          refine r_iadd f97_68 (e := MF m h 0 t + MF m h 1 t) (by omega) (by omega) (by omega) ?_
          refine r_istore f97_69 rfl (ls' := [some (.inr (.inl (some 264))), some (.inl h), some (.inl t), some (.inl n), some (.inl 4), some (.inl 1), some (.inl 7), some (.inl 2), some (.inl (MF m h 0 t + MF m h 1 t)), some (.inl 1)]) rfl ?_
          refine r_iinc f97_71 rfl rfl rfl (e := 2) (by omega) (by omega) (by omega) (ls' := [some (.inr (.inl (some 264))), some (.inl h), some (.inl t), some (.inl n), some (.inl 4), some (.inl 1), some (.inl 7), some (.inl 2), some (.inl (MF m h 0 t + MF m h 1 t)), some (.inl 2)]) rfl ?_
          refine r_goto f97_74 (t := 25) (by decide) ?_
          refine r_iload f97_25 rfl ?_
          refine r_iconst f97_27 rfl ?_
          refine r_cge f97_28 (t := 77) (by decide) (fun h => absurd h (by omega)) (fun _ => ?_)
          refine r_iload f97_31 rfl ?_
          refine r_iload f97_33 rfl ?_
          refine r_iload f97_35 rfl ?_
          refine r_ishr f97_37 (e := 1) (by decide) ?_
          refine r_iconst f97_38 rfl ?_
          refine r_iand f97_39 (e := 1) (by decide) ?_
          refine r_iadd f97_40 (e := 3) (by omega) (by omega) (by omega) ?_
          refine r_istore f97_41 rfl (ls' := [some (.inr (.inl (some 264))), some (.inl h), some (.inl t), some (.inl n), some (.inl 4), some (.inl 1), some (.inl 7), some (.inl 3), some (.inl (MF m h 0 t + MF m h 1 t)), some (.inl 2)]) rfl ?_
          refine r_iload f97_43 rfl ?_
          refine r_iload f97_45 rfl ?_
          refine r_iload f97_47 rfl ?_
          refine r_ishr f97_49 (e := 1) (by decide) ?_
          refine r_iconst f97_50 rfl ?_
          refine r_iand f97_51 (e := 1) (by decide) ?_
          refine r_iconst f97_52 rfl ?_
          refine r_cne f97_53 (t := 67) (by decide) (fun h => absurd h (by omega)) (fun _ => ?_)
          refine r_aload_n f97_56 rfl ?_
          refine r_iload_n f97_57 rfl ?_
          refine r_iload f97_58 rfl ?_
          refine r_iload_n f97_60 rfl ?_
          refine r_callv3i (m' := m1) (v := MF m h 2 t) f97_61 o97 M7_108 p93 o93 kd264 rfl (by simp) (t_freeIn (m := m) ha hk (e := 2) h0 h1 (by omega) (by omega) t0 t1) ?_
          refine r_goto f97_64 (t := 68) (by decide) ?_
          refine r_iadd f97_68 (e := MF m h 0 t + MF m h 1 t + MF m h 2 t) (by omega) (by omega) (by omega) ?_
          refine r_istore f97_69 rfl (ls' := [some (.inr (.inl (some 264))), some (.inl h), some (.inl t), some (.inl n), some (.inl 4), some (.inl 1), some (.inl 7), some (.inl 3), some (.inl (MF m h 0 t + MF m h 1 t + MF m h 2 t)), some (.inl 2)]) rfl ?_
          refine r_iinc f97_71 rfl rfl rfl (e := 3) (by omega) (by omega) (by omega) (ls' := [some (.inr (.inl (some 264))), some (.inl h), some (.inl t), some (.inl n), some (.inl 4), some (.inl 1), some (.inl 7), some (.inl 3), some (.inl (MF m h 0 t + MF m h 1 t + MF m h 2 t)), some (.inl 3)]) rfl ?_
          refine r_goto f97_74 (t := 25) (by decide) ?_
          refine r_iload f97_25 rfl ?_
          refine r_iconst f97_27 rfl ?_
          refine r_cge f97_28 (t := 77) (by decide) (fun _ => ?_) (fun h => absurd (by omega) h)
          refine skip77 (by omega) ?_
          refine r_iinc f97_98 rfl rfl rfl (e := 8) (by omega) (by omega) (by omega) (ls' := [some (.inr (.inl (some 264))), some (.inl h), some (.inl t), some (.inl n), some (.inl 4), some (.inl 1), some (.inl 8), some (.inl 3), some (.inl (MF m h 0 t + MF m h 1 t + MF m h 2 t)), some (.inl 3)]) rfl ?_
          refine r_goto f97_101 (t := 9) (by decide) ?_
          refine r_iload f97_9 rfl ?_
          refine r_bipush f97_11 (by decide) ?_
          refine r_cge f97_13 (t := 104) (by decide) (fun _ => ?_) (fun h => absurd (by omega) h)
          refine r_iload_n f97_104 rfl ?_
          refine r_istore f97_105 rfl (ls' := [some (.inr (.inl (some 264))), some (.inl h), some (.inl t), some (.inl n), some (.inl 4), some (.inl 1), some (.inl n), some (.inl 3), some (.inl (MF m h 0 t + MF m h 1 t + MF m h 2 t)), some (.inl 3)]) rfl ?_
          refine r_iconst f97_107 rfl ?_
          refine r_istore f97_108 rfl (ls' := [some (.inr (.inl (some 264))), some (.inl h), some (.inl t), some (.inl n), some (.inl 4), some (.inl 1), some (.inl n), some (.inl 0), some (.inl (MF m h 0 t + MF m h 1 t + MF m h 2 t)), some (.inl 3)]) rfl ?_
          refine r_iload f97_110 rfl ?_
          refine r_iconst f97_112 rfl ?_
          refine r_cge f97_113 (t := 180) (by decide) (fun h => absurd h (by omega)) (fun _ => ?_)
          refine r_iload f97_116 rfl ?_
          refine r_iload f97_118 rfl ?_
          refine r_ishr f97_120 (e := 4) (by decide) ?_
          refine r_iconst f97_121 rfl ?_
          refine r_iand f97_122 (e := 0) (by decide) ?_
          refine r_iconst f97_123 rfl ?_
          refine r_cne f97_124 (t := 138) (by decide) (fun _ => ?_) (fun h => absurd (by omega) h)
          refine r_iconst f97_138 rfl ?_
          refine r_istore f97_139 rfl (ls' := [some (.inr (.inl (some 264))), some (.inl h), some (.inl t), some (.inl n), some (.inl 4), some (.inl 1), some (.inl n), some (.inl 0), some (.inl 0), some (.inl 3)]) rfl ?_
          refine r_aload_n f97_141 rfl ?_
          refine r_getR f97_142 o97 F7_59 g264_21 rfl ?_
          refine r_iload f97_145 rfl ?_
          refine r_iload f97_147 rfl ?_
          refine r_iload f97_149 rfl ?_
          refine r_cge f97_151 (t := 159) (by decide) (fun h => absurd h (by omega)) (fun _ => ?_)
          refine r_iload f97_154 rfl ?_
          refine r_goto f97_156 (t := 161) (by decide) ?_
          refine r_iast f97_161 kd281 (by omega) (by omega) (by omega) ?_
          refine r_iload f97_162 rfl ?_
          refine r_aload_n f97_164 rfl ?_
          refine r_getR f97_165 o97 F7_59 g264_21 rfl ?_
          refine r_iload f97_168 rfl ?_
          refine r_iald f97_170 kd281 (by omega) (by omega) ?_
          refine r_top (e := 0) (by rw [zu_if, if_pos (by omega)]) ?_
          refine r_isub f97_171 (e := n) (by omega) (by omega) (by omega) ?_
          refine r_istore f97_172 rfl (ls' := [some (.inr (.inl (some 264))), some (.inl h), some (.inl t), some (.inl n), some (.inl 4), some (.inl 1), some (.inl n), some (.inl 0), some (.inl 0), some (.inl 3)]) rfl ?_
          refine r_iinc f97_174 rfl rfl rfl (e := 1) (by omega) (by omega) (by omega) (ls' := [some (.inr (.inl (some 264))), some (.inl h), some (.inl t), some (.inl n), some (.inl 4), some (.inl 1), some (.inl n), some (.inl 1), some (.inl 0), some (.inl 3)]) rfl ?_
          refine r_goto f97_177 (t := 110) (by decide) ?_
          refine r_iload f97_110 rfl ?_
          refine r_iconst f97_112 rfl ?_
          refine r_cge f97_113 (t := 180) (by decide) (fun h => absurd h (by omega)) (fun _ => ?_)
          refine r_iload f97_116 rfl ?_
          refine r_iload f97_118 rfl ?_
          refine r_ishr f97_120 (e := 2) (by decide) ?_
          refine r_iconst f97_121 rfl ?_
          refine r_iand f97_122 (e := 0) (by decide) ?_
          refine r_iconst f97_123 rfl ?_
          refine r_cne f97_124 (t := 138) (by decide) (fun _ => ?_) (fun h => absurd (by omega) h)
          refine r_iconst f97_138 rfl ?_
          refine r_istore f97_139 rfl (ls' := [some (.inr (.inl (some 264))), some (.inl h), some (.inl t), some (.inl n), some (.inl 4), some (.inl 1), some (.inl n), some (.inl 1), some (.inl 0), some (.inl 3)]) rfl ?_
          refine r_aload_n f97_141 rfl ?_
          refine r_getR f97_142 o97 F7_59 g264_21 rfl ?_
          refine r_iload f97_145 rfl ?_
          refine r_iload f97_147 rfl ?_
          refine r_iload f97_149 rfl ?_
          refine r_cge f97_151 (t := 159) (by decide) (fun h => absurd h (by omega)) (fun _ => ?_)
          refine r_iload f97_154 rfl ?_
          refine r_goto f97_156 (t := 161) (by decide) ?_
          refine r_iast f97_161 kd281 (by omega) (by omega) (by omega) ?_
          refine r_iload f97_162 rfl ?_
          refine r_aload_n f97_164 rfl ?_
          refine r_getR f97_165 o97 F7_59 g264_21 rfl ?_
          refine r_iload f97_168 rfl ?_
          refine r_iald f97_170 kd281 (by omega) (by omega) ?_
          refine r_top (e := 0) (by rw [zu_if, if_pos (by omega)]) ?_
          refine r_isub f97_171 (e := n) (by omega) (by omega) (by omega) ?_
          refine r_istore f97_172 rfl (ls' := [some (.inr (.inl (some 264))), some (.inl h), some (.inl t), some (.inl n), some (.inl 4), some (.inl 1), some (.inl n), some (.inl 1), some (.inl 0), some (.inl 3)]) rfl ?_
          refine r_iinc f97_174 rfl rfl rfl (e := 2) (by omega) (by omega) (by omega) (ls' := [some (.inr (.inl (some 264))), some (.inl h), some (.inl t), some (.inl n), some (.inl 4), some (.inl 1), some (.inl n), some (.inl 2), some (.inl 0), some (.inl 3)]) rfl ?_
          refine r_goto f97_177 (t := 110) (by decide) ?_
          refine r_iload f97_110 rfl ?_
          refine r_iconst f97_112 rfl ?_
          refine r_cge f97_113 (t := 180) (by decide) (fun h => absurd h (by omega)) (fun _ => ?_)
          refine r_iload f97_116 rfl ?_
          refine r_iload f97_118 rfl ?_
          refine r_ishr f97_120 (e := 1) (by decide) ?_
          refine r_iconst f97_121 rfl ?_
          refine r_iand f97_122 (e := 1) (by decide) ?_
          refine r_iconst f97_123 rfl ?_
          refine r_cne f97_124 (t := 138) (by decide) (fun h => absurd h (by omega)) (fun _ => ?_)
          refine r_aload_n f97_127 rfl ?_
          refine r_iload_n f97_128 rfl ?_
          refine r_iload f97_129 rfl ?_
          refine r_iload_n f97_131 rfl ?_
          refine r_callv3i (m' := (zu (zu m1 281 0 0) 281 1 0)) (v := MF m h 2 t) f97_132 o97 M7_108 p93 o93 kd264 rfl (by simp) (t_freeIn (m := m) (zan_u (zan_u ha (Or.inl rfl)) (Or.inl rfl)) hk (e := 2) h0 h1 (by omega) (by omega) t0 t1) ?_
          refine r_goto f97_135 (t := 139) (by decide) ?_
          refine r_istore f97_139 rfl (ls' := [some (.inr (.inl (some 264))), some (.inl h), some (.inl t), some (.inl n), some (.inl 4), some (.inl 1), some (.inl n), some (.inl 2), some (.inl (MF m h 2 t)), some (.inl 3)]) rfl ?_
          refine r_aload_n f97_141 rfl ?_
          refine r_getR f97_142 o97 F7_59 g264_21 rfl ?_
          refine r_iload f97_145 rfl ?_
          refine r_iload f97_147 rfl ?_
          refine r_iload f97_149 rfl ?_
          refine r_cge f97_151 (t := 159) (by decide) (fun _ => ?_) (fun h => absurd (by omega) h)
          refine r_iload f97_159 rfl ?_
          refine r_iast f97_161 kd281 (by omega) (by omega) (by omega) ?_
          refine r_iload f97_162 rfl ?_
          refine r_aload_n f97_164 rfl ?_
          refine r_getR f97_165 o97 F7_59 g264_21 rfl ?_
          refine r_iload f97_168 rfl ?_
          refine r_iald f97_170 kd281 (by omega) (by omega) ?_
          refine r_top (e := n) (by rw [zu_if, if_pos (by omega)]) ?_
          refine r_isub f97_171 (e := 0) (by omega) (by omega) (by omega) ?_
          refine r_istore f97_172 rfl (ls' := [some (.inr (.inl (some 264))), some (.inl h), some (.inl t), some (.inl n), some (.inl 4), some (.inl 1), some (.inl 0), some (.inl 2), some (.inl (MF m h 2 t)), some (.inl 3)]) rfl ?_
          refine r_iinc f97_174 rfl rfl rfl (e := 3) (by omega) (by omega) (by omega) (ls' := [some (.inr (.inl (some 264))), some (.inl h), some (.inl t), some (.inl n), some (.inl 4), some (.inl 1), some (.inl 0), some (.inl 3), some (.inl (MF m h 2 t)), some (.inl 3)]) rfl ?_
          refine r_goto f97_177 (t := 110) (by decide) ?_
          refine r_iload f97_110 rfl ?_
          refine r_iconst f97_112 rfl ?_
          refine r_cge f97_113 (t := 180) (by decide) (fun _ => ?_) (fun h => absurd (by omega) h)
          exact r_vret f97_180 v97 ⟨rfl, by unfold MPt; rw [show zsh0 (MF m h 0 t) (MF m h 1 t) (MF m h 2 t) n = 0 from by unfold zsh0; (repeat (first | rw [if_pos (by omega)] | rw [if_neg (by omega)])); try omega, show zsh1 (MF m h 0 t) (MF m h 1 t) (MF m h 2 t) n = 0 from by unfold zsh1; (repeat (first | rw [if_pos (by omega)] | rw [if_neg (by omega)])); try omega, show zsh2 (MF m h 0 t) (MF m h 1 t) (MF m h 2 t) n = n from by unfold zsh2; (repeat (first | rw [if_pos (by omega)] | rw [if_neg (by omega)])); try omega]⟩
      · refine r_iload f97_83 rfl ?_
        refine r_iload f97_85 rfl ?_
        refine r_cge f97_87 (t := 98) (by decide) (fun h => absurd h (by omega)) (fun _ => ?_)
        refine r_iload f97_90 rfl ?_
        refine r_istore f97_92 rfl (ls' := [some (.inr (.inl (some 264))), some (.inl h), some (.inl t), some (.inl n), some (.inl 3), some (.inl 4), some (.inl 3), some (.inl 2), some (.inl (MF m h 0 t + MF m h 1 t)), some (.inl 3)]) rfl ?_
        refine r_iload f97_94 rfl ?_
        refine r_istore f97_96 rfl (ls' := [some (.inr (.inl (some 264))), some (.inl h), some (.inl t), some (.inl n), some (.inl 3), some (.inl 2), some (.inl 3), some (.inl 2), some (.inl (MF m h 0 t + MF m h 1 t)), some (.inl 3)]) rfl ?_
        refine r_iinc f97_98 rfl rfl rfl (e := 4) (by omega) (by omega) (by omega) (ls' := [some (.inr (.inl (some 264))), some (.inl h), some (.inl t), some (.inl n), some (.inl 3), some (.inl 2), some (.inl 4), some (.inl 2), some (.inl (MF m h 0 t + MF m h 1 t)), some (.inl 3)]) rfl ?_
        refine r_goto f97_101 (t := 9) (by decide) ?_
        refine r_iload f97_9 rfl ?_
        refine r_bipush f97_11 (by decide) ?_
        refine r_cge f97_13 (t := 104) (by decide) (fun h => absurd h (by omega)) (fun _ => ?_)
        refine r_iconst f97_16 rfl ?_
        refine r_istore f97_17 rfl (ls' := [some (.inr (.inl (some 264))), some (.inl h), some (.inl t), some (.inl n), some (.inl 3), some (.inl 2), some (.inl 4), some (.inl 0), some (.inl (MF m h 0 t + MF m h 1 t)), some (.inl 3)]) rfl ?_
        refine r_iconst f97_19 rfl ?_
        refine r_istore f97_20 rfl (ls' := [some (.inr (.inl (some 264))), some (.inl h), some (.inl t), some (.inl n), some (.inl 3), some (.inl 2), some (.inl 4), some (.inl 0), some (.inl 0), some (.inl 3)]) rfl ?_
        refine r_iconst f97_22 rfl ?_
        refine r_istore f97_23 rfl (ls' := [some (.inr (.inl (some 264))), some (.inl h), some (.inl t), some (.inl n), some (.inl 3), some (.inl 2), some (.inl 4), some (.inl 0), some (.inl 0), some (.inl 0)]) rfl ?_
        refine r_iload f97_25 rfl ?_
        refine r_iconst f97_27 rfl ?_
        refine r_cge f97_28 (t := 77) (by decide) (fun h => absurd h (by omega)) (fun _ => ?_)
        refine r_iload f97_31 rfl ?_
        refine r_iload f97_33 rfl ?_
        refine r_iload f97_35 rfl ?_
        refine r_ishr f97_37 (e := 4) (by decide) ?_
        refine r_iconst f97_38 rfl ?_
        refine r_iand f97_39 (e := 0) (by decide) ?_
        refine r_iadd f97_40 (e := 0) (by omega) (by omega) (by omega) ?_
        refine r_istore f97_41 rfl (ls' := [some (.inr (.inl (some 264))), some (.inl h), some (.inl t), some (.inl n), some (.inl 3), some (.inl 2), some (.inl 4), some (.inl 0), some (.inl 0), some (.inl 0)]) rfl ?_
        refine r_iload f97_43 rfl ?_
        refine r_iload f97_45 rfl ?_
        refine r_iload f97_47 rfl ?_
        refine r_ishr f97_49 (e := 4) (by decide) ?_
        refine r_iconst f97_50 rfl ?_
        refine r_iand f97_51 (e := 0) (by decide) ?_
        refine r_iconst f97_52 rfl ?_
        refine r_cne f97_53 (t := 67) (by decide) (fun _ => ?_) (fun h => absurd (by omega) h)
        refine r_iconst f97_67 rfl ?_
        refine r_iadd f97_68 (e := 0) (by omega) (by omega) (by omega) ?_
        refine r_istore f97_69 rfl (ls' := [some (.inr (.inl (some 264))), some (.inl h), some (.inl t), some (.inl n), some (.inl 3), some (.inl 2), some (.inl 4), some (.inl 0), some (.inl 0), some (.inl 0)]) rfl ?_
        refine r_iinc f97_71 rfl rfl rfl (e := 1) (by omega) (by omega) (by omega) (ls' := [some (.inr (.inl (some 264))), some (.inl h), some (.inl t), some (.inl n), some (.inl 3), some (.inl 2), some (.inl 4), some (.inl 0), some (.inl 0), some (.inl 1)]) rfl ?_
        refine r_goto f97_74 (t := 25) (by decide) ?_
        refine r_iload f97_25 rfl ?_
        refine r_iconst f97_27 rfl ?_
        refine r_cge f97_28 (t := 77) (by decide) (fun h => absurd h (by omega)) (fun _ => ?_)
        refine r_iload f97_31 rfl ?_
        refine r_iload f97_33 rfl ?_
        refine r_iload f97_35 rfl ?_
        refine r_ishr f97_37 (e := 2) (by decide) ?_
        refine r_iconst f97_38 rfl ?_
        refine r_iand f97_39 (e := 0) (by decide) ?_
        refine r_iadd f97_40 (e := 0) (by omega) (by omega) (by omega) ?_
        refine r_istore f97_41 rfl (ls' := [some (.inr (.inl (some 264))), some (.inl h), some (.inl t), some (.inl n), some (.inl 3), some (.inl 2), some (.inl 4), some (.inl 0), some (.inl 0), some (.inl 1)]) rfl ?_
        refine r_iload f97_43 rfl ?_
        refine r_iload f97_45 rfl ?_
        refine r_iload f97_47 rfl ?_
        refine r_ishr f97_49 (e := 2) (by decide) ?_
        refine r_iconst f97_50 rfl ?_
        refine r_iand f97_51 (e := 0) (by decide) ?_
        refine r_iconst f97_52 rfl ?_
        refine r_cne f97_53 (t := 67) (by decide) (fun _ => ?_) (fun h => absurd (by omega) h)
        refine r_iconst f97_67 rfl ?_
        refine r_iadd f97_68 (e := 0) (by omega) (by omega) (by omega) ?_
        refine r_istore f97_69 rfl (ls' := [some (.inr (.inl (some 264))), some (.inl h), some (.inl t), some (.inl n), some (.inl 3), some (.inl 2), some (.inl 4), some (.inl 0), some (.inl 0), some (.inl 1)]) rfl ?_
        refine r_iinc f97_71 rfl rfl rfl (e := 2) (by omega) (by omega) (by omega) (ls' := [some (.inr (.inl (some 264))), some (.inl h), some (.inl t), some (.inl n), some (.inl 3), some (.inl 2), some (.inl 4), some (.inl 0), some (.inl 0), some (.inl 2)]) rfl ?_
        refine r_goto f97_74 (t := 25) (by decide) ?_
        refine r_iload f97_25 rfl ?_
        refine r_iconst f97_27 rfl ?_
        refine r_cge f97_28 (t := 77) (by decide) (fun h => absurd h (by omega)) (fun _ => ?_)
        refine r_iload f97_31 rfl ?_
        refine r_iload f97_33 rfl ?_
        refine r_iload f97_35 rfl ?_
        refine r_ishr f97_37 (e := 1) (by decide) ?_
        refine r_iconst f97_38 rfl ?_
        refine r_iand f97_39 (e := 1) (by decide) ?_
        refine r_iadd f97_40 (e := 1) (by omega) (by omega) (by omega) ?_
        refine r_istore f97_41 rfl (ls' := [some (.inr (.inl (some 264))), some (.inl h), some (.inl t), some (.inl n), some (.inl 3), some (.inl 2), some (.inl 4), some (.inl 1), some (.inl 0), some (.inl 2)]) rfl ?_
        refine r_iload f97_43 rfl ?_
        refine r_iload f97_45 rfl ?_
        refine r_iload f97_47 rfl ?_
        refine r_ishr f97_49 (e := 1) (by decide) ?_
        refine r_iconst f97_50 rfl ?_
        refine r_iand f97_51 (e := 1) (by decide) ?_
        refine r_iconst f97_52 rfl ?_
        refine r_cne f97_53 (t := 67) (by decide) (fun h => absurd h (by omega)) (fun _ => ?_)
        refine r_aload_n f97_56 rfl ?_
        refine r_iload_n f97_57 rfl ?_
        refine r_iload f97_58 rfl ?_
        refine r_iload_n f97_60 rfl ?_
        refine r_callv3i (m' := m1) (v := MF m h 2 t) f97_61 o97 M7_108 p93 o93 kd264 rfl (by simp) (t_freeIn (m := m) ha hk (e := 2) h0 h1 (by omega) (by omega) t0 t1) ?_
        refine r_goto f97_64 (t := 68) (by decide) ?_
        refine r_iadd f97_68 (e := MF m h 2 t) (by omega) (by omega) (by omega) ?_
        refine r_istore f97_69 rfl (ls' := [some (.inr (.inl (some 264))), some (.inl h), some (.inl t), some (.inl n), some (.inl 3), some (.inl 2), some (.inl 4), some (.inl 1), some (.inl (MF m h 2 t)), some (.inl 2)]) rfl ?_
        refine r_iinc f97_71 rfl rfl rfl (e := 3) (by omega) (by omega) (by omega) (ls' := [some (.inr (.inl (some 264))), some (.inl h), some (.inl t), some (.inl n), some (.inl 3), some (.inl 2), some (.inl 4), some (.inl 1), some (.inl (MF m h 2 t)), some (.inl 3)]) rfl ?_
        refine r_goto f97_74 (t := 25) (by decide) ?_
        refine r_iload f97_25 rfl ?_
        refine r_iconst f97_27 rfl ?_
        refine r_cge f97_28 (t := 77) (by decide) (fun _ => ?_) (fun h => absurd (by omega) h)
        refine r_iload f97_77 rfl ?_
        refine r_iload_n f97_79 rfl ?_
        refine r_clt f97_80 (t := 98) (by decide) (fun q7 => ?_) (fun q7 => ?_)
        · refine r_iinc f97_98 rfl rfl rfl (e := 5) (by omega) (by omega) (by omega) (ls' := [some (.inr (.inl (some 264))), some (.inl h), some (.inl t), some (.inl n), some (.inl 3), some (.inl 2), some (.inl 5), some (.inl 1), some (.inl (MF m h 2 t)), some (.inl 3)]) rfl ?_
          refine r_goto f97_101 (t := 9) (by decide) ?_
          refine r_iload f97_9 rfl ?_
          refine r_bipush f97_11 (by decide) ?_
          refine r_cge f97_13 (t := 104) (by decide) (fun h => absurd h (by omega)) (fun _ => ?_)
          refine r_iconst f97_16 rfl ?_
          refine r_istore f97_17 rfl (ls' := [some (.inr (.inl (some 264))), some (.inl h), some (.inl t), some (.inl n), some (.inl 3), some (.inl 2), some (.inl 5), some (.inl 0), some (.inl (MF m h 2 t)), some (.inl 3)]) rfl ?_
          refine r_iconst f97_19 rfl ?_
          refine r_istore f97_20 rfl (ls' := [some (.inr (.inl (some 264))), some (.inl h), some (.inl t), some (.inl n), some (.inl 3), some (.inl 2), some (.inl 5), some (.inl 0), some (.inl 0), some (.inl 3)]) rfl ?_
          refine r_iconst f97_22 rfl ?_
          refine r_istore f97_23 rfl (ls' := [some (.inr (.inl (some 264))), some (.inl h), some (.inl t), some (.inl n), some (.inl 3), some (.inl 2), some (.inl 5), some (.inl 0), some (.inl 0), some (.inl 0)]) rfl ?_
          refine r_iload f97_25 rfl ?_
          refine r_iconst f97_27 rfl ?_
          refine r_cge f97_28 (t := 77) (by decide) (fun h => absurd h (by omega)) (fun _ => ?_)
          refine r_iload f97_31 rfl ?_
          refine r_iload f97_33 rfl ?_
          refine r_iload f97_35 rfl ?_
          refine r_ishr f97_37 (e := 5) (by decide) ?_
          refine r_iconst f97_38 rfl ?_
          refine r_iand f97_39 (e := 1) (by decide) ?_
          refine r_iadd f97_40 (e := 1) (by omega) (by omega) (by omega) ?_
          refine r_istore f97_41 rfl (ls' := [some (.inr (.inl (some 264))), some (.inl h), some (.inl t), some (.inl n), some (.inl 3), some (.inl 2), some (.inl 5), some (.inl 1), some (.inl 0), some (.inl 0)]) rfl ?_
          refine r_iload f97_43 rfl ?_
          refine r_iload f97_45 rfl ?_
          refine r_iload f97_47 rfl ?_
          refine r_ishr f97_49 (e := 5) (by decide) ?_
          refine r_iconst f97_50 rfl ?_
          refine r_iand f97_51 (e := 1) (by decide) ?_
          refine r_iconst f97_52 rfl ?_
          refine r_cne f97_53 (t := 67) (by decide) (fun h => absurd h (by omega)) (fun _ => ?_)
          refine r_aload_n f97_56 rfl ?_
          refine r_iload_n f97_57 rfl ?_
          refine r_iload f97_58 rfl ?_
          refine r_iload_n f97_60 rfl ?_
          refine r_callv3i (m' := m1) (v := MF m h 0 t) f97_61 o97 M7_108 p93 o93 kd264 rfl (by simp) (t_freeIn (m := m) ha hk (e := 0) h0 h1 (by omega) (by omega) t0 t1) ?_
          refine r_goto f97_64 (t := 68) (by decide) ?_
          refine r_iadd f97_68 (e := MF m h 0 t) (by omega) (by omega) (by omega) ?_
          refine r_istore f97_69 rfl (ls' := [some (.inr (.inl (some 264))), some (.inl h), some (.inl t), some (.inl n), some (.inl 3), some (.inl 2), some (.inl 5), some (.inl 1), some (.inl (MF m h 0 t)), some (.inl 0)]) rfl ?_
          refine r_iinc f97_71 rfl rfl rfl (e := 1) (by omega) (by omega) (by omega) (ls' := [some (.inr (.inl (some 264))), some (.inl h), some (.inl t), some (.inl n), some (.inl 3), some (.inl 2), some (.inl 5), some (.inl 1), some (.inl (MF m h 0 t)), some (.inl 1)]) rfl ?_
          refine r_goto f97_74 (t := 25) (by decide) ?_
          refine r_iload f97_25 rfl ?_
          refine r_iconst f97_27 rfl ?_
          refine r_cge f97_28 (t := 77) (by decide) (fun h => absurd h (by omega)) (fun _ => ?_)
          refine r_iload f97_31 rfl ?_
          refine r_iload f97_33 rfl ?_
          refine r_iload f97_35 rfl ?_
          refine r_ishr f97_37 (e := 2) (by decide) ?_
          refine r_iconst f97_38 rfl ?_
          refine r_iand f97_39 (e := 0) (by decide) ?_
          refine r_iadd f97_40 (e := 1) (by omega) (by omega) (by omega) ?_
          refine r_istore f97_41 rfl (ls' := [some (.inr (.inl (some 264))), some (.inl h), some (.inl t), some (.inl n), some (.inl 3), some (.inl 2), some (.inl 5), some (.inl 1), some (.inl (MF m h 0 t)), some (.inl 1)]) rfl ?_
          refine r_iload f97_43 rfl ?_
          refine r_iload f97_45 rfl ?_
          refine r_iload f97_47 rfl ?_
          refine r_ishr f97_49 (e := 2) (by decide) ?_
          refine r_iconst f97_50 rfl ?_
          refine r_iand f97_51 (e := 0) (by decide) ?_
          refine r_iconst f97_52 rfl ?_
          refine r_cne f97_53 (t := 67) (by decide) (fun _ => ?_) (fun h => absurd (by omega) h)
          refine r_iconst f97_67 rfl ?_
          refine r_iadd f97_68 (e := MF m h 0 t) (by omega) (by omega) (by omega) ?_
          refine r_istore f97_69 rfl (ls' := [some (.inr (.inl (some 264))), some (.inl h), some (.inl t), some (.inl n), some (.inl 3), some (.inl 2), some (.inl 5), some (.inl 1), some (.inl (MF m h 0 t)), some (.inl 1)]) rfl ?_
          refine r_iinc f97_71 rfl rfl rfl (e := 2) (by omega) (by omega) (by omega) (ls' := [some (.inr (.inl (some 264))), some (.inl h), some (.inl t), some (.inl n), some (.inl 3), some (.inl 2), some (.inl 5), some (.inl 1), some (.inl (MF m h 0 t)), some (.inl 2)]) rfl ?_
          refine r_goto f97_74 (t := 25) (by decide) ?_
          refine r_iload f97_25 rfl ?_
          refine r_iconst f97_27 rfl ?_
          refine r_cge f97_28 (t := 77) (by decide) (fun h => absurd h (by omega)) (fun _ => ?_)
          refine r_iload f97_31 rfl ?_
          refine r_iload f97_33 rfl ?_
          refine r_iload f97_35 rfl ?_
          refine r_ishr f97_37 (e := 1) (by decide) ?_
          refine r_iconst f97_38 rfl ?_
          refine r_iand f97_39 (e := 1) (by decide) ?_
          refine r_iadd f97_40 (e := 2) (by omega) (by omega) (by omega) ?_
          refine r_istore f97_41 rfl (ls' := [some (.inr (.inl (some 264))), some (.inl h), some (.inl t), some (.inl n), some (.inl 3), some (.inl 2), some (.inl 5), some (.inl 2), some (.inl (MF m h 0 t)), some (.inl 2)]) rfl ?_
          refine r_iload f97_43 rfl ?_
          refine r_iload f97_45 rfl ?_
          refine r_iload f97_47 rfl ?_
          refine r_ishr f97_49 (e := 1) (by decide) ?_
          refine r_iconst f97_50 rfl ?_
          refine r_iand f97_51 (e := 1) (by decide) ?_
          refine r_iconst f97_52 rfl ?_
          refine r_cne f97_53 (t := 67) (by decide) (fun h => absurd h (by omega)) (fun _ => ?_)
          refine r_aload_n f97_56 rfl ?_
          refine r_iload_n f97_57 rfl ?_
          refine r_iload f97_58 rfl ?_
          refine r_iload_n f97_60 rfl ?_
          refine r_callv3i (m' := m1) (v := MF m h 2 t) f97_61 o97 M7_108 p93 o93 kd264 rfl (by simp) (t_freeIn (m := m) ha hk (e := 2) h0 h1 (by omega) (by omega) t0 t1) ?_
          refine r_goto f97_64 (t := 68) (by decide) ?_
          refine r_iadd f97_68 (e := MF m h 0 t + MF m h 2 t) (by omega) (by omega) (by omega) ?_
          refine r_istore f97_69 rfl (ls' := [some (.inr (.inl (some 264))), some (.inl h), some (.inl t), some (.inl n), some (.inl 3), some (.inl 2), some (.inl 5), some (.inl 2), some (.inl (MF m h 0 t + MF m h 2 t)), some (.inl 2)]) rfl ?_
          refine r_iinc f97_71 rfl rfl rfl (e := 3) (by omega) (by omega) (by omega) (ls' := [some (.inr (.inl (some 264))), some (.inl h), some (.inl t), some (.inl n), some (.inl 3), some (.inl 2), some (.inl 5), some (.inl 2), some (.inl (MF m h 0 t + MF m h 2 t)), some (.inl 3)]) rfl ?_
          refine r_goto f97_74 (t := 25) (by decide) ?_
          refine r_iload f97_25 rfl ?_
          refine r_iconst f97_27 rfl ?_
          refine r_cge f97_28 (t := 77) (by decide) (fun _ => ?_) (fun h => absurd (by omega) h)
          refine skip77 (by omega) ?_
          refine r_iinc f97_98 rfl rfl rfl (e := 6) (by omega) (by omega) (by omega) (ls' := [some (.inr (.inl (some 264))), some (.inl h), some (.inl t), some (.inl n), some (.inl 3), some (.inl 2), some (.inl 6), some (.inl 2), some (.inl (MF m h 0 t + MF m h 2 t)), some (.inl 3)]) rfl ?_
          refine r_goto f97_101 (t := 9) (by decide) ?_
          refine r_iload f97_9 rfl ?_
          refine r_bipush f97_11 (by decide) ?_
          refine r_cge f97_13 (t := 104) (by decide) (fun h => absurd h (by omega)) (fun _ => ?_)
          refine r_iconst f97_16 rfl ?_
          refine r_istore f97_17 rfl (ls' := [some (.inr (.inl (some 264))), some (.inl h), some (.inl t), some (.inl n), some (.inl 3), some (.inl 2), some (.inl 6), some (.inl 0), some (.inl (MF m h 0 t + MF m h 2 t)), some (.inl 3)]) rfl ?_
          refine r_iconst f97_19 rfl ?_
          refine r_istore f97_20 rfl (ls' := [some (.inr (.inl (some 264))), some (.inl h), some (.inl t), some (.inl n), some (.inl 3), some (.inl 2), some (.inl 6), some (.inl 0), some (.inl 0), some (.inl 3)]) rfl ?_
          refine r_iconst f97_22 rfl ?_
          refine r_istore f97_23 rfl (ls' := [some (.inr (.inl (some 264))), some (.inl h), some (.inl t), some (.inl n), some (.inl 3), some (.inl 2), some (.inl 6), some (.inl 0), some (.inl 0), some (.inl 0)]) rfl ?_
          refine r_iload f97_25 rfl ?_
          refine r_iconst f97_27 rfl ?_
          refine r_cge f97_28 (t := 77) (by decide) (fun h => absurd h (by omega)) (fun _ => ?_)
          refine r_iload f97_31 rfl ?_
          refine r_iload f97_33 rfl ?_
          refine r_iload f97_35 rfl ?_
          refine r_ishr f97_37 (e := 6) (by decide) ?_
          refine r_iconst f97_38 rfl ?_
          refine r_iand f97_39 (e := 0) (by decide) ?_
          refine r_iadd f97_40 (e := 0) (by omega) (by omega) (by omega) ?_
          refine r_istore f97_41 rfl (ls' := [some (.inr (.inl (some 264))), some (.inl h), some (.inl t), some (.inl n), some (.inl 3), some (.inl 2), some (.inl 6), some (.inl 0), some (.inl 0), some (.inl 0)]) rfl ?_
          refine r_iload f97_43 rfl ?_
          refine r_iload f97_45 rfl ?_
          refine r_iload f97_47 rfl ?_
          refine r_ishr f97_49 (e := 6) (by decide) ?_
          refine r_iconst f97_50 rfl ?_
          refine r_iand f97_51 (e := 0) (by decide) ?_
          refine r_iconst f97_52 rfl ?_
          refine r_cne f97_53 (t := 67) (by decide) (fun _ => ?_) (fun h => absurd (by omega) h)
          refine r_iconst f97_67 rfl ?_
          refine r_iadd f97_68 (e := 0) (by omega) (by omega) (by omega) ?_
          refine r_istore f97_69 rfl (ls' := [some (.inr (.inl (some 264))), some (.inl h), some (.inl t), some (.inl n), some (.inl 3), some (.inl 2), some (.inl 6), some (.inl 0), some (.inl 0), some (.inl 0)]) rfl ?_
          refine r_iinc f97_71 rfl rfl rfl (e := 1) (by omega) (by omega) (by omega) (ls' := [some (.inr (.inl (some 264))), some (.inl h), some (.inl t), some (.inl n), some (.inl 3), some (.inl 2), some (.inl 6), some (.inl 0), some (.inl 0), some (.inl 1)]) rfl ?_
          refine r_goto f97_74 (t := 25) (by decide) ?_
          refine r_iload f97_25 rfl ?_
          refine r_iconst f97_27 rfl ?_
          refine r_cge f97_28 (t := 77) (by decide) (fun h => absurd h (by omega)) (fun _ => ?_)
          refine r_iload f97_31 rfl ?_
          refine r_iload f97_33 rfl ?_
          refine r_iload f97_35 rfl ?_
          refine r_ishr f97_37 (e := 3) (by decide) ?_
          refine r_iconst f97_38 rfl ?_
          refine r_iand f97_39 (e := 1) (by decide) ?_
          refine r_iadd f97_40 (e := 1) (by omega) (by omega) (by omega) ?_
          refine r_istore f97_41 rfl (ls' := [some (.inr (.inl (some 264))), some (.inl h), some (.inl t), some (.inl n), some (.inl 3), some (.inl 2), some (.inl 6), some (.inl 1), some (.inl 0), some (.inl 1)]) rfl ?_
          refine r_iload f97_43 rfl ?_
          refine r_iload f97_45 rfl ?_
          refine r_iload f97_47 rfl ?_
          refine r_ishr f97_49 (e := 3) (by decide) ?_
          refine r_iconst f97_50 rfl ?_
          refine r_iand f97_51 (e := 1) (by decide) ?_
          refine r_iconst f97_52 rfl ?_
          refine r_cne f97_53 (t := 67) (by decide) (fun h => absurd h (by omega)) (fun _ => ?_)
          refine r_aload_n f97_56 rfl ?_
          refine r_iload_n f97_57 rfl ?_
          refine r_iload f97_58 rfl ?_
          refine r_iload_n f97_60 rfl ?_
          refine r_callv3i (m' := m1) (v := MF m h 1 t) f97_61 o97 M7_108 p93 o93 kd264 rfl (by simp) (t_freeIn (m := m) ha hk (e := 1) h0 h1 (by omega) (by omega) t0 t1) ?_
          refine r_goto f97_64 (t := 68) (by decide) ?_
          refine r_iadd f97_68 (e := MF m h 1 t) (by omega) (by omega) (by omega) ?_
          refine r_istore f97_69 rfl (ls' := [some (.inr (.inl (some 264))), some (.inl h), some (.inl t), some (.inl n), some (.inl 3), some (.inl 2), some (.inl 6), some (.inl 1), some (.inl (MF m h 1 t)), some (.inl 1)]) rfl ?_
          refine r_iinc f97_71 rfl rfl rfl (e := 2) (by omega) (by omega) (by omega) (ls' := [some (.inr (.inl (some 264))), some (.inl h), some (.inl t), some (.inl n), some (.inl 3), some (.inl 2), some (.inl 6), some (.inl 1), some (.inl (MF m h 1 t)), some (.inl 2)]) rfl ?_
          refine r_goto f97_74 (t := 25) (by decide) ?_
          refine r_iload f97_25 rfl ?_
          refine r_iconst f97_27 rfl ?_
          refine r_cge f97_28 (t := 77) (by decide) (fun h => absurd h (by omega)) (fun _ => ?_)
          refine r_iload f97_31 rfl ?_
          refine r_iload f97_33 rfl ?_
          refine r_iload f97_35 rfl ?_
          refine r_ishr f97_37 (e := 1) (by decide) ?_
          refine r_iconst f97_38 rfl ?_
          refine r_iand f97_39 (e := 1) (by decide) ?_
          refine r_iadd f97_40 (e := 2) (by omega) (by omega) (by omega) ?_
          refine r_istore f97_41 rfl (ls' := [some (.inr (.inl (some 264))), some (.inl h), some (.inl t), some (.inl n), some (.inl 3), some (.inl 2), some (.inl 6), some (.inl 2), some (.inl (MF m h 1 t)), some (.inl 2)]) rfl ?_
          refine r_iload f97_43 rfl ?_
          refine r_iload f97_45 rfl ?_
          refine r_iload f97_47 rfl ?_
          refine r_ishr f97_49 (e := 1) (by decide) ?_
          refine r_iconst f97_50 rfl ?_
          refine r_iand f97_51 (e := 1) (by decide) ?_
          refine r_iconst f97_52 rfl ?_
          refine r_cne f97_53 (t := 67) (by decide) (fun h => absurd h (by omega)) (fun _ => ?_)
          refine r_aload_n f97_56 rfl ?_
          refine r_iload_n f97_57 rfl ?_
          refine r_iload f97_58 rfl ?_
          refine r_iload_n f97_60 rfl ?_
          refine r_callv3i (m' := m1) (v := MF m h 2 t) f97_61 o97 M7_108 p93 o93 kd264 rfl (by simp) (t_freeIn (m := m) ha hk (e := 2) h0 h1 (by omega) (by omega) t0 t1) ?_
          refine r_goto f97_64 (t := 68) (by decide) ?_
          refine r_iadd f97_68 (e := MF m h 1 t + MF m h 2 t) (by omega) (by omega) (by omega) ?_
          refine r_istore f97_69 rfl (ls' := [some (.inr (.inl (some 264))), some (.inl h), some (.inl t), some (.inl n), some (.inl 3), some (.inl 2), some (.inl 6), some (.inl 2), some (.inl (MF m h 1 t + MF m h 2 t)), some (.inl 2)]) rfl ?_
          refine r_iinc f97_71 rfl rfl rfl (e := 3) (by omega) (by omega) (by omega) (ls' := [some (.inr (.inl (some 264))), some (.inl h), some (.inl t), some (.inl n), some (.inl 3), some (.inl 2), some (.inl 6), some (.inl 2), some (.inl (MF m h 1 t + MF m h 2 t)), some (.inl 3)]) rfl ?_
          refine r_goto f97_74 (t := 25) (by decide) ?_
          refine r_iload f97_25 rfl ?_
          refine r_iconst f97_27 rfl ?_
          refine r_cge f97_28 (t := 77) (by decide) (fun _ => ?_) (fun h => absurd (by omega) h)
          refine skip77 (by omega) ?_
          refine r_iinc f97_98 rfl rfl rfl (e := 7) (by omega) (by omega) (by omega) (ls' := [some (.inr (.inl (some 264))), some (.inl h), some (.inl t), some (.inl n), some (.inl 3), some (.inl 2), some (.inl 7), some (.inl 2), some (.inl (MF m h 1 t + MF m h 2 t)), some (.inl 3)]) rfl ?_
          refine r_goto f97_101 (t := 9) (by decide) ?_
          refine r_iload f97_9 rfl ?_
          refine r_bipush f97_11 (by decide) ?_
          refine r_cge f97_13 (t := 104) (by decide) (fun h => absurd h (by omega)) (fun _ => ?_)
          refine r_iconst f97_16 rfl ?_
          refine r_istore f97_17 rfl (ls' := [some (.inr (.inl (some 264))), some (.inl h), some (.inl t), some (.inl n), some (.inl 3), some (.inl 2), some (.inl 7), some (.inl 0), some (.inl (MF m h 1 t + MF m h 2 t)), some (.inl 3)]) rfl ?_
          refine r_iconst f97_19 rfl ?_
          refine r_istore f97_20 rfl (ls' := [some (.inr (.inl (some 264))), some (.inl h), some (.inl t), some (.inl n), some (.inl 3), some (.inl 2), some (.inl 7), some (.inl 0), some (.inl 0), some (.inl 3)]) rfl ?_
          refine r_iconst f97_22 rfl ?_
          refine r_istore f97_23 rfl (ls' := [some (.inr (.inl (some 264))), some (.inl h), some (.inl t), some (.inl n), some (.inl 3), some (.inl 2), some (.inl 7), some (.inl 0), some (.inl 0), some (.inl 0)]) rfl ?_
          refine r_iload f97_25 rfl ?_
          refine r_iconst f97_27 rfl ?_
          refine r_cge f97_28 (t := 77) (by decide) (fun h => absurd h (by omega)) (fun _ => ?_)
          refine r_iload f97_31 rfl ?_
          refine r_iload f97_33 rfl ?_
          refine r_iload f97_35 rfl ?_
          refine r_ishr f97_37 (e := 7) (by decide) ?_
          refine r_iconst f97_38 rfl ?_
          refine r_iand f97_39 (e := 1) (by decide) ?_
          refine r_iadd f97_40 (e := 1) (by omega) (by omega) (by omega) ?_
          refine r_istore f97_41 rfl (ls' := [some (.inr (.inl (some 264))), some (.inl h), some (.inl t), some (.inl n), some (.inl 3), some (.inl 2), some (.inl 7), some (.inl 1), some (.inl 0), some (.inl 0)]) rfl ?_
          refine r_iload f97_43 rfl ?_
          refine r_iload f97_45 rfl ?_
          refine r_iload f97_47 rfl ?_
          refine r_ishr f97_49 (e := 7) (by decide) ?_
          refine r_iconst f97_50 rfl ?_
          refine r_iand f97_51 (e := 1) (by decide) ?_
          refine r_iconst f97_52 rfl ?_
          refine r_cne f97_53 (t := 67) (by decide) (fun h => absurd h (by omega)) (fun _ => ?_)
          refine r_aload_n f97_56 rfl ?_
          refine r_iload_n f97_57 rfl ?_
          refine r_iload f97_58 rfl ?_
          refine r_iload_n f97_60 rfl ?_
          refine r_callv3i (m' := m1) (v := MF m h 0 t) f97_61 o97 M7_108 p93 o93 kd264 rfl (by simp) (t_freeIn (m := m) ha hk (e := 0) h0 h1 (by omega) (by omega) t0 t1) ?_
          refine r_goto f97_64 (t := 68) (by decide) ?_
          refine r_iadd f97_68 (e := MF m h 0 t) (by omega) (by omega) (by omega) ?_
          refine r_istore f97_69 rfl (ls' := [some (.inr (.inl (some 264))), some (.inl h), some (.inl t), some (.inl n), some (.inl 3), some (.inl 2), some (.inl 7), some (.inl 1), some (.inl (MF m h 0 t)), some (.inl 0)]) rfl ?_
          refine r_iinc f97_71 rfl rfl rfl (e := 1) (by omega) (by omega) (by omega) (ls' := [some (.inr (.inl (some 264))), some (.inl h), some (.inl t), some (.inl n), some (.inl 3), some (.inl 2), some (.inl 7), some (.inl 1), some (.inl (MF m h 0 t)), some (.inl 1)]) rfl ?_
          refine r_goto f97_74 (t := 25) (by decide) ?_
          refine r_iload f97_25 rfl ?_
          refine r_iconst f97_27 rfl ?_
          refine r_cge f97_28 (t := 77) (by decide) (fun h => absurd h (by omega)) (fun _ => ?_)
          refine r_iload f97_31 rfl ?_
          refine r_iload f97_33 rfl ?_
          refine r_iload f97_35 rfl ?_
          refine r_ishr f97_37 (e := 3) (by decide) ?_
          refine r_iconst f97_38 rfl ?_
          refine r_iand f97_39 (e := 1) (by decide) ?_
          refine r_iadd f97_40 (e := 2) (by omega) (by omega) (by omega) ?_
          refine r_istore f97_41 rfl (ls' := [some (.inr (.inl (some 264))), some (.inl h), some (.inl t), some (.inl n), some (.inl 3), some (.inl 2), some (.inl 7), some (.inl 2), some (.inl (MF m h 0 t)), some (.inl 1)]) rfl ?_
          refine r_iload f97_43 rfl ?_
          refine r_iload f97_45 rfl ?_
          refine r_iload f97_47 rfl ?_
          refine r_ishr f97_49 (e := 3) (by decide) ?_
          refine r_iconst f97_50 rfl ?_
          refine r_iand f97_51 (e := 1) (by decide) ?_
          refine r_iconst f97_52 rfl ?_
          refine r_cne f97_53 (t := 67) (by decide) (fun h => absurd h (by omega)) (fun _ => ?_)
          refine r_aload_n f97_56 rfl ?_
          refine r_iload_n f97_57 rfl ?_
          refine r_iload f97_58 rfl ?_
          refine r_iload_n f97_60 rfl ?_
          refine r_callv3i (m' := m1) (v := MF m h 1 t) f97_61 o97 M7_108 p93 o93 kd264 rfl (by simp) (t_freeIn (m := m) ha hk (e := 1) h0 h1 (by omega) (by omega) t0 t1) ?_
          refine r_goto f97_64 (t := 68) (by decide) ?_
          refine r_iadd f97_68 (e := MF m h 0 t + MF m h 1 t) (by omega) (by omega) (by omega) ?_
          refine r_istore f97_69 rfl (ls' := [some (.inr (.inl (some 264))), some (.inl h), some (.inl t), some (.inl n), some (.inl 3), some (.inl 2), some (.inl 7), some (.inl 2), some (.inl (MF m h 0 t + MF m h 1 t)), some (.inl 1)]) rfl ?_
          refine r_iinc f97_71 rfl rfl rfl (e := 2) (by omega) (by omega) (by omega) (ls' := [some (.inr (.inl (some 264))), some (.inl h), some (.inl t), some (.inl n), some (.inl 3), some (.inl 2), some (.inl 7), some (.inl 2), some (.inl (MF m h 0 t + MF m h 1 t)), some (.inl 2)]) rfl ?_
          refine r_goto f97_74 (t := 25) (by decide) ?_
          refine r_iload f97_25 rfl ?_
          refine r_iconst f97_27 rfl ?_
          refine r_cge f97_28 (t := 77) (by decide) (fun h => absurd h (by omega)) (fun _ => ?_)
          refine r_iload f97_31 rfl ?_
          refine r_iload f97_33 rfl ?_
          refine r_iload f97_35 rfl ?_
          refine r_ishr f97_37 (e := 1) (by decide) ?_
          refine r_iconst f97_38 rfl ?_
          refine r_iand f97_39 (e := 1) (by decide) ?_
          refine r_iadd f97_40 (e := 3) (by omega) (by omega) (by omega) ?_
          refine r_istore f97_41 rfl (ls' := [some (.inr (.inl (some 264))), some (.inl h), some (.inl t), some (.inl n), some (.inl 3), some (.inl 2), some (.inl 7), some (.inl 3), some (.inl (MF m h 0 t + MF m h 1 t)), some (.inl 2)]) rfl ?_
          refine r_iload f97_43 rfl ?_
          refine r_iload f97_45 rfl ?_
          refine r_iload f97_47 rfl ?_
          refine r_ishr f97_49 (e := 1) (by decide) ?_
          refine r_iconst f97_50 rfl ?_
          refine r_iand f97_51 (e := 1) (by decide) ?_
          refine r_iconst f97_52 rfl ?_
          refine r_cne f97_53 (t := 67) (by decide) (fun h => absurd h (by omega)) (fun _ => ?_)
          refine r_aload_n f97_56 rfl ?_
          refine r_iload_n f97_57 rfl ?_
          refine r_iload f97_58 rfl ?_
          refine r_iload_n f97_60 rfl ?_
          refine r_callv3i (m' := m1) (v := MF m h 2 t) f97_61 o97 M7_108 p93 o93 kd264 rfl (by simp) (t_freeIn (m := m) ha hk (e := 2) h0 h1 (by omega) (by omega) t0 t1) ?_
          refine r_goto f97_64 (t := 68) (by decide) ?_
          refine r_iadd f97_68 (e := MF m h 0 t + MF m h 1 t + MF m h 2 t) (by omega) (by omega) (by omega) ?_
          refine r_istore f97_69 rfl (ls' := [some (.inr (.inl (some 264))), some (.inl h), some (.inl t), some (.inl n), some (.inl 3), some (.inl 2), some (.inl 7), some (.inl 3), some (.inl (MF m h 0 t + MF m h 1 t + MF m h 2 t)), some (.inl 2)]) rfl ?_
          refine r_iinc f97_71 rfl rfl rfl (e := 3) (by omega) (by omega) (by omega) (ls' := [some (.inr (.inl (some 264))), some (.inl h), some (.inl t), some (.inl n), some (.inl 3), some (.inl 2), some (.inl 7), some (.inl 3), some (.inl (MF m h 0 t + MF m h 1 t + MF m h 2 t)), some (.inl 3)]) rfl ?_
          refine r_goto f97_74 (t := 25) (by decide) ?_
          refine r_iload f97_25 rfl ?_
          refine r_iconst f97_27 rfl ?_
          refine r_cge f97_28 (t := 77) (by decide) (fun _ => ?_) (fun h => absurd (by omega) h)
          refine skip77 (by omega) ?_
          refine r_iinc f97_98 rfl rfl rfl (e := 8) (by omega) (by omega) (by omega) (ls' := [some (.inr (.inl (some 264))), some (.inl h), some (.inl t), some (.inl n), some (.inl 3), some (.inl 2), some (.inl 8), some (.inl 3), some (.inl (MF m h 0 t + MF m h 1 t + MF m h 2 t)), some (.inl 3)]) rfl ?_
          refine r_goto f97_101 (t := 9) (by decide) ?_
          refine r_iload f97_9 rfl ?_
          refine r_bipush f97_11 (by decide) ?_
          refine r_cge f97_13 (t := 104) (by decide) (fun _ => ?_) (fun h => absurd (by omega) h)
          refine r_iload_n f97_104 rfl ?_
          refine r_istore f97_105 rfl (ls' := [some (.inr (.inl (some 264))), some (.inl h), some (.inl t), some (.inl n), some (.inl 3), some (.inl 2), some (.inl n), some (.inl 3), some (.inl (MF m h 0 t + MF m h 1 t + MF m h 2 t)), some (.inl 3)]) rfl ?_
          refine r_iconst f97_107 rfl ?_
          refine r_istore f97_108 rfl (ls' := [some (.inr (.inl (some 264))), some (.inl h), some (.inl t), some (.inl n), some (.inl 3), some (.inl 2), some (.inl n), some (.inl 0), some (.inl (MF m h 0 t + MF m h 1 t + MF m h 2 t)), some (.inl 3)]) rfl ?_
          refine r_iload f97_110 rfl ?_
          refine r_iconst f97_112 rfl ?_
          refine r_cge f97_113 (t := 180) (by decide) (fun h => absurd h (by omega)) (fun _ => ?_)
          refine r_iload f97_116 rfl ?_
          refine r_iload f97_118 rfl ?_
          refine r_ishr f97_120 (e := 3) (by decide) ?_
          refine r_iconst f97_121 rfl ?_
          refine r_iand f97_122 (e := 1) (by decide) ?_
          refine r_iconst f97_123 rfl ?_
          refine r_cne f97_124 (t := 138) (by decide) (fun h => absurd h (by omega)) (fun _ => ?_)
          refine r_aload_n f97_127 rfl ?_
          refine r_iload_n f97_128 rfl ?_
          refine r_iload f97_129 rfl ?_
          refine r_iload_n f97_131 rfl ?_
          refine r_callv3i (m' := m1) (v := MF m h 0 t) f97_132 o97 M7_108 p93 o93 kd264 rfl (by simp) (t_freeIn (m := m) ha hk (e := 0) h0 h1 (by omega) (by omega) t0 t1) ?_
          refine r_goto f97_135 (t := 139) (by decide) ?_
          refine r_istore f97_139 rfl (ls' := [some (.inr (.inl (some 264))), some (.inl h), some (.inl t), some (.inl n), some (.inl 3), some (.inl 2), some (.inl n), some (.inl 0), some (.inl (MF m h 0 t)), some (.inl 3)]) rfl ?_
          refine r_aload_n f97_141 rfl ?_
          refine r_getR f97_142 o97 F7_59 g264_21 rfl ?_
          refine r_iload f97_145 rfl ?_
          refine r_iload f97_147 rfl ?_
          refine r_iload f97_149 rfl ?_
          refine r_cge f97_151 (t := 159) (by decide) (fun h => absurd h (by omega)) (fun _ => ?_)
          refine r_iload f97_154 rfl ?_
          refine r_goto f97_156 (t := 161) (by decide) ?_
          refine r_iast f97_161 kd281 (by omega) (by omega) (by omega) ?_
          refine r_iload f97_162 rfl ?_
          refine r_aload_n f97_164 rfl ?_
          refine r_getR f97_165 o97 F7_59 g264_21 rfl ?_
          refine r_iload f97_168 rfl ?_
          refine r_iald f97_170 kd281 (by omega) (by omega) ?_
          refine r_top (e := MF m h 0 t) (by rw [zu_if, if_pos (by omega)]) ?_
          refine r_isub f97_171 (e := n - MF m h 0 t) (by omega) (by omega) (by omega) ?_
          refine r_istore f97_172 rfl (ls' := [some (.inr (.inl (some 264))), some (.inl h), some (.inl t), some (.inl n), some (.inl 3), some (.inl 2), some (.inl (n - MF m h 0 t)), some (.inl 0), some (.inl (MF m h 0 t)), some (.inl 3)]) rfl ?_
          refine r_iinc f97_174 rfl rfl rfl (e := 1) (by omega) (by omega) (by omega) (ls' := [some (.inr (.inl (some 264))), some (.inl h), some (.inl t), some (.inl n), some (.inl 3), some (.inl 2), some (.inl (n - MF m h 0 t)), some (.inl 1), some (.inl (MF m h 0 t)), some (.inl 3)]) rfl ?_
          refine r_goto f97_177 (t := 110) (by decide) ?_
          refine r_iload f97_110 rfl ?_
          refine r_iconst f97_112 rfl ?_
          refine r_cge f97_113 (t := 180) (by decide) (fun h => absurd h (by omega)) (fun _ => ?_)
          refine r_iload f97_116 rfl ?_
          refine r_iload f97_118 rfl ?_
          refine r_ishr f97_120 (e := 1) (by decide) ?_
          refine r_iconst f97_121 rfl ?_
          refine r_iand f97_122 (e := 1) (by decide) ?_
          refine r_iconst f97_123 rfl ?_
          refine r_cne f97_124 (t := 138) (by decide) (fun h => absurd h (by omega)) (fun _ => ?_)
          refine r_aload_n f97_127 rfl ?_
          refine r_iload_n f97_128 rfl ?_
          refine r_iload f97_129 rfl ?_
          refine r_iload_n f97_131 rfl ?_
          refine r_callv3i (m' := (zu m1 281 0 (MF m h 0 t))) (v := MF m h 1 t) f97_132 o97 M7_108 p93 o93 kd264 rfl (by simp) (t_freeIn (m := m) (zan_u ha (Or.inl rfl)) hk (e := 1) h0 h1 (by omega) (by omega) t0 t1) ?_
          refine r_goto f97_135 (t := 139) (by decide) ?_
          refine r_istore f97_139 rfl (ls' := [some (.inr (.inl (some 264))), some (.inl h), some (.inl t), some (.inl n), some (.inl 3), some (.inl 2), some (.inl (n - MF m h 0 t)), some (.inl 1), some (.inl (MF m h 1 t)), some (.inl 3)]) rfl ?_
          refine r_aload_n f97_141 rfl ?_
          refine r_getR f97_142 o97 F7_59 g264_21 rfl ?_
          refine r_iload f97_145 rfl ?_
          refine r_iload f97_147 rfl ?_
          refine r_iload f97_149 rfl ?_
          refine r_cge f97_151 (t := 159) (by decide) (fun _ => ?_) (fun h => absurd (by omega) h)
          refine r_iload f97_159 rfl ?_
          refine r_iast f97_161 kd281 (by omega) (by omega) (by omega) ?_
          refine r_iload f97_162 rfl ?_
          refine r_aload_n f97_164 rfl ?_
          refine r_getR f97_165 o97 F7_59 g264_21 rfl ?_
          refine r_iload f97_168 rfl ?_
          refine r_iald f97_170 kd281 (by omega) (by omega) ?_
          refine r_top (e := n - MF m h 0 t) (by rw [zu_if, if_pos (by omega)]) ?_
          refine r_isub f97_171 (e := 0) (by omega) (by omega) (by omega) ?_
          refine r_istore f97_172 rfl (ls' := [some (.inr (.inl (some 264))), some (.inl h), some (.inl t), some (.inl n), some (.inl 3), some (.inl 2), some (.inl 0), some (.inl 1), some (.inl (MF m h 1 t)), some (.inl 3)]) rfl ?_
          refine r_iinc f97_174 rfl rfl rfl (e := 2) (by omega) (by omega) (by omega) (ls' := [some (.inr (.inl (some 264))), some (.inl h), some (.inl t), some (.inl n), some (.inl 3), some (.inl 2), some (.inl 0), some (.inl 2), some (.inl (MF m h 1 t)), some (.inl 3)]) rfl ?_
          refine r_goto f97_177 (t := 110) (by decide) ?_
          refine r_iload f97_110 rfl ?_
          refine r_iconst f97_112 rfl ?_
          refine r_cge f97_113 (t := 180) (by decide) (fun h => absurd h (by omega)) (fun _ => ?_)
          refine r_iload f97_116 rfl ?_
          refine r_iload f97_118 rfl ?_
          refine r_ishr f97_120 (e := 0) (by decide) ?_
          refine r_iconst f97_121 rfl ?_
          refine r_iand f97_122 (e := 0) (by decide) ?_
          refine r_iconst f97_123 rfl ?_
          refine r_cne f97_124 (t := 138) (by decide) (fun _ => ?_) (fun h => absurd (by omega) h)
          refine r_iconst f97_138 rfl ?_
          refine r_istore f97_139 rfl (ls' := [some (.inr (.inl (some 264))), some (.inl h), some (.inl t), some (.inl n), some (.inl 3), some (.inl 2), some (.inl 0), some (.inl 2), some (.inl 0), some (.inl 3)]) rfl ?_
          refine r_aload_n f97_141 rfl ?_
          refine r_getR f97_142 o97 F7_59 g264_21 rfl ?_
          refine r_iload f97_145 rfl ?_
          refine r_iload f97_147 rfl ?_
          refine r_iload f97_149 rfl ?_
          refine r_cge f97_151 (t := 159) (by decide) (fun _ => ?_) (fun h => absurd (by omega) h)
          refine r_iload f97_159 rfl ?_
          refine r_iast f97_161 kd281 (by omega) (by omega) (by omega) ?_
          refine r_iload f97_162 rfl ?_
          refine r_aload_n f97_164 rfl ?_
          refine r_getR f97_165 o97 F7_59 g264_21 rfl ?_
          refine r_iload f97_168 rfl ?_
          refine r_iald f97_170 kd281 (by omega) (by omega) ?_
          refine r_top (e := 0) (by rw [zu_if, if_pos (by omega)]) ?_
          refine r_isub f97_171 (e := 0) (by omega) (by omega) (by omega) ?_
          refine r_istore f97_172 rfl (ls' := [some (.inr (.inl (some 264))), some (.inl h), some (.inl t), some (.inl n), some (.inl 3), some (.inl 2), some (.inl 0), some (.inl 2), some (.inl 0), some (.inl 3)]) rfl ?_
          refine r_iinc f97_174 rfl rfl rfl (e := 3) (by omega) (by omega) (by omega) (ls' := [some (.inr (.inl (some 264))), some (.inl h), some (.inl t), some (.inl n), some (.inl 3), some (.inl 2), some (.inl 0), some (.inl 3), some (.inl 0), some (.inl 3)]) rfl ?_
          refine r_goto f97_177 (t := 110) (by decide) ?_
          refine r_iload f97_110 rfl ?_
          refine r_iconst f97_112 rfl ?_
          refine r_cge f97_113 (t := 180) (by decide) (fun _ => ?_) (fun h => absurd (by omega) h)
          exact r_vret f97_180 v97 ⟨rfl, by unfold MPt; rw [show zsh0 (MF m h 0 t) (MF m h 1 t) (MF m h 2 t) n = MF m h 0 t from by unfold zsh0; (repeat (first | rw [if_pos (by omega)] | rw [if_neg (by omega)])); try omega, show zsh1 (MF m h 0 t) (MF m h 1 t) (MF m h 2 t) n = n - MF m h 0 t from by unfold zsh1; (repeat (first | rw [if_pos (by omega)] | rw [if_neg (by omega)])); try omega, show zsh2 (MF m h 0 t) (MF m h 1 t) (MF m h 2 t) n = 0 from by unfold zsh2; (repeat (first | rw [if_pos (by omega)] | rw [if_neg (by omega)])); try omega]⟩
        · refine r_iload f97_83 rfl ?_
          refine r_iload f97_85 rfl ?_
          refine r_cge f97_87 (t := 98) (by decide) (fun h => absurd h (by omega)) (fun _ => ?_)
          refine r_iload f97_90 rfl ?_
          refine r_istore f97_92 rfl (ls' := [some (.inr (.inl (some 264))), some (.inl h), some (.inl t), some (.inl n), some (.inl 4), some (.inl 2), some (.inl 4), some (.inl 1), some (.inl (MF m h 2 t)), some (.inl 3)]) rfl ?_
          refine r_iload f97_94 rfl ?_
          refine r_istore f97_96 rfl (ls' := [some (.inr (.inl (some 264))), some (.inl h), some (.inl t), some (.inl n), some (.inl 4), some (.inl 1), some (.inl 4), some (.inl 1), some (.inl (MF m h 2 t)), some (.inl 3)]) rfl ?_
          refine r_iinc f97_98 rfl rfl rfl (e := 5) (by omega) (by omega) (by omega) (ls' := [some (.inr (.inl (some 264))), some (.inl h), some (.inl t), some (.inl n), some (.inl 4), some (.inl 1), some (.inl 5), some (.inl 1), some (.inl (MF m h 2 t)), some (.inl 3)]) rfl ?_
          refine r_goto f97_101 (t := 9) (by decide) ?_
          refine r_iload f97_9 rfl ?_
          refine r_bipush f97_11 (by decide) ?_
          refine r_cge f97_13 (t := 104) (by decide) (fun h => absurd h (by omega)) (fun _ => ?_)
          refine r_iconst f97_16 rfl ?_
          refine r_istore f97_17 rfl (ls' := [some (.inr (.inl (some 264))), some (.inl h), some (.inl t), some (.inl n), some (.inl 4), some (.inl 1), some (.inl 5), some (.inl 0), some (.inl (MF m h 2 t)), some (.inl 3)]) rfl ?_
          refine r_iconst f97_19 rfl ?_
          refine r_istore f97_20 rfl (ls' := [some (.inr (.inl (some 264))), some (.inl h), some (.inl t), some (.inl n), some (.inl 4), some (.inl 1), some (.inl 5), some (.inl 0), some (.inl 0), some (.inl 3)]) rfl ?_
          refine r_iconst f97_22 rfl ?_
          refine r_istore f97_23 rfl (ls' := [some (.inr (.inl (some 264))), some (.inl h), some (.inl t), some (.inl n), some (.inl 4), some (.inl 1), some (.inl 5), some (.inl 0), some (.inl 0), some (.inl 0)]) rfl ?_
          refine r_iload f97_25 rfl ?_
          refine r_iconst f97_27 rfl ?_
          refine r_cge f97_28 (t := 77) (by decide) (fun h => absurd h (by omega)) (fun _ => ?_)
          refine r_iload f97_31 rfl ?_
          refine r_iload f97_33 rfl ?_
          refine r_iload f97_35 rfl ?_
          refine r_ishr f97_37 (e := 5) (by decide) ?_
          refine r_iconst f97_38 rfl ?_
          refine r_iand f97_39 (e := 1) (by decide) ?_
          refine r_iadd f97_40 (e := 1) (by omega) (by omega) (by omega) ?_
          refine r_istore f97_41 rfl (ls' := [some (.inr (.inl (some 264))), some (.inl h), some (.inl t), some (.inl n), some (.inl 4), some (.inl 1), some (.inl 5), some (.inl 1), some (.inl 0), some (.inl 0)]) rfl ?_
          refine r_iload f97_43 rfl ?_
          refine r_iload f97_45 rfl ?_
          refine r_iload f97_47 rfl ?_
          refine r_ishr f97_49 (e := 5) (by decide) ?_
          refine r_iconst f97_50 rfl ?_
          refine r_iand f97_51 (e := 1) (by decide) ?_
          refine r_iconst f97_52 rfl ?_
          refine r_cne f97_53 (t := 67) (by decide) (fun h => absurd h (by omega)) (fun _ => ?_)
          refine r_aload_n f97_56 rfl ?_
          refine r_iload_n f97_57 rfl ?_
          refine r_iload f97_58 rfl ?_
          refine r_iload_n f97_60 rfl ?_
          refine r_callv3i (m' := m1) (v := MF m h 0 t) f97_61 o97 M7_108 p93 o93 kd264 rfl (by simp) (t_freeIn (m := m) ha hk (e := 0) h0 h1 (by omega) (by omega) t0 t1) ?_
          refine r_goto f97_64 (t := 68) (by decide) ?_
          refine r_iadd f97_68 (e := MF m h 0 t) (by omega) (by omega) (by omega) ?_
          refine r_istore f97_69 rfl (ls' := [some (.inr (.inl (some 264))), some (.inl h), some (.inl t), some (.inl n), some (.inl 4), some (.inl 1), some (.inl 5), some (.inl 1), some (.inl (MF m h 0 t)), some (.inl 0)]) rfl ?_
          refine r_iinc f97_71 rfl rfl rfl (e := 1) (by omega) (by omega) (by omega) (ls' := [some (.inr (.inl (some 264))), some (.inl h), some (.inl t), some (.inl n), some (.inl 4), some (.inl 1), some (.inl 5), some (.inl 1), some (.inl (MF m h 0 t)), some (.inl 1)]) rfl ?_
          refine r_goto f97_74 (t := 25) (by decide) ?_
          refine r_iload f97_25 rfl ?_
          refine r_iconst f97_27 rfl ?_
          refine r_cge f97_28 (t := 77) (by decide) (fun h => absurd h (by omega)) (fun _ => ?_)
          refine r_iload f97_31 rfl ?_
          refine r_iload f97_33 rfl ?_
          refine r_iload f97_35 rfl ?_
          refine r_ishr f97_37 (e := 2) (by decide) ?_
          refine r_iconst f97_38 rfl ?_
          refine r_iand f97_39 (e := 0) (by decide) ?_
          refine r_iadd f97_40 (e := 1) (by omega) (by omega) (by omega) ?_
          refine r_istore f97_41 rfl (ls' := [some (.inr (.inl (some 264))), some (.inl h), some (.inl t), some (.inl n), some (.inl 4), some (.inl 1), some (.inl 5), some (.inl 1), some (.inl (MF m h 0 t)), some (.inl 1)]) rfl ?_
          refine r_iload f97_43 rfl ?_
          refine r_iload f97_45 rfl ?_
          refine r_iload f97_47 rfl ?_
          refine r_ishr f97_49 (e := 2) (by decide) ?_
          refine r_iconst f97_50 rfl ?_
          refine r_iand f97_51 (e := 0) (by decide) ?_
          refine r_iconst f97_52 rfl ?_
          refine r_cne f97_53 (t := 67) (by decide) (fun _ => ?_) (fun h => absurd (by omega) h)
          refine r_iconst f97_67 rfl ?_
          refine r_iadd f97_68 (e := MF m h 0 t) (by omega) (by omega) (by omega) ?_
          refine r_istore f97_69 rfl (ls' := [some (.inr (.inl (some 264))), some (.inl h), some (.inl t), some (.inl n), some (.inl 4), some (.inl 1), some (.inl 5), some (.inl 1), some (.inl (MF m h 0 t)), some (.inl 1)]) rfl ?_
          refine r_iinc f97_71 rfl rfl rfl (e := 2) (by omega) (by omega) (by omega) (ls' := [some (.inr (.inl (some 264))), some (.inl h), some (.inl t), some (.inl n), some (.inl 4), some (.inl 1), some (.inl 5), some (.inl 1), some (.inl (MF m h 0 t)), some (.inl 2)]) rfl ?_
          refine r_goto f97_74 (t := 25) (by decide) ?_
          refine r_iload f97_25 rfl ?_
          refine r_iconst f97_27 rfl ?_
          refine r_cge f97_28 (t := 77) (by decide) (fun h => absurd h (by omega)) (fun _ => ?_)
          refine r_iload f97_31 rfl ?_
          refine r_iload f97_33 rfl ?_
          refine r_iload f97_35 rfl ?_
          refine r_ishr f97_37 (e := 1) (by decide) ?_
          refine r_iconst f97_38 rfl ?_
          refine r_iand f97_39 (e := 1) (by decide) ?_
          refine r_iadd f97_40 (e := 2) (by omega) (by omega) (by omega) ?_
          refine r_istore f97_41 rfl (ls' := [some (.inr (.inl (some 264))), some (.inl h), some (.inl t), some (.inl n), some (.inl 4), some (.inl 1), some (.inl 5), some (.inl 2), some (.inl (MF m h 0 t)), some (.inl 2)]) rfl ?_
          refine r_iload f97_43 rfl ?_
          refine r_iload f97_45 rfl ?_
          refine r_iload f97_47 rfl ?_
          refine r_ishr f97_49 (e := 1) (by decide) ?_
          refine r_iconst f97_50 rfl ?_
          refine r_iand f97_51 (e := 1) (by decide) ?_
          refine r_iconst f97_52 rfl ?_
          refine r_cne f97_53 (t := 67) (by decide) (fun h => absurd h (by omega)) (fun _ => ?_)
          refine r_aload_n f97_56 rfl ?_
          refine r_iload_n f97_57 rfl ?_
          refine r_iload f97_58 rfl ?_
          refine r_iload_n f97_60 rfl ?_
          refine r_callv3i (m' := m1) (v := MF m h 2 t) f97_61 o97 M7_108 p93 o93 kd264 rfl (by simp) (t_freeIn (m := m) ha hk (e := 2) h0 h1 (by omega) (by omega) t0 t1) ?_
          refine r_goto f97_64 (t := 68) (by decide) ?_
          refine r_iadd f97_68 (e := MF m h 0 t + MF m h 2 t) (by omega) (by omega) (by omega) ?_
          refine r_istore f97_69 rfl (ls' := [some (.inr (.inl (some 264))), some (.inl h), some (.inl t), some (.inl n), some (.inl 4), some (.inl 1), some (.inl 5), some (.inl 2), some (.inl (MF m h 0 t + MF m h 2 t)), some (.inl 2)]) rfl ?_
          refine r_iinc f97_71 rfl rfl rfl (e := 3) (by omega) (by omega) (by omega) (ls' := [some (.inr (.inl (some 264))), some (.inl h), some (.inl t), some (.inl n), some (.inl 4), some (.inl 1), some (.inl 5), some (.inl 2), some (.inl (MF m h 0 t + MF m h 2 t)), some (.inl 3)]) rfl ?_
          refine r_goto f97_74 (t := 25) (by decide) ?_
          refine r_iload f97_25 rfl ?_
          refine r_iconst f97_27 rfl ?_
          refine r_cge f97_28 (t := 77) (by decide) (fun _ => ?_) (fun h => absurd (by omega) h)
          refine skip77 (by omega) ?_
          refine r_iinc f97_98 rfl rfl rfl (e := 6) (by omega) (by omega) (by omega) (ls' := [some (.inr (.inl (some 264))), some (.inl h), some (.inl t), some (.inl n), some (.inl 4), some (.inl 1), some (.inl 6), some (.inl 2), some (.inl (MF m h 0 t + MF m h 2 t)), some (.inl 3)]) rfl ?_
          refine r_goto f97_101 (t := 9) (by decide) ?_
          refine r_iload f97_9 rfl ?_
          refine r_bipush f97_11 (by decide) ?_
          refine r_cge f97_13 (t := 104) (by decide) (fun h => absurd h (by omega)) (fun _ => ?_)
          refine r_iconst f97_16 rfl ?_
          refine r_istore f97_17 rfl (ls' := [some (.inr (.inl (some 264))), some (.inl h), some (.inl t), some (.inl n), some (.inl 4), some (.inl 1), some (.inl 6), some (.inl 0), some (.inl (MF m h 0 t + MF m h 2 t)), some (.inl 3)]) rfl ?_
          refine r_iconst f97_19 rfl ?_
          refine r_istore f97_20 rfl (ls' := [some (.inr (.inl (some 264))), some (.inl h), some (.inl t), some (.inl n), some (.inl 4), some (.inl 1), some (.inl 6), some (.inl 0), some (.inl 0), some (.inl 3)]) rfl ?_
          refine r_iconst f97_22 rfl ?_
          refine r_istore f97_23 rfl (ls' := [some (.inr (.inl (some 264))), some (.inl h), some (.inl t), some (.inl n), some (.inl 4), some (.inl 1), some (.inl 6), some (.inl 0), some (.inl 0), some (.inl 0)]) rfl ?_
          refine r_iload f97_25 rfl ?_
          refine r_iconst f97_27 rfl ?_
          refine r_cge f97_28 (t := 77) (by decide) (fun h => absurd h (by omega)) (fun _ => ?_)
          refine r_iload f97_31 rfl ?_
          refine r_iload f97_33 rfl ?_
          refine r_iload f97_35 rfl ?_
          refine r_ishr f97_37 (e := 6) (by decide) ?_
          refine r_iconst f97_38 rfl ?_
          refine r_iand f97_39 (e := 0) (by decide) ?_
          refine r_iadd f97_40 (e := 0) (by omega) (by omega) (by omega) ?_
          refine r_istore f97_41 rfl (ls' := [some (.inr (.inl (some 264))), some (.inl h), some (.inl t), some (.inl n), some (.inl 4), some (.inl 1), some (.inl 6), some (.inl 0), some (.inl 0), some (.inl 0)]) rfl ?_
          refine r_iload f97_43 rfl ?_
          refine r_iload f97_45 rfl ?_
          refine r_iload f97_47 rfl ?_
          refine r_ishr f97_49 (e := 6) (by decide) ?_
          refine r_iconst f97_50 rfl ?_
          refine r_iand f97_51 (e := 0) (by decide) ?_
          refine r_iconst f97_52 rfl ?_
          refine r_cne f97_53 (t := 67) (by decide) (fun _ => ?_) (fun h => absurd (by omega) h)
          refine r_iconst f97_67 rfl ?_
          refine r_iadd f97_68 (e := 0) (by omega) (by omega) (by omega) ?_
          refine r_istore f97_69 rfl (ls' := [some (.inr (.inl (some 264))), some (.inl h), some (.inl t), some (.inl n), some (.inl 4), some (.inl 1), some (.inl 6), some (.inl 0), some (.inl 0), some (.inl 0)]) rfl ?_
          refine r_iinc f97_71 rfl rfl rfl (e := 1) (by omega) (by omega) (by omega) (ls' := [some (.inr (.inl (some 264))), some (.inl h), some (.inl t), some (.inl n), some (.inl 4), some (.inl 1), some (.inl 6), some (.inl 0), some (.inl 0), some (.inl 1)]) rfl ?_
          refine r_goto f97_74 (t := 25) (by decide) ?_
          refine r_iload f97_25 rfl ?_
          refine r_iconst f97_27 rfl ?_
          refine r_cge f97_28 (t := 77) (by decide) (fun h => absurd h (by omega)) (fun _ => ?_)
          refine r_iload f97_31 rfl ?_
          refine r_iload f97_33 rfl ?_
          refine r_iload f97_35 rfl ?_
          refine r_ishr f97_37 (e := 3) (by decide) ?_
          refine r_iconst f97_38 rfl ?_
          refine r_iand f97_39 (e := 1) (by decide) ?_
          refine r_iadd f97_40 (e := 1) (by omega) (by omega) (by omega) ?_
          refine r_istore f97_41 rfl (ls' := [some (.inr (.inl (some 264))), some (.inl h), some (.inl t), some (.inl n), some (.inl 4), some (.inl 1), some (.inl 6), some (.inl 1), some (.inl 0), some (.inl 1)]) rfl ?_
          refine r_iload f97_43 rfl ?_
          refine r_iload f97_45 rfl ?_
          refine r_iload f97_47 rfl ?_
          refine r_ishr f97_49 (e := 3) (by decide) ?_
          refine r_iconst f97_50 rfl ?_
          refine r_iand f97_51 (e := 1) (by decide) ?_
          refine r_iconst f97_52 rfl ?_
          refine r_cne f97_53 (t := 67) (by decide) (fun h => absurd h (by omega)) (fun _ => ?_)
          refine r_aload_n f97_56 rfl ?_
          refine r_iload_n f97_57 rfl ?_
          refine r_iload f97_58 rfl ?_
          refine r_iload_n f97_60 rfl ?_
          refine r_callv3i (m' := m1) (v := MF m h 1 t) f97_61 o97 M7_108 p93 o93 kd264 rfl (by simp) (t_freeIn (m := m) ha hk (e := 1) h0 h1 (by omega) (by omega) t0 t1) ?_
          refine r_goto f97_64 (t := 68) (by decide) ?_
          refine r_iadd f97_68 (e := MF m h 1 t) (by omega) (by omega) (by omega) ?_
          refine r_istore f97_69 rfl (ls' := [some (.inr (.inl (some 264))), some (.inl h), some (.inl t), some (.inl n), some (.inl 4), some (.inl 1), some (.inl 6), some (.inl 1), some (.inl (MF m h 1 t)), some (.inl 1)]) rfl ?_
          refine r_iinc f97_71 rfl rfl rfl (e := 2) (by omega) (by omega) (by omega) (ls' := [some (.inr (.inl (some 264))), some (.inl h), some (.inl t), some (.inl n), some (.inl 4), some (.inl 1), some (.inl 6), some (.inl 1), some (.inl (MF m h 1 t)), some (.inl 2)]) rfl ?_
          refine r_goto f97_74 (t := 25) (by decide) ?_
          refine r_iload f97_25 rfl ?_
          refine r_iconst f97_27 rfl ?_
          refine r_cge f97_28 (t := 77) (by decide) (fun h => absurd h (by omega)) (fun _ => ?_)
          refine r_iload f97_31 rfl ?_
          refine r_iload f97_33 rfl ?_
          refine r_iload f97_35 rfl ?_
          refine r_ishr f97_37 (e := 1) (by decide) ?_
          refine r_iconst f97_38 rfl ?_
          refine r_iand f97_39 (e := 1) (by decide) ?_
          refine r_iadd f97_40 (e := 2) (by omega) (by omega) (by omega) ?_
          refine r_istore f97_41 rfl (ls' := [some (.inr (.inl (some 264))), some (.inl h), some (.inl t), some (.inl n), some (.inl 4), some (.inl 1), some (.inl 6), some (.inl 2), some (.inl (MF m h 1 t)), some (.inl 2)]) rfl ?_
          refine r_iload f97_43 rfl ?_
          refine r_iload f97_45 rfl ?_
          refine r_iload f97_47 rfl ?_
          refine r_ishr f97_49 (e := 1) (by decide) ?_
          refine r_iconst f97_50 rfl ?_
          refine r_iand f97_51 (e := 1) (by decide) ?_
          refine r_iconst f97_52 rfl ?_
          refine r_cne f97_53 (t := 67) (by decide) (fun h => absurd h (by omega)) (fun _ => ?_)
          refine r_aload_n f97_56 rfl ?_
          refine r_iload_n f97_57 rfl ?_
          refine r_iload f97_58 rfl ?_
          refine r_iload_n f97_60 rfl ?_
          refine r_callv3i (m' := m1) (v := MF m h 2 t) f97_61 o97 M7_108 p93 o93 kd264 rfl (by simp) (t_freeIn (m := m) ha hk (e := 2) h0 h1 (by omega) (by omega) t0 t1) ?_
          refine r_goto f97_64 (t := 68) (by decide) ?_
          refine r_iadd f97_68 (e := MF m h 1 t + MF m h 2 t) (by omega) (by omega) (by omega) ?_
          refine r_istore f97_69 rfl (ls' := [some (.inr (.inl (some 264))), some (.inl h), some (.inl t), some (.inl n), some (.inl 4), some (.inl 1), some (.inl 6), some (.inl 2), some (.inl (MF m h 1 t + MF m h 2 t)), some (.inl 2)]) rfl ?_
          refine r_iinc f97_71 rfl rfl rfl (e := 3) (by omega) (by omega) (by omega) (ls' := [some (.inr (.inl (some 264))), some (.inl h), some (.inl t), some (.inl n), some (.inl 4), some (.inl 1), some (.inl 6), some (.inl 2), some (.inl (MF m h 1 t + MF m h 2 t)), some (.inl 3)]) rfl ?_
          refine r_goto f97_74 (t := 25) (by decide) ?_
          refine r_iload f97_25 rfl ?_
          refine r_iconst f97_27 rfl ?_
          refine r_cge f97_28 (t := 77) (by decide) (fun _ => ?_) (fun h => absurd (by omega) h)
          refine skip77 (by omega) ?_
          refine r_iinc f97_98 rfl rfl rfl (e := 7) (by omega) (by omega) (by omega) (ls' := [some (.inr (.inl (some 264))), some (.inl h), some (.inl t), some (.inl n), some (.inl 4), some (.inl 1), some (.inl 7), some (.inl 2), some (.inl (MF m h 1 t + MF m h 2 t)), some (.inl 3)]) rfl ?_
          refine r_goto f97_101 (t := 9) (by decide) ?_
          refine r_iload f97_9 rfl ?_
          refine r_bipush f97_11 (by decide) ?_
          refine r_cge f97_13 (t := 104) (by decide) (fun h => absurd h (by omega)) (fun _ => ?_)
          refine r_iconst f97_16 rfl ?_
          refine r_istore f97_17 rfl (ls' := [some (.inr (.inl (some 264))), some (.inl h), some (.inl t), some (.inl n), some (.inl 4), some (.inl 1), some (.inl 7), some (.inl 0), some (.inl (MF m h 1 t + MF m h 2 t)), some (.inl 3)]) rfl ?_
          refine r_iconst f97_19 rfl ?_
          refine r_istore f97_20 rfl (ls' := [some (.inr (.inl (some 264))), some (.inl h), some (.inl t), some (.inl n), some (.inl 4), some (.inl 1), some (.inl 7), some (.inl 0), some (.inl 0), some (.inl 3)]) rfl ?_
          refine r_iconst f97_22 rfl ?_
          refine r_istore f97_23 rfl (ls' := [some (.inr (.inl (some 264))), some (.inl h), some (.inl t), some (.inl n), some (.inl 4), some (.inl 1), some (.inl 7), some (.inl 0), some (.inl 0), some (.inl 0)]) rfl ?_
          refine r_iload f97_25 rfl ?_
          refine r_iconst f97_27 rfl ?_
          refine r_cge f97_28 (t := 77) (by decide) (fun h => absurd h (by omega)) (fun _ => ?_)
          refine r_iload f97_31 rfl ?_
          refine r_iload f97_33 rfl ?_
          refine r_iload f97_35 rfl ?_
          refine r_ishr f97_37 (e := 7) (by decide) ?_
          refine r_iconst f97_38 rfl ?_
          refine r_iand f97_39 (e := 1) (by decide) ?_
          refine r_iadd f97_40 (e := 1) (by omega) (by omega) (by omega) ?_
          refine r_istore f97_41 rfl (ls' := [some (.inr (.inl (some 264))), some (.inl h), some (.inl t), some (.inl n), some (.inl 4), some (.inl 1), some (.inl 7), some (.inl 1), some (.inl 0), some (.inl 0)]) rfl ?_
          refine r_iload f97_43 rfl ?_
          refine r_iload f97_45 rfl ?_
          refine r_iload f97_47 rfl ?_
          refine r_ishr f97_49 (e := 7) (by decide) ?_
          refine r_iconst f97_50 rfl ?_
          refine r_iand f97_51 (e := 1) (by decide) ?_
          refine r_iconst f97_52 rfl ?_
          refine r_cne f97_53 (t := 67) (by decide) (fun h => absurd h (by omega)) (fun _ => ?_)
          refine r_aload_n f97_56 rfl ?_
          refine r_iload_n f97_57 rfl ?_
          refine r_iload f97_58 rfl ?_
          refine r_iload_n f97_60 rfl ?_
          refine r_callv3i (m' := m1) (v := MF m h 0 t) f97_61 o97 M7_108 p93 o93 kd264 rfl (by simp) (t_freeIn (m := m) ha hk (e := 0) h0 h1 (by omega) (by omega) t0 t1) ?_
          refine r_goto f97_64 (t := 68) (by decide) ?_
          refine r_iadd f97_68 (e := MF m h 0 t) (by omega) (by omega) (by omega) ?_
          refine r_istore f97_69 rfl (ls' := [some (.inr (.inl (some 264))), some (.inl h), some (.inl t), some (.inl n), some (.inl 4), some (.inl 1), some (.inl 7), some (.inl 1), some (.inl (MF m h 0 t)), some (.inl 0)]) rfl ?_
          refine r_iinc f97_71 rfl rfl rfl (e := 1) (by omega) (by omega) (by omega) (ls' := [some (.inr (.inl (some 264))), some (.inl h), some (.inl t), some (.inl n), some (.inl 4), some (.inl 1), some (.inl 7), some (.inl 1), some (.inl (MF m h 0 t)), some (.inl 1)]) rfl ?_
          refine r_goto f97_74 (t := 25) (by decide) ?_
          refine r_iload f97_25 rfl ?_
          refine r_iconst f97_27 rfl ?_
          refine r_cge f97_28 (t := 77) (by decide) (fun h => absurd h (by omega)) (fun _ => ?_)
          refine r_iload f97_31 rfl ?_
          refine r_iload f97_33 rfl ?_
          refine r_iload f97_35 rfl ?_
          refine r_ishr f97_37 (e := 3) (by decide) ?_
          refine r_iconst f97_38 rfl ?_
          refine r_iand f97_39 (e := 1) (by decide) ?_
          refine r_iadd f97_40 (e := 2) (by omega) (by omega) (by omega) ?_
          refine r_istore f97_41 rfl (ls' := [some (.inr (.inl (some 264))), some (.inl h), some (.inl t), some (.inl n), some (.inl 4), some (.inl 1), some (.inl 7), some (.inl 2), some (.inl (MF m h 0 t)), some (.inl 1)]) rfl ?_
          refine r_iload f97_43 rfl ?_
          refine r_iload f97_45 rfl ?_
          refine r_iload f97_47 rfl ?_
          refine r_ishr f97_49 (e := 3) (by decide) ?_
          refine r_iconst f97_50 rfl ?_
          refine r_iand f97_51 (e := 1) (by decide) ?_
          refine r_iconst f97_52 rfl ?_
          refine r_cne f97_53 (t := 67) (by decide) (fun h => absurd h (by omega)) (fun _ => ?_)
          refine r_aload_n f97_56 rfl ?_
          refine r_iload_n f97_57 rfl ?_
          refine r_iload f97_58 rfl ?_
          refine r_iload_n f97_60 rfl ?_
          refine r_callv3i (m' := m1) (v := MF m h 1 t) f97_61 o97 M7_108 p93 o93 kd264 rfl (by simp) (t_freeIn (m := m) ha hk (e := 1) h0 h1 (by omega) (by omega) t0 t1) ?_
          refine r_goto f97_64 (t := 68) (by decide) ?_
          refine r_iadd f97_68 (e := MF m h 0 t + MF m h 1 t) (by omega) (by omega) (by omega) ?_
          refine r_istore f97_69 rfl (ls' := [some (.inr (.inl (some 264))), some (.inl h), some (.inl t), some (.inl n), some (.inl 4), some (.inl 1), some (.inl 7), some (.inl 2), some (.inl (MF m h 0 t + MF m h 1 t)), some (.inl 1)]) rfl ?_
          refine r_iinc f97_71 rfl rfl rfl (e := 2) (by omega) (by omega) (by omega) (ls' := [some (.inr (.inl (some 264))), some (.inl h), some (.inl t), some (.inl n), some (.inl 4), some (.inl 1), some (.inl 7), some (.inl 2), some (.inl (MF m h 0 t + MF m h 1 t)), some (.inl 2)]) rfl ?_
          refine r_goto f97_74 (t := 25) (by decide) ?_
          refine r_iload f97_25 rfl ?_
          refine r_iconst f97_27 rfl ?_
          refine r_cge f97_28 (t := 77) (by decide) (fun h => absurd h (by omega)) (fun _ => ?_)
          refine r_iload f97_31 rfl ?_
          refine r_iload f97_33 rfl ?_
          refine r_iload f97_35 rfl ?_
          refine r_ishr f97_37 (e := 1) (by decide) ?_
          refine r_iconst f97_38 rfl ?_
          refine r_iand f97_39 (e := 1) (by decide) ?_
          refine r_iadd f97_40 (e := 3) (by omega) (by omega) (by omega) ?_
          refine r_istore f97_41 rfl (ls' := [some (.inr (.inl (some 264))), some (.inl h), some (.inl t), some (.inl n), some (.inl 4), some (.inl 1), some (.inl 7), some (.inl 3), some (.inl (MF m h 0 t + MF m h 1 t)), some (.inl 2)]) rfl ?_
          refine r_iload f97_43 rfl ?_
          refine r_iload f97_45 rfl ?_
          refine r_iload f97_47 rfl ?_
          refine r_ishr f97_49 (e := 1) (by decide) ?_
          refine r_iconst f97_50 rfl ?_
          refine r_iand f97_51 (e := 1) (by decide) ?_
          refine r_iconst f97_52 rfl ?_
          refine r_cne f97_53 (t := 67) (by decide) (fun h => absurd h (by omega)) (fun _ => ?_)
          refine r_aload_n f97_56 rfl ?_
          refine r_iload_n f97_57 rfl ?_
          refine r_iload f97_58 rfl ?_
          refine r_iload_n f97_60 rfl ?_
          refine r_callv3i (m' := m1) (v := MF m h 2 t) f97_61 o97 M7_108 p93 o93 kd264 rfl (by simp) (t_freeIn (m := m) ha hk (e := 2) h0 h1 (by omega) (by omega) t0 t1) ?_
          refine r_goto f97_64 (t := 68) (by decide) ?_
          refine r_iadd f97_68 (e := MF m h 0 t + MF m h 1 t + MF m h 2 t) (by omega) (by omega) (by omega) ?_
          refine r_istore f97_69 rfl (ls' := [some (.inr (.inl (some 264))), some (.inl h), some (.inl t), some (.inl n), some (.inl 4), some (.inl 1), some (.inl 7), some (.inl 3), some (.inl (MF m h 0 t + MF m h 1 t + MF m h 2 t)), some (.inl 2)]) rfl ?_
          refine r_iinc f97_71 rfl rfl rfl (e := 3) (by omega) (by omega) (by omega) (ls' := [some (.inr (.inl (some 264))), some (.inl h), some (.inl t), some (.inl n), some (.inl 4), some (.inl 1), some (.inl 7), some (.inl 3), some (.inl (MF m h 0 t + MF m h 1 t + MF m h 2 t)), some (.inl 3)]) rfl ?_
          refine r_goto f97_74 (t := 25) (by decide) ?_
          refine r_iload f97_25 rfl ?_
          refine r_iconst f97_27 rfl ?_
          refine r_cge f97_28 (t := 77) (by decide) (fun _ => ?_) (fun h => absurd (by omega) h)
          refine skip77 (by omega) ?_
          refine r_iinc f97_98 rfl rfl rfl (e := 8) (by omega) (by omega) (by omega) (ls' := [some (.inr (.inl (some 264))), some (.inl h), some (.inl t), some (.inl n), some (.inl 4), some (.inl 1), some (.inl 8), some (.inl 3), some (.inl (MF m h 0 t + MF m h 1 t + MF m h 2 t)), some (.inl 3)]) rfl ?_
          refine r_goto f97_101 (t := 9) (by decide) ?_
          refine r_iload f97_9 rfl ?_
          refine r_bipush f97_11 (by decide) ?_
          refine r_cge f97_13 (t := 104) (by decide) (fun _ => ?_) (fun h => absurd (by omega) h)
          refine r_iload_n f97_104 rfl ?_
          refine r_istore f97_105 rfl (ls' := [some (.inr (.inl (some 264))), some (.inl h), some (.inl t), some (.inl n), some (.inl 4), some (.inl 1), some (.inl n), some (.inl 3), some (.inl (MF m h 0 t + MF m h 1 t + MF m h 2 t)), some (.inl 3)]) rfl ?_
          refine r_iconst f97_107 rfl ?_
          refine r_istore f97_108 rfl (ls' := [some (.inr (.inl (some 264))), some (.inl h), some (.inl t), some (.inl n), some (.inl 4), some (.inl 1), some (.inl n), some (.inl 0), some (.inl (MF m h 0 t + MF m h 1 t + MF m h 2 t)), some (.inl 3)]) rfl ?_
          refine r_iload f97_110 rfl ?_
          refine r_iconst f97_112 rfl ?_
          refine r_cge f97_113 (t := 180) (by decide) (fun h => absurd h (by omega)) (fun _ => ?_)
          refine r_iload f97_116 rfl ?_
          refine r_iload f97_118 rfl ?_
          refine r_ishr f97_120 (e := 4) (by decide) ?_
          refine r_iconst f97_121 rfl ?_
          refine r_iand f97_122 (e := 0) (by decide) ?_
          refine r_iconst f97_123 rfl ?_
          refine r_cne f97_124 (t := 138) (by decide) (fun _ => ?_) (fun h => absurd (by omega) h)
          refine r_iconst f97_138 rfl ?_
          refine r_istore f97_139 rfl (ls' := [some (.inr (.inl (some 264))), some (.inl h), some (.inl t), some (.inl n), some (.inl 4), some (.inl 1), some (.inl n), some (.inl 0), some (.inl 0), some (.inl 3)]) rfl ?_
          refine r_aload_n f97_141 rfl ?_
          refine r_getR f97_142 o97 F7_59 g264_21 rfl ?_
          refine r_iload f97_145 rfl ?_
          refine r_iload f97_147 rfl ?_
          refine r_iload f97_149 rfl ?_
          refine r_cge f97_151 (t := 159) (by decide) (fun h => absurd h (by omega)) (fun _ => ?_)
          refine r_iload f97_154 rfl ?_
          refine r_goto f97_156 (t := 161) (by decide) ?_
          refine r_iast f97_161 kd281 (by omega) (by omega) (by omega) ?_
          refine r_iload f97_162 rfl ?_
          refine r_aload_n f97_164 rfl ?_
          refine r_getR f97_165 o97 F7_59 g264_21 rfl ?_
          refine r_iload f97_168 rfl ?_
          refine r_iald f97_170 kd281 (by omega) (by omega) ?_
          refine r_top (e := 0) (by rw [zu_if, if_pos (by omega)]) ?_
          refine r_isub f97_171 (e := n) (by omega) (by omega) (by omega) ?_
          refine r_istore f97_172 rfl (ls' := [some (.inr (.inl (some 264))), some (.inl h), some (.inl t), some (.inl n), some (.inl 4), some (.inl 1), some (.inl n), some (.inl 0), some (.inl 0), some (.inl 3)]) rfl ?_
          refine r_iinc f97_174 rfl rfl rfl (e := 1) (by omega) (by omega) (by omega) (ls' := [some (.inr (.inl (some 264))), some (.inl h), some (.inl t), some (.inl n), some (.inl 4), some (.inl 1), some (.inl n), some (.inl 1), some (.inl 0), some (.inl 3)]) rfl ?_
          refine r_goto f97_177 (t := 110) (by decide) ?_
          refine r_iload f97_110 rfl ?_
          refine r_iconst f97_112 rfl ?_
          refine r_cge f97_113 (t := 180) (by decide) (fun h => absurd h (by omega)) (fun _ => ?_)
          refine r_iload f97_116 rfl ?_
          refine r_iload f97_118 rfl ?_
          refine r_ishr f97_120 (e := 2) (by decide) ?_
          refine r_iconst f97_121 rfl ?_
          refine r_iand f97_122 (e := 0) (by decide) ?_
          refine r_iconst f97_123 rfl ?_
          refine r_cne f97_124 (t := 138) (by decide) (fun _ => ?_) (fun h => absurd (by omega) h)
          refine r_iconst f97_138 rfl ?_
          refine r_istore f97_139 rfl (ls' := [some (.inr (.inl (some 264))), some (.inl h), some (.inl t), some (.inl n), some (.inl 4), some (.inl 1), some (.inl n), some (.inl 1), some (.inl 0), some (.inl 3)]) rfl ?_
          refine r_aload_n f97_141 rfl ?_
          refine r_getR f97_142 o97 F7_59 g264_21 rfl ?_
          refine r_iload f97_145 rfl ?_
          refine r_iload f97_147 rfl ?_
          refine r_iload f97_149 rfl ?_
          refine r_cge f97_151 (t := 159) (by decide) (fun h => absurd h (by omega)) (fun _ => ?_)
          refine r_iload f97_154 rfl ?_
          refine r_goto f97_156 (t := 161) (by decide) ?_
          refine r_iast f97_161 kd281 (by omega) (by omega) (by omega) ?_
          refine r_iload f97_162 rfl ?_
          refine r_aload_n f97_164 rfl ?_
          refine r_getR f97_165 o97 F7_59 g264_21 rfl ?_
          refine r_iload f97_168 rfl ?_
          refine r_iald f97_170 kd281 (by omega) (by omega) ?_
          refine r_top (e := 0) (by rw [zu_if, if_pos (by omega)]) ?_
          refine r_isub f97_171 (e := n) (by omega) (by omega) (by omega) ?_
          refine r_istore f97_172 rfl (ls' := [some (.inr (.inl (some 264))), some (.inl h), some (.inl t), some (.inl n), some (.inl 4), some (.inl 1), some (.inl n), some (.inl 1), some (.inl 0), some (.inl 3)]) rfl ?_
          refine r_iinc f97_174 rfl rfl rfl (e := 2) (by omega) (by omega) (by omega) (ls' := [some (.inr (.inl (some 264))), some (.inl h), some (.inl t), some (.inl n), some (.inl 4), some (.inl 1), some (.inl n), some (.inl 2), some (.inl 0), some (.inl 3)]) rfl ?_
          refine r_goto f97_177 (t := 110) (by decide) ?_
          refine r_iload f97_110 rfl ?_
          refine r_iconst f97_112 rfl ?_
          refine r_cge f97_113 (t := 180) (by decide) (fun h => absurd h (by omega)) (fun _ => ?_)
          refine r_iload f97_116 rfl ?_
          refine r_iload f97_118 rfl ?_
          refine r_ishr f97_120 (e := 1) (by decide) ?_
          refine r_iconst f97_121 rfl ?_
          refine r_iand f97_122 (e := 1) (by decide) ?_
          refine r_iconst f97_123 rfl ?_
          refine r_cne f97_124 (t := 138) (by decide) (fun h => absurd h (by omega)) (fun _ => ?_)
          refine r_aload_n f97_127 rfl ?_
          refine r_iload_n f97_128 rfl ?_
          refine r_iload f97_129 rfl ?_
          refine r_iload_n f97_131 rfl ?_
          refine r_callv3i (m' := (zu (zu m1 281 0 0) 281 1 0)) (v := MF m h 2 t) f97_132 o97 M7_108 p93 o93 kd264 rfl (by simp) (t_freeIn (m := m) (zan_u (zan_u ha (Or.inl rfl)) (Or.inl rfl)) hk (e := 2) h0 h1 (by omega) (by omega) t0 t1) ?_
          refine r_goto f97_135 (t := 139) (by decide) ?_
          refine r_istore f97_139 rfl (ls' := [some (.inr (.inl (some 264))), some (.inl h), some (.inl t), some (.inl n), some (.inl 4), some (.inl 1), some (.inl n), some (.inl 2), some (.inl (MF m h 2 t)), some (.inl 3)]) rfl ?_
          refine r_aload_n f97_141 rfl ?_
          refine r_getR f97_142 o97 F7_59 g264_21 rfl ?_
          refine r_iload f97_145 rfl ?_
          refine r_iload f97_147 rfl ?_
          refine r_iload f97_149 rfl ?_
          refine r_cge f97_151 (t := 159) (by decide) (fun _ => ?_) (fun h => absurd (by omega) h)
          refine r_iload f97_159 rfl ?_
          refine r_iast f97_161 kd281 (by omega) (by omega) (by omega) ?_
          refine r_iload f97_162 rfl ?_
          refine r_aload_n f97_164 rfl ?_
          refine r_getR f97_165 o97 F7_59 g264_21 rfl ?_
          refine r_iload f97_168 rfl ?_
          refine r_iald f97_170 kd281 (by omega) (by omega) ?_
          refine r_top (e := n) (by rw [zu_if, if_pos (by omega)]) ?_
          refine r_isub f97_171 (e := 0) (by omega) (by omega) (by omega) ?_
          refine r_istore f97_172 rfl (ls' := [some (.inr (.inl (some 264))), some (.inl h), some (.inl t), some (.inl n), some (.inl 4), some (.inl 1), some (.inl 0), some (.inl 2), some (.inl (MF m h 2 t)), some (.inl 3)]) rfl ?_
          refine r_iinc f97_174 rfl rfl rfl (e := 3) (by omega) (by omega) (by omega) (ls' := [some (.inr (.inl (some 264))), some (.inl h), some (.inl t), some (.inl n), some (.inl 4), some (.inl 1), some (.inl 0), some (.inl 3), some (.inl (MF m h 2 t)), some (.inl 3)]) rfl ?_
          refine r_goto f97_177 (t := 110) (by decide) ?_
          refine r_iload f97_110 rfl ?_
          refine r_iconst f97_112 rfl ?_
          refine r_cge f97_113 (t := 180) (by decide) (fun _ => ?_) (fun h => absurd (by omega) h)
          exact r_vret f97_180 v97 ⟨rfl, by unfold MPt; rw [show zsh0 (MF m h 0 t) (MF m h 1 t) (MF m h 2 t) n = 0 from by unfold zsh0; (repeat (first | rw [if_pos (by omega)] | rw [if_neg (by omega)])); try omega, show zsh1 (MF m h 0 t) (MF m h 1 t) (MF m h 2 t) n = 0 from by unfold zsh1; (repeat (first | rw [if_pos (by omega)] | rw [if_neg (by omega)])); try omega, show zsh2 (MF m h 0 t) (MF m h 1 t) (MF m h 2 t) n = n from by unfold zsh2; (repeat (first | rw [if_pos (by omega)] | rw [if_neg (by omega)])); try omega]⟩
    · refine r_iload f97_83 rfl ?_
      refine r_iload f97_85 rfl ?_
      refine r_cge f97_87 (t := 98) (by decide) (fun h => absurd h (by omega)) (fun _ => ?_)
      refine r_iload f97_90 rfl ?_
      refine r_istore f97_92 rfl (ls' := [some (.inr (.inl (some 264))), some (.inl h), some (.inl t), some (.inl n), some (.inl 2), some (.inl 4), some (.inl 2), some (.inl 1), some (.inl (MF m h 1 t)), some (.inl 3)]) rfl ?_
      refine r_iload f97_94 rfl ?_
      refine r_istore f97_96 rfl (ls' := [some (.inr (.inl (some 264))), some (.inl h), some (.inl t), some (.inl n), some (.inl 2), some (.inl 1), some (.inl 2), some (.inl 1), some (.inl (MF m h 1 t)), some (.inl 3)]) rfl ?_
      refine r_iinc f97_98 rfl rfl rfl (e := 3) (by omega) (by omega) (by omega) (ls' := [some (.inr (.inl (some 264))), some (.inl h), some (.inl t), some (.inl n), some (.inl 2), some (.inl 1), some (.inl 3), some (.inl 1), some (.inl (MF m h 1 t)), some (.inl 3)]) rfl ?_
      refine r_goto f97_101 (t := 9) (by decide) ?_
      refine r_iload f97_9 rfl ?_
      refine r_bipush f97_11 (by decide) ?_
      refine r_cge f97_13 (t := 104) (by decide) (fun h => absurd h (by omega)) (fun _ => ?_)
      refine r_iconst f97_16 rfl ?_
      refine r_istore f97_17 rfl (ls' := [some (.inr (.inl (some 264))), some (.inl h), some (.inl t), some (.inl n), some (.inl 2), some (.inl 1), some (.inl 3), some (.inl 0), some (.inl (MF m h 1 t)), some (.inl 3)]) rfl ?_
      refine r_iconst f97_19 rfl ?_
      refine r_istore f97_20 rfl (ls' := [some (.inr (.inl (some 264))), some (.inl h), some (.inl t), some (.inl n), some (.inl 2), some (.inl 1), some (.inl 3), some (.inl 0), some (.inl 0), some (.inl 3)]) rfl ?_
      refine r_iconst f97_22 rfl ?_
      refine r_istore f97_23 rfl (ls' := [some (.inr (.inl (some 264))), some (.inl h), some (.inl t), some (.inl n), some (.inl 2), some (.inl 1), some (.inl 3), some (.inl 0), some (.inl 0), some (.inl 0)]) rfl ?_
      refine r_iload f97_25 rfl ?_
      refine r_iconst f97_27 rfl ?_
      refine r_cge f97_28 (t := 77) (by decide) (fun h => absurd h (by omega)) (fun _ => ?_)
      refine r_iload f97_31 rfl ?_
      refine r_iload f97_33 rfl ?_
      refine r_iload f97_35 rfl ?_
      refine r_ishr f97_37 (e := 3) (by decide) ?_
      refine r_iconst f97_38 rfl ?_
      refine r_iand f97_39 (e := 1) (by decide) ?_
      refine r_iadd f97_40 (e := 1) (by omega) (by omega) (by omega) ?_
      refine r_istore f97_41 rfl (ls' := [some (.inr (.inl (some 264))), some (.inl h), some (.inl t), some (.inl n), some (.inl 2), some (.inl 1), some (.inl 3), some (.inl 1), some (.inl 0), some (.inl 0)]) rfl ?_
      refine r_iload f97_43 rfl ?_
      refine r_iload f97_45 rfl ?_
      refine r_iload f97_47 rfl ?_
      refine r_ishr f97_49 (e := 3) (by decide) ?_
      refine r_iconst f97_50 rfl ?_
      refine r_iand f97_51 (e := 1) (by decide) ?_
      refine r_iconst f97_52 rfl ?_
      refine r_cne f97_53 (t := 67) (by decide) (fun h => absurd h (by omega)) (fun _ => ?_)
      refine r_aload_n f97_56 rfl ?_
      refine r_iload_n f97_57 rfl ?_
      refine r_iload f97_58 rfl ?_
      refine r_iload_n f97_60 rfl ?_
      refine r_callv3i (m' := m1) (v := MF m h 0 t) f97_61 o97 M7_108 p93 o93 kd264 rfl (by simp) (t_freeIn (m := m) ha hk (e := 0) h0 h1 (by omega) (by omega) t0 t1) ?_
      refine r_goto f97_64 (t := 68) (by decide) ?_
      refine r_iadd f97_68 (e := MF m h 0 t) (by omega) (by omega) (by omega) ?_
      refine r_istore f97_69 rfl (ls' := [some (.inr (.inl (some 264))), some (.inl h), some (.inl t), some (.inl n), some (.inl 2), some (.inl 1), some (.inl 3), some (.inl 1), some (.inl (MF m h 0 t)), some (.inl 0)]) rfl ?_
      refine r_iinc f97_71 rfl rfl rfl (e := 1) (by omega) (by omega) (by omega) (ls' := [some (.inr (.inl (some 264))), some (.inl h), some (.inl t), some (.inl n), some (.inl 2), some (.inl 1), some (.inl 3), some (.inl 1), some (.inl (MF m h 0 t)), some (.inl 1)]) rfl ?_
      refine r_goto f97_74 (t := 25) (by decide) ?_
      refine r_iload f97_25 rfl ?_
      refine r_iconst f97_27 rfl ?_
      refine r_cge f97_28 (t := 77) (by decide) (fun h => absurd h (by omega)) (fun _ => ?_)
      refine r_iload f97_31 rfl ?_
      refine r_iload f97_33 rfl ?_
      refine r_iload f97_35 rfl ?_
      refine r_ishr f97_37 (e := 1) (by decide) ?_
      refine r_iconst f97_38 rfl ?_
      refine r_iand f97_39 (e := 1) (by decide) ?_
      refine r_iadd f97_40 (e := 2) (by omega) (by omega) (by omega) ?_
      refine r_istore f97_41 rfl (ls' := [some (.inr (.inl (some 264))), some (.inl h), some (.inl t), some (.inl n), some (.inl 2), some (.inl 1), some (.inl 3), some (.inl 2), some (.inl (MF m h 0 t)), some (.inl 1)]) rfl ?_
      refine r_iload f97_43 rfl ?_
      refine r_iload f97_45 rfl ?_
      refine r_iload f97_47 rfl ?_
      refine r_ishr f97_49 (e := 1) (by decide) ?_
      refine r_iconst f97_50 rfl ?_
      refine r_iand f97_51 (e := 1) (by decide) ?_
      refine r_iconst f97_52 rfl ?_
      refine r_cne f97_53 (t := 67) (by decide) (fun h => absurd h (by omega)) (fun _ => ?_)
      refine r_aload_n f97_56 rfl ?_
      refine r_iload_n f97_57 rfl ?_
      refine r_iload f97_58 rfl ?_
      refine r_iload_n f97_60 rfl ?_
      refine r_callv3i (m' := m1) (v := MF m h 1 t) f97_61 o97 M7_108 p93 o93 kd264 rfl (by simp) (t_freeIn (m := m) ha hk (e := 1) h0 h1 (by omega) (by omega) t0 t1) ?_
      refine r_goto f97_64 (t := 68) (by decide) ?_
      refine r_iadd f97_68 (e := MF m h 0 t + MF m h 1 t) (by omega) (by omega) (by omega) ?_
      refine r_istore f97_69 rfl (ls' := [some (.inr (.inl (some 264))), some (.inl h), some (.inl t), some (.inl n), some (.inl 2), some (.inl 1), some (.inl 3), some (.inl 2), some (.inl (MF m h 0 t + MF m h 1 t)), some (.inl 1)]) rfl ?_
      refine r_iinc f97_71 rfl rfl rfl (e := 2) (by omega) (by omega) (by omega) (ls' := [some (.inr (.inl (some 264))), some (.inl h), some (.inl t), some (.inl n), some (.inl 2), some (.inl 1), some (.inl 3), some (.inl 2), some (.inl (MF m h 0 t + MF m h 1 t)), some (.inl 2)]) rfl ?_
      refine r_goto f97_74 (t := 25) (by decide) ?_
      refine r_iload f97_25 rfl ?_
      refine r_iconst f97_27 rfl ?_
      refine r_cge f97_28 (t := 77) (by decide) (fun h => absurd h (by omega)) (fun _ => ?_)
      refine r_iload f97_31 rfl ?_
      refine r_iload f97_33 rfl ?_
      refine r_iload f97_35 rfl ?_
      refine r_ishr f97_37 (e := 0) (by decide) ?_
      refine r_iconst f97_38 rfl ?_
      refine r_iand f97_39 (e := 0) (by decide) ?_
      refine r_iadd f97_40 (e := 2) (by omega) (by omega) (by omega) ?_
      refine r_istore f97_41 rfl (ls' := [some (.inr (.inl (some 264))), some (.inl h), some (.inl t), some (.inl n), some (.inl 2), some (.inl 1), some (.inl 3), some (.inl 2), some (.inl (MF m h 0 t + MF m h 1 t)), some (.inl 2)]) rfl ?_
      refine r_iload f97_43 rfl ?_
      refine r_iload f97_45 rfl ?_
      refine r_iload f97_47 rfl ?_
      refine r_ishr f97_49 (e := 0) (by decide) ?_
      refine r_iconst f97_50 rfl ?_
      refine r_iand f97_51 (e := 0) (by decide) ?_
      refine r_iconst f97_52 rfl ?_
      refine r_cne f97_53 (t := 67) (by decide) (fun _ => ?_) (fun h => absurd (by omega) h)
      refine r_iconst f97_67 rfl ?_
      refine r_iadd f97_68 (e := MF m h 0 t + MF m h 1 t) (by omega) (by omega) (by omega) ?_
      refine r_istore f97_69 rfl (ls' := [some (.inr (.inl (some 264))), some (.inl h), some (.inl t), some (.inl n), some (.inl 2), some (.inl 1), some (.inl 3), some (.inl 2), some (.inl (MF m h 0 t + MF m h 1 t)), some (.inl 2)]) rfl ?_
      refine r_iinc f97_71 rfl rfl rfl (e := 3) (by omega) (by omega) (by omega) (ls' := [some (.inr (.inl (some 264))), some (.inl h), some (.inl t), some (.inl n), some (.inl 2), some (.inl 1), some (.inl 3), some (.inl 2), some (.inl (MF m h 0 t + MF m h 1 t)), some (.inl 3)]) rfl ?_
      refine r_goto f97_74 (t := 25) (by decide) ?_
      refine r_iload f97_25 rfl ?_
      refine r_iconst f97_27 rfl ?_
      refine r_cge f97_28 (t := 77) (by decide) (fun _ => ?_) (fun h => absurd (by omega) h)
      refine skip77 (by omega) ?_
      refine r_iinc f97_98 rfl rfl rfl (e := 4) (by omega) (by omega) (by omega) (ls' := [some (.inr (.inl (some 264))), some (.inl h), some (.inl t), some (.inl n), some (.inl 2), some (.inl 1), some (.inl 4), some (.inl 2), some (.inl (MF m h 0 t + MF m h 1 t)), some (.inl 3)]) rfl ?_
      refine r_goto f97_101 (t := 9) (by decide) ?_
      refine r_iload f97_9 rfl ?_
      refine r_bipush f97_11 (by decide) ?_
      refine r_cge f97_13 (t := 104) (by decide) (fun h => absurd h (by omega)) (fun _ => ?_)
      refine r_iconst f97_16 rfl ?_
      refine r_istore f97_17 rfl (ls' := [some (.inr (.inl (some 264))), some (.inl h), some (.inl t), some (.inl n), some (.inl 2), some (.inl 1), some (.inl 4), some (.inl 0), some (.inl (MF m h 0 t + MF m h 1 t)), some (.inl 3)]) rfl ?_
      refine r_iconst f97_19 rfl ?_
      refine r_istore f97_20 rfl (ls' := [some (.inr (.inl (some 264))), some (.inl h), some (.inl t), some (.inl n), some (.inl 2), some (.inl 1), some (.inl 4), some (.inl 0), some (.inl 0), some (.inl 3)]) rfl ?_
      refine r_iconst f97_22 rfl ?_
      refine r_istore f97_23 rfl (ls' := [some (.inr (.inl (some 264))), some (.inl h), some (.inl t), some (.inl n), some (.inl 2), some (.inl 1), some (.inl 4), some (.inl 0), some (.inl 0), some (.inl 0)]) rfl ?_
      refine r_iload f97_25 rfl ?_
      refine r_iconst f97_27 rfl ?_
      refine r_cge f97_28 (t := 77) (by decide) (fun h => absurd h (by omega)) (fun _ => ?_)
      refine r_iload f97_31 rfl ?_
      refine r_iload f97_33 rfl ?_
      refine r_iload f97_35 rfl ?_
      refine r_ishr f97_37 (e := 4) (by decide) ?_
      refine r_iconst f97_38 rfl ?_
      refine r_iand f97_39 (e := 0) (by decide) ?_
      refine r_iadd f97_40 (e := 0) (by omega) (by omega) (by omega) ?_
      refine r_istore f97_41 rfl (ls' := [some (.inr (.inl (some 264))), some (.inl h), some (.inl t), some (.inl n), some (.inl 2), some (.inl 1), some (.inl 4), some (.inl 0), some (.inl 0), some (.inl 0)]) rfl ?_
      refine r_iload f97_43 rfl ?_
      refine r_iload f97_45 rfl ?_
      refine r_iload f97_47 rfl ?_
      refine r_ishr f97_49 (e := 4) (by decide) ?_
      refine r_iconst f97_50 rfl ?_
      refine r_iand f97_51 (e := 0) (by decide) ?_
      refine r_iconst f97_52 rfl ?_
      refine r_cne f97_53 (t := 67) (by decide) (fun _ => ?_) (fun h => absurd (by omega) h)
      refine r_iconst f97_67 rfl ?_
      refine r_iadd f97_68 (e := 0) (by omega) (by omega) (by omega) ?_
      refine r_istore f97_69 rfl (ls' := [some (.inr (.inl (some 264))), some (.inl h), some (.inl t), some (.inl n), some (.inl 2), some (.inl 1), some (.inl 4), some (.inl 0), some (.inl 0), some (.inl 0)]) rfl ?_
      refine r_iinc f97_71 rfl rfl rfl (e := 1) (by omega) (by omega) (by omega) (ls' := [some (.inr (.inl (some 264))), some (.inl h), some (.inl t), some (.inl n), some (.inl 2), some (.inl 1), some (.inl 4), some (.inl 0), some (.inl 0), some (.inl 1)]) rfl ?_
      refine r_goto f97_74 (t := 25) (by decide) ?_
      refine r_iload f97_25 rfl ?_
      refine r_iconst f97_27 rfl ?_
      refine r_cge f97_28 (t := 77) (by decide) (fun h => absurd h (by omega)) (fun _ => ?_)
      refine r_iload f97_31 rfl ?_
      refine r_iload f97_33 rfl ?_
      refine r_iload f97_35 rfl ?_
      refine r_ishr f97_37 (e := 2) (by decide) ?_
      refine r_iconst f97_38 rfl ?_
      refine r_iand f97_39 (e := 0) (by decide) ?_
      refine r_iadd f97_40 (e := 0) (by omega) (by omega) (by omega) ?_
      refine r_istore f97_41 rfl (ls' := [some (.inr (.inl (some 264))), some (.inl h), some (.inl t), some (.inl n), some (.inl 2), some (.inl 1), some (.inl 4), some (.inl 0), some (.inl 0), some (.inl 1)]) rfl ?_
      refine r_iload f97_43 rfl ?_
      refine r_iload f97_45 rfl ?_
      refine r_iload f97_47 rfl ?_
      refine r_ishr f97_49 (e := 2) (by decide) ?_
      refine r_iconst f97_50 rfl ?_
      refine r_iand f97_51 (e := 0) (by decide) ?_
      refine r_iconst f97_52 rfl ?_
      refine r_cne f97_53 (t := 67) (by decide) (fun _ => ?_) (fun h => absurd (by omega) h)
      refine r_iconst f97_67 rfl ?_
      refine r_iadd f97_68 (e := 0) (by omega) (by omega) (by omega) ?_
      refine r_istore f97_69 rfl (ls' := [some (.inr (.inl (some 264))), some (.inl h), some (.inl t), some (.inl n), some (.inl 2), some (.inl 1), some (.inl 4), some (.inl 0), some (.inl 0), some (.inl 1)]) rfl ?_
      refine r_iinc f97_71 rfl rfl rfl (e := 2) (by omega) (by omega) (by omega) (ls' := [some (.inr (.inl (some 264))), some (.inl h), some (.inl t), some (.inl n), some (.inl 2), some (.inl 1), some (.inl 4), some (.inl 0), some (.inl 0), some (.inl 2)]) rfl ?_
      refine r_goto f97_74 (t := 25) (by decide) ?_
      refine r_iload f97_25 rfl ?_
      refine r_iconst f97_27 rfl ?_
      refine r_cge f97_28 (t := 77) (by decide) (fun h => absurd h (by omega)) (fun _ => ?_)
      refine r_iload f97_31 rfl ?_
      refine r_iload f97_33 rfl ?_
      refine r_iload f97_35 rfl ?_
      refine r_ishr f97_37 (e := 1) (by decide) ?_
      refine r_iconst f97_38 rfl ?_
      refine r_iand f97_39 (e := 1) (by decide) ?_
      refine r_iadd f97_40 (e := 1) (by omega) (by omega) (by omega) ?_
      refine r_istore f97_41 rfl (ls' := [some (.inr (.inl (some 264))), some (.inl h), some (.inl t), some (.inl n), some (.inl 2), some (.inl 1), some (.inl 4), some (.inl 1), some (.inl 0), some (.inl 2)]) rfl ?_
      refine r_iload f97_43 rfl ?_
      refine r_iload f97_45 rfl ?_
      refine r_iload f97_47 rfl ?_
      refine r_ishr f97_49 (e := 1) (by decide) ?_
      refine r_iconst f97_50 rfl ?_
      refine r_iand f97_51 (e := 1) (by decide) ?_
      refine r_iconst f97_52 rfl ?_
      refine r_cne f97_53 (t := 67) (by decide) (fun h => absurd h (by omega)) (fun _ => ?_)
      refine r_aload_n f97_56 rfl ?_
      refine r_iload_n f97_57 rfl ?_
      refine r_iload f97_58 rfl ?_
      refine r_iload_n f97_60 rfl ?_
      refine r_callv3i (m' := m1) (v := MF m h 2 t) f97_61 o97 M7_108 p93 o93 kd264 rfl (by simp) (t_freeIn (m := m) ha hk (e := 2) h0 h1 (by omega) (by omega) t0 t1) ?_
      refine r_goto f97_64 (t := 68) (by decide) ?_
      refine r_iadd f97_68 (e := MF m h 2 t) (by omega) (by omega) (by omega) ?_
      refine r_istore f97_69 rfl (ls' := [some (.inr (.inl (some 264))), some (.inl h), some (.inl t), some (.inl n), some (.inl 2), some (.inl 1), some (.inl 4), some (.inl 1), some (.inl (MF m h 2 t)), some (.inl 2)]) rfl ?_
      refine r_iinc f97_71 rfl rfl rfl (e := 3) (by omega) (by omega) (by omega) (ls' := [some (.inr (.inl (some 264))), some (.inl h), some (.inl t), some (.inl n), some (.inl 2), some (.inl 1), some (.inl 4), some (.inl 1), some (.inl (MF m h 2 t)), some (.inl 3)]) rfl ?_
      refine r_goto f97_74 (t := 25) (by decide) ?_
      refine r_iload f97_25 rfl ?_
      refine r_iconst f97_27 rfl ?_
      refine r_cge f97_28 (t := 77) (by decide) (fun _ => ?_) (fun h => absurd (by omega) h)
      refine skip77 (by omega) ?_
      refine r_iinc f97_98 rfl rfl rfl (e := 5) (by omega) (by omega) (by omega) (ls' := [some (.inr (.inl (some 264))), some (.inl h), some (.inl t), some (.inl n), some (.inl 2), some (.inl 1), some (.inl 5), some (.inl 1), some (.inl (MF m h 2 t)), some (.inl 3)]) rfl ?_
      refine r_goto f97_101 (t := 9) (by decide) ?_
      refine r_iload f97_9 rfl ?_
      refine r_bipush f97_11 (by decide) ?_
      refine r_cge f97_13 (t := 104) (by decide) (fun h => absurd h (by omega)) (fun _ => ?_)
      refine r_iconst f97_16 rfl ?_
      refine r_istore f97_17 rfl (ls' := [some (.inr (.inl (some 264))), some (.inl h), some (.inl t), some (.inl n), some (.inl 2), some (.inl 1), some (.inl 5), some (.inl 0), some (.inl (MF m h 2 t)), some (.inl 3)]) rfl ?_
      refine r_iconst f97_19 rfl ?_
      refine r_istore f97_20 rfl (ls' := [some (.inr (.inl (some 264))), some (.inl h), some (.inl t), some (.inl n), some (.inl 2), some (.inl 1), some (.inl 5), some (.inl 0), some (.inl 0), some (.inl 3)]) rfl ?_
      refine r_iconst f97_22 rfl ?_
      refine r_istore f97_23 rfl (ls' := [some (.inr (.inl (some 264))), some (.inl h), some (.inl t), some (.inl n), some (.inl 2), some (.inl 1), some (.inl 5), some (.inl 0), some (.inl 0), some (.inl 0)]) rfl ?_
      refine r_iload f97_25 rfl ?_
      refine r_iconst f97_27 rfl ?_
      refine r_cge f97_28 (t := 77) (by decide) (fun h => absurd h (by omega)) (fun _ => ?_)
      refine r_iload f97_31 rfl ?_
      refine r_iload f97_33 rfl ?_
      refine r_iload f97_35 rfl ?_
      refine r_ishr f97_37 (e := 5) (by decide) ?_
      refine r_iconst f97_38 rfl ?_
      refine r_iand f97_39 (e := 1) (by decide) ?_
      refine r_iadd f97_40 (e := 1) (by omega) (by omega) (by omega) ?_
      refine r_istore f97_41 rfl (ls' := [some (.inr (.inl (some 264))), some (.inl h), some (.inl t), some (.inl n), some (.inl 2), some (.inl 1), some (.inl 5), some (.inl 1), some (.inl 0), some (.inl 0)]) rfl ?_
      refine r_iload f97_43 rfl ?_
      refine r_iload f97_45 rfl ?_
      refine r_iload f97_47 rfl ?_
      refine r_ishr f97_49 (e := 5) (by decide) ?_
      refine r_iconst f97_50 rfl ?_
      refine r_iand f97_51 (e := 1) (by decide) ?_
      refine r_iconst f97_52 rfl ?_
      refine r_cne f97_53 (t := 67) (by decide) (fun h => absurd h (by omega)) (fun _ => ?_)
      refine r_aload_n f97_56 rfl ?_
      refine r_iload_n f97_57 rfl ?_
      refine r_iload f97_58 rfl ?_
      refine r_iload_n f97_60 rfl ?_
      refine r_callv3i (m' := m1) (v := MF m h 0 t) f97_61 o97 M7_108 p93 o93 kd264 rfl (by simp) (t_freeIn (m := m) ha hk (e := 0) h0 h1 (by omega) (by omega) t0 t1) ?_
      refine r_goto f97_64 (t := 68) (by decide) ?_
      refine r_iadd f97_68 (e := MF m h 0 t) (by omega) (by omega) (by omega) ?_
      refine r_istore f97_69 rfl (ls' := [some (.inr (.inl (some 264))), some (.inl h), some (.inl t), some (.inl n), some (.inl 2), some (.inl 1), some (.inl 5), some (.inl 1), some (.inl (MF m h 0 t)), some (.inl 0)]) rfl ?_
      refine r_iinc f97_71 rfl rfl rfl (e := 1) (by omega) (by omega) (by omega) (ls' := [some (.inr (.inl (some 264))), some (.inl h), some (.inl t), some (.inl n), some (.inl 2), some (.inl 1), some (.inl 5), some (.inl 1), some (.inl (MF m h 0 t)), some (.inl 1)]) rfl ?_
      refine r_goto f97_74 (t := 25) (by decide) ?_
      refine r_iload f97_25 rfl ?_
      refine r_iconst f97_27 rfl ?_
      refine r_cge f97_28 (t := 77) (by decide) (fun h => absurd h (by omega)) (fun _ => ?_)
      refine r_iload f97_31 rfl ?_
      refine r_iload f97_33 rfl ?_
      refine r_iload f97_35 rfl ?_
      refine r_ishr f97_37 (e := 2) (by decide) ?_
      refine r_iconst f97_38 rfl ?_
      refine r_iand f97_39 (e := 0) (by decide) ?_
      refine r_iadd f97_40 (e := 1) (by omega) (by omega) (by omega) ?_
      refine r_istore f97_41 rfl (ls' := [some (.inr (.inl (some 264))), some (.inl h), some (.inl t), some (.inl n), some (.inl 2), some (.inl 1), some (.inl 5), some (.inl 1), some (.inl (MF m h 0 t)), some (.inl 1)]) rfl ?_
      refine r_iload f97_43 rfl ?_
      refine r_iload f97_45 rfl ?_
      refine r_iload f97_47 rfl ?_
      refine r_ishr f97_49 (e := 2) (by decide) ?_
      refine r_iconst f97_50 rfl ?_
      refine r_iand f97_51 (e := 0) (by decide) ?_
      refine r_iconst f97_52 rfl ?_
      refine r_cne f97_53 (t := 67) (by decide) (fun _ => ?_) (fun h => absurd (by omega) h)
      refine r_iconst f97_67 rfl ?_
      refine r_iadd f97_68 (e := MF m h 0 t) (by omega) (by omega) (by omega) ?_
      refine r_istore f97_69 rfl (ls' := [some (.inr (.inl (some 264))), some (.inl h), some (.inl t), some (.inl n), some (.inl 2), some (.inl 1), some (.inl 5), some (.inl 1), some (.inl (MF m h 0 t)), some (.inl 1)]) rfl ?_
      refine r_iinc f97_71 rfl rfl rfl (e := 2) (by omega) (by omega) (by omega) (ls' := [some (.inr (.inl (some 264))), some (.inl h), some (.inl t), some (.inl n), some (.inl 2), some (.inl 1), some (.inl 5), some (.inl 1), some (.inl (MF m h 0 t)), some (.inl 2)]) rfl ?_
      refine r_goto f97_74 (t := 25) (by decide) ?_
      refine r_iload f97_25 rfl ?_
      refine r_iconst f97_27 rfl ?_
      refine r_cge f97_28 (t := 77) (by decide) (fun h => absurd h (by omega)) (fun _ => ?_)
      refine r_iload f97_31 rfl ?_
      refine r_iload f97_33 rfl ?_
      refine r_iload f97_35 rfl ?_
      refine r_ishr f97_37 (e := 1) (by decide) ?_
      refine r_iconst f97_38 rfl ?_
      refine r_iand f97_39 (e := 1) (by decide) ?_
      refine r_iadd f97_40 (e := 2) (by omega) (by omega) (by omega) ?_
      refine r_istore f97_41 rfl (ls' := [some (.inr (.inl (some 264))), some (.inl h), some (.inl t), some (.inl n), some (.inl 2), some (.inl 1), some (.inl 5), some (.inl 2), some (.inl (MF m h 0 t)), some (.inl 2)]) rfl ?_
      refine r_iload f97_43 rfl ?_
      refine r_iload f97_45 rfl ?_
      refine r_iload f97_47 rfl ?_
      refine r_ishr f97_49 (e := 1) (by decide) ?_
      refine r_iconst f97_50 rfl ?_
      refine r_iand f97_51 (e := 1) (by decide) ?_
      refine r_iconst f97_52 rfl ?_
      refine r_cne f97_53 (t := 67) (by decide) (fun h => absurd h (by omega)) (fun _ => ?_)
      refine r_aload_n f97_56 rfl ?_
      refine r_iload_n f97_57 rfl ?_
      refine r_iload f97_58 rfl ?_
      refine r_iload_n f97_60 rfl ?_
      refine r_callv3i (m' := m1) (v := MF m h 2 t) f97_61 o97 M7_108 p93 o93 kd264 rfl (by simp) (t_freeIn (m := m) ha hk (e := 2) h0 h1 (by omega) (by omega) t0 t1) ?_
      refine r_goto f97_64 (t := 68) (by decide) ?_
      refine r_iadd f97_68 (e := MF m h 0 t + MF m h 2 t) (by omega) (by omega) (by omega) ?_
      refine r_istore f97_69 rfl (ls' := [some (.inr (.inl (some 264))), some (.inl h), some (.inl t), some (.inl n), some (.inl 2), some (.inl 1), some (.inl 5), some (.inl 2), some (.inl (MF m h 0 t + MF m h 2 t)), some (.inl 2)]) rfl ?_
      refine r_iinc f97_71 rfl rfl rfl (e := 3) (by omega) (by omega) (by omega) (ls' := [some (.inr (.inl (some 264))), some (.inl h), some (.inl t), some (.inl n), some (.inl 2), some (.inl 1), some (.inl 5), some (.inl 2), some (.inl (MF m h 0 t + MF m h 2 t)), some (.inl 3)]) rfl ?_
      refine r_goto f97_74 (t := 25) (by decide) ?_
      refine r_iload f97_25 rfl ?_
      refine r_iconst f97_27 rfl ?_
      refine r_cge f97_28 (t := 77) (by decide) (fun _ => ?_) (fun h => absurd (by omega) h)
      refine skip77 (by omega) ?_
      refine r_iinc f97_98 rfl rfl rfl (e := 6) (by omega) (by omega) (by omega) (ls' := [some (.inr (.inl (some 264))), some (.inl h), some (.inl t), some (.inl n), some (.inl 2), some (.inl 1), some (.inl 6), some (.inl 2), some (.inl (MF m h 0 t + MF m h 2 t)), some (.inl 3)]) rfl ?_
      refine r_goto f97_101 (t := 9) (by decide) ?_
      refine r_iload f97_9 rfl ?_
      refine r_bipush f97_11 (by decide) ?_
      refine r_cge f97_13 (t := 104) (by decide) (fun h => absurd h (by omega)) (fun _ => ?_)
      refine r_iconst f97_16 rfl ?_
      refine r_istore f97_17 rfl (ls' := [some (.inr (.inl (some 264))), some (.inl h), some (.inl t), some (.inl n), some (.inl 2), some (.inl 1), some (.inl 6), some (.inl 0), some (.inl (MF m h 0 t + MF m h 2 t)), some (.inl 3)]) rfl ?_
      refine r_iconst f97_19 rfl ?_
      refine r_istore f97_20 rfl (ls' := [some (.inr (.inl (some 264))), some (.inl h), some (.inl t), some (.inl n), some (.inl 2), some (.inl 1), some (.inl 6), some (.inl 0), some (.inl 0), some (.inl 3)]) rfl ?_
      refine r_iconst f97_22 rfl ?_
      refine r_istore f97_23 rfl (ls' := [some (.inr (.inl (some 264))), some (.inl h), some (.inl t), some (.inl n), some (.inl 2), some (.inl 1), some (.inl 6), some (.inl 0), some (.inl 0), some (.inl 0)]) rfl ?_
      refine r_iload f97_25 rfl ?_
      refine r_iconst f97_27 rfl ?_
      refine r_cge f97_28 (t := 77) (by decide) (fun h => absurd h (by omega)) (fun _ => ?_)
      refine r_iload f97_31 rfl ?_
      refine r_iload f97_33 rfl ?_
      refine r_iload f97_35 rfl ?_
      refine r_ishr f97_37 (e := 6) (by decide) ?_
      refine r_iconst f97_38 rfl ?_
      refine r_iand f97_39 (e := 0) (by decide) ?_
      refine r_iadd f97_40 (e := 0) (by omega) (by omega) (by omega) ?_
      refine r_istore f97_41 rfl (ls' := [some (.inr (.inl (some 264))), some (.inl h), some (.inl t), some (.inl n), some (.inl 2), some (.inl 1), some (.inl 6), some (.inl 0), some (.inl 0), some (.inl 0)]) rfl ?_
      refine r_iload f97_43 rfl ?_
      refine r_iload f97_45 rfl ?_
      refine r_iload f97_47 rfl ?_
      refine r_ishr f97_49 (e := 6) (by decide) ?_
      refine r_iconst f97_50 rfl ?_
      refine r_iand f97_51 (e := 0) (by decide) ?_
      refine r_iconst f97_52 rfl ?_
      refine r_cne f97_53 (t := 67) (by decide) (fun _ => ?_) (fun h => absurd (by omega) h)
      refine r_iconst f97_67 rfl ?_
      refine r_iadd f97_68 (e := 0) (by omega) (by omega) (by omega) ?_
      refine r_istore f97_69 rfl (ls' := [some (.inr (.inl (some 264))), some (.inl h), some (.inl t), some (.inl n), some (.inl 2), some (.inl 1), some (.inl 6), some (.inl 0), some (.inl 0), some (.inl 0)]) rfl ?_
      refine r_iinc f97_71 rfl rfl rfl (e := 1) (by omega) (by omega) (by omega) (ls' := [some (.inr (.inl (some 264))), some (.inl h), some (.inl t), some (.inl n), some (.inl 2), some (.inl 1), some (.inl 6), some (.inl 0), some (.inl 0), some (.inl 1)]) rfl ?_
      refine r_goto f97_74 (t := 25) (by decide) ?_
      refine r_iload f97_25 rfl ?_
      refine r_iconst f97_27 rfl ?_
      refine r_cge f97_28 (t := 77) (by decide) (fun h => absurd h (by omega)) (fun _ => ?_)
      refine r_iload f97_31 rfl ?_
      refine r_iload f97_33 rfl ?_
      refine r_iload f97_35 rfl ?_
      refine r_ishr f97_37 (e := 3) (by decide) ?_
      refine r_iconst f97_38 rfl ?_
      refine r_iand f97_39 (e := 1) (by decide) ?_
      refine r_iadd f97_40 (e := 1) (by omega) (by omega) (by omega) ?_
      refine r_istore f97_41 rfl (ls' := [some (.inr (.inl (some 264))), some (.inl h), some (.inl t), some (.inl n), some (.inl 2), some (.inl 1), some (.inl 6), some (.inl 1), some (.inl 0), some (.inl 1)]) rfl ?_
      refine r_iload f97_43 rfl ?_
      refine r_iload f97_45 rfl ?_
      refine r_iload f97_47 rfl ?_
      refine r_ishr f97_49 (e := 3) (by decide) ?_
      refine r_iconst f97_50 rfl ?_
      refine r_iand f97_51 (e := 1) (by decide) ?_
      refine r_iconst f97_52 rfl ?_
      refine r_cne f97_53 (t := 67) (by decide) (fun h => absurd h (by omega)) (fun _ => ?_)
      refine r_aload_n f97_56 rfl ?_
      refine r_iload_n f97_57 rfl ?_
      refine r_iload f97_58 rfl ?_
      refine r_iload_n f97_60 rfl ?_
      refine r_callv3i (m' := m1) (v := MF m h 1 t) f97_61 o97 M7_108 p93 o93 kd264 rfl (by simp) (t_freeIn (m := m) ha hk (e := 1) h0 h1 (by omega) (by omega) t0 t1) ?_
      refine r_goto f97_64 (t := 68) (by decide) ?_
      refine r_iadd f97_68 (e := MF m h 1 t) (by omega) (by omega) (by omega) ?_
      refine r_istore f97_69 rfl (ls' := [some (.inr (.inl (some 264))), some (.inl h), some (.inl t), some (.inl n), some (.inl 2), some (.inl 1), some (.inl 6), some (.inl 1), some (.inl (MF m h 1 t)), some (.inl 1)]) rfl ?_
      refine r_iinc f97_71 rfl rfl rfl (e := 2) (by omega) (by omega) (by omega) (ls' := [some (.inr (.inl (some 264))), some (.inl h), some (.inl t), some (.inl n), some (.inl 2), some (.inl 1), some (.inl 6), some (.inl 1), some (.inl (MF m h 1 t)), some (.inl 2)]) rfl ?_
      refine r_goto f97_74 (t := 25) (by decide) ?_
      refine r_iload f97_25 rfl ?_
      refine r_iconst f97_27 rfl ?_
      refine r_cge f97_28 (t := 77) (by decide) (fun h => absurd h (by omega)) (fun _ => ?_)
      refine r_iload f97_31 rfl ?_
      refine r_iload f97_33 rfl ?_
      refine r_iload f97_35 rfl ?_
      refine r_ishr f97_37 (e := 1) (by decide) ?_
      refine r_iconst f97_38 rfl ?_
      refine r_iand f97_39 (e := 1) (by decide) ?_
      refine r_iadd f97_40 (e := 2) (by omega) (by omega) (by omega) ?_
      refine r_istore f97_41 rfl (ls' := [some (.inr (.inl (some 264))), some (.inl h), some (.inl t), some (.inl n), some (.inl 2), some (.inl 1), some (.inl 6), some (.inl 2), some (.inl (MF m h 1 t)), some (.inl 2)]) rfl ?_
      refine r_iload f97_43 rfl ?_
      refine r_iload f97_45 rfl ?_
      refine r_iload f97_47 rfl ?_
      refine r_ishr f97_49 (e := 1) (by decide) ?_
      refine r_iconst f97_50 rfl ?_
      refine r_iand f97_51 (e := 1) (by decide) ?_
      refine r_iconst f97_52 rfl ?_
      refine r_cne f97_53 (t := 67) (by decide) (fun h => absurd h (by omega)) (fun _ => ?_)
      refine r_aload_n f97_56 rfl ?_
      refine r_iload_n f97_57 rfl ?_
      refine r_iload f97_58 rfl ?_
      refine r_iload_n f97_60 rfl ?_
      refine r_callv3i (m' := m1) (v := MF m h 2 t) f97_61 o97 M7_108 p93 o93 kd264 rfl (by simp) (t_freeIn (m := m) ha hk (e := 2) h0 h1 (by omega) (by omega) t0 t1) ?_
      refine r_goto f97_64 (t := 68) (by decide) ?_
      refine r_iadd f97_68 (e := MF m h 1 t + MF m h 2 t) (by omega) (by omega) (by omega) ?_
      refine r_istore f97_69 rfl (ls' := [some (.inr (.inl (some 264))), some (.inl h), some (.inl t), some (.inl n), some (.inl 2), some (.inl 1), some (.inl 6), some (.inl 2), some (.inl (MF m h 1 t + MF m h 2 t)), some (.inl 2)]) rfl ?_
      refine r_iinc f97_71 rfl rfl rfl (e := 3) (by omega) (by omega) (by omega) (ls' := [some (.inr (.inl (some 264))), some (.inl h), some (.inl t), some (.inl n), some (.inl 2), some (.inl 1), some (.inl 6), some (.inl 2), some (.inl (MF m h 1 t + MF m h 2 t)), some (.inl 3)]) rfl ?_
      refine r_goto f97_74 (t := 25) (by decide) ?_
      refine r_iload f97_25 rfl ?_
      refine r_iconst f97_27 rfl ?_
      refine r_cge f97_28 (t := 77) (by decide) (fun _ => ?_) (fun h => absurd (by omega) h)
      refine skip77 (by omega) ?_
      refine r_iinc f97_98 rfl rfl rfl (e := 7) (by omega) (by omega) (by omega) (ls' := [some (.inr (.inl (some 264))), some (.inl h), some (.inl t), some (.inl n), some (.inl 2), some (.inl 1), some (.inl 7), some (.inl 2), some (.inl (MF m h 1 t + MF m h 2 t)), some (.inl 3)]) rfl ?_
      refine r_goto f97_101 (t := 9) (by decide) ?_
      refine r_iload f97_9 rfl ?_
      refine r_bipush f97_11 (by decide) ?_
      refine r_cge f97_13 (t := 104) (by decide) (fun h => absurd h (by omega)) (fun _ => ?_)
      refine r_iconst f97_16 rfl ?_
      refine r_istore f97_17 rfl (ls' := [some (.inr (.inl (some 264))), some (.inl h), some (.inl t), some (.inl n), some (.inl 2), some (.inl 1), some (.inl 7), some (.inl 0), some (.inl (MF m h 1 t + MF m h 2 t)), some (.inl 3)]) rfl ?_
      refine r_iconst f97_19 rfl ?_
      refine r_istore f97_20 rfl (ls' := [some (.inr (.inl (some 264))), some (.inl h), some (.inl t), some (.inl n), some (.inl 2), some (.inl 1), some (.inl 7), some (.inl 0), some (.inl 0), some (.inl 3)]) rfl ?_
      refine r_iconst f97_22 rfl ?_
      refine r_istore f97_23 rfl (ls' := [some (.inr (.inl (some 264))), some (.inl h), some (.inl t), some (.inl n), some (.inl 2), some (.inl 1), some (.inl 7), some (.inl 0), some (.inl 0), some (.inl 0)]) rfl ?_
      refine r_iload f97_25 rfl ?_
      refine r_iconst f97_27 rfl ?_
      refine r_cge f97_28 (t := 77) (by decide) (fun h => absurd h (by omega)) (fun _ => ?_)
      refine r_iload f97_31 rfl ?_
      refine r_iload f97_33 rfl ?_
      refine r_iload f97_35 rfl ?_
      refine r_ishr f97_37 (e := 7) (by decide) ?_
      refine r_iconst f97_38 rfl ?_
      refine r_iand f97_39 (e := 1) (by decide) ?_
      refine r_iadd f97_40 (e := 1) (by omega) (by omega) (by omega) ?_
      refine r_istore f97_41 rfl (ls' := [some (.inr (.inl (some 264))), some (.inl h), some (.inl t), some (.inl n), some (.inl 2), some (.inl 1), some (.inl 7), some (.inl 1), some (.inl 0), some (.inl 0)]) rfl ?_
      refine r_iload f97_43 rfl ?_
      refine r_iload f97_45 rfl ?_
      refine r_iload f97_47 rfl ?_
      refine r_ishr f97_49 (e := 7) (by decide) ?_
      refine r_iconst f97_50 rfl ?_
      refine r_iand f97_51 (e := 1) (by decide) ?_
      refine r_iconst f97_52 rfl ?_
      refine r_cne f97_53 (t := 67) (by decide) (fun h => absurd h (by omega)) (fun _ => ?_)
      refine r_aload_n f97_56 rfl ?_
      refine r_iload_n f97_57 rfl ?_
      refine r_iload f97_58 rfl ?_
      refine r_iload_n f97_60 rfl ?_
      refine r_callv3i (m' := m1) (v := MF m h 0 t) f97_61 o97 M7_108 p93 o93 kd264 rfl (by simp) (t_freeIn (m := m) ha hk (e := 0) h0 h1 (by omega) (by omega) t0 t1) ?_
      refine r_goto f97_64 (t := 68) (by decide) ?_
      refine r_iadd f97_68 (e := MF m h 0 t) (by omega) (by omega) (by omega) ?_
      refine r_istore f97_69 rfl (ls' := [some (.inr (.inl (some 264))), some (.inl h), some (.inl t), some (.inl n), some (.inl 2), some (.inl 1), some (.inl 7), some (.inl 1), some (.inl (MF m h 0 t)), some (.inl 0)]) rfl ?_
      refine r_iinc f97_71 rfl rfl rfl (e := 1) (by omega) (by omega) (by omega) (ls' := [some (.inr (.inl (some 264))), some (.inl h), some (.inl t), some (.inl n), some (.inl 2), some (.inl 1), some (.inl 7), some (.inl 1), some (.inl (MF m h 0 t)), some (.inl 1)]) rfl ?_
      refine r_goto f97_74 (t := 25) (by decide) ?_
      refine r_iload f97_25 rfl ?_
      refine r_iconst f97_27 rfl ?_
      refine r_cge f97_28 (t := 77) (by decide) (fun h => absurd h (by omega)) (fun _ => ?_)
      refine r_iload f97_31 rfl ?_
      refine r_iload f97_33 rfl ?_
      refine r_iload f97_35 rfl ?_
      refine r_ishr f97_37 (e := 3) (by decide) ?_
      refine r_iconst f97_38 rfl ?_
      refine r_iand f97_39 (e := 1) (by decide) ?_
      refine r_iadd f97_40 (e := 2) (by omega) (by omega) (by omega) ?_
      refine r_istore f97_41 rfl (ls' := [some (.inr (.inl (some 264))), some (.inl h), some (.inl t), some (.inl n), some (.inl 2), some (.inl 1), some (.inl 7), some (.inl 2), some (.inl (MF m h 0 t)), some (.inl 1)]) rfl ?_
      refine r_iload f97_43 rfl ?_
      refine r_iload f97_45 rfl ?_
      refine r_iload f97_47 rfl ?_
      refine r_ishr f97_49 (e := 3) (by decide) ?_
      refine r_iconst f97_50 rfl ?_
      refine r_iand f97_51 (e := 1) (by decide) ?_
      refine r_iconst f97_52 rfl ?_
      refine r_cne f97_53 (t := 67) (by decide) (fun h => absurd h (by omega)) (fun _ => ?_)
      refine r_aload_n f97_56 rfl ?_
      refine r_iload_n f97_57 rfl ?_
      refine r_iload f97_58 rfl ?_
      refine r_iload_n f97_60 rfl ?_
      refine r_callv3i (m' := m1) (v := MF m h 1 t) f97_61 o97 M7_108 p93 o93 kd264 rfl (by simp) (t_freeIn (m := m) ha hk (e := 1) h0 h1 (by omega) (by omega) t0 t1) ?_
      refine r_goto f97_64 (t := 68) (by decide) ?_
      refine r_iadd f97_68 (e := MF m h 0 t + MF m h 1 t) (by omega) (by omega) (by omega) ?_
      refine r_istore f97_69 rfl (ls' := [some (.inr (.inl (some 264))), some (.inl h), some (.inl t), some (.inl n), some (.inl 2), some (.inl 1), some (.inl 7), some (.inl 2), some (.inl (MF m h 0 t + MF m h 1 t)), some (.inl 1)]) rfl ?_
      refine r_iinc f97_71 rfl rfl rfl (e := 2) (by omega) (by omega) (by omega) (ls' := [some (.inr (.inl (some 264))), some (.inl h), some (.inl t), some (.inl n), some (.inl 2), some (.inl 1), some (.inl 7), some (.inl 2), some (.inl (MF m h 0 t + MF m h 1 t)), some (.inl 2)]) rfl ?_
      refine r_goto f97_74 (t := 25) (by decide) ?_
      refine r_iload f97_25 rfl ?_
      refine r_iconst f97_27 rfl ?_
      refine r_cge f97_28 (t := 77) (by decide) (fun h => absurd h (by omega)) (fun _ => ?_)
      refine r_iload f97_31 rfl ?_
      refine r_iload f97_33 rfl ?_
      refine r_iload f97_35 rfl ?_
      refine r_ishr f97_37 (e := 1) (by decide) ?_
      refine r_iconst f97_38 rfl ?_
      refine r_iand f97_39 (e := 1) (by decide) ?_
      refine r_iadd f97_40 (e := 3) (by omega) (by omega) (by omega) ?_
      refine r_istore f97_41 rfl (ls' := [some (.inr (.inl (some 264))), some (.inl h), some (.inl t), some (.inl n), some (.inl 2), some (.inl 1), some (.inl 7), some (.inl 3), some (.inl (MF m h 0 t + MF m h 1 t)), some (.inl 2)]) rfl ?_
      refine r_iload f97_43 rfl ?_
      refine r_iload f97_45 rfl ?_
      refine r_iload f97_47 rfl ?_
      refine r_ishr f97_49 (e := 1) (by decide) ?_
      refine r_iconst f97_50 rfl ?_
      refine r_iand f97_51 (e := 1) (by decide) ?_
      refine r_iconst f97_52 rfl ?_
      refine r_cne f97_53 (t := 67) (by decide) (fun h => absurd h (by omega)) (fun _ => ?_)
      refine r_aload_n f97_56 rfl ?_
      refine r_iload_n f97_57 rfl ?_
      refine r_iload f97_58 rfl ?_
      refine r_iload_n f97_60 rfl ?_
      refine r_callv3i (m' := m1) (v := MF m h 2 t) f97_61 o97 M7_108 p93 o93 kd264 rfl (by simp) (t_freeIn (m := m) ha hk (e := 2) h0 h1 (by omega) (by omega) t0 t1) ?_
      refine r_goto f97_64 (t := 68) (by decide) ?_
      refine r_iadd f97_68 (e := MF m h 0 t + MF m h 1 t + MF m h 2 t) (by omega) (by omega) (by omega) ?_
      refine r_istore f97_69 rfl (ls' := [some (.inr (.inl (some 264))), some (.inl h), some (.inl t), some (.inl n), some (.inl 2), some (.inl 1), some (.inl 7), some (.inl 3), some (.inl (MF m h 0 t + MF m h 1 t + MF m h 2 t)), some (.inl 2)]) rfl ?_
      refine r_iinc f97_71 rfl rfl rfl (e := 3) (by omega) (by omega) (by omega) (ls' := [some (.inr (.inl (some 264))), some (.inl h), some (.inl t), some (.inl n), some (.inl 2), some (.inl 1), some (.inl 7), some (.inl 3), some (.inl (MF m h 0 t + MF m h 1 t + MF m h 2 t)), some (.inl 3)]) rfl ?_
      refine r_goto f97_74 (t := 25) (by decide) ?_
      refine r_iload f97_25 rfl ?_
      refine r_iconst f97_27 rfl ?_
      refine r_cge f97_28 (t := 77) (by decide) (fun _ => ?_) (fun h => absurd (by omega) h)
      refine skip77 (by omega) ?_
      refine r_iinc f97_98 rfl rfl rfl (e := 8) (by omega) (by omega) (by omega) (ls' := [some (.inr (.inl (some 264))), some (.inl h), some (.inl t), some (.inl n), some (.inl 2), some (.inl 1), some (.inl 8), some (.inl 3), some (.inl (MF m h 0 t + MF m h 1 t + MF m h 2 t)), some (.inl 3)]) rfl ?_
      refine r_goto f97_101 (t := 9) (by decide) ?_
      refine r_iload f97_9 rfl ?_
      refine r_bipush f97_11 (by decide) ?_
      refine r_cge f97_13 (t := 104) (by decide) (fun _ => ?_) (fun h => absurd (by omega) h)
      refine r_iload_n f97_104 rfl ?_
      refine r_istore f97_105 rfl (ls' := [some (.inr (.inl (some 264))), some (.inl h), some (.inl t), some (.inl n), some (.inl 2), some (.inl 1), some (.inl n), some (.inl 3), some (.inl (MF m h 0 t + MF m h 1 t + MF m h 2 t)), some (.inl 3)]) rfl ?_
      refine r_iconst f97_107 rfl ?_
      refine r_istore f97_108 rfl (ls' := [some (.inr (.inl (some 264))), some (.inl h), some (.inl t), some (.inl n), some (.inl 2), some (.inl 1), some (.inl n), some (.inl 0), some (.inl (MF m h 0 t + MF m h 1 t + MF m h 2 t)), some (.inl 3)]) rfl ?_
      refine r_iload f97_110 rfl ?_
      refine r_iconst f97_112 rfl ?_
      refine r_cge f97_113 (t := 180) (by decide) (fun h => absurd h (by omega)) (fun _ => ?_)
      refine r_iload f97_116 rfl ?_
      refine r_iload f97_118 rfl ?_
      refine r_ishr f97_120 (e := 2) (by decide) ?_
      refine r_iconst f97_121 rfl ?_
      refine r_iand f97_122 (e := 0) (by decide) ?_
      refine r_iconst f97_123 rfl ?_
      refine r_cne f97_124 (t := 138) (by decide) (fun _ => ?_) (fun h => absurd (by omega) h)
      refine r_iconst f97_138 rfl ?_
      refine r_istore f97_139 rfl (ls' := [some (.inr (.inl (some 264))), some (.inl h), some (.inl t), some (.inl n), some (.inl 2), some (.inl 1), some (.inl n), some (.inl 0), some (.inl 0), some (.inl 3)]) rfl ?_
      refine r_aload_n f97_141 rfl ?_
      refine r_getR f97_142 o97 F7_59 g264_21 rfl ?_
      refine r_iload f97_145 rfl ?_
      refine r_iload f97_147 rfl ?_
      refine r_iload f97_149 rfl ?_
      refine r_cge f97_151 (t := 159) (by decide) (fun h => absurd h (by omega)) (fun _ => ?_)
      refine r_iload f97_154 rfl ?_
      refine r_goto f97_156 (t := 161) (by decide) ?_
      refine r_iast f97_161 kd281 (by omega) (by omega) (by omega) ?_
      refine r_iload f97_162 rfl ?_
      refine r_aload_n f97_164 rfl ?_
      refine r_getR f97_165 o97 F7_59 g264_21 rfl ?_
      refine r_iload f97_168 rfl ?_
      refine r_iald f97_170 kd281 (by omega) (by omega) ?_
      refine r_top (e := 0) (by rw [zu_if, if_pos (by omega)]) ?_
      refine r_isub f97_171 (e := n) (by omega) (by omega) (by omega) ?_
      refine r_istore f97_172 rfl (ls' := [some (.inr (.inl (some 264))), some (.inl h), some (.inl t), some (.inl n), some (.inl 2), some (.inl 1), some (.inl n), some (.inl 0), some (.inl 0), some (.inl 3)]) rfl ?_
      refine r_iinc f97_174 rfl rfl rfl (e := 1) (by omega) (by omega) (by omega) (ls' := [some (.inr (.inl (some 264))), some (.inl h), some (.inl t), some (.inl n), some (.inl 2), some (.inl 1), some (.inl n), some (.inl 1), some (.inl 0), some (.inl 3)]) rfl ?_
      refine r_goto f97_177 (t := 110) (by decide) ?_
      refine r_iload f97_110 rfl ?_
      refine r_iconst f97_112 rfl ?_
      refine r_cge f97_113 (t := 180) (by decide) (fun h => absurd h (by omega)) (fun _ => ?_)
      refine r_iload f97_116 rfl ?_
      refine r_iload f97_118 rfl ?_
      refine r_ishr f97_120 (e := 1) (by decide) ?_
      refine r_iconst f97_121 rfl ?_
      refine r_iand f97_122 (e := 1) (by decide) ?_
      refine r_iconst f97_123 rfl ?_
      refine r_cne f97_124 (t := 138) (by decide) (fun h => absurd h (by omega)) (fun _ => ?_)
      refine r_aload_n f97_127 rfl ?_
      refine r_iload_n f97_128 rfl ?_
      refine r_iload f97_129 rfl ?_
      refine r_iload_n f97_131 rfl ?_
      refine r_callv3i (m' := (zu m1 281 0 0)) (v := MF m h 1 t) f97_132 o97 M7_108 p93 o93 kd264 rfl (by simp) (t_freeIn (m := m) (zan_u ha (Or.inl rfl)) hk (e := 1) h0 h1 (by omega) (by omega) t0 t1) ?_
      refine r_goto f97_135 (t := 139) (by decide) ?_
      refine r_istore f97_139 rfl (ls' := [some (.inr (.inl (some 264))), some (.inl h), some (.inl t), some (.inl n), some (.inl 2), some (.inl 1), some (.inl n), some (.inl 1), some (.inl (MF m h 1 t)), some (.inl 3)]) rfl ?_
      refine r_aload_n f97_141 rfl ?_
      refine r_getR f97_142 o97 F7_59 g264_21 rfl ?_
      refine r_iload f97_145 rfl ?_
      refine r_iload f97_147 rfl ?_
      refine r_iload f97_149 rfl ?_
      refine r_cge f97_151 (t := 159) (by decide) (fun _ => ?_) (fun h => absurd (by omega) h)
      refine r_iload f97_159 rfl ?_
      refine r_iast f97_161 kd281 (by omega) (by omega) (by omega) ?_
      refine r_iload f97_162 rfl ?_
      refine r_aload_n f97_164 rfl ?_
      refine r_getR f97_165 o97 F7_59 g264_21 rfl ?_
      refine r_iload f97_168 rfl ?_
      refine r_iald f97_170 kd281 (by omega) (by omega) ?_
      refine r_top (e := n) (by rw [zu_if, if_pos (by omega)]) ?_
      refine r_isub f97_171 (e := 0) (by omega) (by omega) (by omega) ?_
      refine r_istore f97_172 rfl (ls' := [some (.inr (.inl (some 264))), some (.inl h), some (.inl t), some (.inl n), some (.inl 2), some (.inl 1), some (.inl 0), some (.inl 1), some (.inl (MF m h 1 t)), some (.inl 3)]) rfl ?_
      refine r_iinc f97_174 rfl rfl rfl (e := 2) (by omega) (by omega) (by omega) (ls' := [some (.inr (.inl (some 264))), some (.inl h), some (.inl t), some (.inl n), some (.inl 2), some (.inl 1), some (.inl 0), some (.inl 2), some (.inl (MF m h 1 t)), some (.inl 3)]) rfl ?_
      refine r_goto f97_177 (t := 110) (by decide) ?_
      refine r_iload f97_110 rfl ?_
      refine r_iconst f97_112 rfl ?_
      refine r_cge f97_113 (t := 180) (by decide) (fun h => absurd h (by omega)) (fun _ => ?_)
      refine r_iload f97_116 rfl ?_
      refine r_iload f97_118 rfl ?_
      refine r_ishr f97_120 (e := 0) (by decide) ?_
      refine r_iconst f97_121 rfl ?_
      refine r_iand f97_122 (e := 0) (by decide) ?_
      refine r_iconst f97_123 rfl ?_
      refine r_cne f97_124 (t := 138) (by decide) (fun _ => ?_) (fun h => absurd (by omega) h)
      refine r_iconst f97_138 rfl ?_
      refine r_istore f97_139 rfl (ls' := [some (.inr (.inl (some 264))), some (.inl h), some (.inl t), some (.inl n), some (.inl 2), some (.inl 1), some (.inl 0), some (.inl 2), some (.inl 0), some (.inl 3)]) rfl ?_
      refine r_aload_n f97_141 rfl ?_
      refine r_getR f97_142 o97 F7_59 g264_21 rfl ?_
      refine r_iload f97_145 rfl ?_
      refine r_iload f97_147 rfl ?_
      refine r_iload f97_149 rfl ?_
      refine r_cge f97_151 (t := 159) (by decide) (fun _ => ?_) (fun h => absurd (by omega) h)
      refine r_iload f97_159 rfl ?_
      refine r_iast f97_161 kd281 (by omega) (by omega) (by omega) ?_
      refine r_iload f97_162 rfl ?_
      refine r_aload_n f97_164 rfl ?_
      refine r_getR f97_165 o97 F7_59 g264_21 rfl ?_
      refine r_iload f97_168 rfl ?_
      refine r_iald f97_170 kd281 (by omega) (by omega) ?_
      refine r_top (e := 0) (by rw [zu_if, if_pos (by omega)]) ?_
      refine r_isub f97_171 (e := 0) (by omega) (by omega) (by omega) ?_
      refine r_istore f97_172 rfl (ls' := [some (.inr (.inl (some 264))), some (.inl h), some (.inl t), some (.inl n), some (.inl 2), some (.inl 1), some (.inl 0), some (.inl 2), some (.inl 0), some (.inl 3)]) rfl ?_
      refine r_iinc f97_174 rfl rfl rfl (e := 3) (by omega) (by omega) (by omega) (ls' := [some (.inr (.inl (some 264))), some (.inl h), some (.inl t), some (.inl n), some (.inl 2), some (.inl 1), some (.inl 0), some (.inl 3), some (.inl 0), some (.inl 3)]) rfl ?_
      refine r_goto f97_177 (t := 110) (by decide) ?_
      refine r_iload f97_110 rfl ?_
      refine r_iconst f97_112 rfl ?_
      refine r_cge f97_113 (t := 180) (by decide) (fun _ => ?_) (fun h => absurd (by omega) h)
      exact r_vret f97_180 v97 ⟨rfl, by unfold MPt; rw [show zsh0 (MF m h 0 t) (MF m h 1 t) (MF m h 2 t) n = 0 from by unfold zsh0; (repeat (first | rw [if_pos (by omega)] | rw [if_neg (by omega)])); try omega, show zsh1 (MF m h 0 t) (MF m h 1 t) (MF m h 2 t) n = n from by unfold zsh1; (repeat (first | rw [if_pos (by omega)] | rw [if_neg (by omega)])); try omega, show zsh2 (MF m h 0 t) (MF m h 1 t) (MF m h 2 t) n = 0 from by unfold zsh2; (repeat (first | rw [if_pos (by omega)] | rw [if_neg (by omega)])); try omega]⟩
  · refine r_iload f97_83 rfl ?_
    refine r_iload f97_85 rfl ?_
    refine r_cge f97_87 (t := 98) (by decide) (fun h => absurd h (by omega)) (fun _ => ?_)
    refine r_iload f97_90 rfl ?_
    refine r_istore f97_92 rfl (ls' := [some (.inr (.inl (some 264))), some (.inl h), some (.inl t), some (.inl n), some (.inl 1), some (.inl 4), some (.inl 1), some (.inl 1), some (.inl (MF m h 0 t)), some (.inl 3)]) rfl ?_
    refine r_iload f97_94 rfl ?_
    refine r_istore f97_96 rfl (ls' := [some (.inr (.inl (some 264))), some (.inl h), some (.inl t), some (.inl n), some (.inl 1), some (.inl 1), some (.inl 1), some (.inl 1), some (.inl (MF m h 0 t)), some (.inl 3)]) rfl ?_
    refine r_iinc f97_98 rfl rfl rfl (e := 2) (by omega) (by omega) (by omega) (ls' := [some (.inr (.inl (some 264))), some (.inl h), some (.inl t), some (.inl n), some (.inl 1), some (.inl 1), some (.inl 2), some (.inl 1), some (.inl (MF m h 0 t)), some (.inl 3)]) rfl ?_
    refine r_goto f97_101 (t := 9) (by decide) ?_
    refine r_iload f97_9 rfl ?_
    refine r_bipush f97_11 (by decide) ?_
    refine r_cge f97_13 (t := 104) (by decide) (fun h => absurd h (by omega)) (fun _ => ?_)
    refine r_iconst f97_16 rfl ?_
    refine r_istore f97_17 rfl (ls' := [some (.inr (.inl (some 264))), some (.inl h), some (.inl t), some (.inl n), some (.inl 1), some (.inl 1), some (.inl 2), some (.inl 0), some (.inl (MF m h 0 t)), some (.inl 3)]) rfl ?_
    refine r_iconst f97_19 rfl ?_
    refine r_istore f97_20 rfl (ls' := [some (.inr (.inl (some 264))), some (.inl h), some (.inl t), some (.inl n), some (.inl 1), some (.inl 1), some (.inl 2), some (.inl 0), some (.inl 0), some (.inl 3)]) rfl ?_
    refine r_iconst f97_22 rfl ?_
    refine r_istore f97_23 rfl (ls' := [some (.inr (.inl (some 264))), some (.inl h), some (.inl t), some (.inl n), some (.inl 1), some (.inl 1), some (.inl 2), some (.inl 0), some (.inl 0), some (.inl 0)]) rfl ?_
    refine r_iload f97_25 rfl ?_
    refine r_iconst f97_27 rfl ?_
    refine r_cge f97_28 (t := 77) (by decide) (fun h => absurd h (by omega)) (fun _ => ?_)
    refine r_iload f97_31 rfl ?_
    refine r_iload f97_33 rfl ?_
    refine r_iload f97_35 rfl ?_
    refine r_ishr f97_37 (e := 2) (by decide) ?_
    refine r_iconst f97_38 rfl ?_
    refine r_iand f97_39 (e := 0) (by decide) ?_
    refine r_iadd f97_40 (e := 0) (by omega) (by omega) (by omega) ?_
    refine r_istore f97_41 rfl (ls' := [some (.inr (.inl (some 264))), some (.inl h), some (.inl t), some (.inl n), some (.inl 1), some (.inl 1), some (.inl 2), some (.inl 0), some (.inl 0), some (.inl 0)]) rfl ?_
    refine r_iload f97_43 rfl ?_
    refine r_iload f97_45 rfl ?_
    refine r_iload f97_47 rfl ?_
    refine r_ishr f97_49 (e := 2) (by decide) ?_
    refine r_iconst f97_50 rfl ?_
    refine r_iand f97_51 (e := 0) (by decide) ?_
    refine r_iconst f97_52 rfl ?_
    refine r_cne f97_53 (t := 67) (by decide) (fun _ => ?_) (fun h => absurd (by omega) h)
    refine r_iconst f97_67 rfl ?_
    refine r_iadd f97_68 (e := 0) (by omega) (by omega) (by omega) ?_
    refine r_istore f97_69 rfl (ls' := [some (.inr (.inl (some 264))), some (.inl h), some (.inl t), some (.inl n), some (.inl 1), some (.inl 1), some (.inl 2), some (.inl 0), some (.inl 0), some (.inl 0)]) rfl ?_
    refine r_iinc f97_71 rfl rfl rfl (e := 1) (by omega) (by omega) (by omega) (ls' := [some (.inr (.inl (some 264))), some (.inl h), some (.inl t), some (.inl n), some (.inl 1), some (.inl 1), some (.inl 2), some (.inl 0), some (.inl 0), some (.inl 1)]) rfl ?_
    refine r_goto f97_74 (t := 25) (by decide) ?_
    refine r_iload f97_25 rfl ?_
    refine r_iconst f97_27 rfl ?_
    refine r_cge f97_28 (t := 77) (by decide) (fun h => absurd h (by omega)) (fun _ => ?_)
    refine r_iload f97_31 rfl ?_
    refine r_iload f97_33 rfl ?_
    refine r_iload f97_35 rfl ?_
    refine r_ishr f97_37 (e := 1) (by decide) ?_
    refine r_iconst f97_38 rfl ?_
    refine r_iand f97_39 (e := 1) (by decide) ?_
    refine r_iadd f97_40 (e := 1) (by omega) (by omega) (by omega) ?_
    refine r_istore f97_41 rfl (ls' := [some (.inr (.inl (some 264))), some (.inl h), some (.inl t), some (.inl n), some (.inl 1), some (.inl 1), some (.inl 2), some (.inl 1), some (.inl 0), some (.inl 1)]) rfl ?_
    refine r_iload f97_43 rfl ?_
    refine r_iload f97_45 rfl ?_
    refine r_iload f97_47 rfl ?_
    refine r_ishr f97_49 (e := 1) (by decide) ?_
    refine r_iconst f97_50 rfl ?_
    refine r_iand f97_51 (e := 1) (by decide) ?_
    refine r_iconst f97_52 rfl ?_
    refine r_cne f97_53 (t := 67) (by decide) (fun h => absurd h (by omega)) (fun _ => ?_)
    refine r_aload_n f97_56 rfl ?_
    refine r_iload_n f97_57 rfl ?_
    refine r_iload f97_58 rfl ?_
    refine r_iload_n f97_60 rfl ?_
    refine r_callv3i (m' := m1) (v := MF m h 1 t) f97_61 o97 M7_108 p93 o93 kd264 rfl (by simp) (t_freeIn (m := m) ha hk (e := 1) h0 h1 (by omega) (by omega) t0 t1) ?_
    refine r_goto f97_64 (t := 68) (by decide) ?_
    refine r_iadd f97_68 (e := MF m h 1 t) (by omega) (by omega) (by omega) ?_
    refine r_istore f97_69 rfl (ls' := [some (.inr (.inl (some 264))), some (.inl h), some (.inl t), some (.inl n), some (.inl 1), some (.inl 1), some (.inl 2), some (.inl 1), some (.inl (MF m h 1 t)), some (.inl 1)]) rfl ?_
    refine r_iinc f97_71 rfl rfl rfl (e := 2) (by omega) (by omega) (by omega) (ls' := [some (.inr (.inl (some 264))), some (.inl h), some (.inl t), some (.inl n), some (.inl 1), some (.inl 1), some (.inl 2), some (.inl 1), some (.inl (MF m h 1 t)), some (.inl 2)]) rfl ?_
    refine r_goto f97_74 (t := 25) (by decide) ?_
    refine r_iload f97_25 rfl ?_
    refine r_iconst f97_27 rfl ?_
    refine r_cge f97_28 (t := 77) (by decide) (fun h => absurd h (by omega)) (fun _ => ?_)
    refine r_iload f97_31 rfl ?_
    refine r_iload f97_33 rfl ?_
    refine r_iload f97_35 rfl ?_
    refine r_ishr f97_37 (e := 0) (by decide) ?_
    refine r_iconst f97_38 rfl ?_
    refine r_iand f97_39 (e := 0) (by decide) ?_
    refine r_iadd f97_40 (e := 1) (by omega) (by omega) (by omega) ?_
    refine r_istore f97_41 rfl (ls' := [some (.inr (.inl (some 264))), some (.inl h), some (.inl t), some (.inl n), some (.inl 1), some (.inl 1), some (.inl 2), some (.inl 1), some (.inl (MF m h 1 t)), some (.inl 2)]) rfl ?_
    refine r_iload f97_43 rfl ?_
    refine r_iload f97_45 rfl ?_
    refine r_iload f97_47 rfl ?_
    refine r_ishr f97_49 (e := 0) (by decide) ?_
    refine r_iconst f97_50 rfl ?_
    refine r_iand f97_51 (e := 0) (by decide) ?_
    refine r_iconst f97_52 rfl ?_
    refine r_cne f97_53 (t := 67) (by decide) (fun _ => ?_) (fun h => absurd (by omega) h)
    refine r_iconst f97_67 rfl ?_
    refine r_iadd f97_68 (e := MF m h 1 t) (by omega) (by omega) (by omega) ?_
    refine r_istore f97_69 rfl (ls' := [some (.inr (.inl (some 264))), some (.inl h), some (.inl t), some (.inl n), some (.inl 1), some (.inl 1), some (.inl 2), some (.inl 1), some (.inl (MF m h 1 t)), some (.inl 2)]) rfl ?_
    refine r_iinc f97_71 rfl rfl rfl (e := 3) (by omega) (by omega) (by omega) (ls' := [some (.inr (.inl (some 264))), some (.inl h), some (.inl t), some (.inl n), some (.inl 1), some (.inl 1), some (.inl 2), some (.inl 1), some (.inl (MF m h 1 t)), some (.inl 3)]) rfl ?_
    refine r_goto f97_74 (t := 25) (by decide) ?_
    refine r_iload f97_25 rfl ?_
    refine r_iconst f97_27 rfl ?_
    refine r_cge f97_28 (t := 77) (by decide) (fun _ => ?_) (fun h => absurd (by omega) h)
    refine skip77 (by omega) ?_
    refine r_iinc f97_98 rfl rfl rfl (e := 3) (by omega) (by omega) (by omega) (ls' := [some (.inr (.inl (some 264))), some (.inl h), some (.inl t), some (.inl n), some (.inl 1), some (.inl 1), some (.inl 3), some (.inl 1), some (.inl (MF m h 1 t)), some (.inl 3)]) rfl ?_
    refine r_goto f97_101 (t := 9) (by decide) ?_
    refine r_iload f97_9 rfl ?_
    refine r_bipush f97_11 (by decide) ?_
    refine r_cge f97_13 (t := 104) (by decide) (fun h => absurd h (by omega)) (fun _ => ?_)
    refine r_iconst f97_16 rfl ?_
    refine r_istore f97_17 rfl (ls' := [some (.inr (.inl (some 264))), some (.inl h), some (.inl t), some (.inl n), some (.inl 1), some (.inl 1), some (.inl 3), some (.inl 0), some (.inl (MF m h 1 t)), some (.inl 3)]) rfl ?_
    refine r_iconst f97_19 rfl ?_
    refine r_istore f97_20 rfl (ls' := [some (.inr (.inl (some 264))), some (.inl h), some (.inl t), some (.inl n), some (.inl 1), some (.inl 1), some (.inl 3), some (.inl 0), some (.inl 0), some (.inl 3)]) rfl ?_
    refine r_iconst f97_22 rfl ?_
    refine r_istore f97_23 rfl (ls' := [some (.inr (.inl (some 264))), some (.inl h), some (.inl t), some (.inl n), some (.inl 1), some (.inl 1), some (.inl 3), some (.inl 0), some (.inl 0), some (.inl 0)]) rfl ?_
    refine r_iload f97_25 rfl ?_
    refine r_iconst f97_27 rfl ?_
    refine r_cge f97_28 (t := 77) (by decide) (fun h => absurd h (by omega)) (fun _ => ?_)
    refine r_iload f97_31 rfl ?_
    refine r_iload f97_33 rfl ?_
    refine r_iload f97_35 rfl ?_
    refine r_ishr f97_37 (e := 3) (by decide) ?_
    refine r_iconst f97_38 rfl ?_
    refine r_iand f97_39 (e := 1) (by decide) ?_
    refine r_iadd f97_40 (e := 1) (by omega) (by omega) (by omega) ?_
    refine r_istore f97_41 rfl (ls' := [some (.inr (.inl (some 264))), some (.inl h), some (.inl t), some (.inl n), some (.inl 1), some (.inl 1), some (.inl 3), some (.inl 1), some (.inl 0), some (.inl 0)]) rfl ?_
    refine r_iload f97_43 rfl ?_
    refine r_iload f97_45 rfl ?_
    refine r_iload f97_47 rfl ?_
    refine r_ishr f97_49 (e := 3) (by decide) ?_
    refine r_iconst f97_50 rfl ?_
    refine r_iand f97_51 (e := 1) (by decide) ?_
    refine r_iconst f97_52 rfl ?_
    refine r_cne f97_53 (t := 67) (by decide) (fun h => absurd h (by omega)) (fun _ => ?_)
    refine r_aload_n f97_56 rfl ?_
    refine r_iload_n f97_57 rfl ?_
    refine r_iload f97_58 rfl ?_
    refine r_iload_n f97_60 rfl ?_
    refine r_callv3i (m' := m1) (v := MF m h 0 t) f97_61 o97 M7_108 p93 o93 kd264 rfl (by simp) (t_freeIn (m := m) ha hk (e := 0) h0 h1 (by omega) (by omega) t0 t1) ?_
    refine r_goto f97_64 (t := 68) (by decide) ?_
    refine r_iadd f97_68 (e := MF m h 0 t) (by omega) (by omega) (by omega) ?_
    refine r_istore f97_69 rfl (ls' := [some (.inr (.inl (some 264))), some (.inl h), some (.inl t), some (.inl n), some (.inl 1), some (.inl 1), some (.inl 3), some (.inl 1), some (.inl (MF m h 0 t)), some (.inl 0)]) rfl ?_
    refine r_iinc f97_71 rfl rfl rfl (e := 1) (by omega) (by omega) (by omega) (ls' := [some (.inr (.inl (some 264))), some (.inl h), some (.inl t), some (.inl n), some (.inl 1), some (.inl 1), some (.inl 3), some (.inl 1), some (.inl (MF m h 0 t)), some (.inl 1)]) rfl ?_
    refine r_goto f97_74 (t := 25) (by decide) ?_
    refine r_iload f97_25 rfl ?_
    refine r_iconst f97_27 rfl ?_
    refine r_cge f97_28 (t := 77) (by decide) (fun h => absurd h (by omega)) (fun _ => ?_)
    refine r_iload f97_31 rfl ?_
    refine r_iload f97_33 rfl ?_
    refine r_iload f97_35 rfl ?_
    refine r_ishr f97_37 (e := 1) (by decide) ?_
    refine r_iconst f97_38 rfl ?_
    refine r_iand f97_39 (e := 1) (by decide) ?_
    refine r_iadd f97_40 (e := 2) (by omega) (by omega) (by omega) ?_
    refine r_istore f97_41 rfl (ls' := [some (.inr (.inl (some 264))), some (.inl h), some (.inl t), some (.inl n), some (.inl 1), some (.inl 1), some (.inl 3), some (.inl 2), some (.inl (MF m h 0 t)), some (.inl 1)]) rfl ?_
    refine r_iload f97_43 rfl ?_
    refine r_iload f97_45 rfl ?_
    refine r_iload f97_47 rfl ?_
    refine r_ishr f97_49 (e := 1) (by decide) ?_
    refine r_iconst f97_50 rfl ?_
    refine r_iand f97_51 (e := 1) (by decide) ?_
    refine r_iconst f97_52 rfl ?_
    refine r_cne f97_53 (t := 67) (by decide) (fun h => absurd h (by omega)) (fun _ => ?_)
    refine r_aload_n f97_56 rfl ?_
    refine r_iload_n f97_57 rfl ?_
    refine r_iload f97_58 rfl ?_
    refine r_iload_n f97_60 rfl ?_
    refine r_callv3i (m' := m1) (v := MF m h 1 t) f97_61 o97 M7_108 p93 o93 kd264 rfl (by simp) (t_freeIn (m := m) ha hk (e := 1) h0 h1 (by omega) (by omega) t0 t1) ?_
    refine r_goto f97_64 (t := 68) (by decide) ?_
    refine r_iadd f97_68 (e := MF m h 0 t + MF m h 1 t) (by omega) (by omega) (by omega) ?_
    refine r_istore f97_69 rfl (ls' := [some (.inr (.inl (some 264))), some (.inl h), some (.inl t), some (.inl n), some (.inl 1), some (.inl 1), some (.inl 3), some (.inl 2), some (.inl (MF m h 0 t + MF m h 1 t)), some (.inl 1)]) rfl ?_
    refine r_iinc f97_71 rfl rfl rfl (e := 2) (by omega) (by omega) (by omega) (ls' := [some (.inr (.inl (some 264))), some (.inl h), some (.inl t), some (.inl n), some (.inl 1), some (.inl 1), some (.inl 3), some (.inl 2), some (.inl (MF m h 0 t + MF m h 1 t)), some (.inl 2)]) rfl ?_
    refine r_goto f97_74 (t := 25) (by decide) ?_
    refine r_iload f97_25 rfl ?_
    refine r_iconst f97_27 rfl ?_
    refine r_cge f97_28 (t := 77) (by decide) (fun h => absurd h (by omega)) (fun _ => ?_)
    refine r_iload f97_31 rfl ?_
    refine r_iload f97_33 rfl ?_
    refine r_iload f97_35 rfl ?_
    refine r_ishr f97_37 (e := 0) (by decide) ?_
    refine r_iconst f97_38 rfl ?_
    refine r_iand f97_39 (e := 0) (by decide) ?_
    refine r_iadd f97_40 (e := 2) (by omega) (by omega) (by omega) ?_
    refine r_istore f97_41 rfl (ls' := [some (.inr (.inl (some 264))), some (.inl h), some (.inl t), some (.inl n), some (.inl 1), some (.inl 1), some (.inl 3), some (.inl 2), some (.inl (MF m h 0 t + MF m h 1 t)), some (.inl 2)]) rfl ?_
    refine r_iload f97_43 rfl ?_
    refine r_iload f97_45 rfl ?_
    refine r_iload f97_47 rfl ?_
    refine r_ishr f97_49 (e := 0) (by decide) ?_
    refine r_iconst f97_50 rfl ?_
    refine r_iand f97_51 (e := 0) (by decide) ?_
    refine r_iconst f97_52 rfl ?_
    refine r_cne f97_53 (t := 67) (by decide) (fun _ => ?_) (fun h => absurd (by omega) h)
    refine r_iconst f97_67 rfl ?_
    refine r_iadd f97_68 (e := MF m h 0 t + MF m h 1 t) (by omega) (by omega) (by omega) ?_
    refine r_istore f97_69 rfl (ls' := [some (.inr (.inl (some 264))), some (.inl h), some (.inl t), some (.inl n), some (.inl 1), some (.inl 1), some (.inl 3), some (.inl 2), some (.inl (MF m h 0 t + MF m h 1 t)), some (.inl 2)]) rfl ?_
    refine r_iinc f97_71 rfl rfl rfl (e := 3) (by omega) (by omega) (by omega) (ls' := [some (.inr (.inl (some 264))), some (.inl h), some (.inl t), some (.inl n), some (.inl 1), some (.inl 1), some (.inl 3), some (.inl 2), some (.inl (MF m h 0 t + MF m h 1 t)), some (.inl 3)]) rfl ?_
    refine r_goto f97_74 (t := 25) (by decide) ?_
    refine r_iload f97_25 rfl ?_
    refine r_iconst f97_27 rfl ?_
    refine r_cge f97_28 (t := 77) (by decide) (fun _ => ?_) (fun h => absurd (by omega) h)
    refine skip77 (by omega) ?_
    refine r_iinc f97_98 rfl rfl rfl (e := 4) (by omega) (by omega) (by omega) (ls' := [some (.inr (.inl (some 264))), some (.inl h), some (.inl t), some (.inl n), some (.inl 1), some (.inl 1), some (.inl 4), some (.inl 2), some (.inl (MF m h 0 t + MF m h 1 t)), some (.inl 3)]) rfl ?_
    refine r_goto f97_101 (t := 9) (by decide) ?_
    refine r_iload f97_9 rfl ?_
    refine r_bipush f97_11 (by decide) ?_
    refine r_cge f97_13 (t := 104) (by decide) (fun h => absurd h (by omega)) (fun _ => ?_)
    refine r_iconst f97_16 rfl ?_
    refine r_istore f97_17 rfl (ls' := [some (.inr (.inl (some 264))), some (.inl h), some (.inl t), some (.inl n), some (.inl 1), some (.inl 1), some (.inl 4), some (.inl 0), some (.inl (MF m h 0 t + MF m h 1 t)), some (.inl 3)]) rfl ?_
    refine r_iconst f97_19 rfl ?_
    refine r_istore f97_20 rfl (ls' := [some (.inr (.inl (some 264))), some (.inl h), some (.inl t), some (.inl n), some (.inl 1), some (.inl 1), some (.inl 4), some (.inl 0), some (.inl 0), some (.inl 3)]) rfl ?_
    refine r_iconst f97_22 rfl ?_
    refine r_istore f97_23 rfl (ls' := [some (.inr (.inl (some 264))), some (.inl h), some (.inl t), some (.inl n), some (.inl 1), some (.inl 1), some (.inl 4), some (.inl 0), some (.inl 0), some (.inl 0)]) rfl ?_
    refine r_iload f97_25 rfl ?_
    refine r_iconst f97_27 rfl ?_
    refine r_cge f97_28 (t := 77) (by decide) (fun h => absurd h (by omega)) (fun _ => ?_)
    refine r_iload f97_31 rfl ?_
    refine r_iload f97_33 rfl ?_
    refine r_iload f97_35 rfl ?_
    refine r_ishr f97_37 (e := 4) (by decide) ?_
    refine r_iconst f97_38 rfl ?_
    refine r_iand f97_39 (e := 0) (by decide) ?_
    refine r_iadd f97_40 (e := 0) (by omega) (by omega) (by omega) ?_
    refine r_istore f97_41 rfl (ls' := [some (.inr (.inl (some 264))), some (.inl h), some (.inl t), some (.inl n), some (.inl 1), some (.inl 1), some (.inl 4), some (.inl 0), some (.inl 0), some (.inl 0)]) rfl ?_
    refine r_iload f97_43 rfl ?_
    refine r_iload f97_45 rfl ?_
    refine r_iload f97_47 rfl ?_
    refine r_ishr f97_49 (e := 4) (by decide) ?_
    refine r_iconst f97_50 rfl ?_
    refine r_iand f97_51 (e := 0) (by decide) ?_
    refine r_iconst f97_52 rfl ?_
    refine r_cne f97_53 (t := 67) (by decide) (fun _ => ?_) (fun h => absurd (by omega) h)
    refine r_iconst f97_67 rfl ?_
    refine r_iadd f97_68 (e := 0) (by omega) (by omega) (by omega) ?_
    refine r_istore f97_69 rfl (ls' := [some (.inr (.inl (some 264))), some (.inl h), some (.inl t), some (.inl n), some (.inl 1), some (.inl 1), some (.inl 4), some (.inl 0), some (.inl 0), some (.inl 0)]) rfl ?_
    refine r_iinc f97_71 rfl rfl rfl (e := 1) (by omega) (by omega) (by omega) (ls' := [some (.inr (.inl (some 264))), some (.inl h), some (.inl t), some (.inl n), some (.inl 1), some (.inl 1), some (.inl 4), some (.inl 0), some (.inl 0), some (.inl 1)]) rfl ?_
    refine r_goto f97_74 (t := 25) (by decide) ?_
    refine r_iload f97_25 rfl ?_
    refine r_iconst f97_27 rfl ?_
    refine r_cge f97_28 (t := 77) (by decide) (fun h => absurd h (by omega)) (fun _ => ?_)
    refine r_iload f97_31 rfl ?_
    refine r_iload f97_33 rfl ?_
    refine r_iload f97_35 rfl ?_
    refine r_ishr f97_37 (e := 2) (by decide) ?_
    refine r_iconst f97_38 rfl ?_
    refine r_iand f97_39 (e := 0) (by decide) ?_
    refine r_iadd f97_40 (e := 0) (by omega) (by omega) (by omega) ?_
    refine r_istore f97_41 rfl (ls' := [some (.inr (.inl (some 264))), some (.inl h), some (.inl t), some (.inl n), some (.inl 1), some (.inl 1), some (.inl 4), some (.inl 0), some (.inl 0), some (.inl 1)]) rfl ?_
    refine r_iload f97_43 rfl ?_
    refine r_iload f97_45 rfl ?_
    refine r_iload f97_47 rfl ?_
    refine r_ishr f97_49 (e := 2) (by decide) ?_
    refine r_iconst f97_50 rfl ?_
    refine r_iand f97_51 (e := 0) (by decide) ?_
    refine r_iconst f97_52 rfl ?_
    refine r_cne f97_53 (t := 67) (by decide) (fun _ => ?_) (fun h => absurd (by omega) h)
    refine r_iconst f97_67 rfl ?_
    refine r_iadd f97_68 (e := 0) (by omega) (by omega) (by omega) ?_
    refine r_istore f97_69 rfl (ls' := [some (.inr (.inl (some 264))), some (.inl h), some (.inl t), some (.inl n), some (.inl 1), some (.inl 1), some (.inl 4), some (.inl 0), some (.inl 0), some (.inl 1)]) rfl ?_
    refine r_iinc f97_71 rfl rfl rfl (e := 2) (by omega) (by omega) (by omega) (ls' := [some (.inr (.inl (some 264))), some (.inl h), some (.inl t), some (.inl n), some (.inl 1), some (.inl 1), some (.inl 4), some (.inl 0), some (.inl 0), some (.inl 2)]) rfl ?_
    refine r_goto f97_74 (t := 25) (by decide) ?_
    refine r_iload f97_25 rfl ?_
    refine r_iconst f97_27 rfl ?_
    refine r_cge f97_28 (t := 77) (by decide) (fun h => absurd h (by omega)) (fun _ => ?_)
    refine r_iload f97_31 rfl ?_
    refine r_iload f97_33 rfl ?_
    refine r_iload f97_35 rfl ?_
    refine r_ishr f97_37 (e := 1) (by decide) ?_
    refine r_iconst f97_38 rfl ?_
    refine r_iand f97_39 (e := 1) (by decide) ?_
    refine r_iadd f97_40 (e := 1) (by omega) (by omega) (by omega) ?_
    refine r_istore f97_41 rfl (ls' := [some (.inr (.inl (some 264))), some (.inl h), some (.inl t), some (.inl n), some (.inl 1), some (.inl 1), some (.inl 4), some (.inl 1), some (.inl 0), some (.inl 2)]) rfl ?_
    refine r_iload f97_43 rfl ?_
    refine r_iload f97_45 rfl ?_
    refine r_iload f97_47 rfl ?_
    refine r_ishr f97_49 (e := 1) (by decide) ?_
    refine r_iconst f97_50 rfl ?_
    refine r_iand f97_51 (e := 1) (by decide) ?_
    refine r_iconst f97_52 rfl ?_
    refine r_cne f97_53 (t := 67) (by decide) (fun h => absurd h (by omega)) (fun _ => ?_)
    refine r_aload_n f97_56 rfl ?_
    refine r_iload_n f97_57 rfl ?_
    refine r_iload f97_58 rfl ?_
    refine r_iload_n f97_60 rfl ?_
    refine r_callv3i (m' := m1) (v := MF m h 2 t) f97_61 o97 M7_108 p93 o93 kd264 rfl (by simp) (t_freeIn (m := m) ha hk (e := 2) h0 h1 (by omega) (by omega) t0 t1) ?_
    refine r_goto f97_64 (t := 68) (by decide) ?_
    refine r_iadd f97_68 (e := MF m h 2 t) (by omega) (by omega) (by omega) ?_
    refine r_istore f97_69 rfl (ls' := [some (.inr (.inl (some 264))), some (.inl h), some (.inl t), some (.inl n), some (.inl 1), some (.inl 1), some (.inl 4), some (.inl 1), some (.inl (MF m h 2 t)), some (.inl 2)]) rfl ?_
    refine r_iinc f97_71 rfl rfl rfl (e := 3) (by omega) (by omega) (by omega) (ls' := [some (.inr (.inl (some 264))), some (.inl h), some (.inl t), some (.inl n), some (.inl 1), some (.inl 1), some (.inl 4), some (.inl 1), some (.inl (MF m h 2 t)), some (.inl 3)]) rfl ?_
    refine r_goto f97_74 (t := 25) (by decide) ?_
    refine r_iload f97_25 rfl ?_
    refine r_iconst f97_27 rfl ?_
    refine r_cge f97_28 (t := 77) (by decide) (fun _ => ?_) (fun h => absurd (by omega) h)
    refine skip77 (by omega) ?_
    refine r_iinc f97_98 rfl rfl rfl (e := 5) (by omega) (by omega) (by omega) (ls' := [some (.inr (.inl (some 264))), some (.inl h), some (.inl t), some (.inl n), some (.inl 1), some (.inl 1), some (.inl 5), some (.inl 1), some (.inl (MF m h 2 t)), some (.inl 3)]) rfl ?_
    refine r_goto f97_101 (t := 9) (by decide) ?_
    refine r_iload f97_9 rfl ?_
    refine r_bipush f97_11 (by decide) ?_
    refine r_cge f97_13 (t := 104) (by decide) (fun h => absurd h (by omega)) (fun _ => ?_)
    refine r_iconst f97_16 rfl ?_
    refine r_istore f97_17 rfl (ls' := [some (.inr (.inl (some 264))), some (.inl h), some (.inl t), some (.inl n), some (.inl 1), some (.inl 1), some (.inl 5), some (.inl 0), some (.inl (MF m h 2 t)), some (.inl 3)]) rfl ?_
    refine r_iconst f97_19 rfl ?_
    refine r_istore f97_20 rfl (ls' := [some (.inr (.inl (some 264))), some (.inl h), some (.inl t), some (.inl n), some (.inl 1), some (.inl 1), some (.inl 5), some (.inl 0), some (.inl 0), some (.inl 3)]) rfl ?_
    refine r_iconst f97_22 rfl ?_
    refine r_istore f97_23 rfl (ls' := [some (.inr (.inl (some 264))), some (.inl h), some (.inl t), some (.inl n), some (.inl 1), some (.inl 1), some (.inl 5), some (.inl 0), some (.inl 0), some (.inl 0)]) rfl ?_
    refine r_iload f97_25 rfl ?_
    refine r_iconst f97_27 rfl ?_
    refine r_cge f97_28 (t := 77) (by decide) (fun h => absurd h (by omega)) (fun _ => ?_)
    refine r_iload f97_31 rfl ?_
    refine r_iload f97_33 rfl ?_
    refine r_iload f97_35 rfl ?_
    refine r_ishr f97_37 (e := 5) (by decide) ?_
    refine r_iconst f97_38 rfl ?_
    refine r_iand f97_39 (e := 1) (by decide) ?_
    refine r_iadd f97_40 (e := 1) (by omega) (by omega) (by omega) ?_
    refine r_istore f97_41 rfl (ls' := [some (.inr (.inl (some 264))), some (.inl h), some (.inl t), some (.inl n), some (.inl 1), some (.inl 1), some (.inl 5), some (.inl 1), some (.inl 0), some (.inl 0)]) rfl ?_
    refine r_iload f97_43 rfl ?_
    refine r_iload f97_45 rfl ?_
    refine r_iload f97_47 rfl ?_
    refine r_ishr f97_49 (e := 5) (by decide) ?_
    refine r_iconst f97_50 rfl ?_
    refine r_iand f97_51 (e := 1) (by decide) ?_
    refine r_iconst f97_52 rfl ?_
    refine r_cne f97_53 (t := 67) (by decide) (fun h => absurd h (by omega)) (fun _ => ?_)
    refine r_aload_n f97_56 rfl ?_
    refine r_iload_n f97_57 rfl ?_
    refine r_iload f97_58 rfl ?_
    refine r_iload_n f97_60 rfl ?_
    refine r_callv3i (m' := m1) (v := MF m h 0 t) f97_61 o97 M7_108 p93 o93 kd264 rfl (by simp) (t_freeIn (m := m) ha hk (e := 0) h0 h1 (by omega) (by omega) t0 t1) ?_
    refine r_goto f97_64 (t := 68) (by decide) ?_
    refine r_iadd f97_68 (e := MF m h 0 t) (by omega) (by omega) (by omega) ?_
    refine r_istore f97_69 rfl (ls' := [some (.inr (.inl (some 264))), some (.inl h), some (.inl t), some (.inl n), some (.inl 1), some (.inl 1), some (.inl 5), some (.inl 1), some (.inl (MF m h 0 t)), some (.inl 0)]) rfl ?_
    refine r_iinc f97_71 rfl rfl rfl (e := 1) (by omega) (by omega) (by omega) (ls' := [some (.inr (.inl (some 264))), some (.inl h), some (.inl t), some (.inl n), some (.inl 1), some (.inl 1), some (.inl 5), some (.inl 1), some (.inl (MF m h 0 t)), some (.inl 1)]) rfl ?_
    refine r_goto f97_74 (t := 25) (by decide) ?_
    refine r_iload f97_25 rfl ?_
    refine r_iconst f97_27 rfl ?_
    refine r_cge f97_28 (t := 77) (by decide) (fun h => absurd h (by omega)) (fun _ => ?_)
    refine r_iload f97_31 rfl ?_
    refine r_iload f97_33 rfl ?_
    refine r_iload f97_35 rfl ?_
    refine r_ishr f97_37 (e := 2) (by decide) ?_
    refine r_iconst f97_38 rfl ?_
    refine r_iand f97_39 (e := 0) (by decide) ?_
    refine r_iadd f97_40 (e := 1) (by omega) (by omega) (by omega) ?_
    refine r_istore f97_41 rfl (ls' := [some (.inr (.inl (some 264))), some (.inl h), some (.inl t), some (.inl n), some (.inl 1), some (.inl 1), some (.inl 5), some (.inl 1), some (.inl (MF m h 0 t)), some (.inl 1)]) rfl ?_
    refine r_iload f97_43 rfl ?_
    refine r_iload f97_45 rfl ?_
    refine r_iload f97_47 rfl ?_
    refine r_ishr f97_49 (e := 2) (by decide) ?_
    refine r_iconst f97_50 rfl ?_
    refine r_iand f97_51 (e := 0) (by decide) ?_
    refine r_iconst f97_52 rfl ?_
    refine r_cne f97_53 (t := 67) (by decide) (fun _ => ?_) (fun h => absurd (by omega) h)
    refine r_iconst f97_67 rfl ?_
    refine r_iadd f97_68 (e := MF m h 0 t) (by omega) (by omega) (by omega) ?_
    refine r_istore f97_69 rfl (ls' := [some (.inr (.inl (some 264))), some (.inl h), some (.inl t), some (.inl n), some (.inl 1), some (.inl 1), some (.inl 5), some (.inl 1), some (.inl (MF m h 0 t)), some (.inl 1)]) rfl ?_
    refine r_iinc f97_71 rfl rfl rfl (e := 2) (by omega) (by omega) (by omega) (ls' := [some (.inr (.inl (some 264))), some (.inl h), some (.inl t), some (.inl n), some (.inl 1), some (.inl 1), some (.inl 5), some (.inl 1), some (.inl (MF m h 0 t)), some (.inl 2)]) rfl ?_
    refine r_goto f97_74 (t := 25) (by decide) ?_
    refine r_iload f97_25 rfl ?_
    refine r_iconst f97_27 rfl ?_
    refine r_cge f97_28 (t := 77) (by decide) (fun h => absurd h (by omega)) (fun _ => ?_)
    refine r_iload f97_31 rfl ?_
    refine r_iload f97_33 rfl ?_
    refine r_iload f97_35 rfl ?_
    refine r_ishr f97_37 (e := 1) (by decide) ?_
    refine r_iconst f97_38 rfl ?_
    refine r_iand f97_39 (e := 1) (by decide) ?_
    refine r_iadd f97_40 (e := 2) (by omega) (by omega) (by omega) ?_
    refine r_istore f97_41 rfl (ls' := [some (.inr (.inl (some 264))), some (.inl h), some (.inl t), some (.inl n), some (.inl 1), some (.inl 1), some (.inl 5), some (.inl 2), some (.inl (MF m h 0 t)), some (.inl 2)]) rfl ?_
    refine r_iload f97_43 rfl ?_
    refine r_iload f97_45 rfl ?_
    refine r_iload f97_47 rfl ?_
    refine r_ishr f97_49 (e := 1) (by decide) ?_
    refine r_iconst f97_50 rfl ?_
    refine r_iand f97_51 (e := 1) (by decide) ?_
    refine r_iconst f97_52 rfl ?_
    refine r_cne f97_53 (t := 67) (by decide) (fun h => absurd h (by omega)) (fun _ => ?_)
    refine r_aload_n f97_56 rfl ?_
    refine r_iload_n f97_57 rfl ?_
    refine r_iload f97_58 rfl ?_
    refine r_iload_n f97_60 rfl ?_
    refine r_callv3i (m' := m1) (v := MF m h 2 t) f97_61 o97 M7_108 p93 o93 kd264 rfl (by simp) (t_freeIn (m := m) ha hk (e := 2) h0 h1 (by omega) (by omega) t0 t1) ?_
    refine r_goto f97_64 (t := 68) (by decide) ?_
    refine r_iadd f97_68 (e := MF m h 0 t + MF m h 2 t) (by omega) (by omega) (by omega) ?_
    refine r_istore f97_69 rfl (ls' := [some (.inr (.inl (some 264))), some (.inl h), some (.inl t), some (.inl n), some (.inl 1), some (.inl 1), some (.inl 5), some (.inl 2), some (.inl (MF m h 0 t + MF m h 2 t)), some (.inl 2)]) rfl ?_
    refine r_iinc f97_71 rfl rfl rfl (e := 3) (by omega) (by omega) (by omega) (ls' := [some (.inr (.inl (some 264))), some (.inl h), some (.inl t), some (.inl n), some (.inl 1), some (.inl 1), some (.inl 5), some (.inl 2), some (.inl (MF m h 0 t + MF m h 2 t)), some (.inl 3)]) rfl ?_
    refine r_goto f97_74 (t := 25) (by decide) ?_
    refine r_iload f97_25 rfl ?_
    refine r_iconst f97_27 rfl ?_
    refine r_cge f97_28 (t := 77) (by decide) (fun _ => ?_) (fun h => absurd (by omega) h)
    refine skip77 (by omega) ?_
    refine r_iinc f97_98 rfl rfl rfl (e := 6) (by omega) (by omega) (by omega) (ls' := [some (.inr (.inl (some 264))), some (.inl h), some (.inl t), some (.inl n), some (.inl 1), some (.inl 1), some (.inl 6), some (.inl 2), some (.inl (MF m h 0 t + MF m h 2 t)), some (.inl 3)]) rfl ?_
    refine r_goto f97_101 (t := 9) (by decide) ?_
    refine r_iload f97_9 rfl ?_
    refine r_bipush f97_11 (by decide) ?_
    refine r_cge f97_13 (t := 104) (by decide) (fun h => absurd h (by omega)) (fun _ => ?_)
    refine r_iconst f97_16 rfl ?_
    refine r_istore f97_17 rfl (ls' := [some (.inr (.inl (some 264))), some (.inl h), some (.inl t), some (.inl n), some (.inl 1), some (.inl 1), some (.inl 6), some (.inl 0), some (.inl (MF m h 0 t + MF m h 2 t)), some (.inl 3)]) rfl ?_
    refine r_iconst f97_19 rfl ?_
    refine r_istore f97_20 rfl (ls' := [some (.inr (.inl (some 264))), some (.inl h), some (.inl t), some (.inl n), some (.inl 1), some (.inl 1), some (.inl 6), some (.inl 0), some (.inl 0), some (.inl 3)]) rfl ?_
    refine r_iconst f97_22 rfl ?_
    refine r_istore f97_23 rfl (ls' := [some (.inr (.inl (some 264))), some (.inl h), some (.inl t), some (.inl n), some (.inl 1), some (.inl 1), some (.inl 6), some (.inl 0), some (.inl 0), some (.inl 0)]) rfl ?_
    refine r_iload f97_25 rfl ?_
    refine r_iconst f97_27 rfl ?_
    refine r_cge f97_28 (t := 77) (by decide) (fun h => absurd h (by omega)) (fun _ => ?_)
    refine r_iload f97_31 rfl ?_
    refine r_iload f97_33 rfl ?_
    refine r_iload f97_35 rfl ?_
    refine r_ishr f97_37 (e := 6) (by decide) ?_
    refine r_iconst f97_38 rfl ?_
    refine r_iand f97_39 (e := 0) (by decide) ?_
    refine r_iadd f97_40 (e := 0) (by omega) (by omega) (by omega) ?_
    refine r_istore f97_41 rfl (ls' := [some (.inr (.inl (some 264))), some (.inl h), some (.inl t), some (.inl n), some (.inl 1), some (.inl 1), some (.inl 6), some (.inl 0), some (.inl 0), some (.inl 0)]) rfl ?_
    refine r_iload f97_43 rfl ?_
    refine r_iload f97_45 rfl ?_
    refine r_iload f97_47 rfl ?_
    refine r_ishr f97_49 (e := 6) (by decide) ?_
    refine r_iconst f97_50 rfl ?_
    refine r_iand f97_51 (e := 0) (by decide) ?_
    refine r_iconst f97_52 rfl ?_
    refine r_cne f97_53 (t := 67) (by decide) (fun _ => ?_) (fun h => absurd (by omega) h)
    refine r_iconst f97_67 rfl ?_
    refine r_iadd f97_68 (e := 0) (by omega) (by omega) (by omega) ?_
    refine r_istore f97_69 rfl (ls' := [some (.inr (.inl (some 264))), some (.inl h), some (.inl t), some (.inl n), some (.inl 1), some (.inl 1), some (.inl 6), some (.inl 0), some (.inl 0), some (.inl 0)]) rfl ?_
    refine r_iinc f97_71 rfl rfl rfl (e := 1) (by omega) (by omega) (by omega) (ls' := [some (.inr (.inl (some 264))), some (.inl h), some (.inl t), some (.inl n), some (.inl 1), some (.inl 1), some (.inl 6), some (.inl 0), some (.inl 0), some (.inl 1)]) rfl ?_
    refine r_goto f97_74 (t := 25) (by decide) ?_
    refine r_iload f97_25 rfl ?_
    refine r_iconst f97_27 rfl ?_
    refine r_cge f97_28 (t := 77) (by decide) (fun h => absurd h (by omega)) (fun _ => ?_)
    refine r_iload f97_31 rfl ?_
    refine r_iload f97_33 rfl ?_
    refine r_iload f97_35 rfl ?_
    refine r_ishr f97_37 (e := 3) (by decide) ?_
    refine r_iconst f97_38 rfl ?_
    refine r_iand f97_39 (e := 1) (by decide) ?_
    refine r_iadd f97_40 (e := 1) (by omega) (by omega) (by omega) ?_
    refine r_istore f97_41 rfl (ls' := [some (.inr (.inl (some 264))), some (.inl h), some (.inl t), some (.inl n), some (.inl 1), some (.inl 1), some (.inl 6), some (.inl 1), some (.inl 0), some (.inl 1)]) rfl ?_
    refine r_iload f97_43 rfl ?_
    refine r_iload f97_45 rfl ?_
    refine r_iload f97_47 rfl ?_
    refine r_ishr f97_49 (e := 3) (by decide) ?_
    refine r_iconst f97_50 rfl ?_
    refine r_iand f97_51 (e := 1) (by decide) ?_
    refine r_iconst f97_52 rfl ?_
    refine r_cne f97_53 (t := 67) (by decide) (fun h => absurd h (by omega)) (fun _ => ?_)
    refine r_aload_n f97_56 rfl ?_
    refine r_iload_n f97_57 rfl ?_
    refine r_iload f97_58 rfl ?_
    refine r_iload_n f97_60 rfl ?_
    refine r_callv3i (m' := m1) (v := MF m h 1 t) f97_61 o97 M7_108 p93 o93 kd264 rfl (by simp) (t_freeIn (m := m) ha hk (e := 1) h0 h1 (by omega) (by omega) t0 t1) ?_
    refine r_goto f97_64 (t := 68) (by decide) ?_
    refine r_iadd f97_68 (e := MF m h 1 t) (by omega) (by omega) (by omega) ?_
    refine r_istore f97_69 rfl (ls' := [some (.inr (.inl (some 264))), some (.inl h), some (.inl t), some (.inl n), some (.inl 1), some (.inl 1), some (.inl 6), some (.inl 1), some (.inl (MF m h 1 t)), some (.inl 1)]) rfl ?_
    refine r_iinc f97_71 rfl rfl rfl (e := 2) (by omega) (by omega) (by omega) (ls' := [some (.inr (.inl (some 264))), some (.inl h), some (.inl t), some (.inl n), some (.inl 1), some (.inl 1), some (.inl 6), some (.inl 1), some (.inl (MF m h 1 t)), some (.inl 2)]) rfl ?_
    refine r_goto f97_74 (t := 25) (by decide) ?_
    refine r_iload f97_25 rfl ?_
    refine r_iconst f97_27 rfl ?_
    refine r_cge f97_28 (t := 77) (by decide) (fun h => absurd h (by omega)) (fun _ => ?_)
    refine r_iload f97_31 rfl ?_
    refine r_iload f97_33 rfl ?_
    refine r_iload f97_35 rfl ?_
    refine r_ishr f97_37 (e := 1) (by decide) ?_
    refine r_iconst f97_38 rfl ?_
    refine r_iand f97_39 (e := 1) (by decide) ?_
    refine r_iadd f97_40 (e := 2) (by omega) (by omega) (by omega) ?_
    refine r_istore f97_41 rfl (ls' := [some (.inr (.inl (some 264))), some (.inl h), some (.inl t), some (.inl n), some (.inl 1), some (.inl 1), some (.inl 6), some (.inl 2), some (.inl (MF m h 1 t)), some (.inl 2)]) rfl ?_
    refine r_iload f97_43 rfl ?_
    refine r_iload f97_45 rfl ?_
    refine r_iload f97_47 rfl ?_
    refine r_ishr f97_49 (e := 1) (by decide) ?_
    refine r_iconst f97_50 rfl ?_
    refine r_iand f97_51 (e := 1) (by decide) ?_
    refine r_iconst f97_52 rfl ?_
    refine r_cne f97_53 (t := 67) (by decide) (fun h => absurd h (by omega)) (fun _ => ?_)
    refine r_aload_n f97_56 rfl ?_
    refine r_iload_n f97_57 rfl ?_
    refine r_iload f97_58 rfl ?_
    refine r_iload_n f97_60 rfl ?_
    refine r_callv3i (m' := m1) (v := MF m h 2 t) f97_61 o97 M7_108 p93 o93 kd264 rfl (by simp) (t_freeIn (m := m) ha hk (e := 2) h0 h1 (by omega) (by omega) t0 t1) ?_
    refine r_goto f97_64 (t := 68) (by decide) ?_
    refine r_iadd f97_68 (e := MF m h 1 t + MF m h 2 t) (by omega) (by omega) (by omega) ?_
    refine r_istore f97_69 rfl (ls' := [some (.inr (.inl (some 264))), some (.inl h), some (.inl t), some (.inl n), some (.inl 1), some (.inl 1), some (.inl 6), some (.inl 2), some (.inl (MF m h 1 t + MF m h 2 t)), some (.inl 2)]) rfl ?_
    refine r_iinc f97_71 rfl rfl rfl (e := 3) (by omega) (by omega) (by omega) (ls' := [some (.inr (.inl (some 264))), some (.inl h), some (.inl t), some (.inl n), some (.inl 1), some (.inl 1), some (.inl 6), some (.inl 2), some (.inl (MF m h 1 t + MF m h 2 t)), some (.inl 3)]) rfl ?_
    refine r_goto f97_74 (t := 25) (by decide) ?_
    refine r_iload f97_25 rfl ?_
    refine r_iconst f97_27 rfl ?_
    refine r_cge f97_28 (t := 77) (by decide) (fun _ => ?_) (fun h => absurd (by omega) h)
    refine skip77 (by omega) ?_
    refine r_iinc f97_98 rfl rfl rfl (e := 7) (by omega) (by omega) (by omega) (ls' := [some (.inr (.inl (some 264))), some (.inl h), some (.inl t), some (.inl n), some (.inl 1), some (.inl 1), some (.inl 7), some (.inl 2), some (.inl (MF m h 1 t + MF m h 2 t)), some (.inl 3)]) rfl ?_
    refine r_goto f97_101 (t := 9) (by decide) ?_
    refine r_iload f97_9 rfl ?_
    refine r_bipush f97_11 (by decide) ?_
    refine r_cge f97_13 (t := 104) (by decide) (fun h => absurd h (by omega)) (fun _ => ?_)
    refine r_iconst f97_16 rfl ?_
    refine r_istore f97_17 rfl (ls' := [some (.inr (.inl (some 264))), some (.inl h), some (.inl t), some (.inl n), some (.inl 1), some (.inl 1), some (.inl 7), some (.inl 0), some (.inl (MF m h 1 t + MF m h 2 t)), some (.inl 3)]) rfl ?_
    refine r_iconst f97_19 rfl ?_
    refine r_istore f97_20 rfl (ls' := [some (.inr (.inl (some 264))), some (.inl h), some (.inl t), some (.inl n), some (.inl 1), some (.inl 1), some (.inl 7), some (.inl 0), some (.inl 0), some (.inl 3)]) rfl ?_
    refine r_iconst f97_22 rfl ?_
    refine r_istore f97_23 rfl (ls' := [some (.inr (.inl (some 264))), some (.inl h), some (.inl t), some (.inl n), some (.inl 1), some (.inl 1), some (.inl 7), some (.inl 0), some (.inl 0), some (.inl 0)]) rfl ?_
    refine r_iload f97_25 rfl ?_
    refine r_iconst f97_27 rfl ?_
    refine r_cge f97_28 (t := 77) (by decide) (fun h => absurd h (by omega)) (fun _ => ?_)
    refine r_iload f97_31 rfl ?_
    refine r_iload f97_33 rfl ?_
    refine r_iload f97_35 rfl ?_
    refine r_ishr f97_37 (e := 7) (by decide) ?_
    refine r_iconst f97_38 rfl ?_
    refine r_iand f97_39 (e := 1) (by decide) ?_
    refine r_iadd f97_40 (e := 1) (by omega) (by omega) (by omega) ?_
    refine r_istore f97_41 rfl (ls' := [some (.inr (.inl (some 264))), some (.inl h), some (.inl t), some (.inl n), some (.inl 1), some (.inl 1), some (.inl 7), some (.inl 1), some (.inl 0), some (.inl 0)]) rfl ?_
    refine r_iload f97_43 rfl ?_
    refine r_iload f97_45 rfl ?_
    refine r_iload f97_47 rfl ?_
    refine r_ishr f97_49 (e := 7) (by decide) ?_
    refine r_iconst f97_50 rfl ?_
    refine r_iand f97_51 (e := 1) (by decide) ?_
    refine r_iconst f97_52 rfl ?_
    refine r_cne f97_53 (t := 67) (by decide) (fun h => absurd h (by omega)) (fun _ => ?_)
    refine r_aload_n f97_56 rfl ?_
    refine r_iload_n f97_57 rfl ?_
    refine r_iload f97_58 rfl ?_
    refine r_iload_n f97_60 rfl ?_
    refine r_callv3i (m' := m1) (v := MF m h 0 t) f97_61 o97 M7_108 p93 o93 kd264 rfl (by simp) (t_freeIn (m := m) ha hk (e := 0) h0 h1 (by omega) (by omega) t0 t1) ?_
    refine r_goto f97_64 (t := 68) (by decide) ?_
    refine r_iadd f97_68 (e := MF m h 0 t) (by omega) (by omega) (by omega) ?_
    refine r_istore f97_69 rfl (ls' := [some (.inr (.inl (some 264))), some (.inl h), some (.inl t), some (.inl n), some (.inl 1), some (.inl 1), some (.inl 7), some (.inl 1), some (.inl (MF m h 0 t)), some (.inl 0)]) rfl ?_
    refine r_iinc f97_71 rfl rfl rfl (e := 1) (by omega) (by omega) (by omega) (ls' := [some (.inr (.inl (some 264))), some (.inl h), some (.inl t), some (.inl n), some (.inl 1), some (.inl 1), some (.inl 7), some (.inl 1), some (.inl (MF m h 0 t)), some (.inl 1)]) rfl ?_
    refine r_goto f97_74 (t := 25) (by decide) ?_
    refine r_iload f97_25 rfl ?_
    refine r_iconst f97_27 rfl ?_
    refine r_cge f97_28 (t := 77) (by decide) (fun h => absurd h (by omega)) (fun _ => ?_)
    refine r_iload f97_31 rfl ?_
    refine r_iload f97_33 rfl ?_
    refine r_iload f97_35 rfl ?_
    refine r_ishr f97_37 (e := 3) (by decide) ?_
    refine r_iconst f97_38 rfl ?_
    refine r_iand f97_39 (e := 1) (by decide) ?_
    refine r_iadd f97_40 (e := 2) (by omega) (by omega) (by omega) ?_
    refine r_istore f97_41 rfl (ls' := [some (.inr (.inl (some 264))), some (.inl h), some (.inl t), some (.inl n), some (.inl 1), some (.inl 1), some (.inl 7), some (.inl 2), some (.inl (MF m h 0 t)), some (.inl 1)]) rfl ?_
    refine r_iload f97_43 rfl ?_
    refine r_iload f97_45 rfl ?_
    refine r_iload f97_47 rfl ?_
    refine r_ishr f97_49 (e := 3) (by decide) ?_
    refine r_iconst f97_50 rfl ?_
    refine r_iand f97_51 (e := 1) (by decide) ?_
    refine r_iconst f97_52 rfl ?_
    refine r_cne f97_53 (t := 67) (by decide) (fun h => absurd h (by omega)) (fun _ => ?_)
    refine r_aload_n f97_56 rfl ?_
    refine r_iload_n f97_57 rfl ?_
    refine r_iload f97_58 rfl ?_
    refine r_iload_n f97_60 rfl ?_
    refine r_callv3i (m' := m1) (v := MF m h 1 t) f97_61 o97 M7_108 p93 o93 kd264 rfl (by simp) (t_freeIn (m := m) ha hk (e := 1) h0 h1 (by omega) (by omega) t0 t1) ?_
    refine r_goto f97_64 (t := 68) (by decide) ?_
    refine r_iadd f97_68 (e := MF m h 0 t + MF m h 1 t) (by omega) (by omega) (by omega) ?_
    refine r_istore f97_69 rfl (ls' := [some (.inr (.inl (some 264))), some (.inl h), some (.inl t), some (.inl n), some (.inl 1), some (.inl 1), some (.inl 7), some (.inl 2), some (.inl (MF m h 0 t + MF m h 1 t)), some (.inl 1)]) rfl ?_
    refine r_iinc f97_71 rfl rfl rfl (e := 2) (by omega) (by omega) (by omega) (ls' := [some (.inr (.inl (some 264))), some (.inl h), some (.inl t), some (.inl n), some (.inl 1), some (.inl 1), some (.inl 7), some (.inl 2), some (.inl (MF m h 0 t + MF m h 1 t)), some (.inl 2)]) rfl ?_
    refine r_goto f97_74 (t := 25) (by decide) ?_
    refine r_iload f97_25 rfl ?_
    refine r_iconst f97_27 rfl ?_
    refine r_cge f97_28 (t := 77) (by decide) (fun h => absurd h (by omega)) (fun _ => ?_)
    refine r_iload f97_31 rfl ?_
    refine r_iload f97_33 rfl ?_
    refine r_iload f97_35 rfl ?_
    refine r_ishr f97_37 (e := 1) (by decide) ?_
    refine r_iconst f97_38 rfl ?_
    refine r_iand f97_39 (e := 1) (by decide) ?_
    refine r_iadd f97_40 (e := 3) (by omega) (by omega) (by omega) ?_
    refine r_istore f97_41 rfl (ls' := [some (.inr (.inl (some 264))), some (.inl h), some (.inl t), some (.inl n), some (.inl 1), some (.inl 1), some (.inl 7), some (.inl 3), some (.inl (MF m h 0 t + MF m h 1 t)), some (.inl 2)]) rfl ?_
    refine r_iload f97_43 rfl ?_
    refine r_iload f97_45 rfl ?_
    refine r_iload f97_47 rfl ?_
    refine r_ishr f97_49 (e := 1) (by decide) ?_
    refine r_iconst f97_50 rfl ?_
    refine r_iand f97_51 (e := 1) (by decide) ?_
    refine r_iconst f97_52 rfl ?_
    refine r_cne f97_53 (t := 67) (by decide) (fun h => absurd h (by omega)) (fun _ => ?_)
    refine r_aload_n f97_56 rfl ?_
    refine r_iload_n f97_57 rfl ?_
    refine r_iload f97_58 rfl ?_
    refine r_iload_n f97_60 rfl ?_
    refine r_callv3i (m' := m1) (v := MF m h 2 t) f97_61 o97 M7_108 p93 o93 kd264 rfl (by simp) (t_freeIn (m := m) ha hk (e := 2) h0 h1 (by omega) (by omega) t0 t1) ?_
    refine r_goto f97_64 (t := 68) (by decide) ?_
    refine r_iadd f97_68 (e := MF m h 0 t + MF m h 1 t + MF m h 2 t) (by omega) (by omega) (by omega) ?_
    refine r_istore f97_69 rfl (ls' := [some (.inr (.inl (some 264))), some (.inl h), some (.inl t), some (.inl n), some (.inl 1), some (.inl 1), some (.inl 7), some (.inl 3), some (.inl (MF m h 0 t + MF m h 1 t + MF m h 2 t)), some (.inl 2)]) rfl ?_
    refine r_iinc f97_71 rfl rfl rfl (e := 3) (by omega) (by omega) (by omega) (ls' := [some (.inr (.inl (some 264))), some (.inl h), some (.inl t), some (.inl n), some (.inl 1), some (.inl 1), some (.inl 7), some (.inl 3), some (.inl (MF m h 0 t + MF m h 1 t + MF m h 2 t)), some (.inl 3)]) rfl ?_
    refine r_goto f97_74 (t := 25) (by decide) ?_
    refine r_iload f97_25 rfl ?_
    refine r_iconst f97_27 rfl ?_
    refine r_cge f97_28 (t := 77) (by decide) (fun _ => ?_) (fun h => absurd (by omega) h)
    refine skip77 (by omega) ?_
    refine r_iinc f97_98 rfl rfl rfl (e := 8) (by omega) (by omega) (by omega) (ls' := [some (.inr (.inl (some 264))), some (.inl h), some (.inl t), some (.inl n), some (.inl 1), some (.inl 1), some (.inl 8), some (.inl 3), some (.inl (MF m h 0 t + MF m h 1 t + MF m h 2 t)), some (.inl 3)]) rfl ?_
    refine r_goto f97_101 (t := 9) (by decide) ?_
    refine r_iload f97_9 rfl ?_
    refine r_bipush f97_11 (by decide) ?_
    refine r_cge f97_13 (t := 104) (by decide) (fun _ => ?_) (fun h => absurd (by omega) h)
    refine r_iload_n f97_104 rfl ?_
    refine r_istore f97_105 rfl (ls' := [some (.inr (.inl (some 264))), some (.inl h), some (.inl t), some (.inl n), some (.inl 1), some (.inl 1), some (.inl n), some (.inl 3), some (.inl (MF m h 0 t + MF m h 1 t + MF m h 2 t)), some (.inl 3)]) rfl ?_
    refine r_iconst f97_107 rfl ?_
    refine r_istore f97_108 rfl (ls' := [some (.inr (.inl (some 264))), some (.inl h), some (.inl t), some (.inl n), some (.inl 1), some (.inl 1), some (.inl n), some (.inl 0), some (.inl (MF m h 0 t + MF m h 1 t + MF m h 2 t)), some (.inl 3)]) rfl ?_
    refine r_iload f97_110 rfl ?_
    refine r_iconst f97_112 rfl ?_
    refine r_cge f97_113 (t := 180) (by decide) (fun h => absurd h (by omega)) (fun _ => ?_)
    refine r_iload f97_116 rfl ?_
    refine r_iload f97_118 rfl ?_
    refine r_ishr f97_120 (e := 1) (by decide) ?_
    refine r_iconst f97_121 rfl ?_
    refine r_iand f97_122 (e := 1) (by decide) ?_
    refine r_iconst f97_123 rfl ?_
    refine r_cne f97_124 (t := 138) (by decide) (fun h => absurd h (by omega)) (fun _ => ?_)
    refine r_aload_n f97_127 rfl ?_
    refine r_iload_n f97_128 rfl ?_
    refine r_iload f97_129 rfl ?_
    refine r_iload_n f97_131 rfl ?_
    refine r_callv3i (m' := m1) (v := MF m h 0 t) f97_132 o97 M7_108 p93 o93 kd264 rfl (by simp) (t_freeIn (m := m) ha hk (e := 0) h0 h1 (by omega) (by omega) t0 t1) ?_
    refine r_goto f97_135 (t := 139) (by decide) ?_
    refine r_istore f97_139 rfl (ls' := [some (.inr (.inl (some 264))), some (.inl h), some (.inl t), some (.inl n), some (.inl 1), some (.inl 1), some (.inl n), some (.inl 0), some (.inl (MF m h 0 t)), some (.inl 3)]) rfl ?_
    refine r_aload_n f97_141 rfl ?_
    refine r_getR f97_142 o97 F7_59 g264_21 rfl ?_
    refine r_iload f97_145 rfl ?_
    refine r_iload f97_147 rfl ?_
    refine r_iload f97_149 rfl ?_
    refine r_cge f97_151 (t := 159) (by decide) (fun _ => ?_) (fun h => absurd (by omega) h)
    refine r_iload f97_159 rfl ?_
    refine r_iast f97_161 kd281 (by omega) (by omega) (by omega) ?_
    refine r_iload f97_162 rfl ?_
    refine r_aload_n f97_164 rfl ?_
    refine r_getR f97_165 o97 F7_59 g264_21 rfl ?_
    refine r_iload f97_168 rfl ?_
    refine r_iald f97_170 kd281 (by omega) (by omega) ?_
    refine r_top (e := n) (by rw [zu_if, if_pos (by omega)]) ?_
    refine r_isub f97_171 (e := 0) (by omega) (by omega) (by omega) ?_
    refine r_istore f97_172 rfl (ls' := [some (.inr (.inl (some 264))), some (.inl h), some (.inl t), some (.inl n), some (.inl 1), some (.inl 1), some (.inl 0), some (.inl 0), some (.inl (MF m h 0 t)), some (.inl 3)]) rfl ?_
    refine r_iinc f97_174 rfl rfl rfl (e := 1) (by omega) (by omega) (by omega) (ls' := [some (.inr (.inl (some 264))), some (.inl h), some (.inl t), some (.inl n), some (.inl 1), some (.inl 1), some (.inl 0), some (.inl 1), some (.inl (MF m h 0 t)), some (.inl 3)]) rfl ?_
    refine r_goto f97_177 (t := 110) (by decide) ?_
    refine r_iload f97_110 rfl ?_
    refine r_iconst f97_112 rfl ?_
    refine r_cge f97_113 (t := 180) (by decide) (fun h => absurd h (by omega)) (fun _ => ?_)
    refine r_iload f97_116 rfl ?_
    refine r_iload f97_118 rfl ?_
    refine r_ishr f97_120 (e := 0) (by decide) ?_
    refine r_iconst f97_121 rfl ?_
    refine r_iand f97_122 (e := 0) (by decide) ?_
    refine r_iconst f97_123 rfl ?_
    refine r_cne f97_124 (t := 138) (by decide) (fun _ => ?_) (fun h => absurd (by omega) h)
    refine r_iconst f97_138 rfl ?_
    refine r_istore f97_139 rfl (ls' := [some (.inr (.inl (some 264))), some (.inl h), some (.inl t), some (.inl n), some (.inl 1), some (.inl 1), some (.inl 0), some (.inl 1), some (.inl 0), some (.inl 3)]) rfl ?_
    refine r_aload_n f97_141 rfl ?_
    refine r_getR f97_142 o97 F7_59 g264_21 rfl ?_
    refine r_iload f97_145 rfl ?_
    refine r_iload f97_147 rfl ?_
    refine r_iload f97_149 rfl ?_
    refine r_cge f97_151 (t := 159) (by decide) (fun _ => ?_) (fun h => absurd (by omega) h)
    refine r_iload f97_159 rfl ?_
    refine r_iast f97_161 kd281 (by omega) (by omega) (by omega) ?_
    refine r_iload f97_162 rfl ?_
    refine r_aload_n f97_164 rfl ?_
    refine r_getR f97_165 o97 F7_59 g264_21 rfl ?_
    refine r_iload f97_168 rfl ?_
    refine r_iald f97_170 kd281 (by omega) (by omega) ?_
    refine r_top (e := 0) (by rw [zu_if, if_pos (by omega)]) ?_
    refine r_isub f97_171 (e := 0) (by omega) (by omega) (by omega) ?_
    refine r_istore f97_172 rfl (ls' := [some (.inr (.inl (some 264))), some (.inl h), some (.inl t), some (.inl n), some (.inl 1), some (.inl 1), some (.inl 0), some (.inl 1), some (.inl 0), some (.inl 3)]) rfl ?_
    refine r_iinc f97_174 rfl rfl rfl (e := 2) (by omega) (by omega) (by omega) (ls' := [some (.inr (.inl (some 264))), some (.inl h), some (.inl t), some (.inl n), some (.inl 1), some (.inl 1), some (.inl 0), some (.inl 2), some (.inl 0), some (.inl 3)]) rfl ?_
    refine r_goto f97_177 (t := 110) (by decide) ?_
    refine r_iload f97_110 rfl ?_
    refine r_iconst f97_112 rfl ?_
    refine r_cge f97_113 (t := 180) (by decide) (fun h => absurd h (by omega)) (fun _ => ?_)
    refine r_iload f97_116 rfl ?_
    refine r_iload f97_118 rfl ?_
    refine r_ishr f97_120 (e := 0) (by decide) ?_
    refine r_iconst f97_121 rfl ?_
    refine r_iand f97_122 (e := 0) (by decide) ?_
    refine r_iconst f97_123 rfl ?_
    refine r_cne f97_124 (t := 138) (by decide) (fun _ => ?_) (fun h => absurd (by omega) h)
    refine r_iconst f97_138 rfl ?_
    refine r_istore f97_139 rfl (ls' := [some (.inr (.inl (some 264))), some (.inl h), some (.inl t), some (.inl n), some (.inl 1), some (.inl 1), some (.inl 0), some (.inl 2), some (.inl 0), some (.inl 3)]) rfl ?_
    refine r_aload_n f97_141 rfl ?_
    refine r_getR f97_142 o97 F7_59 g264_21 rfl ?_
    refine r_iload f97_145 rfl ?_
    refine r_iload f97_147 rfl ?_
    refine r_iload f97_149 rfl ?_
    refine r_cge f97_151 (t := 159) (by decide) (fun _ => ?_) (fun h => absurd (by omega) h)
    refine r_iload f97_159 rfl ?_
    refine r_iast f97_161 kd281 (by omega) (by omega) (by omega) ?_
    refine r_iload f97_162 rfl ?_
    refine r_aload_n f97_164 rfl ?_
    refine r_getR f97_165 o97 F7_59 g264_21 rfl ?_
    refine r_iload f97_168 rfl ?_
    refine r_iald f97_170 kd281 (by omega) (by omega) ?_
    refine r_top (e := 0) (by rw [zu_if, if_pos (by omega)]) ?_
    refine r_isub f97_171 (e := 0) (by omega) (by omega) (by omega) ?_
    refine r_istore f97_172 rfl (ls' := [some (.inr (.inl (some 264))), some (.inl h), some (.inl t), some (.inl n), some (.inl 1), some (.inl 1), some (.inl 0), some (.inl 2), some (.inl 0), some (.inl 3)]) rfl ?_
    refine r_iinc f97_174 rfl rfl rfl (e := 3) (by omega) (by omega) (by omega) (ls' := [some (.inr (.inl (some 264))), some (.inl h), some (.inl t), some (.inl n), some (.inl 1), some (.inl 1), some (.inl 0), some (.inl 3), some (.inl 0), some (.inl 3)]) rfl ?_
    refine r_goto f97_177 (t := 110) (by decide) ?_
    refine r_iload f97_110 rfl ?_
    refine r_iconst f97_112 rfl ?_
    refine r_cge f97_113 (t := 180) (by decide) (fun _ => ?_) (fun h => absurd (by omega) h)
    exact r_vret f97_180 v97 ⟨rfl, by unfold MPt; rw [show zsh0 (MF m h 0 t) (MF m h 1 t) (MF m h 2 t) n = n from by unfold zsh0; (repeat (first | rw [if_pos (by omega)] | rw [if_neg (by omega)])); try omega, show zsh1 (MF m h 0 t) (MF m h 1 t) (MF m h 2 t) n = 0 from by unfold zsh1; (repeat (first | rw [if_pos (by omega)] | rw [if_neg (by omega)])); try omega, show zsh2 (MF m h 0 t) (MF m h 1 t) (MF m h 2 t) n = 0 from by unfold zsh2; (repeat (first | rw [if_pos (by omega)] | rw [if_neg (by omega)])); try omega]⟩
theorem t_takesOut {L d : Nat} {m : zmem} {c i : Int} (c0 : 0 ≤ c) (c1 : c < 40) (i0 : 0 ≤ i) (i1 : i < 7) : zF L (d) 99 [.inr (.inl (some 264)), .inl c, .inl i] m none (zu m 276 (7 * c + i) 0) := by
  refine zF_of n99 (ls := [some (.inr (.inl (some 264))), some (.inl c), some (.inl i)]) rfl ?_
  refine r_aload_n f99_0 rfl ?_
  refine r_getR f99_1 o99 F7_44 g264_16 rfl ?_
  refine r_bipush f99_4 (by decide) ?_
  refine r_iload_n f99_6 rfl ?_
  refine r_imul f99_7 (e := 7 * c) (by omega) (by omega) (by omega) ?_
  refine r_iload_n f99_8 rfl ?_
  refine r_iadd f99_9 (e := 7 * c + i) (by omega) (by omega) (by omega) ?_
  refine r_iconst f99_10 rfl ?_
  refine r_bast f99_11 kd276 (by omega) (by omega) (by omega) (by omega) ?_
  exact r_vret f99_12 v99 ⟨rfl, rfl⟩

