abbrev MLs (m1 m : zmem) (c i : Int) : zmem := (zu (zu (zu (zu (MPt m1 m (m 274 (7 * c + i)) (i + m 272 c) (m 271 c)) 276 (7 * c + i) 1) 277 (21 * c + 3 * i) (zsh0 (MF m (m 274 (7 * c + i)) 0 (i + m 272 c)) (MF m (m 274 (7 * c + i)) 1 (i + m 272 c)) (MF m (m 274 (7 * c + i)) 2 (i + m 272 c)) (m 271 c))) 277 (21 * c + 3 * i + 1) (zsh1 (MF m (m 274 (7 * c + i)) 0 (i + m 272 c)) (MF m (m 274 (7 * c + i)) 1 (i + m 272 c)) (MF m (m 274 (7 * c + i)) 2 (i + m 272 c)) (m 271 c))) 277 (21 * c + 3 * i + 2) (zsh2 (MF m (m 274 (7 * c + i)) 0 (i + m 272 c)) (MF m (m 274 (7 * c + i)) 1 (i + m 272 c)) (MF m (m 274 (7 * c + i)) 2 (i + m 272 c)) (m 271 c)))
theorem tN_lays {L d : Nat} {m1 m : zmem} (ha : zan m1 m) (hk : MOk m) (hr : MRng m) {c i : Int} (c0 : 0 ≤ c) (c1 : c < 40) (i0 : 0 ≤ i) (i1 : i < 7) (w0 : 0 ≤ m 274 (7 * c + i)) (w1 : m 274 (7 * c + i) < m 264 0) (t0 : 0 ≤ i + m 272 c) (t1 : i + m 272 c < 40) (n0 : 1 ≤ m 271 c) (n1 : m 271 c ≤ MF m (m 274 (7 * c + i)) 0 (i + m 272 c) + MF m (m 274 (7 * c + i)) 1 (i + m 272 c) + MF m (m 274 (7 * c + i)) 2 (i + m 272 c)) : zF L (d + 4) 98 [.inr (.inl (some 264)), .inl c, .inl i] m1 none (MLs m1 m c i) := by
  have kk := hk.2.1
  have kc := hk.2.2.1 c c0 c1
  have hr0 := hr (m 274 (7 * c + i)) 0 (i + m 272 c) w0 w1 (by omega) (by omega) t0 t1
  have hr1 := hr (m 274 (7 * c + i)) 1 (i + m 272 c) w0 w1 (by omega) (by omega) t0 t1
  have hr2 := hr (m 274 (7 * c + i)) 2 (i + m 272 c) w0 w1 (by omega) (by omega) t0 t1
  refine zF_of n98 (ls := [some (.inr (.inl (some 264))), some (.inl c), some (.inl i), none, none]) rfl ?_
  refine r_bipush f98_0 (by decide) ?_
  refine r_iload_n f98_2 rfl ?_
  refine r_imul f98_3 (e := 7 * c) (by omega) (by omega) (by omega) ?_
  refine r_iload_n f98_4 rfl ?_
  refine r_iadd f98_5 (e := 7 * c + i) (by omega) (by omega) (by omega) ?_
  refine r_istore_n f98_6 rfl (ls' := [some (.inr (.inl (some 264))), some (.inl c), some (.inl i), some (.inl (7 * c + i)), none]) rfl ?_
  refine r_aload_n f98_7 rfl ?_
  refine r_aload_n f98_8 rfl ?_
  refine r_getR f98_9 o98 F7_38 g264_14 rfl ?_
  refine r_iload_n f98_12 rfl ?_
  refine r_iald f98_13 kd274 (by omega) (by omega) ?_
  refine r_top (e := m 274 (7 * c + i)) (zan_f ha (by omega) (by omega) (by omega) _) ?_
  refine r_aload_n f98_14 rfl ?_
  refine r_getR f98_15 o98 F7_32 g264_12 rfl ?_
  refine r_iload_n f98_18 rfl ?_
  refine r_iald f98_19 kd272 (by omega) (by omega) ?_
  refine r_top (e := m 272 c) (zan_f ha (by omega) (by omega) (by omega) _) ?_
  refine r_iload_n f98_20 rfl ?_
  refine r_iadd f98_21 (e := i + m 272 c) (by omega) (by omega) (by omega) ?_
  refine r_aload_n f98_22 rfl ?_
  refine r_getR f98_23 o98 F7_29 g264_11 rfl ?_
  refine r_iload_n f98_26 rfl ?_
  refine r_iald f98_27 kd271 (by omega) (by omega) ?_
  refine r_top (e := m 271 c) (zan_f ha (by omega) (by omega) (by omega) _) ?_
  refine r_callv3u (m' := (MPt m1 m (m 274 (7 * c + i)) (i + m 272 c) (m 271 c))) f98_28 o98 M7_118 p97 o97 kd264 rfl (by simp) (t_parts ha hk (h := m 274 (7 * c + i)) (t := (i + m 272 c)) (n := (m 271 c)) (by omega) (by omega) (by omega) (by omega) hr0.1 hr0.2 hr1.1 hr1.2 hr2.1 hr2.2 (by omega) (by omega)) ?_
  refine r_aload_n f98_31 rfl ?_
  refine r_getR f98_32 o98 F7_44 g264_16 rfl ?_
  refine r_iload_n f98_35 rfl ?_
  refine r_iconst f98_36 rfl ?_
  refine r_bast f98_37 kd276 (by omega) (by omega) (by omega) (by omega) ?_
  refine r_iconst f98_38 rfl ?_
  refine r_istore f98_39 rfl (ls' := [some (.inr (.inl (some 264))), some (.inl c), some (.inl i), some (.inl (7 * c + i)), some (.inl 0)]) rfl ?_
  refine r_iload f98_41 rfl ?_
  refine r_iconst f98_43 rfl ?_
  refine r_cge f98_44 (t := 71) (by decide) (fun h => absurd h (by omega)) (fun _ => ?_)
  refine r_aload_n f98_47 rfl ?_
  refine r_getR f98_48 o98 F7_47 g264_17 rfl ?_
  refine r_iconst f98_51 rfl ?_
  refine r_iload_n f98_52 rfl ?_
  refine r_imul f98_53 (e := 21 * c + 3 * i) (by omega) (by omega) (by omega) ?_
  refine r_iload f98_54 rfl ?_
  refine r_iadd f98_56 (e := 21 * c + 3 * i) (by omega) (by omega) (by omega) ?_
  refine r_aload_n f98_57 rfl ?_
  refine r_getR f98_58 o98 F7_59 g264_21 rfl ?_
  refine r_iload f98_61 rfl ?_
  refine r_iald f98_63 kd281 (by omega) (by omega) ?_
  refine r_top (e := zsh0 (MF m (m 274 (7 * c + i)) 0 (i + m 272 c)) (MF m (m 274 (7 * c + i)) 1 (i + m 272 c)) (MF m (m 274 (7 * c + i)) 2 (i + m 272 c)) (m 271 c)) (by unfold MPt; (repeat (first | rw [zu_ne (by omega)] | rw [zu_ne2 (by omega)] | rw [zu_if, if_pos (by omega)]))) ?_
  refine r_iast f98_64 kd277 (by omega) (by omega) (by omega) ?_
  refine r_iinc f98_65 rfl rfl rfl (e := 1) (by omega) (by omega) (by omega) (ls' := [some (.inr (.inl (some 264))), some (.inl c), some (.inl i), some (.inl (7 * c + i)), some (.inl 1)]) rfl ?_
  refine r_goto f98_68 (t := 41) (by decide) ?_
  refine r_iload f98_41 rfl ?_
  refine r_iconst f98_43 rfl ?_
  refine r_cge f98_44 (t := 71) (by decide) (fun h => absurd h (by omega)) (fun _ => ?_)
  refine r_aload_n f98_47 rfl ?_
  refine r_getR f98_48 o98 F7_47 g264_17 rfl ?_
  refine r_iconst f98_51 rfl ?_
  refine r_iload_n f98_52 rfl ?_
  refine r_imul f98_53 (e := 21 * c + 3 * i) (by omega) (by omega) (by omega) ?_
  refine r_iload f98_54 rfl ?_
  refine r_iadd f98_56 (e := 21 * c + 3 * i + 1) (by omega) (by omega) (by omega) ?_
  refine r_aload_n f98_57 rfl ?_
  refine r_getR f98_58 o98 F7_59 g264_21 rfl ?_
  refine r_iload f98_61 rfl ?_
  refine r_iald f98_63 kd281 (by omega) (by omega) ?_
  refine r_top (e := zsh1 (MF m (m 274 (7 * c + i)) 0 (i + m 272 c)) (MF m (m 274 (7 * c + i)) 1 (i + m 272 c)) (MF m (m 274 (7 * c + i)) 2 (i + m 272 c)) (m 271 c)) (by unfold MPt; (repeat (first | rw [zu_ne (by omega)] | rw [zu_ne2 (by omega)] | rw [zu_if, if_pos (by omega)]))) ?_
  refine r_iast f98_64 kd277 (by omega) (by omega) (by omega) ?_
  refine r_iinc f98_65 rfl rfl rfl (e := 2) (by omega) (by omega) (by omega) (ls' := [some (.inr (.inl (some 264))), some (.inl c), some (.inl i), some (.inl (7 * c + i)), some (.inl 2)]) rfl ?_
  refine r_goto f98_68 (t := 41) (by decide) ?_
  refine r_iload f98_41 rfl ?_
  refine r_iconst f98_43 rfl ?_
  refine r_cge f98_44 (t := 71) (by decide) (fun h => absurd h (by omega)) (fun _ => ?_)
  refine r_aload_n f98_47 rfl ?_
  refine r_getR f98_48 o98 F7_47 g264_17 rfl ?_
  refine r_iconst f98_51 rfl ?_
  refine r_iload_n f98_52 rfl ?_
  refine r_imul f98_53 (e := 21 * c + 3 * i) (by omega) (by omega) (by omega) ?_
  refine r_iload f98_54 rfl ?_
  refine r_iadd f98_56 (e := 21 * c + 3 * i + 2) (by omega) (by omega) (by omega) ?_
  refine r_aload_n f98_57 rfl ?_
  refine r_getR f98_58 o98 F7_59 g264_21 rfl ?_
  refine r_iload f98_61 rfl ?_
  refine r_iald f98_63 kd281 (by omega) (by omega) ?_
  refine r_top (e := zsh2 (MF m (m 274 (7 * c + i)) 0 (i + m 272 c)) (MF m (m 274 (7 * c + i)) 1 (i + m 272 c)) (MF m (m 274 (7 * c + i)) 2 (i + m 272 c)) (m 271 c)) (by unfold MPt; (repeat (first | rw [zu_ne (by omega)] | rw [zu_ne2 (by omega)] | rw [zu_if, if_pos (by omega)]))) ?_
  refine r_iast f98_64 kd277 (by omega) (by omega) (by omega) ?_
  refine r_iinc f98_65 rfl rfl rfl (e := 3) (by omega) (by omega) (by omega) (ls' := [some (.inr (.inl (some 264))), some (.inl c), some (.inl i), some (.inl (7 * c + i)), some (.inl 3)]) rfl ?_
  refine r_goto f98_68 (t := 41) (by decide) ?_
  refine r_iload f98_41 rfl ?_
  refine r_iconst f98_43 rfl ?_
  refine r_cge f98_44 (t := 71) (by decide) (fun _ => ?_) (fun h => absurd (by omega) h)
  exact r_vret f98_71 v98 ⟨rfl, rfl⟩

