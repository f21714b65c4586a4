theorem l_worker {L d : Nat} {m : zmem} {b : zmem} (e264 : m 264 = b 264) (e271 : m 271 = b 271) (e272 : m 272 = b 272) (e273 : m 273 = b 273) (e274 : m 274 = b 274) (e280 : m 280 = b 280) {h : Int} {D : Int → Int} (n0 : 0 ≤ b 264 10) (n1 : b 264 10 ≤ 40) (w0 : 0 ≤ b 264 9) (w1 : b 264 9 ≤ 39) (hR : ∀ c, 0 ≤ c → c < 40 → (0 ≤ b 272 c ∧ b 272 c ≤ 39) ∧ (0 ≤ b 273 c ∧ b 273 c ≤ 7)) (hsz : ∀ c, 0 ≤ c → c < 40 → 0 ≤ b 271 c ∧ b 271 c ≤ 12) (hD : ∀ c, 0 ≤ c → c < 40 → m 279 c = D c ∧ 0 ≤ D c ∧ D c ≤ 400)  {Q : Option zV → zM → Prop} (hx : zR (d + 2) 126 91 [some (.inr (.inl (some 264))), some (.inl h), some (.inl (zfd (zstW (MW b h) (b 271) D) (-1) (b 264 10))), some (.inl (b 264 10)), none] [] (zem L m) Q) : ∀ (n : Nat) (i : Int), 0 ≤ i → i + n = b 264 10 → zR (d + 2) 126 4 [some (.inr (.inl (some 264))), some (.inl h), some (.inl (zfd (zstW (MW b h) (b 271) D) (-1) i)), some (.inl i), none] [] (zem L m) Q := by
  intro n
  induction n with
  | zero =>
    intro i hi hn
    have ei : i = b 264 10 := by omega
    rw [ei]
    refine r_iload_n f126_4 rfl ?_
    refine r_aload_n f126_5 rfl ?_
    refine r_getI f126_6 o126 F7_94 g264_10 rfl ?_
    refine r_top (e := b 264 10) (congrFun e264 _) ?_
    refine r_cge f126_9 (t := 91) (by decide) (fun _ => ?_) (fun h => absurd (by omega) h)
    exact hx
  | succ n ih =>
    intro i hi hn
    have hb := zfd_in (f := zstW (MW b h) (b 271) D) (i := i) (zstW_two _ _ _) hi
    have r1 := hR i (by omega) (by omega)
    have si := hsz i (by omega) (by omega)
    have di := hD i (by omega) (by omega)
    refine r_iload_n f126_4 rfl ?_
    refine r_aload_n f126_5 rfl ?_
    refine r_getI f126_6 o126 F7_94 g264_10 rfl ?_
    refine r_top (e := b 264 10) (congrFun e264 _) ?_
    refine r_cge f126_9 (t := 91) (by decide) (fun h => absurd h (by omega)) (fun _ => ?_)
    refine r_aload_n f126_12 rfl ?_
    refine r_iload_n f126_13 rfl ?_
    refine r_aload_n f126_14 rfl ?_
    refine r_getI f126_15 o126 F7_122 g264_9 rfl ?_
    refine r_top (e := b 264 9) (congrFun e264 _) ?_
    have gp := t_placeOf (L := L) (d := d) (m := m) (c := i) (t := b 264 9) (by omega) (by omega) (by rw [e272]; omega) (by rw [e272]; omega) (by rw [e273]; omega) (by rw [e273]; omega) (by omega) (by omega)
    unfold MH at gp
    rw [e272, e273] at gp
    refine r_callv2i (m' := m) (v := if (0 ≤ b 264 9 - b 272 i ∧ b 264 9 - b 272 i < b 273 i) then 7 * i + b 264 9 - b 272 i else -1) f126_18 o126 M7_104 p92 o92 kd264 rfl (by simp) gp ?_
    refine r_ite (fun q1 => ?_) (fun q1 => ?_)
    · refine r_istore f126_21 rfl (ls' := [some (.inr (.inl (some 264))), some (.inl h), some (.inl (zfd (zstW (MW b h) (b 271) D) (-1) i)), some (.inl i), some (.inl (7 * i + b 264 9 - b 272 i))]) rfl ?_
      refine r_iload f126_23 rfl ?_
      refine r_iconst f126_25 rfl ?_
      refine r_ceq f126_26 (t := 85) (by decide) (fun h => absurd h (by omega)) (fun _ => ?_)
      refine r_aload_n f126_29 rfl ?_
      refine r_getR f126_30 o126 F7_56 g264_20 rfl ?_
      refine r_iload_n f126_33 rfl ?_
      refine r_bald f126_34 kd280 (by omega) (by omega) ?_
      refine r_top (e := b 280 i) (congrFun e280 _) ?_
      refine r_zeq f126_35 (t := 85) (by decide) (fun q2 => ?_) (fun q2 => ?_)
      · refine r_iinc f126_85 rfl rfl rfl (e := i + 1) (by omega) (by omega) (by omega) (ls' := [some (.inr (.inl (some 264))), some (.inl h), some (.inl (zfd (zstW (MW b h) (b 271) D) (-1) i)), some (.inl (i + 1)), some (.inl (7 * i + b 264 9 - b 272 i))]) rfl ?_
        refine r_goto f126_88 (t := 4) (by decide) ?_
        refine r_forget (ls' := [some (.inr (.inl (some 264))), some (.inl h), some (.inl (zfd (zstW (MW b h) (b 271) D) (-1) i)), some (.inl (i + 1)), none]) ⟨Or.inl rfl, ⟨Or.inl rfl, ⟨Or.inl rfl, ⟨Or.inl rfl, ⟨Or.inr ⟨rfl, rfl⟩, trivial⟩⟩⟩⟩⟩ ?_
        refine r_setI (k := 2) (a := zfd (zstW (MW b h) (b 271) D) (-1) i) (e := zfd (zstW (MW b h) (b 271) D) (-1) (i + 1)) (by rw [zfd_s (by omega)]; first | exact (if_pos ⟨⟨by omega, by omega, by omega⟩, by omega⟩).symm | exact (if_neg (fun x => by have x1 := x.1.1; have x2 := x.1.2.1; have x3 := x.1.2.2; have x4 := x.2; omega)).symm) rfl (ls' := [some (.inr (.inl (some 264))), some (.inl h), some (.inl (zfd (zstW (MW b h) (b 271) D) (-1) (i + 1))), some (.inl (i + 1)), none]) rfl ?_
        exact ih (i + 1) (by omega) (by omega)
      · refine r_aload_n f126_38 rfl ?_
        refine r_getR f126_39 o126 F7_38 g264_14 rfl ?_
        refine r_iload f126_42 rfl ?_
        refine r_iald f126_44 kd274 (by omega) (by omega) ?_
        refine r_top (e := b 274 (7 * i + b 264 9 - b 272 i)) (congrFun e274 _) ?_
        refine r_iload_n f126_45 rfl ?_
        refine r_cne f126_46 (t := 85) (by decide) (fun q3 => ?_) (fun q3 => ?_)
        · refine r_iinc f126_85 rfl rfl rfl (e := i + 1) (by omega) (by omega) (by omega) (ls' := [some (.inr (.inl (some 264))), some (.inl h), some (.inl (zfd (zstW (MW b h) (b 271) D) (-1) i)), some (.inl (i + 1)), some (.inl (7 * i + b 264 9 - b 272 i))]) rfl ?_
          refine r_goto f126_88 (t := 4) (by decide) ?_
          refine r_forget (ls' := [some (.inr (.inl (some 264))), some (.inl h), some (.inl (zfd (zstW (MW b h) (b 271) D) (-1) i)), some (.inl (i + 1)), none]) ⟨Or.inl rfl, ⟨Or.inl rfl, ⟨Or.inl rfl, ⟨Or.inl rfl, ⟨Or.inr ⟨rfl, rfl⟩, trivial⟩⟩⟩⟩⟩ ?_
          refine r_setI (k := 2) (a := zfd (zstW (MW b h) (b 271) D) (-1) i) (e := zfd (zstW (MW b h) (b 271) D) (-1) (i + 1)) (by rw [zfd_s (by omega)]; first | exact (if_pos ⟨⟨by omega, by omega, by omega⟩, by omega⟩).symm | exact (if_neg (fun x => by have x1 := x.1.1; have x2 := x.1.2.1; have x3 := x.1.2.2; have x4 := x.2; omega)).symm) rfl (ls' := [some (.inr (.inl (some 264))), some (.inl h), some (.inl (zfd (zstW (MW b h) (b 271) D) (-1) (i + 1))), some (.inl (i + 1)), none]) rfl ?_
          exact ih (i + 1) (by omega) (by omega)
        · refine r_iload_n f126_49 rfl ?_
          refine r_iconst f126_50 rfl ?_
          refine r_ceq f126_51 (t := 83) (by decide) (fun q4 => ?_) (fun q4 => ?_)
          · refine r_iload_n f126_83 rfl ?_
            refine r_istore_n f126_84 rfl (ls' := [some (.inr (.inl (some 264))), some (.inl h), some (.inl i), some (.inl i), some (.inl (7 * i + b 264 9 - b 272 i))]) rfl ?_
            refine r_iinc f126_85 rfl rfl rfl (e := i + 1) (by omega) (by omega) (by omega) (ls' := [some (.inr (.inl (some 264))), some (.inl h), some (.inl i), some (.inl (i + 1)), some (.inl (7 * i + b 264 9 - b 272 i))]) rfl ?_
            refine r_goto f126_88 (t := 4) (by decide) ?_
            refine r_forget (ls' := [some (.inr (.inl (some 264))), some (.inl h), some (.inl i), some (.inl (i + 1)), none]) ⟨Or.inl rfl, ⟨Or.inl rfl, ⟨Or.inl rfl, ⟨Or.inl rfl, ⟨Or.inr ⟨rfl, rfl⟩, trivial⟩⟩⟩⟩⟩ ?_
            refine r_setI (k := 2) (a := i) (e := zfd (zstW (MW b h) (b 271) D) (-1) (i + 1)) (by rw [zfd_s (by omega)]; first | exact (if_pos ⟨⟨by omega, by omega, by omega⟩, by omega⟩).symm | exact (if_neg (fun x => by have x1 := x.1.1; have x2 := x.1.2.1; have x3 := x.1.2.2; have x4 := x.2; omega)).symm) rfl (ls' := [some (.inr (.inl (some 264))), some (.inl h), some (.inl (zfd (zstW (MW b h) (b 271) D) (-1) (i + 1))), some (.inl (i + 1)), none]) rfl ?_
            exact ih (i + 1) (by omega) (by omega)
          · have de := hD (zfd (zstW (MW b h) (b 271) D) (-1) i) (by omega) (by omega)
            have se := hsz (zfd (zstW (MW b h) (b 271) D) (-1) i) (by omega) (by omega)
            refine r_aload_n f126_54 rfl ?_
            refine r_getR f126_55 o126 F7_53 g264_19 rfl ?_
            refine r_iload_n f126_58 rfl ?_
            refine r_iald f126_59 kd279 (by omega) (by omega) ?_
            refine r_top (e := D i) ((hD i (by omega) (by omega)).1) ?_
            refine r_aload_n f126_60 rfl ?_
            refine r_getR f126_61 o126 F7_29 g264_11 rfl ?_
            refine r_iload_n f126_64 rfl ?_
            refine r_iald f126_65 kd271 (by omega) (by omega) ?_
            refine r_top (e := b 271 (zfd (zstW (MW b h) (b 271) D) (-1) i)) (congrFun e271 _) ?_
            refine r_imul f126_66 (e := (D i) * (b 271 (zfd (zstW (MW b h) (b 271) D) (-1) i))) (by have z9 := zmulb (a := D i) (b := b 271 (zfd (zstW (MW b h) (b 271) D) (-1) i)) (A := 400) (B := 12) (by omega) (by omega) (by omega) (by omega); omega) (by have z9 := zmulb (a := D i) (b := b 271 (zfd (zstW (MW b h) (b 271) D) (-1) i)) (A := 400) (B := 12) (by omega) (by omega) (by omega) (by omega); omega) rfl ?_
            refine r_aload_n f126_67 rfl ?_
            refine r_getR f126_68 o126 F7_53 g264_19 rfl ?_
            refine r_iload_n f126_71 rfl ?_
            refine r_iald f126_72 kd279 (by omega) (by omega) ?_
            refine r_top (e := D (zfd (zstW (MW b h) (b 271) D) (-1) i)) ((hD (zfd (zstW (MW b h) (b 271) D) (-1) i) (by omega) (by omega)).1) ?_
            refine r_aload_n f126_73 rfl ?_
            refine r_getR f126_74 o126 F7_29 g264_11 rfl ?_
            refine r_iload_n f126_77 rfl ?_
            refine r_iald f126_78 kd271 (by omega) (by omega) ?_
            refine r_top (e := b 271 i) (congrFun e271 _) ?_
            refine r_imul f126_79 (e := (D (zfd (zstW (MW b h) (b 271) D) (-1) i)) * (b 271 i)) (by have z9 := zmulb (a := D (zfd (zstW (MW b h) (b 271) D) (-1) i)) (b := b 271 i) (A := 400) (B := 12) (by omega) (by omega) (by omega) (by omega); omega) (by have z9 := zmulb (a := D (zfd (zstW (MW b h) (b 271) D) (-1) i)) (b := b 271 i) (A := 400) (B := 12) (by omega) (by omega) (by omega) (by omega); omega) rfl ?_
            refine r_cge f126_80 (t := 85) (by decide) (fun q5 => ?_) (fun q5 => ?_)
            · refine r_iinc f126_85 rfl rfl rfl (e := i + 1) (by omega) (by omega) (by omega) (ls' := [some (.inr (.inl (some 264))), some (.inl h), some (.inl (zfd (zstW (MW b h) (b 271) D) (-1) i)), some (.inl (i + 1)), some (.inl (7 * i + b 264 9 - b 272 i))]) rfl ?_
              refine r_goto f126_88 (t := 4) (by decide) ?_
              refine r_forget (ls' := [some (.inr (.inl (some 264))), some (.inl h), some (.inl (zfd (zstW (MW b h) (b 271) D) (-1) i)), some (.inl (i + 1)), none]) ⟨Or.inl rfl, ⟨Or.inl rfl, ⟨Or.inl rfl, ⟨Or.inl rfl, ⟨Or.inr ⟨rfl, rfl⟩, trivial⟩⟩⟩⟩⟩ ?_
              refine r_setI (k := 2) (a := zfd (zstW (MW b h) (b 271) D) (-1) i) (e := zfd (zstW (MW b h) (b 271) D) (-1) (i + 1)) (by rw [zfd_s (by omega)]; first | exact (if_pos ⟨⟨by omega, by omega, by omega⟩, by omega⟩).symm | exact (if_neg (fun x => by have x1 := x.1.1; have x2 := x.1.2.1; have x3 := x.1.2.2; have x4 := x.2; omega)).symm) rfl (ls' := [some (.inr (.inl (some 264))), some (.inl h), some (.inl (zfd (zstW (MW b h) (b 271) D) (-1) (i + 1))), some (.inl (i + 1)), none]) rfl ?_
              exact ih (i + 1) (by omega) (by omega)
            · refine r_iload_n f126_83 rfl ?_
              refine r_istore_n f126_84 rfl (ls' := [some (.inr (.inl (some 264))), some (.inl h), some (.inl i), some (.inl i), some (.inl (7 * i + b 264 9 - b 272 i))]) rfl ?_
              refine r_iinc f126_85 rfl rfl rfl (e := i + 1) (by omega) (by omega) (by omega) (ls' := [some (.inr (.inl (some 264))), some (.inl h), some (.inl i), some (.inl (i + 1)), some (.inl (7 * i + b 264 9 - b 272 i))]) rfl ?_
              refine r_goto f126_88 (t := 4) (by decide) ?_
              refine r_forget (ls' := [some (.inr (.inl (some 264))), some (.inl h), some (.inl i), some (.inl (i + 1)), none]) ⟨Or.inl rfl, ⟨Or.inl rfl, ⟨Or.inl rfl, ⟨Or.inl rfl, ⟨Or.inr ⟨rfl, rfl⟩, trivial⟩⟩⟩⟩⟩ ?_
              refine r_setI (k := 2) (a := i) (e := zfd (zstW (MW b h) (b 271) D) (-1) (i + 1)) (by rw [zfd_s (by omega)]; first | exact (if_pos ⟨⟨by omega, by omega, by omega⟩, by omega⟩).symm | exact (if_neg (fun x => by have x1 := x.1.1; have x2 := x.1.2.1; have x3 := x.1.2.2; have x4 := x.2; omega)).symm) rfl (ls' := [some (.inr (.inl (some 264))), some (.inl h), some (.inl (zfd (zstW (MW b h) (b 271) D) (-1) (i + 1))), some (.inl (i + 1)), none]) rfl ?_
              exact ih (i + 1) (by omega) (by omega)
    · refine r_istore f126_21 rfl (ls' := [some (.inr (.inl (some 264))), some (.inl h), some (.inl (zfd (zstW (MW b h) (b 271) D) (-1) i)), some (.inl i), some (.inl (-1))]) rfl ?_
      refine r_iload f126_23 rfl ?_
      refine r_iconst f126_25 rfl ?_
      refine r_ceq f126_26 (t := 85) (by decide) (fun _ => ?_) (fun h => absurd (by omega) h)
      refine r_iinc f126_85 rfl rfl rfl (e := i + 1) (by omega) (by omega) (by omega) (ls' := [some (.inr (.inl (some 264))), some (.inl h), some (.inl (zfd (zstW (MW b h) (b 271) D) (-1) i)), some (.inl (i + 1)), some (.inl (-1))]) rfl ?_
      refine r_goto f126_88 (t := 4) (by decide) ?_
      refine r_forget (ls' := [some (.inr (.inl (some 264))), some (.inl h), some (.inl (zfd (zstW (MW b h) (b 271) D) (-1) i)), some (.inl (i + 1)), none]) ⟨Or.inl rfl, ⟨Or.inl rfl, ⟨Or.inl rfl, ⟨Or.inl rfl, ⟨Or.inr ⟨rfl, rfl⟩, trivial⟩⟩⟩⟩⟩ ?_
      refine r_setI (k := 2) (a := zfd (zstW (MW b h) (b 271) D) (-1) i) (e := zfd (zstW (MW b h) (b 271) D) (-1) (i + 1)) (by rw [zfd_s (by omega)]; first | exact (if_pos ⟨⟨by omega, by omega, by omega⟩, by omega⟩).symm | exact (if_neg (fun x => by have x1 := x.1.1; have x2 := x.1.2.1; have x3 := x.1.2.2; have x4 := x.2; omega)).symm) rfl (ls' := [some (.inr (.inl (some 264))), some (.inl h), some (.inl (zfd (zstW (MW b h) (b 271) D) (-1) (i + 1))), some (.inl (i + 1)), none]) rfl ?_
      exact ih (i + 1) (by omega) (by omega)

theorem t_worker {L d : Nat} {m : zmem} {b : zmem} (e264 : m 264 = b 264) (e271 : m 271 = b 271) (e272 : m 272 = b 272) (e273 : m 273 = b 273) (e274 : m 274 = b 274) (e280 : m 280 = b 280) {h : Int} {D : Int → Int} (n0 : 0 ≤ b 264 10) (n1 : b 264 10 ≤ 40) (w0 : 0 ≤ b 264 9) (w1 : b 264 9 ≤ 39) (hR : ∀ c, 0 ≤ c → c < 40 → (0 ≤ b 272 c ∧ b 272 c ≤ 39) ∧ (0 ≤ b 273 c ∧ b 273 c ≤ 7)) (hsz : ∀ c, 0 ≤ c → c < 40 → 0 ≤ b 271 c ∧ b 271 c ≤ 12) (hD : ∀ c, 0 ≤ c → c < 40 → m 279 c = D c ∧ 0 ≤ D c ∧ D c ≤ 400)  : zF L (d + 2) 126 [.inr (.inl (some 264)), .inl h] m (some (.inl (Wk b h D))) m := by
  refine zF_of n126 (ls := [some (.inr (.inl (some 264))), some (.inl h), none, none, none]) rfl ?_
  refine r_iconst f126_0 rfl ?_
  refine r_istore_n f126_1 rfl (ls' := [some (.inr (.inl (some 264))), some (.inl h), some (.inl (-1)), none, none]) rfl ?_
  refine r_iconst f126_2 rfl ?_
  refine r_istore_n f126_3 rfl (ls' := [some (.inr (.inl (some 264))), some (.inl h), some (.inl (-1)), some (.inl 0), none]) rfl ?_
  refine l_worker e264 e271 e272 e273 e274 e280 n0 n1 w0 w1 hR hsz hD ?_ (b 264 10).toNat 0 (by omega) (by omega)
  refine r_iload_n f126_91 rfl ?_
  exact r_iret f126_92 v126 ⟨rfl, rfl⟩

theorem l_mchores {L d : Nat} {B b : zmem} (eB : ∀ p, 264 ≤ p → ¬ p = 278 → ¬ p = 279 → ¬ p = 281 → ¬ p = 282 → ¬ p = 283 → B p = b p) (n0 : 0 ≤ b 264 10) (n1 : b 264 10 ≤ 40) (w0 : 0 ≤ b 264 9) (w1 : b 264 9 ≤ 39) (hR : ∀ c, 0 ≤ c → c < 40 → (0 ≤ b 272 c ∧ b 272 c ≤ 39) ∧ (0 ≤ b 273 c ∧ b 273 c ≤ 7)) (hsz : ∀ c, 0 ≤ c → c < 40 → 0 ≤ b 271 c ∧ b 271 c ≤ 12) {h z : Int} (h0 : 0 ≤ h) (h1 : h < 12) (h9 : b 267 h ≤ 9) {Q : Option zV → zM → Prop} : ∀ (n : Nat) (k : Int) (D : Int → Int), 0 ≤ k → k + n = b 267 h → Dok b h k D → zR (d + 3) 127 109 [some (.inr (.inl (some 264))), some (.inl z), some (.inl h), some (.inl (b 267 h)), none] [] (zem L (zDM B (Dk b h n D))) Q → zR (d + 3) 127 69 [some (.inr (.inl (some 264))), some (.inl z), some (.inl h), some (.inl k), none] [] (zem L (zDM B D)) Q
  | 0, k, D, k0, hn, hd, hk => by
    have ek : k = b 267 h := by omega
    rw [ek]
    refine r_iload_n f127_69 rfl ?_
    refine r_aload_n f127_70 rfl ?_
    refine r_getR f127_71 o127 F7_16 g264_3 rfl ?_
    refine r_iload_n f127_74 rfl ?_
    refine r_iald f127_75 kd267 (by omega) (by omega) ?_
    refine r_top (e := b 267 h) (by rw [zDM_n (by omega), eB 267 (by omega) (by omega) (by omega) (by omega) (by omega) (by omega)]) ?_
    refine r_cge f127_76 (t := 109) (by decide) (fun _ => ?_) (fun h => absurd (by omega) h)
    exact hk
  | n + 1, k, D, k0, hn, hd, hk => by
    have db := Dok_b hd k0 (by omega) w0 w1
    have wi := Wk_in (b := b) (h := h) (D := D) n0
    have tl := t_worker (L := L) (d := d) (m := zDM B D) ((zDM_n (by omega)).trans (eB 264 (by omega) (by omega) (by omega) (by omega) (by omega) (by omega))) ((zDM_n (by omega)).trans (eB 271 (by omega) (by omega) (by omega) (by omega) (by omega) (by omega))) ((zDM_n (by omega)).trans (eB 272 (by omega) (by omega) (by omega) (by omega) (by omega) (by omega))) ((zDM_n (by omega)).trans (eB 273 (by omega) (by omega) (by omega) (by omega) (by omega) (by omega))) ((zDM_n (by omega)).trans (eB 274 (by omega) (by omega) (by omega) (by omega) (by omega) (by omega))) ((zDM_n (by omega)).trans (eB 280 (by omega) (by omega) (by omega) (by omega) (by omega) (by omega))) (h := h) (D := D) n0 n1 w0 w1 hR hsz (fun c c0 c1 => ⟨zDM_v c0 c1, (db c c0 c1).1, (db c c0 c1).2.2⟩)
    have ih := l_mchores (L := L) (d := d) eB n0 n1 w0 w1 hR hsz (z := z) h0 h1 h9 (Q := Q) n (k + 1) (Dst b h D) (by omega) (by omega) (Dok_s hd n0) hk
    by_cases ew : Wk b h D = -1
    · have es : Dst b h D = D := if_pos ew
      rw [es] at ih
      have wd : 0 ≤ Wk b h D → Wk b h D < 40 → 0 ≤ D (Wk b h D) ∧ D (Wk b h D) ≤ 400 := fun x y => ⟨(db _ x y).1, (db _ x y).2.2⟩
      refine r_iload_n f127_69 rfl ?_
      refine r_aload_n f127_70 rfl ?_
      refine r_getR f127_71 o127 F7_16 g264_3 rfl ?_
      refine r_iload_n f127_74 rfl ?_
      refine r_iald f127_75 kd267 (by omega) (by omega) ?_
      refine r_top (e := b 267 h) (by rw [zDM_n (by omega), eB 267 (by omega) (by omega) (by omega) (by omega) (by omega) (by omega)]) ?_
      refine r_cge f127_76 (t := 109) (by decide) (fun h => absurd h (by omega)) (fun _ => ?_)
      refine r_aload_n f127_79 rfl ?_
      refine r_iload_n f127_80 rfl ?_
      refine r_callv1i (m' := (zDM B D)) (v := Wk b h D) f127_81 o127 M7_182 p126 o126 kd264 rfl (by simp) tl ?_
      refine r_istore f127_84 rfl (ls' := [some (.inr (.inl (some 264))), some (.inl z), some (.inl h), some (.inl k), some (.inl (Wk b h D))]) rfl ?_
      refine r_iload f127_86 rfl ?_
      refine r_iconst f127_88 rfl ?_
      refine r_ceq f127_89 (t := 103) (by decide) (fun _ => ?_) (fun h => absurd (by omega) h)
      refine r_iinc f127_103 rfl rfl rfl (e := k + 1) (by omega) (by omega) (by omega) (ls' := [some (.inr (.inl (some 264))), some (.inl z), some (.inl h), some (.inl (k + 1)), some (.inl (Wk b h D))]) rfl ?_
      refine r_goto f127_106 (t := 69) (by decide) ?_
      refine r_forget (ls' := [some (.inr (.inl (some 264))), some (.inl z), some (.inl h), some (.inl (k + 1)), none]) ⟨Or.inl rfl, ⟨Or.inl rfl, ⟨Or.inl rfl, ⟨Or.inl rfl, ⟨Or.inr ⟨rfl, rfl⟩, trivial⟩⟩⟩⟩⟩ ?_
      exact ih
    · have es : Dst b h D = zDi D (Wk b h D) := if_neg ew
      have wd : 0 ≤ Wk b h D → Wk b h D < 40 → 0 ≤ D (Wk b h D) ∧ D (Wk b h D) ≤ 400 := fun x y => ⟨(db _ x y).1, (db _ x y).2.2⟩
      refine r_iload_n f127_69 rfl ?_
      refine r_aload_n f127_70 rfl ?_
      refine r_getR f127_71 o127 F7_16 g264_3 rfl ?_
      refine r_iload_n f127_74 rfl ?_
      refine r_iald f127_75 kd267 (by omega) (by omega) ?_
      refine r_top (e := b 267 h) (by rw [zDM_n (by omega), eB 267 (by omega) (by omega) (by omega) (by omega) (by omega) (by omega)]) ?_
      refine r_cge f127_76 (t := 109) (by decide) (fun h => absurd h (by omega)) (fun _ => ?_)
      refine r_aload_n f127_79 rfl ?_
      refine r_iload_n f127_80 rfl ?_
      refine r_callv1i (m' := (zDM B D)) (v := Wk b h D) f127_81 o127 M7_182 p126 o126 kd264 rfl (by simp) tl ?_
      refine r_istore f127_84 rfl (ls' := [some (.inr (.inl (some 264))), some (.inl z), some (.inl h), some (.inl k), some (.inl (Wk b h D))]) rfl ?_
      refine r_iload f127_86 rfl ?_
      refine r_iconst f127_88 rfl ?_
      refine r_ceq f127_89 (t := 103) (by decide) (fun h => absurd h (by omega)) (fun _ => ?_)
      refine r_aload_n f127_92 rfl ?_
      refine r_getR f127_93 o127 F7_53 g264_19 rfl ?_
      refine r_iload f127_96 rfl ?_
      refine r_dup2 f127_98 ?_
      refine r_iald f127_99 kd279 (by omega) (by omega) ?_
      refine r_top (e := D (Wk b h D)) (zDM_v (by omega) (by omega)) ?_
      refine r_iconst f127_100 rfl ?_
      refine r_iadd f127_101 (e := D (Wk b h D) + 1) (by omega) (by omega) (by omega) ?_
      refine r_iast f127_102 kd279 (by omega) (by omega) (by omega) ?_
      refine r_iinc f127_103 rfl rfl rfl (e := k + 1) (by omega) (by omega) (by omega) (ls' := [some (.inr (.inl (some 264))), some (.inl z), some (.inl h), some (.inl (k + 1)), some (.inl (Wk b h D))]) rfl ?_
      refine r_goto f127_106 (t := 69) (by decide) ?_
      refine r_forget (ls' := [some (.inr (.inl (some 264))), some (.inl z), some (.inl h), some (.inl (k + 1)), none]) ⟨Or.inl rfl, ⟨Or.inl rfl, ⟨Or.inl rfl, ⟨Or.inl rfl, ⟨Or.inr ⟨rfl, rfl⟩, trivial⟩⟩⟩⟩⟩ ?_
      refine r_mem (m1 := zDM B (Dst b h D)) (by rw [es]; exact (zDM_s (by omega) (by omega) rfl).symm) ?_
      exact ih
theorem l_mhouses {L d : Nat} {T z : Int} {a B b : zmem} (hs : Sim T a b) (eB : ∀ p, 264 ≤ p → ¬ p = 278 → ¬ p = 279 → ¬ p = 281 → ¬ p = 282 → ¬ p = 283 → B p = b p) {Q : Option zV → zM → Prop} : ∀ (n : Nat) (h : Int) (D : Int → Int), 0 ≤ h → h + n = b 264 0 → Dok b h 0 D → zR (d + 3) 127 115 [some (.inr (.inl (some 264))), some (.inl z), some (.inl (b 264 0)), none, none] [] (zem L (zDM B (Dh b n h D))) Q → zR (d + 3) 127 59 [some (.inr (.inl (some 264))), some (.inl z), some (.inl h), none, none] [] (zem L (zDM B D)) Q
  | 0, h, D, h0, hn, hd, hk => by
    have s1 := hs.s1
    unfold S1 at s1
    have ek : h = b 264 0 := by omega
    rw [ek]
    refine r_iload_n f127_59 rfl ?_
    refine r_aload_n f127_60 rfl ?_
    refine r_getI f127_61 o127 F7_86 g264_0 rfl ?_
    refine r_top (e := b 264 0) (by rw [zDM_n (by omega), eB 264 (by omega) (by omega) (by omega) (by omega) (by omega) (by omega)]) ?_
    refine r_cge f127_64 (t := 115) (by decide) (fun _ => ?_) (fun h => absurd (by omega) h)
    exact hk
  | n + 1, h, D, h0, hn, hd, hk => by
    have s1 := hs.s1
    unfold S1 at s1
    have k2 := hs.s2 h h0 (by omega)
    have hR : ∀ c, 0 ≤ c → c < 40 → (0 ≤ b 272 c ∧ b 272 c ≤ 39) ∧ (0 ≤ b 273 c ∧ b 273 c ≤ 7) := fun c x y => by have := hs.s5 c x y; omega
    have hz : ∀ c, 0 ≤ c → c < 40 → 0 ≤ b 271 c ∧ b 271 c ≤ 12 := fun c x y => by have := hs.s5 c x y; omega
    have dn := Dok_h (by omega) (by omega) (Dok_k (by omega) (b 267 h).toNat 0 D hd)
    have ih := l_mhouses (L := L) (d := d) (z := z) hs eB (Q := Q) n (h + 1) (Dk b h (b 267 h).toNat D) (by omega) (by omega) dn hk
    refine r_iload_n f127_59 rfl ?_
    refine r_aload_n f127_60 rfl ?_
    refine r_getI f127_61 o127 F7_86 g264_0 rfl ?_
    refine r_top (e := b 264 0) (by rw [zDM_n (by omega), eB 264 (by omega) (by omega) (by omega) (by omega) (by omega) (by omega)]) ?_
    refine r_cge f127_64 (t := 115) (by decide) (fun h => absurd h (by omega)) (fun _ => ?_)
    refine r_iconst f127_67 rfl ?_
    refine r_istore_n f127_68 rfl (ls' := [some (.inr (.inl (some 264))), some (.inl z), some (.inl h), some (.inl 0), none]) rfl ?_
    refine l_mchores eB (by omega) (by omega) (by omega) (by omega) hR hz h0 (by omega) (by omega) (b 267 h).toNat 0 D (by omega) (by omega) hd ?_
    refine r_iinc f127_109 rfl rfl rfl (e := h + 1) (by omega) (by omega) (by omega) (ls' := [some (.inr (.inl (some 264))), some (.inl z), some (.inl (h + 1)), some (.inl (b 267 h)), none]) rfl ?_
    refine r_goto f127_112 (t := 59) (by decide) ?_
    refine r_forget (ls' := [some (.inr (.inl (some 264))), some (.inl z), some (.inl (h + 1)), none, none]) ⟨Or.inl rfl, ⟨Or.inl rfl, ⟨Or.inl rfl, ⟨Or.inr ⟨rfl, rfl⟩, ⟨Or.inl rfl, trivial⟩⟩⟩⟩⟩ ?_
    exact ih
theorem l_msleep {L d : Nat} {T : Int} {a b m1 : zmem} (hs : Sim T a b) (ha : zan m1 b) {Q : Option zV → zM → Prop} : ∀ (n : Nat) (i : Int), 0 ≤ i → i + n = b 264 10 → zR (d + 3) 127 57 [some (.inr (.inl (some 264))), some (.inl (zsum (Arf b) (b 264 10))), some (.inl (b 264 10)), none, none] [] (zem L (zSM m1 b (b 264 10))) Q → zR (d + 3) 127 16 [some (.inr (.inl (some 264))), some (.inl (zsum (Arf b) i)), some (.inl i), none, none] [] (zem L (zSM m1 b i)) Q
  | 0, i, i0, hn, hk => by
    have s1 := hs.s1
    unfold S1 at s1
    have ab := Arf_b (b := b) (i := i) i0
    have e264 : zSM m1 b i 264 = b 264 := (zSM_n (by omega)).trans (ha 264 (by omega) (by omega) (by omega))
    have e272 : zSM m1 b i 272 = b 272 := (zSM_n (by omega)).trans (ha 272 (by omega) (by omega) (by omega))
    have e273 : zSM m1 b i 273 = b 273 := (zSM_n (by omega)).trans (ha 273 (by omega) (by omega) (by omega))
    have e280 : zSM m1 b i 280 = b 280 := (zSM_n (by omega)).trans (ha 280 (by omega) (by omega) (by omega))
    have ei : i = b 264 10 := by omega
    rw [← ei] at hk
    refine r_iload_n f127_16 rfl ?_
    refine r_aload_n f127_17 rfl ?_
    refine r_getI f127_18 o127 F7_94 g264_10 rfl ?_
    refine r_top (e := b 264 10) (congrFun e264 _) ?_
    refine r_cge f127_21 (t := 57) (by decide) (fun _ => ?_) (fun h => absurd (by omega) h)
    exact hk
  | n + 1, i, i0, hn, hk => by
    have s1 := hs.s1
    unfold S1 at s1
    have ab := Arf_b (b := b) (i := i) i0
    have e264 : zSM m1 b i 264 = b 264 := (zSM_n (by omega)).trans (ha 264 (by omega) (by omega) (by omega))
    have e272 : zSM m1 b i 272 = b 272 := (zSM_n (by omega)).trans (ha 272 (by omega) (by omega) (by omega))
    have e273 : zSM m1 b i 273 = b 273 := (zSM_n (by omega)).trans (ha 273 (by omega) (by omega) (by omega))
    have e280 : zSM m1 b i 280 = b 280 := (zSM_n (by omega)).trans (ha 280 (by omega) (by omega) (by omega))
    have k5 := hs.s5 i i0 (by omega)
    have k8 := hs.s8 i i0 (by omega)
    have ih := l_msleep (L := L) (d := d) hs ha (Q := Q) n (i + 1) (by omega) (by omega) hk
    have za : zsum (Arf b) (i + 1) = zsum (Arf b) i + Arf b i := zsum_s i0
    by_cases q : b 280 i = 0
    · have ar : Arf b i = 0 := if_pos q
      rw [← zSM_k q] at ih
      refine r_iload_n f127_16 rfl ?_
      refine r_aload_n f127_17 rfl ?_
      refine r_getI f127_18 o127 F7_94 g264_10 rfl ?_
      refine r_top (e := b 264 10) (congrFun e264 _) ?_
      refine r_cge f127_21 (t := 57) (by decide) (fun h => absurd h (by omega)) (fun _ => ?_)
      refine r_aload_n f127_24 rfl ?_
      refine r_getR f127_25 o127 F7_56 g264_20 rfl ?_
      refine r_iload_n f127_28 rfl ?_
      refine r_bald f127_29 kd280 (by omega) (by omega) ?_
      refine r_top (e := b 280 i) (congrFun e280 _) ?_
      refine r_zeq f127_30 (t := 51) (by decide) (fun _ => ?_) (fun h => absurd (by omega) h)
      refine r_iinc f127_51 rfl rfl rfl (e := i + 1) (by omega) (by omega) (by omega) (ls' := [some (.inr (.inl (some 264))), some (.inl (zsum (Arf b) i)), some (.inl (i + 1)), none, none]) rfl ?_
      refine r_goto f127_54 (t := 16) (by decide) ?_
      refine r_setI (k := 1) (a := zsum (Arf b) i) (e := zsum (Arf b) (i + 1)) (by omega) rfl (ls' := [some (.inr (.inl (some 264))), some (.inl (zsum (Arf b) (i + 1))), some (.inl (i + 1)), none, none]) rfl ?_
      exact ih
    · have hh : 0 ≤ b 264 9 - b 272 i ∧ b 264 9 - b 272 i < b 273 i := Decidable.byContradiction (fun no => q (k8.2.2.1 no))
      have ar : Arf b i = 1 := if_neg q
      rw [← zSM_s i0 (by omega) (by omega) q] at ih
      refine r_iload_n f127_16 rfl ?_
      refine r_aload_n f127_17 rfl ?_
      refine r_getI f127_18 o127 F7_94 g264_10 rfl ?_
      refine r_top (e := b 264 10) (congrFun e264 _) ?_
      refine r_cge f127_21 (t := 57) (by decide) (fun h => absurd h (by omega)) (fun _ => ?_)
      refine r_aload_n f127_24 rfl ?_
      refine r_getR f127_25 o127 F7_56 g264_20 rfl ?_
      refine r_iload_n f127_28 rfl ?_
      refine r_bald f127_29 kd280 (by omega) (by omega) ?_
      refine r_top (e := b 280 i) (congrFun e280 _) ?_
      refine r_zeq f127_30 (t := 51) (by decide) (fun h => absurd h (by omega)) (fun _ => ?_)
      refine r_aload_n f127_33 rfl ?_
      refine r_getR f127_34 o127 F7_50 g264_18 rfl ?_
      refine r_aload_n f127_37 rfl ?_
      refine r_iload_n f127_38 rfl ?_
      refine r_aload_n f127_39 rfl ?_
      refine r_getI f127_40 o127 F7_122 g264_9 rfl ?_
      refine r_top (e := b 264 9) (congrFun e264 _) ?_
      have gp := t_placeOf (L := L) (d := d + 1) (m := zSM m1 b i) (c := i) (t := b 264 9) (by omega) (by omega) (by rw [e272]; omega) (by rw [e272]; omega) (by rw [e273]; omega) (by rw [e273]; omega) (by omega) (by omega)
      unfold MH at gp
      rw [e272, e273, if_pos hh] at gp
      refine r_callv2i (m' := (zSM m1 b i)) (v := 7 * i + b 264 9 - b 272 i) f127_43 o127 M7_104 p92 o92 kd264 rfl (by simp) gp ?_
      refine r_iconst f127_46 rfl ?_
      refine r_bast f127_47 kd278 (by omega) (by omega) (by omega) (by omega) ?_
      refine r_iinc f127_48 rfl rfl rfl (e := zsum (Arf b) i + 1) (by omega) (by omega) (by omega) (ls' := [some (.inr (.inl (some 264))), some (.inl (zsum (Arf b) i + 1)), some (.inl i), none, none]) rfl ?_
      refine r_iinc f127_51 rfl rfl rfl (e := i + 1) (by omega) (by omega) (by omega) (ls' := [some (.inr (.inl (some 264))), some (.inl (zsum (Arf b) i + 1)), some (.inl (i + 1)), none, none]) rfl ?_
      refine r_goto f127_54 (t := 16) (by decide) ?_
      refine r_setI (k := 1) (a := zsum (Arf b) i + 1) (e := zsum (Arf b) (i + 1)) (by omega) rfl (ls' := [some (.inr (.inl (some 264))), some (.inl (zsum (Arf b) (i + 1))), some (.inl (i + 1)), none, none]) rfl ?_
      exact ih
theorem l_mends {L d : Nat} {T z : Int} {a B b : zmem} (hs : Sim T a b) (eB : ∀ p, 264 ≤ p → ¬ p = 278 → ¬ p = 279 → ¬ p = 281 → ¬ p = 282 → ¬ p = 283 → B p = b p) {Q : Option zV → zM → Prop} : ∀ (n : Nat) (i : Int), 0 ≤ i → i + n = b 264 10 → zR d 127 186 [some (.inr (.inl (some 264))), some (.inl z), some (.inl (b 264 10)), none, none] [] (zem L (zNM B b (b 264 10))) Q → zR d 127 117 [some (.inr (.inl (some 264))), some (.inl z), some (.inl i), none, none] [] (zem L (zNM B b i)) Q
  | 0, i, i0, hn, hk => by
    have s1 := hs.s1
    unfold S1 at s1
    have ei : i = b 264 10 := by omega
    rw [← ei] at hk
    refine r_iload_n f127_117 rfl ?_
    refine r_aload_n f127_118 rfl ?_
    refine r_getI f127_119 o127 F7_94 g264_10 rfl ?_
    refine r_top (e := b 264 10) (by rw [zNM_n (by omega) (by omega), eB 264 (by omega) (by omega) (by omega) (by omega) (by omega) (by omega)]) ?_
    refine r_cge f127_122 (t := 186) (by decide) (fun _ => ?_) (fun h => absurd (by omega) h)
    exact hk
  | n + 1, i, i0, hn, hk => by
    have s1 := hs.s1
    unfold S1 at s1
    have k5 := hs.s5 i i0 (by omega)
    have e275 := eB 275 (by omega) (by omega) (by omega) (by omega) (by omega) (by omega)
    have ih := l_mends (L := L) (d := d) (z := z) hs eB (Q := Q) n (i + 1) (by omega) (by omega) hk
    by_cases q : zOv b i
    · have q1 := q.1
      have q2 := q.2
      rw [← zNM_s (v := 3) i0 (if_pos q).symm] at ih
      refine r_iload_n f127_117 rfl ?_
      refine r_aload_n f127_118 rfl ?_
      refine r_getI f127_119 o127 F7_94 g264_10 rfl ?_
      refine r_top (e := b 264 10) (by rw [zNM_n (by omega) (by omega), eB 264 (by omega) (by omega) (by omega) (by omega) (by omega) (by omega)]) ?_
      refine r_cge f127_122 (t := 186) (by decide) (fun h => absurd h (by omega)) (fun _ => ?_)
      refine r_aload_n f127_125 rfl ?_
      refine r_getR f127_126 o127 F7_56 g264_20 rfl ?_
      refine r_iload_n f127_129 rfl ?_
      refine r_iconst f127_130 rfl ?_
      refine r_bast f127_131 kd280 (by omega) (by omega) (by omega) (by omega) ?_
      refine r_aload_n f127_132 rfl ?_
      refine r_getR f127_133 o127 F7_41 g264_15 rfl ?_
      refine r_iload_n f127_136 rfl ?_
      refine r_aload_n f127_137 rfl ?_
      refine r_getR f127_138 o127 F7_41 g264_15 rfl ?_
      refine r_iload_n f127_141 rfl ?_
      refine r_iald f127_142 kd275 (by omega) (by omega) ?_
      refine r_top (e := b 275 i) (by rw [zu_ne (by omega), zNM_75 i0, if_neg (by omega), eB 275 (by omega) (by omega) (by omega) (by omega) (by omega) (by omega)]) ?_
      refine r_iconst f127_143 rfl ?_
      refine r_cne f127_144 (t := 173) (by decide) (fun h => absurd h (by omega)) (fun _ => ?_)
      refine r_aload_n f127_147 rfl ?_
      refine r_getR f127_148 o127 F7_32 g264_12 rfl ?_
      refine r_iload_n f127_151 rfl ?_
      refine r_iald f127_152 kd272 (by omega) (by omega) ?_
      refine r_top (e := b 272 i) (by rw [zu_ne (by omega), zNM_n (by omega) (by omega), eB 272 (by omega) (by omega) (by omega) (by omega) (by omega) (by omega)]) ?_
      refine r_aload_n f127_153 rfl ?_
      refine r_getR f127_154 o127 F7_35 g264_13 rfl ?_
      refine r_iload_n f127_157 rfl ?_
      refine r_iald f127_158 kd273 (by omega) (by omega) ?_
      refine r_top (e := b 273 i) (by rw [zu_ne (by omega), zNM_n (by omega) (by omega), eB 273 (by omega) (by omega) (by omega) (by omega) (by omega) (by omega)]) ?_
      refine r_iadd f127_159 (e := b 272 i + b 273 i) (by omega) (by omega) (by omega) ?_
      refine r_iconst f127_160 rfl ?_
      refine r_isub f127_161 (e := b 272 i + b 273 i - 1) (by omega) (by omega) (by omega) ?_
      refine r_aload_n f127_162 rfl ?_
      refine r_getI f127_163 o127 F7_122 g264_9 rfl ?_
      refine r_top (e := b 264 9) (by rw [zu_ne (by omega), zNM_n (by omega) (by omega), eB 264 (by omega) (by omega) (by omega) (by omega) (by omega) (by omega)]) ?_
      refine r_cne f127_166 (t := 173) (by decide) (fun h => absurd h (by omega)) (fun _ => ?_)
      refine r_iconst f127_169 rfl ?_
      refine r_goto f127_170 (t := 179) (by decide) ?_
      refine r_iast f127_179 kd275 (by omega) (by omega) (by omega) ?_
      refine r_iinc f127_180 rfl rfl rfl (e := i + 1) (by omega) (by omega) (by omega) (ls' := [some (.inr (.inl (some 264))), some (.inl z), some (.inl (i + 1)), none, none]) rfl ?_
      refine r_goto f127_183 (t := 117) (by decide) ?_
      exact ih
    · rw [← zNM_s (v := b 275 i) i0 (by rw [if_neg q, e275])] at ih
      by_cases q1 : b 275 i = 1
      · have q2 : ¬ b 272 i + b 273 i - 1 = b 264 9 := fun x => q ⟨q1, x⟩
        refine r_iload_n f127_117 rfl ?_
        refine r_aload_n f127_118 rfl ?_
        refine r_getI f127_119 o127 F7_94 g264_10 rfl ?_
        refine r_top (e := b 264 10) (by rw [zNM_n (by omega) (by omega), eB 264 (by omega) (by omega) (by omega) (by omega) (by omega) (by omega)]) ?_
        refine r_cge f127_122 (t := 186) (by decide) (fun h => absurd h (by omega)) (fun _ => ?_)
        refine r_aload_n f127_125 rfl ?_
        refine r_getR f127_126 o127 F7_56 g264_20 rfl ?_
        refine r_iload_n f127_129 rfl ?_
        refine r_iconst f127_130 rfl ?_
        refine r_bast f127_131 kd280 (by omega) (by omega) (by omega) (by omega) ?_
        refine r_aload_n f127_132 rfl ?_
        refine r_getR f127_133 o127 F7_41 g264_15 rfl ?_
        refine r_iload_n f127_136 rfl ?_
        refine r_aload_n f127_137 rfl ?_
        refine r_getR f127_138 o127 F7_41 g264_15 rfl ?_
        refine r_iload_n f127_141 rfl ?_
        refine r_iald f127_142 kd275 (by omega) (by omega) ?_
        refine r_top (e := b 275 i) (by rw [zu_ne (by omega), zNM_75 i0, if_neg (by omega), eB 275 (by omega) (by omega) (by omega) (by omega) (by omega) (by omega)]) ?_
        refine r_iconst f127_143 rfl ?_
        refine r_cne f127_144 (t := 173) (by decide) (fun h => absurd h (by omega)) (fun _ => ?_)
        refine r_aload_n f127_147 rfl ?_
        refine r_getR f127_148 o127 F7_32 g264_12 rfl ?_
        refine r_iload_n f127_151 rfl ?_
        refine r_iald f127_152 kd272 (by omega) (by omega) ?_
        refine r_top (e := b 272 i) (by rw [zu_ne (by omega), zNM_n (by omega) (by omega), eB 272 (by omega) (by omega) (by omega) (by omega) (by omega) (by omega)]) ?_
        refine r_aload_n f127_153 rfl ?_
        refine r_getR f127_154 o127 F7_35 g264_13 rfl ?_
        refine r_iload_n f127_157 rfl ?_
        refine r_iald f127_158 kd273 (by omega) (by omega) ?_
        refine r_top (e := b 273 i) (by rw [zu_ne (by omega), zNM_n (by omega) (by omega), eB 273 (by omega) (by omega) (by omega) (by omega) (by omega) (by omega)]) ?_
        refine r_iadd f127_159 (e := b 272 i + b 273 i) (by omega) (by omega) (by omega) ?_
        refine r_iconst f127_160 rfl ?_
        refine r_isub f127_161 (e := b 272 i + b 273 i - 1) (by omega) (by omega) (by omega) ?_
        refine r_aload_n f127_162 rfl ?_
        refine r_getI f127_163 o127 F7_122 g264_9 rfl ?_
        refine r_top (e := b 264 9) (by rw [zu_ne (by omega), zNM_n (by omega) (by omega), eB 264 (by omega) (by omega) (by omega) (by omega) (by omega) (by omega)]) ?_
        refine r_cne f127_166 (t := 173) (by decide) (fun _ => ?_) (fun h => absurd (by omega) h)
        refine r_aload_n f127_173 rfl ?_
        refine r_getR f127_174 o127 F7_41 g264_15 rfl ?_
        refine r_iload_n f127_177 rfl ?_
        refine r_iald f127_178 kd275 (by omega) (by omega) ?_
        refine r_top (e := b 275 i) (by rw [zu_ne (by omega), zNM_75 i0, if_neg (by omega), eB 275 (by omega) (by omega) (by omega) (by omega) (by omega) (by omega)]) ?_
        refine r_iast f127_179 kd275 (by omega) (by omega) (by omega) ?_
        refine r_iinc f127_180 rfl rfl rfl (e := i + 1) (by omega) (by omega) (by omega) (ls' := [some (.inr (.inl (some 264))), some (.inl z), some (.inl (i + 1)), none, none]) rfl ?_
        refine r_goto f127_183 (t := 117) (by decide) ?_
        exact ih
      · refine r_iload_n f127_117 rfl ?_
        refine r_aload_n f127_118 rfl ?_
        refine r_getI f127_119 o127 F7_94 g264_10 rfl ?_
        refine r_top (e := b 264 10) (by rw [zNM_n (by omega) (by omega), eB 264 (by omega) (by omega) (by omega) (by omega) (by omega) (by omega)]) ?_
        refine r_cge f127_122 (t := 186) (by decide) (fun h => absurd h (by omega)) (fun _ => ?_)
        refine r_aload_n f127_125 rfl ?_
        refine r_getR f127_126 o127 F7_56 g264_20 rfl ?_
        refine r_iload_n f127_129 rfl ?_
        refine r_iconst f127_130 rfl ?_
        refine r_bast f127_131 kd280 (by omega) (by omega) (by omega) (by omega) ?_
        refine r_aload_n f127_132 rfl ?_
        refine r_getR f127_133 o127 F7_41 g264_15 rfl ?_
        refine r_iload_n f127_136 rfl ?_
        refine r_aload_n f127_137 rfl ?_
        refine r_getR f127_138 o127 F7_41 g264_15 rfl ?_
        refine r_iload_n f127_141 rfl ?_
        refine r_iald f127_142 kd275 (by omega) (by omega) ?_
        refine r_top (e := b 275 i) (by rw [zu_ne (by omega), zNM_75 i0, if_neg (by omega), eB 275 (by omega) (by omega) (by omega) (by omega) (by omega) (by omega)]) ?_
        refine r_iconst f127_143 rfl ?_
        refine r_cne f127_144 (t := 173) (by decide) (fun _ => ?_) (fun h => absurd (by omega) h)
        refine r_aload_n f127_173 rfl ?_
        refine r_getR f127_174 o127 F7_41 g264_15 rfl ?_
        refine r_iload_n f127_177 rfl ?_
        refine r_iald f127_178 kd275 (by omega) (by omega) ?_
        refine r_top (e := b 275 i) (by rw [zu_ne (by omega), zNM_75 i0, if_neg (by omega), eB 275 (by omega) (by omega) (by omega) (by omega) (by omega) (by omega)]) ?_
        refine r_iast f127_179 kd275 (by omega) (by omega) (by omega) ?_
        refine r_iinc f127_180 rfl rfl rfl (e := i + 1) (by omega) (by omega) (by omega) (ls' := [some (.inr (.inl (some 264))), some (.inl z), some (.inl (i + 1)), none, none]) rfl ?_
        refine r_goto f127_183 (t := 117) (by decide) ?_
        exact ih
abbrev MPs (m1 b : zmem) : zmem := zu (zNM (zDM (zSM m1 b (b 264 10)) (Dh b (b 264 0).toNat 0 (b 279))) b (b 264 10)) 264 9 (b 264 9 + 1)
theorem t_Mpass {L d : Nat} {m : zmem} {T : Int} {a b : zmem} (hs : Sim T a b) (ha : zan m b) : zF L (d + 3) 127 [.inr (.inl (some 264))] m (some (.inl (if b 264 9 = 39 then -4 else zsum (Arf b) (b 264 10)))) (if b 264 9 = 39 then m else MPs m b) := by
  have s1 := hs.s1
  unfold S1 at s1
  refine zF_of n127 (ls := [some (.inr (.inl (some 264))), none, none, none, none]) rfl ?_
  refine r_aload_n f127_0 rfl ?_
  refine r_getI f127_1 o127 F7_122 g264_9 rfl ?_
  refine r_top (e := b 264 9) (zan_f ha (by omega) (by omega) (by omega) _) ?_
  refine r_bipush f127_4 (by decide) ?_
  refine r_cne f127_6 (t := 12) (by decide) (fun q1 => ?_) (fun q1 => ?_)
  · refine r_iconst f127_12 rfl ?_
    refine r_istore_n f127_13 rfl (ls' := [some (.inr (.inl (some 264))), some (.inl 0), none, none, none]) rfl ?_
    refine r_iconst f127_14 rfl ?_
    refine r_istore_n f127_15 rfl (ls' := [some (.inr (.inl (some 264))), some (.inl 0), some (.inl 0), none, none]) rfl ?_
    refine r_setI (k := 1) (a := 0) (e := zsum (Arf b) 0) (zsum_0 _).symm rfl (ls' := [some (.inr (.inl (some 264))), some (.inl (zsum (Arf b) 0)), some (.inl 0), none, none]) rfl ?_
    refine r_mem (m1 := zSM m b 0) zSM_0 ?_
    refine l_msleep hs ha (b 264 10).toNat 0 (by omega) (by omega) ?_
    refine r_iconst f127_57 rfl ?_
    refine r_istore_n f127_58 rfl (ls' := [some (.inr (.inl (some 264))), some (.inl (zsum (Arf b) (b 264 10))), some (.inl 0), none, none]) rfl ?_
    have eB : ∀ p, 264 ≤ p → ¬ p = 278 → ¬ p = 279 → ¬ p = 281 → ¬ p = 282 → ¬ p = 283 → zSM m b (b 264 10) p = b p := fun p p1 p2 p3 p4 p5 p6 => (zSM_n p2).trans (ha p ⟨p4, p1⟩ p5 p6)
    refine r_mem (m1 := zDM (zSM m b (b 264 10)) (b 279)) (zDM_id (fun c _ _ => by rw [zSM_n (by omega), ha 279 (by omega) (by omega) (by omega)])) ?_
    refine l_mhouses hs eB (b 264 0).toNat 0 (b 279) (by omega) (by omega) (Dok_0 hs) ?_
    have eD : ∀ p, 264 ≤ p → ¬ p = 278 → ¬ p = 279 → ¬ p = 281 → ¬ p = 282 → ¬ p = 283 → zDM (zSM m b (b 264 10)) (Dh b (b 264 0).toNat 0 (b 279)) p = b p := fun p p1 p2 p3 p4 p5 p6 => (zDM_n p3).trans (eB p p1 p2 p3 p4 p5 p6)
    refine r_iconst f127_115 rfl ?_
    refine r_istore_n f127_116 rfl (ls' := [some (.inr (.inl (some 264))), some (.inl (zsum (Arf b) (b 264 10))), some (.inl 0), none, none]) rfl ?_
    refine r_mem (m1 := zNM (zDM (zSM m b (b 264 10)) (Dh b (b 264 0).toNat 0 (b 279))) b 0) zNM_0 ?_
    refine l_mends hs eD (b 264 10).toNat 0 (by omega) (by omega) ?_
    refine r_aload_n f127_186 rfl ?_
    refine r_dupR f127_187 ?_
    refine r_getI f127_188 o127 F7_122 g264_9 rfl ?_
    refine r_top (e := b 264 9) (by rw [zNM_n (by omega) (by omega), eD 264 (by omega) (by omega) (by omega) (by omega) (by omega) (by omega)]) ?_
    refine r_iconst f127_191 rfl ?_
    refine r_iadd f127_192 (e := b 264 9 + 1) (by omega) (by omega) (by omega) ?_
    refine r_put f127_193 o127 F7_122 g264_9 rfl T7_9 U7_9 ?_
    refine r_iload_n f127_196 rfl ?_
    exact r_iret f127_197 v127 ⟨zs_eq (by first | rfl | omega | ((repeat (first | rw [if_pos (by omega)] | rw [if_neg (by omega)])) <;> first | rfl | omega)), (by first | rfl | ((repeat (first | rw [if_pos (by omega)] | rw [if_neg (by omega)])); done) | ((repeat (first | rw [if_pos (by omega)] | rw [if_neg (by omega)])); rfl))⟩
  · refine r_bipush f127_9 (by decide) ?_
    exact r_iret f127_11 v127 ⟨zs_eq (by first | rfl | omega | ((repeat (first | rw [if_pos (by omega)] | rw [if_neg (by omega)])) <;> first | rfl | omega)), (by first | rfl | ((repeat (first | rw [if_pos (by omega)] | rw [if_neg (by omega)])); done) | ((repeat (first | rw [if_pos (by omega)] | rw [if_neg (by omega)])); rfl))⟩

