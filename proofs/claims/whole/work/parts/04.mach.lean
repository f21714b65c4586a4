/-! a small machine over numbered cells: what it answers, the JVM answers (part 05 on) -/
abbrev zV : Type := Int ⊕ (Option Int ⊕ Int64)
abbrev zK : Type := Nat ⊕ (Nat × Int)
abbrev zC : Type := zK × (Int → zV)
abbrev zM : Type := Nat × Nat × (Int → zC)
abbrev zL : Type := List (Option zV)
abbrev zX : Type := Nat × zL × List zV × zM
def z32 (x : Int) : Bool := decide (-2147483648 ≤ x) && decide (x ≤ 2147483647)
def zlg : Option (Option zV) → Bool
  | some (some (.inr (.inr _))) => true
  | _ => false
def zfree (ls : zL) (k : Nat) : Bool := decide (k < ls.length) && !(decide (0 < k) && zlg (ls[k - 1]?))
def zup (M : zM) (p : Int) (c : zC) : zM := (M.1, M.2.1, fun q => if q = p then c else M.2.2 q)
def zst (c : zC) (k : Int) (v : zV) : zC := (c.1, fun q => if q = k then v else c.2 q)
def znew (M : zM) (n : Nat) (c : zC) : zM := (M.1 + 1, M.2.1 + n, fun q => if q = (M.1 : Int) then c else M.2.2 q)
def zdef (ci : Nat) : Int → zV := fun k => if zty ci k.toNat = .int then .inl 0 else .inr (.inl none)
def zif (b : Bool) (pc : Nat) (o : Int) : Option Nat := if 0 ≤ (pc : Int) + o then (if b then some ((pc : Int) + o).toNat else some (pc + 3)) else none
def zel (t : Nat) : Nat := if t = 2 then 1 else 0
/-- lengths -/
def zlen : Instr → Nat
  | .aload _ | .astore _ | .iload _ | .istore _ | .bipush _ | .newarray _ => 2
  | .sipush _ | .iinc _ _ | .ldc2_w _ | .getfield _ | .putfield _ | .getstatic _ | .new _ | .anewarray _ => 3
  | .if_icmp _ _ | .ifCond _ _ | .goto _ => 3
  | .invokevirtual _ | .invokestatic _ | .invokespecial _ => 3
  | _ => 1
def zlk (i : Instr) (len : Nat) : Bool := match i with
  | .tableswitch _ _ _ _ => true
  | i => decide (len = zlen i)
/-- locals and constants -/
def zn1 (j : Nat) (i : Instr) (pc : Nat) (ls : zL) (st : List zV) (M : zM) : Option zX := match i with
  | .aload_n k => match ls[k.val]? with
    | some (some (.inr (.inl (some p)))) => some (pc + 1, ls, .inr (.inl (some p)) :: st, M)
    | _ => none
  | .aload k => match ls[k]? with
    | some (some (.inr (.inl (some p)))) => some (pc + 2, ls, .inr (.inl (some p)) :: st, M)
    | _ => none
  | .iload_n k => match ls[k.val]? with
    | some (some (.inl v)) => some (pc + 1, ls, .inl v :: st, M)
    | _ => none
  | .iload k => match ls[k]? with
    | some (some (.inl v)) => some (pc + 2, ls, .inl v :: st, M)
    | _ => none
  | .lload_n k => match ls[k.val]? with
    | some (some (.inr (.inr v))) => some (pc + 1, ls, .inr (.inr v) :: st, M)
    | _ => none
  | .istore_n k => match st with
    | .inl v :: r => if zfree ls k.val = true then some (pc + 1, ls.set k.val (some (.inl v)), r, M) else none
    | _ => none
  | .istore k => match st with
    | .inl v :: r => if zfree ls k = true then some (pc + 2, ls.set k (some (.inl v)), r, M) else none
    | _ => none
  | .astore_n k => match st with
    | .inr (.inl (some p)) :: r => if zfree ls k.val = true then some (pc + 1, ls.set k.val (some (.inr (.inl (some p)))), r, M) else none
    | _ => none
  | .astore k => match st with
    | .inr (.inl (some p)) :: r => if zfree ls k = true then some (pc + 2, ls.set k (some (.inr (.inl (some p)))), r, M) else none
    | _ => none
  | .lstore_n k => match st with
    | .inr (.inr v) :: r => if zfree ls k.val = true ∧ k.val + 1 < ls.length then some (pc + 1, (ls.set k.val (some (.inr (.inr v)))).set (k.val + 1) none, r, M) else none
    | _ => none
  | .iinc k c => match ls[k]? with
    | some (some (.inl v)) => if zfree ls k = true ∧ z32 (v + c) = true ∧ z32 c = true then some (pc + 3, ls.set k (some (.inl (v + c))), st, M) else none
    | _ => none
  | .iconst c => if z32 c = true then some (pc + 1, ls, .inl c :: st, M) else none
  | .bipush c => if -128 ≤ c ∧ c ≤ 127 then some (pc + 2, ls, .inl c :: st, M) else none
  | .sipush c => if -32768 ≤ c ∧ c ≤ 32767 then some (pc + 3, ls, .inl c :: st, M) else none
  | .ldc2_w k => match zlc (zo j) k with
    | some v => some (pc + 3, ls, .inr (.inr v) :: st, M)
    | none => none
  | _ => none
/-- the stack, numbers, branches -/
def zn2 (i : Instr) (pc : Nat) (ls : zL) (st : List zV) (M : zM) : Option zX := match i with
  | .dup => match st with
    | .inl v :: r => some (pc + 1, ls, .inl v :: .inl v :: r, M)
    | .inr (.inl (some p)) :: r => some (pc + 1, ls, .inr (.inl (some p)) :: .inr (.inl (some p)) :: r, M)
    | _ => none
  | .dup2 => match st with
    | .inl v :: .inr (.inl (some p)) :: r => some (pc + 1, ls, .inl v :: .inr (.inl (some p)) :: .inl v :: .inr (.inl (some p)) :: r, M)
    | _ => none
  | .iadd => match st with
    | .inl b :: .inl a :: r => if z32 (a + b) = true then some (pc + 1, ls, .inl (a + b) :: r, M) else none
    | _ => none
  | .isub => match st with
    | .inl b :: .inl a :: r => if z32 (a - b) = true then some (pc + 1, ls, .inl (a - b) :: r, M) else none
    | _ => none
  | .imul => match st with
    | .inl b :: .inl a :: r => if z32 (a * b) = true then some (pc + 1, ls, .inl (a * b) :: r, M) else none
    | _ => none
  | .idiv => match st with
    | .inl b :: .inl a :: r => if 0 ≤ a ∧ 0 < b then some (pc + 1, ls, .inl (a / b) :: r, M) else none
    | _ => none
  | .iand => match st with
    | .inl b :: .inl a :: r => some (pc + 1, ls, .inl (Int32.ofInt a &&& Int32.ofInt b).toInt :: r, M)
    | _ => none
  | .ishr => match st with
    | .inl b :: .inl a :: r => some (pc + 1, ls, .inl (Int32.ofInt a >>> (Int32.ofInt b &&& 31)).toInt :: r, M)
    | _ => none
  | .i2l => match st with
    | .inl a :: r => some (pc + 1, ls, .inr (.inr (Int64.ofInt a)) :: r, M)
    | _ => none
  | .lmul => match st with
    | .inr (.inr b) :: .inr (.inr a) :: r => some (pc + 1, ls, .inr (.inr (a * b)) :: r, M)
    | _ => none
  | .ladd => match st with
    | .inr (.inr b) :: .inr (.inr a) :: r => some (pc + 1, ls, .inr (.inr (a + b)) :: r, M)
    | _ => none
  | .lcmp => match st with
    | .inr (.inr b) :: .inr (.inr a) :: r => some (pc + 1, ls, .inl (lg_cmp a b).toInt :: r, M)
    | _ => none
  | .if_icmp c o => match st with
    | .inl b :: .inl a :: r => (zif (match c with
        | .eq => decide (a = b)
        | .ne => decide (a ≠ b)
        | .lt => decide (a < b)
        | .ge => decide (b ≤ a)
        | .gt => decide (b < a)
        | .le => decide (a ≤ b)) pc o).map (fun q => (q, ls, r, M))
    | _ => none
  | .ifCond c o => match st with
    | .inl a :: r => (zif (match c with
        | .eq => decide (a = 0)
        | .ne => decide (a ≠ 0)
        | .lt => decide (a < 0)
        | .ge => decide (0 ≤ a)
        | .gt => decide (0 < a)
        | .le => decide (a ≤ 0)) pc o).map (fun q => (q, ls, r, M))
    | _ => none
  | .goto o => if 0 ≤ (pc : Int) + o then some (((pc : Int) + o).toNat, ls, st, M) else none
  | .tableswitch dflt lo hi offs => match st with
    | .inl a :: r => if a < lo ∨ hi < a then (if 0 ≤ (pc : Int) + dflt then some (((pc : Int) + dflt).toNat, ls, r, M) else none) else
      match offs[(a - lo).toNat]? with
      | some o => if 0 ≤ (pc : Int) + o then some (((pc : Int) + o).toNat, ls, r, M) else none
      | none => none
    | _ => none
  | _ => none
/-- cells -/
def zn3 (j : Nat) (i : Instr) (pc : Nat) (ls : zL) (st : List zV) (M : zM) : Option zX := match i with
  | .getfield n => match st, zfl (zo j) n with
    | .inr (.inl (some p)) :: r, some (ci, k) => if (M.2.2 p).1 = .inl ci then (match (M.2.2 p).2 k with
      | .inl v => some (pc + 3, ls, .inl v :: r, M)
      | .inr (.inl (some q)) => some (pc + 3, ls, .inr (.inl (some q)) :: r, M)
      | _ => none) else none
    | _, _ => none
  | .putfield n => match st, zfl (zo j) n with
    | .inl v :: .inr (.inl (some p)) :: r, some (ci, k) => if (M.2.2 p).1 = .inl ci ∧ zty ci k = .int ∧ (zT ci k).2.2.2 = false then some (pc + 3, ls, r, zup M p (zst (M.2.2 p) k (.inl v))) else none
    | .inr (.inl (some q)) :: .inr (.inl (some p)) :: r, some (ci, k) => if (M.2.2 p).1 = .inl ci ∧ zty ci k ≠ .int ∧ (zT ci k).2.2.2 = true ∧ zo j = ci ∧ (zy j).name = "<init>" then some (pc + 3, ls, r, zup M p (zst (M.2.2 p) k (.inr (.inl (some q))))) else none
    | _, _ => none
  | .iaload => match st with
    | .inl a :: .inr (.inl (some p)) :: r => match (M.2.2 p).1 with
      | .inr (0, len) => if 0 ≤ a ∧ a < len then (match (M.2.2 p).2 a with
        | .inl v => some (pc + 1, ls, .inl v :: r, M)
        | _ => none) else none
      | _ => none
    | _ => none
  | .baload => match st with
    | .inl a :: .inr (.inl (some p)) :: r => match (M.2.2 p).1 with
      | .inr (1, len) => if 0 ≤ a ∧ a < len then (match (M.2.2 p).2 a with
        | .inl v => some (pc + 1, ls, .inl v :: r, M)
        | _ => none) else none
      | _ => none
    | _ => none
  | .aaload => match st with
    | .inl a :: .inr (.inl (some p)) :: r => match (M.2.2 p).1 with
      | .inr (t, len) => if (t = 2 ∨ t = 3) ∧ 0 ≤ a ∧ a < len then (match (M.2.2 p).2 a with
        | .inr (.inl (some q)) => some (pc + 1, ls, .inr (.inl (some q)) :: r, M)
        | _ => none) else none
      | _ => none
    | _ => none
  | .iastore => match st with
    | .inl v :: .inl a :: .inr (.inl (some p)) :: r => match (M.2.2 p).1 with
      | .inr (0, len) => if 0 ≤ p ∧ 0 ≤ a ∧ a < len then some (pc + 1, ls, r, zup M p (zst (M.2.2 p) a (.inl v))) else none
      | _ => none
    | _ => none
  | .bastore => match st with
    | .inl v :: .inl a :: .inr (.inl (some p)) :: r => match (M.2.2 p).1 with
      | .inr (1, len) => if 0 ≤ p ∧ 0 ≤ a ∧ a < len ∧ (v = 0 ∨ v = 1) then some (pc + 1, ls, r, zup M p (zst (M.2.2 p) a (.inl v))) else none
      | _ => none
    | _ => none
  | .aastore => match st with
    | .inr (.inl (some q)) :: .inl a :: .inr (.inl (some p)) :: r => match (M.2.2 p).1 with
      | .inr (t, len) => if (t = 2 ∨ t = 3) ∧ 0 ≤ p ∧ 0 ≤ a ∧ a < len ∧ (M.2.2 q).1 = .inl (zel t) then some (pc + 1, ls, r, zup M p (zst (M.2.2 p) a (.inr (.inl (some q))))) else none
      | _ => none
    | _ => none
  | .arraylength => match st with
    | .inr (.inl (some p)) :: r => match (M.2.2 p).1 with
      | .inr (0, len) => some (pc + 1, ls, .inl len :: r, M)
      | _ => none
    | _ => none
  | .getstatic n => if zo j = 1 ∧ n = 26 then some (pc + 3, ls, .inr (.inl (some (-2))) :: st, M) else none
  | .new n => match zcl (zo j) n with
    | some ci => some (pc + 3, ls, .inr (.inl (some (M.1 : Int))) :: st, znew M (zN ci) (.inl ci, zdef ci))
    | none => none
  | .newarray t => match st with
    | .inl a :: r => if 0 ≤ a ∧ a ≤ 65536 then (match t with
      | .int => some (pc + 2, ls, .inr (.inl (some (M.1 : Int))) :: r, znew M a.toNat (.inr (0, a), fun _ => .inl 0))
      | .boolean => some (pc + 2, ls, .inr (.inl (some (M.1 : Int))) :: r, znew M a.toNat (.inr (1, a), fun _ => .inl 0))
      | _ => none) else none
    | _ => none
  | .anewarray n => match st, zcl (zo j) n with
    | .inl a :: r, some ci => if 0 ≤ a ∧ a ≤ 65536 ∧ ci < 2 then some (pc + 3, ls, .inr (.inl (some (M.1 : Int))) :: r, znew M a.toNat (.inr (3 - ci, a), fun _ => .inr (.inl none))) else none
    | _, _ => none
  | _ => none
/-- calls that are steps -/
def zn4 (d j : Nat) (i : Instr) (pc : Nat) (ls : zL) (st : List zV) (M : zM) : Option zX := match i with
  | .invokespecial n => match st, zml (zo j) n with
    | .inr (.inl (some p)) :: r, some (5, _) => if 1 ≤ d ∧ r.length ≤ 4 then some (pc + 3, ls, r, M) else none
    | _, _ => none
  | .invokestatic n => match st, zml (zo j) n with
    | .inl b :: .inl a :: r, some (6, _) => if 1 ≤ d ∧ r.length ≤ 4 then some (pc + 3, ls, .inl (if a < b then b else a) :: r, M) else none
    | .inl b :: .inl a :: r, some (7, _) => if 1 ≤ d ∧ r.length ≤ 4 then some (pc + 3, ls, .inl (if b < a then b else a) :: r, M) else none
    | _, _ => none
  | _ => none
def znx (d j : Nat) (i : Instr) (pc : Nat) (ls : zL) (st : List zV) (M : zM) : Option zX :=
  match zn1 j i pc ls st M with
  | some c => some c
  | none => match zn2 i pc ls st M with
    | some c => some c
    | none => match zn3 j i pc ls st M with
      | some c => some c
      | none => zn4 d j i pc ls st M
def zsm (as : List zV) : Bool := as.all (fun v => match v with
  | .inr (.inr _) => false
  | _ => true)
/-- calls: the method, its arguments, what stays -/
def zca (j : Nat) (i : Instr) (st : List zV) (M : zM) : Option (Nat × List zV × List zV) := match i with
  | .invokevirtual n => match zml (zo j) n with
    | some (0, q) => match st.drop (zp q) with
      | .inr (.inl (some p)) :: r => if (M.2.2 p).1 = .inl (zo q) ∧ r.length ≤ 4 ∧ zp q ≤ st.length ∧ zsm (st.take (zp q)) = true then some (q, .inr (.inl (some p)) :: (st.take (zp q)).reverse, r) else none
      | _ => none
    | _ => none
  | .invokestatic n => match zml (zo j) n with
    | some (k, q) => if (k = 1 ∨ k = 3) ∧ zp q ≤ st.length ∧ (st.drop (zp q)).length ≤ 4 ∧ zsm (st.take (zp q)) = true then some (q, (st.take (zp q)).reverse, st.drop (zp q)) else none
    | _ => none
  | .invokespecial n => match zml (zo j) n with
    | some (k, q) => if k = 2 ∨ k = 4 then (match st.drop (zp q) with
      | .inr (.inl (some p)) :: r => if r.length ≤ 4 ∧ zp q ≤ st.length ∧ zsm (st.take (zp q)) = true then some (q, .inr (.inl (some p)) :: (st.take (zp q)).reverse, r) else none
      | _ => none) else none
    | _ => none
  | _ => none
/-- ends -/
def zre (j : Nat) (i : Instr) (st : List zV) : Option (Option zV) := match i, st with
  | .ireturn, [.inl v] => if zr j = some .int ∨ (zr j = some .boolean ∧ (v = 0 ∨ v = 1)) then some (some (.inl v)) else none
  | .lreturn, [.inr (.inr v)] => if zr j = some .long then some (some (.inr (.inr v))) else none
  | .return_, [] => if zr j = none then some none else none
  | _, _ => none
def zent (j : Nat) (as : List zV) : zL := as.map some ++ List.replicate (zn j - as.length) none
def zrun : Nat → Nat → Nat → Nat → zL → List zV → zM → Option (Option zV × zM)
  | 0, _, _, _, _, _, _ => none
  | n + 1, d, j, pc, ls, st, M => match zft j pc with
    | none => none
    | some (i, len) => if zlk i len = true then (match zre j i st with
      | some r => some (r, M)
      | none => match zca j i st M with
        | some c => (match d with
          | 0 => none
          | d' + 1 => match zrun n d' c.1 0 (zent c.1 c.2.1) [] M with
            | none => none
            | some x => zrun n (d' + 1) j (pc + 3) ls (x.1.toList ++ c.2.2) x.2)
        | none => match znx d j i pc ls st M with
          | some c => zrun n d j c.1 c.2.1 c.2.2.1 c.2.2.2
          | none => none) else none
