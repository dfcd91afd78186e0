/-! THE ABSTRACT MACHINE: values are the machine's, a reference is the number of a cell in the world's list -/
abbrev AE : Type := (Nat × vp_A) ⊕ (Nat × List Value)
abbrev AW : Type := List AE
abbrev AR : Type := Option Value × AW
def st1 (ls : List Value) (i : Nat) (v : Value) : List Value := match i with
  | 0 => ls.set 0 v
  | j + 1 => match ls[j]? with
    | some (.long _) => (ls.set j .null).set (j + 1) v
    | some (.double _) => (ls.set j .null).set (j + 1) v
    | _ => ls.set (j + 1) v
def st2 (ls : List Value) (i : Nat) (v : Value) : List Value := (st1 ls i v).set (i + 1) .null
def swl (x : Int32) (dft : Nat) : List (Int32 × Nat) → Nat
  | [] => dft
  | (k, t) :: r => if x = k then t else swl x dft r
/-- the simple instructions: no cell is written, no condition but a branch's -/
def nx1 (row : Row) (i : Nat) (ls st : List Value) (w : AW) : Option (Nat × List Value × List Value) :=
  match row with
  | (_, ins, a, b, z, zl, sw, _) =>
  match ins with
  | .iconst _ => some (i + 1, ls, .int z :: st)
  | .bipush _ => some (i + 1, ls, .int z :: st)
  | .sipush _ => some (i + 1, ls, .int z :: st)
  | .ldc _ => some (i + 1, ls, .int z :: st)
  | .ldc_w _ => some (i + 1, ls, .int z :: st)
  | .lconst _ => some (i + 1, ls, .long zl :: st)
  | .ldc2_w _ => some (i + 1, ls, .long zl :: st)
  | .iload _ => match ls[a]? with | some (.int x) => some (i + 1, ls, .int x :: st) | _ => none
  | .iload_n _ => match ls[a]? with | some (.int x) => some (i + 1, ls, .int x :: st) | _ => none
  | .lload _ => match ls[a]? with | some (.long x) => some (i + 1, ls, .long x :: st) | _ => none
  | .lload_n _ => match ls[a]? with | some (.long x) => some (i + 1, ls, .long x :: st) | _ => none
  | .aload _ => match ls[a]? with | some (.ref x) => some (i + 1, ls, .ref x :: st) | _ => none
  | .aload_n _ => match ls[a]? with | some (.ref x) => some (i + 1, ls, .ref x :: st) | _ => none
  | .istore _ => match st with | .int x :: st => some (i + 1, st1 ls a (.int x), st) | _ => none
  | .istore_n _ => match st with | .int x :: st => some (i + 1, st1 ls a (.int x), st) | _ => none
  | .astore _ => match st with | .ref x :: st => some (i + 1, st1 ls a (.ref x), st) | _ => none
  | .astore_n _ => match st with | .ref x :: st => some (i + 1, st1 ls a (.ref x), st) | _ => none
  | .lstore _ => match st with | .long x :: st => some (i + 1, st2 ls a (.long x), st) | _ => none
  | .lstore_n _ => match st with | .long x :: st => some (i + 1, st2 ls a (.long x), st) | _ => none
  | .iinc _ _ => match ls[a]? with | some (.int x) => some (i + 1, st1 ls a (.int (x + z)), st) | _ => none
  | .iadd => match st with | .int y :: .int x :: st => some (i + 1, ls, .int (x + y) :: st) | _ => none
  | .isub => match st with | .int y :: .int x :: st => some (i + 1, ls, .int (x - y) :: st) | _ => none
  | .imul => match st with | .int y :: .int x :: st => some (i + 1, ls, .int (x * y) :: st) | _ => none
  | .iand => match st with | .int y :: .int x :: st => some (i + 1, ls, .int (x &&& y) :: st) | _ => none
  | .ior => match st with | .int y :: .int x :: st => some (i + 1, ls, .int (x ||| y) :: st) | _ => none
  | .ixor => match st with | .int y :: .int x :: st => some (i + 1, ls, .int (x ^^^ y) :: st) | _ => none
  | .ishl => match st with | .int y :: .int x :: st => some (i + 1, ls, .int (x <<< (y &&& 31)) :: st) | _ => none
  | .ishr => match st with | .int y :: .int x :: st => some (i + 1, ls, .int (x >>> (y &&& 31)) :: st) | _ => none
  | .iushr => match st with | .int y :: .int x :: st => some (i + 1, ls, .int ((x.toUInt32 >>> (y.toUInt32 &&& Int32.toUInt32 31)).toInt32) :: st) | _ => none
  | .ladd => match st with | .long y :: .long x :: st => some (i + 1, ls, .long (x + y) :: st) | _ => none
  | .lmul => match st with | .long y :: .long x :: st => some (i + 1, ls, .long (x * y) :: st) | _ => none
  | .lcmp => match st with | .long y :: .long x :: st => some (i + 1, ls, .int (lg_cmp x y) :: st) | _ => none
  | .i2l => match st with | .int x :: st => some (i + 1, ls, .long x.toInt64 :: st) | _ => none
  | .l2i => match st with | .long x :: st => some (i + 1, ls, .int x.toInt32 :: st) | _ => none
  | .i2c => match st with | .int x :: st => some (i + 1, ls, .int (x.toUInt32 % 65536).toInt32 :: st) | _ => none
  | .dup => match st with | .int x :: st => some (i + 1, ls, .int x :: .int x :: st) | .ref x :: st => some (i + 1, ls, .ref x :: .ref x :: st) | _ => none
  | .dup2 => match st with | .int x :: .ref y :: st => some (i + 1, ls, .int x :: .ref y :: .int x :: .ref y :: st) | _ => none
  | .pop => match st with | .int _ :: st => some (i + 1, ls, st) | _ => none
  | .goto _ => some (a, ls, st)
  | .ifCond .eq _ => match st with | .int x :: st => some (if x = 0 then a else i + 1, ls, st) | _ => none
  | .ifCond .ne _ => match st with | .int x :: st => some (if x = 0 then i + 1 else a, ls, st) | _ => none
  | .ifCond .lt _ => match st with | .int x :: st => some (if x < 0 then a else i + 1, ls, st) | _ => none
  | .ifCond .ge _ => match st with | .int x :: st => some (if 0 ≤ x then a else i + 1, ls, st) | _ => none
  | .ifCond .gt _ => match st with | .int x :: st => some (if 0 < x then a else i + 1, ls, st) | _ => none
  | .ifCond .le _ => match st with | .int x :: st => some (if x ≤ 0 then a else i + 1, ls, st) | _ => none
  | .if_icmp .eq _ => match st with | .int y :: .int x :: st => some (if x = y then a else i + 1, ls, st) | _ => none
  | .if_icmp .ne _ => match st with | .int y :: .int x :: st => some (if x = y then i + 1 else a, ls, st) | _ => none
  | .if_icmp .lt _ => match st with | .int y :: .int x :: st => some (if x < y then a else i + 1, ls, st) | _ => none
  | .if_icmp .ge _ => match st with | .int y :: .int x :: st => some (if y ≤ x then a else i + 1, ls, st) | _ => none
  | .if_icmp .gt _ => match st with | .int y :: .int x :: st => some (if y < x then a else i + 1, ls, st) | _ => none
  | .if_icmp .le _ => match st with | .int y :: .int x :: st => some (if x ≤ y then a else i + 1, ls, st) | _ => none
  | .tableswitch _ _ _ _ => match st with | .int x :: st => some (swl x a sw, ls, st) | _ => none
  | .lookupswitch _ _ => match st with | .int x :: st => some (swl x a sw, ls, st) | _ => none
  | .getfield _ => match st with
    | .ref k :: st => match w[k]? with
      | some (.inr (ci, fs)) => match Nat.beq ci a with
        | true => match fs[b]? with | some v => some (i + 1, ls, v :: st) | none => none
        | false => none
      | _ => none
    | _ => none
  | _ => none
/-- a class's fields' types, and a new object's fields -/
def fty (ci : Nat) : Nat → FieldType := match ci with
  | 0 => tyX0 | 1 => tyX1 | 2 => tyX2 | 3 => tyX3 | 4 => tyX4 | 5 => tyX5 | 6 => tyX6 | 7 => tyX7 | 8 => tyX8 | _ => tyX9
def fds (ci n : Nat) : List Value := (List.range n).map (fun k => defaultValue (fty ci k))
def low0 (j : Nat) : Int32 := match j with | 0 => 4 | 1 => 20 | _ => 21
def high0 (j : Nat) : Int32 := match j with | 0 => 6 | 1 => 24 | _ => 40
def rNar (rt : Option FieldType) (v : Int32) : Bool := match rt with
  | some .boolean => decide (v = 0 ∨ v = 1)
  | some .int => true
  | _ => false
/-- an index is in its row -/
def vin (j : Int32) (n : Nat) : Bool := decide (0 ≤ j ∧ j.toNatClampNeg < n)
theorem vin_iff {j : Int32} {n : Nat} : vin j n = true ↔ vp_in j n := by
  unfold vin vp_in
  rw [decide_eq_true_eq, not_or, Nat.not_le, Int32.not_lt]
def spr : List Value → List Value
  | [] => []
  | .long x :: l => .long x :: .null :: spr l
  | .double x :: l => .double x :: .null :: spr l
  | v :: l => v :: spr l
def ent (n : Nat) (args : List Value) : List Value := spr args ++ List.replicate (n - (spr args).length) .null
/-- what the others do: on at the next instruction (stack, world), return, or call (depth, method, arguments, the rest of the stack) -/
abbrev A2 : Type := (List Value × AW) ⊕ (Option Value) ⊕ (Nat × Nat × List Value × List Value)
def nx2 (row : Row) (rt : Option FieldType) (d : Nat) (st : List Value) (w : AW) : Option A2 :=
  match row with
  | (_, ins, a, b, _, _, _, _) =>
  match ins with
  | .idiv => match st with | .int y :: .int x :: st => if y = 0 then none else some (.inl ((.int (x / y) :: st), w)) | _ => none
  | .irem => match st with | .int y :: .int x :: st => if y = 0 then none else some (.inl ((.int (x - x / y * y) :: st), w)) | _ => none
  | .ldiv => match st with | .long y :: .long x :: st => if y = 0 then none else some (.inl ((.long (x / y) :: st), w)) | _ => none
  | .lrem => match st with | .long y :: .long x :: st => if y = 0 then none else some (.inl ((.long (x - x / y * y) :: st), w)) | _ => none
  | .putfield _ => match st with
    | v :: .ref k :: st => match w[k]? with
      | some (.inr (ci, fs)) => if ci = a ∧ b < fs.length ∧ narrow (fty a b) v = v ∧ Jvm.fits (fty a b) v = true then some (.inl (st, (w.set k (.inr (ci, fs.set b v))))) else none
      | _ => none
    | _ => none
  | .getstatic _ => some (.inl ((.ref (1000000 + a) :: st), w))
  | .iaload => match st with
    | .int j :: .ref k :: st => if k = 1000000 then (if vin j 3 = true then some (.inl ((.int (low0 j.toNatClampNeg) :: st), w)) else none) else if k = 1000001 then (if vin j 3 = true then some (.inl ((.int (high0 j.toNatClampNeg) :: st), w)) else none) else
      match w[k]? with
      | some (.inl (t, n, .inl f)) => if t = 0 ∧ vin j n = true then some (.inl ((.int (f j.toNatClampNeg) :: st), w)) else none
      | _ => none
    | _ => none
  | .baload => match st with
    | .int j :: .ref k :: st => match w[k]? with
      | some (.inl (t, n, .inl f)) => if t = 1 ∧ vin j n = true then some (.inl ((.int (f j.toNatClampNeg) :: st), w)) else none
      | _ => none
    | _ => none
  | .caload => match st with
    | .int j :: .ref k :: st => match w[k]? with
      | some (.inl (t, n, .inl f)) => if t = 2 ∧ vin j n = true then some (.inl ((.int (f j.toNatClampNeg) :: st), w)) else none
      | _ => none
    | _ => none
  | .aaload => match st with
    | .int j :: .ref k :: st => match w[k]? with
      | some (.inl (t, n, .inr (.inr (.inr (.inr f))))) => if t = 3 ∧ vin j n = true then (match f j.toNatClampNeg with | some q => some (.inl ((.ref q :: st), w)) | none => none) else none
      | _ => none
    | _ => none
  | .iastore => match st with
    | .int x :: .int j :: .ref k :: st => match w[k]? with
      | some (.inl (t, n, .inl f)) => if t = 0 ∧ vin j n = true then some (.inl (st, (w.set k (.inl (t, n, .inl (upd f j.toNatClampNeg x)))))) else none
      | _ => none
    | _ => none
  | .bastore => match st with
    | .int x :: .int j :: .ref k :: st => match w[k]? with
      | some (.inl (t, n, .inl f)) => if t = 1 ∧ vin j n = true ∧ (x = 0 ∨ x = 1) then some (.inl (st, (w.set k (.inl (t, n, .inl (upd f j.toNatClampNeg x)))))) else none
      | _ => none
    | _ => none
  | .castore => match st with
    | .int x :: .int j :: .ref k :: st => match w[k]? with
      | some (.inl (t, n, .inl f)) => if t = 2 ∧ vin j n = true ∧ vp_nar .char x = x then some (.inl (st, (w.set k (.inl (t, n, .inl (upd f j.toNatClampNeg x)))))) else none
      | _ => none
    | _ => none
  | .aastore => match st with
    | .ref v :: .int j :: .ref k :: st => match w[v]? with
      | some (.inr (ci, _)) => match w[k]? with
        | some (.inl (t, n, .inr (.inr (.inr (.inr f))))) => if t = 3 ∧ ci = 4 ∧ vin j n = true then some (.inl (st, (w.set k (.inl (t, n, .inr (.inr (.inr (.inr (va_up f j.toNatClampNeg (some v)))))))))) else none
        | _ => none
      | _ => none
    | _ => none
  | .arraylength => match st with
    | .ref k :: st => match w[k]? with
      | some (.inl (t, n, .inl _)) => if t = 0 ∧ n < 1000 then some (.inl ((.int (Int32.ofNat n) :: st), w)) else none
      | _ => none
    | _ => none
  | .new _ => if w.length < 1000 then some (.inl ((.ref w.length :: st), (w ++ [.inr (a, fds a b)]))) else none
  | .newarray _ => match st with
    | .int n :: st => if ¬ n < 0 ∧ n.toNatClampNeg ≤ 1000 ∧ w.length < 1000 then some (.inl ((.ref w.length :: st), (w ++ [.inl (a, n.toNatClampNeg, .inl (fun _ => 0))]))) else none
    | _ => none
  | .anewarray _ => match st with
    | .int n :: st => if ¬ n < 0 ∧ n.toNatClampNeg ≤ 1000 ∧ w.length < 1000 then some (.inl ((.ref w.length :: st), (w ++ [.inl (3, n.toNatClampNeg, .inr (.inr (.inr (.inr (fun _ => none)))))]))) else none
    | _ => none
  | .ireturn => match st with | [.int v] => if rNar rt v = true then some (.inr (.inl (some (.int v)))) else none | _ => none
  | .lreturn => match st with | [.long v] => if rt = some .long then some (.inr (.inl (some (.long v)))) else none | _ => none
  | .areturn => match st with | [.ref v] => if rt = some (.object "TwoScales$Tale") then some (.inr (.inl (some (.ref v)))) else none | _ => none
  | .return_ => match st with | [] => if rt = none then some (.inr (.inl none)) else none | _ => none
  | .invokestatic _ => if a = 900 then (match st with
      | .int n :: .int dp :: .ref k1 :: .int sp :: .ref k0 :: st => match w[k0]?, w[k1]? with
        | some (.inl (t0, n0, .inl f)), some (.inl (t1, n1, .inl g)) => if t0 = 0 ∧ t1 = 0 ∧ 0 < d ∧ (st.map Value.category).sum ≤ 8 ∧ ¬ sp < 0 ∧ ¬ dp < 0 ∧ ¬ n < 0 ∧ sp.toNatClampNeg + n.toNatClampNeg ≤ n0 ∧ dp.toNatClampNeg + n.toNatClampNeg ≤ n1 then some (.inl (st, (w.set k1 (.inl (t1, n1, .inl (va_cpy f g sp.toNatClampNeg dp.toNatClampNeg n.toNatClampNeg)))))) else none
        | _, _ => none
      | _ => none)
    else match d with
    | 0 => none
    | d' + 1 => if b ≤ st.length ∧ ((st.drop b).map Value.category).sum ≤ 8 ∧ (spr (st.take b).reverse).length ≤ mL a then some (.inr (.inr (d', a, (st.take b).reverse, st.drop b))) else none
  | .invokevirtual _ => match d with
    | 0 => none
    | d' + 1 => match st.drop b with
      | .ref k :: rest => match w[k]? with
        | some (.inr (ci, _)) => if b ≤ st.length ∧ (vwCl[ci]?).map (fun q => q.1) = some (mY a).cls ∧ (rest.map Value.category).sum ≤ 8 ∧ (spr (.ref k :: (st.take b).reverse)).length ≤ mL a then some (.inr (.inr (d', a, .ref k :: (st.take b).reverse, rest))) else none
        | _ => none
      | _ => none
  | .invokespecial _ => match d with
    | 0 => none
    | d' + 1 => if a = 901 then (match st with
        | .ref _ :: rest => if (rest.map Value.category).sum ≤ 8 then some (.inl (rest, w)) else none
        | _ => none)
      else match st.drop b with
      | .ref k :: rest => if b ≤ st.length ∧ (rest.map Value.category).sum ≤ 8 ∧ (spr (.ref k :: (st.take b).reverse)).length ≤ mL a then some (.inr (.inr (d', a, .ref k :: (st.take b).reverse, rest))) else none
      | _ => none
  | _ => none
def run : Nat → Nat → Nat → Nat → List Value → List Value → AW → Option AR
  | 0, _, _, _, _, _, _ => none
  | n + 1, d, M, i, ls, st, w => match (mP M)[i]? with
    | none => none
    | some row => match nx1 row i ls st w with
      | some (i', ls', st') => run n d M i' ls' st' w
      | none => match nx2 row (mR M) d st w with
        | none => none
        | some (.inl (st', w')) => run n d M (i + 1) ls st' w'
        | some (.inr (.inl r)) => some (r, w)
        | some (.inr (.inr (d', M', args, rest))) => match run n d' M' 0 (ent (mL M') args) [] w with
          | none => none
          | some (r, w') => run n d M (i + 1) ls (r.toList ++ rest) w'
def Ev (d M i : Nat) (ls st : List Value) (w : AW) (r : Option Value) (w' : AW) : Prop := ∃ n, run n d M i ls st w = some (r, w')
