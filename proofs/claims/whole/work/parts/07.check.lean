/-! the tables are the code's: checked by the kernel -/
def pcq (c : List Row) (i : Nat) : Nat := match c[i]? with | some r => r.1 | none => 0
def wd (i : Nat) (w : Cond) : Bool := decide (lw_tbl[i]? = some w) && goodWord w
def wdN (i : Nat) (w : Cond) : Bool := decide (lw_tbl[i]? = some w)
def clB (a b q : Nat) : Bool := wd q (.code (mY a) (mB a) (mL a) (mR a)) && (decide ((mY a).cls ≠ "java/lang/invoke/MethodHandle") && (decide ((mY a).cls ≠ "java/lang/invoke/VarHandle") && (decide ((parseMethodDescriptor (mY a).desc).map (fun d => d.parameters.length) = some b) && (Nat.ble (mL a) 40 && Nat.blt a 188))))
def swT (c : List Row) (pc : Nat) (lo : Int) : Nat → List (Int32 × Nat) → List Int → Bool
  | _, [], [] => true
  | j, (k, t) :: r, o :: os => decide (k.toInt = lo + j) && (decide ((pc : Int) + o = (pcq c t : Int)) && swT c pc lo (j + 1) r os)
  | _, _, _ => false
def swL (c : List Row) (pc : Nat) : List (Int32 × Nat) → List (Int × Int) → Bool
  | [], [] => true
  | (k, t) :: r, (x, o) :: os => decide (k.toInt = x) && (decide ((pc : Int) + o = (pcq c t : Int)) && swL c pc r os)
  | _, _ => false
def nestHost : String := "TwoScales"
def rowB (y : MethodName) (bs : ByteArray) (mx : Nat) (c : List Row) (i : Nat) (r : Row) : Bool :=
  match r with
  | (pc, ins, a, b, z, zl, sw, ps) =>
  let dc : Nat → Bool := fun len => decide (decode bs pc = .ok (ins, len))
  let nx : Nat → Bool := fun len => dc len && decide (pcq c (i + 1) = pc + len)
  let jp : Int → Bool := fun off => decide ((pc : Int) + off = (pcq c a : Int))
  match ins with
  | .iconst n => nx 1 && decide (Int32.ofInt n = z)
  | .bipush n => nx 2 && decide ((Int8.ofInt n).toInt32 = z)
  | .sipush n => nx 3 && decide ((Int16.ofInt n).toInt32 = z)
  | .ldc k => nx 2 && wd (ps.getD 0 0) (.constant y.cls k z)
  | .ldc_w k => nx 3 && wd (ps.getD 0 0) (.constant y.cls k z)
  | .lconst n => nx 1 && decide (Int64.ofNat (n : Nat) = zl)
  | .ldc2_w k => nx 3 && wd (ps.getD 0 0) (.constantLong y.cls k zl)
  | .iload k => nx 2 && decide (k = a)
  | .lload k => nx 2 && decide (k = a)
  | .aload k => nx 2 && decide (k = a)
  | .iload_n k => nx 1 && decide ((k : Nat) = a)
  | .lload_n k => nx 1 && decide ((k : Nat) = a)
  | .aload_n k => nx 1 && decide ((k : Nat) = a)
  | .istore k => nx 2 && (decide (k = a) && decide (a < mx))
  | .astore k => nx 2 && (decide (k = a) && decide (a < mx))
  | .lstore k => nx 2 && (decide (k = a) && decide (a + 1 < mx))
  | .istore_n k => nx 1 && (decide ((k : Nat) = a) && decide (a < mx))
  | .astore_n k => nx 1 && (decide ((k : Nat) = a) && decide (a < mx))
  | .lstore_n k => nx 1 && (decide ((k : Nat) = a) && decide (a + 1 < mx))
  | .iinc k n => nx 3 && (decide (k = a) && (decide (a < mx) && decide (Int32.ofInt n = z)))
  | .iadd => nx 1 | .isub => nx 1 | .imul => nx 1 | .iand => nx 1 | .ior => nx 1 | .ixor => nx 1 | .ishl => nx 1 | .ishr => nx 1 | .iushr => nx 1
  | .ladd => nx 1 | .lmul => nx 1 | .lcmp => nx 1 | .i2l => nx 1 | .l2i => nx 1 | .i2c => nx 1 | .dup => nx 1 | .dup2 => nx 1 | .pop => nx 1
  | .idiv => nx 1 | .irem => nx 1 | .ldiv => nx 1 | .lrem => nx 1
  | .goto off => dc 3 && jp off
  | .ifCond _ off => nx 3 && jp off
  | .if_icmp _ off => nx 3 && jp off
  | .tableswitch df lo hi offs => dc b && (jp df && (swT c pc lo 0 sw offs.toList && decide (lo + (sw.length : Int) = hi + 1)))
  | .lookupswitch df prs => dc b && (jp df && (swL c pc sw prs.toList && (prs.toList.zip (prs.toList.drop 1)).all (fun (a, next) => a.1 < next.1)))
  | .getfield k => nx 3 && (match vwCl[a]? with
    | some (_, T, N) => decide (b < N) && wd (ps.getD 0 0) (.fieldLink y.cls k (T b).1 (T b).2.1 (T b).2.2.1)
    | none => false)
  | .putfield k => nx 3 && (match vwCl[a]? with
    | some (_, T, N) => decide (b < N) && (wd (ps.getD 0 0) (.fieldLink y.cls k (T b).1 (T b).2.1 (T b).2.2.1) && (!(T b).2.2.2 || (decide (y.name = "<init>") && decide ((T b).1 = y.cls))))
    | none => false)
  | .getstatic k => nx 3 && (if a = 0 then wd (ps.getD 0 0) (.fieldLink y.cls k "TwoScales$Tale" "LOW_AT_FIRST" "[I") else decide (a = 1) && wd (ps.getD 0 0) (.fieldLink y.cls k "TwoScales$Tale" "HIGH_AT_FIRST" "[I"))
  | .iaload => nx 1 | .baload => nx 1 | .caload => nx 1 | .aaload => nx 1 | .iastore => nx 1 | .bastore => nx 1 | .castore => nx 1 | .aastore => nx 1 | .arraylength => nx 1
  | .new k => nx 3 && (match vwCl[a]? with
    | some (C, _, N) => decide (b = N) && (wd (ps.getD 0 0) (.classLink y.cls k C) && (wd (ps.getD 1 0) (.instantiable C N) && wd (ps.getD 2 0) (.initialized C)))
    | none => false)
  | .newarray t => nx 2 && (decide (a < 3) && (decide ([FieldType.int, .boolean, .char][a]? = some (newarray.typeOf t)) && wd (ps.getD 0 0) (.arrayClass (newarray.typeOf t))))
  | .anewarray k => nx 3 && wd (ps.getD 0 0) (.classLink y.cls k "TwoScales$Now")
  | .ireturn => dc 1 | .lreturn => dc 1 | .areturn => dc 1 | .return_ => dc 1
  | .invokestatic k => nx 3 && (if a = 900 then wd (ps.getD 0 0) (.methodLink y.cls k arraycopyName) && (wd (ps.getD 1 0) (.native arraycopyName) && (wd (ps.getD 2 0) (.static arraycopyName) && wd (ps.getD 3 0) (.initialized "java/lang/System")))
    else wd (ps.getD 0 0) (.methodLink y.cls k (mY a)) && (wd (ps.getD 1 0) (.static (mY a)) && (wd (ps.getD 2 0) (.initialized (mY a).cls) && clB a b (ps.getD 3 0))))
  | .invokevirtual k => nx 3 && (wd (ps.getD 0 0) (.methodLink y.cls k (mY a)) && (wd (ps.getD 1 0) (.instanceMethod (mY a)) && (wd (ps.getD 2 0) (.selects (mY a).cls (mY a) (mY a)) && (wd (ps.getD 3 0) (.initialized (mY a).cls) && clB a b (ps.getD 4 0)))))
  | .invokespecial k => nx 3 && (if a = 901 then wd (ps.getD 0 0) (.methodLink y.cls k objectInit) && (wd (ps.getD 1 0) (.instanceMethod objectInit) && wd (ps.getD 2 0) (.code objectInit ⟨#[0xb1]⟩ 1 none))
    else (if z = 1 then wdN (ps.getD 0 0) (.methodLinkNest y.cls k (mY a) nestHost) else wd (ps.getD 0 0) (.methodLink y.cls k (mY a))) && (wd (ps.getD 1 0) (.instanceMethod (mY a)) && (wd (ps.getD 2 0) (.initialized (mY a).cls) && (decide ((mY a).name = "<init>") && (decide (mR a = none) && clB a b (ps.getD 3 0))))))
  | _ => false
def mPos (M : Nat) : Nat := (mI M).2.2.2.2.1
def mokB (M : Nat) : Bool := (mP M).zipIdx.all (fun q => rowB (mY M) (mB M) (mL M) (mP M) q.2 q.1) && (plainFor (mY M) && (decide (pcq (mP M) 0 = 0) && wd (mPos M) (.code (mY M) (mB M) (mL M) (mR M))))
