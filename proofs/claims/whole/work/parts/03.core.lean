/-! A SMALL MACHINE beside the big one: heap of typed words, frames as lists; its runs are a partial function (zrun). Part 04 shows that the big machine does what this one does. -/
abbrev zI : Type := Nat → Nat → Int32
abbrev zL : Type := Nat → Nat → Int64
abbrev zR : Type := Nat → Nat → Option Nat
/-- a cell: an object of a class (by its number), or an array (kind, length); kinds: 0 int, 1 long, 2 byte, 3 boolean, 4 rows -/
abbrev zK : Type := Nat ⊕ (Nat × Nat)
abbrev zH : Type := List zK × zI × zL × zR
abbrev zS : Type := Nat × List (Option Value) × List Value × zH × Nat × Nat
abbrev zEn : Type := Instr × Nat × List Nat × Int
abbrev zRes : Type := Option Value × zH × Nat × Nat
abbrev zO : Type := (List (Bool × zS) × zS) ⊕ (zRes ⊕ (Nat × List Value × zS))
/-- a place of the code: its instruction, and the locals that are dead there -/
abbrev zPl : Type := zEn × List Bool
abbrev zMeth : Type := MethodName × ByteArray × Nat × Option FieldType × Room × List (List (Option zPl))
def zy (M : zMeth) : MethodName := M.1
def zb (M : zMeth) : ByteArray := M.2.1
def zml (M : zMeth) : Nat := M.2.2.1
def zret (M : zMeth) : Option FieldType := M.2.2.2.1
def zrm (M : zMeth) : Room := M.2.2.2.2.1
def zcode (M : zMeth) : List (List (Option zPl)) := M.2.2.2.2.2
def zT : List Cond := lw_tbl.filter goodWord
def znth {α : Type} : List α → Nat → Option α
  | [], _ => none
  | a :: _, 0 => some a
  | _ :: l, n + 1 => znth l n
def zfetch (M : zMeth) (pc : Nat) : Option zEn :=
  match znth (zcode M) (pc / 16) with
  | none => none
  | some r => match znth r (pc % 16) with
    | some (some q) => some q.1
    | _ => none
def zdead (M : zMeth) (pc : Nat) : List Bool :=
  match znth (zcode M) (pc / 16) with
  | none => []
  | some r => match znth r (pc % 16) with
    | some (some q) => q.2
    | _ => []
def zclrM : List Bool → List (Option Value) → List (Option Value)
  | [], lo => lo
  | b :: r, lo => match lo with
    | [] => []
    | v :: l => cond b none v :: zclrM r l
def zclr (lo : List (Option Value)) (r : List Bool) : List (Option Value) := zclrM r lo
def zclear (M : zMeth) (S : zS) : zS := match S with
  | (pc, lo, st, h, ce, sl) => (pc, zclr lo (zdead M pc), st, h, ce, sl)
def zup {α : Type} (f : Nat → Nat → α) (k i : Nat) (v : α) : Nat → Nat → α := fun a b => cond (Nat.beq a k && Nat.beq b i) v (f a b)
def zfil {α : Type} (f : Nat → Nat → α) (k : Nat) (v : α) : Nat → Nat → α := fun a b => cond (Nat.beq a k) v (f a b)
/-- n places of cell k from p on come out of cell j from q on -/
def zcpy {α : Type} (f : Nat → Nat → α) (j q k p n : Nat) : Nat → Nat → α := fun a b => cond (Nat.beq a k && Nat.ble p b && Nat.blt b (p + n)) (f j (q + (b - p))) (f a b)
def zin (i : Int32) (n : Nat) : Bool := !(decide (i < 0) || Nat.ble n i.toNatClampNeg)
def zlong : Option (Option Value) → Bool
  | some (some v) => Nat.beq v.category 2
  | _ => false
/-- a value of one place is stored -/
def zst1 (lo : List (Option Value)) : Nat → Value → List (Option Value)
  | 0, v => lo.set 0 (some v)
  | i + 1, v => cond (zlong (znth lo i)) ((lo.set i none).set (i + 1) (some v)) (lo.set (i + 1) (some v))
def zst2 (lo : List (Option Value)) (i : Nat) (v : Value) : List (Option Value) := (zst1 lo i v).set (i + 1) none
def zargs : List Value → List (Option Value)
  | [] => []
  | .long x :: r => some (.long x) :: none :: zargs r
  | .double x :: r => some (.double x) :: none :: zargs r
  | v :: r => some v :: zargs r
def zpad (l : List (Option Value)) (n : Nat) : List (Option Value) := l ++ List.replicate (n - l.length) none
def znar (ty : FieldType) (v : Int32) : Bool := match ty with
  | .int => true
  | .boolean => v == 0 || v == 1
  | _ => false
/-- class by its number: its fields' types, their number -/
def zty (ci : Nat) : Nat → FieldType := match ci with
  | 0 => tyX0 | 1 => tyX1 | 2 => tyX2 | 3 => tyX3 | 4 => tyX4 | 5 => tyX5 | 6 => tyX6 | 7 => tyX7 | 8 => tyX8 | 9 => tyX9 | _ => tyX10
def zN (ci : Nat) : Nat := match ci with
  | 0 => 2 | 1 => 11 | 2 => 16 | 3 => 1 | 4 => 15 | 5 => 2 | 6 => 2 | 7 => 14 | 8 => 1 | 9 => 13 | 10 => 48 | _ => 0
def zfv (h : zH) (ty : FieldType) (k f : Nat) : Value := match ty with
  | .int => .int (h.2.1 k f)
  | .boolean => .int (h.2.1 k f)
  | .long => .long (h.2.2.1 k f)
  | _ => va_rf (h.2.2.2 k f)
def zisC (h : zH) (k ci : Nat) : Bool := match znth h.1 k with
  | some (.inl c) => Nat.beq c ci
  | _ => false
/-- the length of an array cell of a kind; the script (cell 1000) is no such cell -/
def zisA (h : zH) (k t : Nat) : Option Nat := match znth h.1 k with
  | some (.inr (t', n)) => cond (Nat.beq t' t) (some n) none
  | _ => none
def zlen (h : zH) (k : Nat) : Option Nat := match znth h.1 k with
  | some (.inr (_, n)) => some n
  | _ => none
def zput (h : zH) (ty : FieldType) (k f : Nat) (v : Value) : Option (Bool × zH) := match ty, v with
  | .int, .int x => some (true, (h.1, zup h.2.1 k f x, h.2.2.1, h.2.2.2))
  | .boolean, .int x => some (znar .boolean x, (h.1, zup h.2.1 k f x, h.2.2.1, h.2.2.2))
  | .long, .long x => some (true, (h.1, h.2.1, zup h.2.2.1 k f x, h.2.2.2))
  | .object _, .ref r => some (true, (h.1, h.2.1, h.2.2.1, zup h.2.2.2 k f (some r)))
  | .array _, .ref r => some (true, (h.1, h.2.1, h.2.2.1, zup h.2.2.2 k f (some r)))
  | _, _ => none
def znewo (h : zH) (ci : Nat) : zH := (h.1 ++ [.inl ci], zfil h.2.1 h.1.length 0, zfil h.2.2.1 h.1.length 0, zfil h.2.2.2 h.1.length none)
def znewa (h : zH) (t n : Nat) : zH := (h.1 ++ [.inr (t, n)], zfil h.2.1 h.1.length 0, zfil h.2.2.1 h.1.length 0, zfil h.2.2.2 h.1.length none)
def zatk (a : ArrayType) : Option Nat := match a with
  | .int => some 0 | .long => some 1 | .byte => some 2 | .boolean => some 3 | _ => none
/-- the two texts -/
def zbyt : List (List Int32) := [[100, 101, 115, 107, 32, 100, 97, 121, 115, 32, 102, 105, 114, 115, 116, 32, 102, 101, 97, 115, 116, 32, 116, 114, 97, 105, 110, 32, 97, 116, 32, 110, 101, 118, 101, 114, 32, 100, 97, 105, 108, 121, 32, 102, 114, 111, 109, 32, 116, 111, 32, 110, 111, 116, 32, 97, 108, 115, 111, 32, 109, 111, 32, 116, 117, 32, 119, 101, 32, 116, 104, 32, 102, 114, 32, 115, 97, 32, 115, 117], [32, 100, 101, 115, 107, 32, 100, 97, 121, 115, 32, 102, 105, 114, 115, 116, 32, 102, 101, 97, 115, 116, 32, 116, 114, 97, 105, 110, 32, 97, 116, 32, 110, 101, 118, 101, 114, 32, 100, 97, 105, 108, 121, 32, 102, 114, 111, 109, 32, 116, 111, 32, 110, 111, 116, 32, 97, 108, 115, 111, 32, 109, 111, 32, 116, 117, 32, 119, 101, 32, 116, 104, 32, 102, 114, 32, 115, 97, 32, 115, 117, 32]]
def zlens : List Nat := [80, 82]
def zch (k : Nat) (i : Int32) : Int32 := (zbyt.getD k []).getD i.toNatClampNeg 0
def zcs (l : List Value) : Nat := (l.map fun v => v.category).sum
def zk (pc : Nat) (lo : List (Option Value)) (st : List Value) (h : zH) (ce sl : Nat) : Option (Bool × zO) := some (true, .inl ([], (pc, lo, st, h, ce, sl)))
def zg (g : Bool) (pc : Nat) (lo : List (Option Value)) (st : List Value) (h : zH) (ce sl : Nat) : Option (Bool × zO) := some (g, .inl ([], (pc, lo, st, h, ce, sl)))
def zbr (b : Bool) (t pc : Nat) (lo : List (Option Value)) (st : List Value) (h : zH) (ce sl : Nat) : Option (Bool × zO) := some (true, .inl ([(b, (t, lo, st, h, ce, sl))], (pc, lo, st, h, ce, sl)))
def zoff (pc : Nat) (off : Int) : Nat := ((pc : Int) + off).toNat
def zcmp (c : ClassFile.Cond) (x y : Int32) : Bool := match c with
  | .eq => decide (x = y)
  | .ne => !decide (x = y)
  | .lt => decide (x < y)
  | .ge => !decide (x < y)
  | .gt => decide (y < x)
  | .le => !decide (y < x)
def zldi (lo : List (Option Value)) (i pc : Nat) (st : List Value) (h : zH) (ce sl : Nat) : Option (Bool × zO) := match znth lo i with
  | some (some (.int x)) => zk pc lo (.int x :: st) h ce sl
  | _ => none
def zldl (lo : List (Option Value)) (i pc : Nat) (st : List Value) (h : zH) (ce sl : Nat) : Option (Bool × zO) := match znth lo i with
  | some (some (.long x)) => zk pc lo (.long x :: st) h ce sl
  | _ => none
def zlda (lo : List (Option Value)) (i pc : Nat) (st : List Value) (h : zH) (ce sl : Nat) : Option (Bool × zO) := match znth lo i with
  | some (some (.ref x)) => zk pc lo (.ref x :: st) h ce sl
  | some (some .null) => zk pc lo (.null :: st) h ce sl
  | _ => none
def zis (lo : List (Option Value)) (n i pc : Nat) (st : List Value) (h : zH) (ce sl : Nat) : Option (Bool × zO) := match st with
  | .int x :: r => zg (Nat.blt i n) pc (zst1 lo i (.int x)) r h ce sl
  | _ => none
def zls (lo : List (Option Value)) (n i pc : Nat) (st : List Value) (h : zH) (ce sl : Nat) : Option (Bool × zO) := match st with
  | .long x :: r => zg (Nat.blt (i + 1) n) pc (zst2 lo i (.long x)) r h ce sl
  | _ => none
def zas (lo : List (Option Value)) (n i pc : Nat) (st : List Value) (h : zH) (ce sl : Nat) : Option (Bool × zO) := match st with
  | .ref x :: r => zg (Nat.blt i n) pc (zst1 lo i (.ref x)) r h ce sl
  | .null :: r => zg (Nat.blt i n) pc (zst1 lo i .null) r h ce sl
  | _ => none
def zi2 (f : Int32 → Int32 → Int32) (lo : List (Option Value)) (pc : Nat) (st : List Value) (h : zH) (ce sl : Nat) : Option (Bool × zO) := match st with
  | .int y :: .int x :: r => zk pc lo (.int (f x y) :: r) h ce sl
  | _ => none
def zi1 (f : Int32 → Value) (lo : List (Option Value)) (pc : Nat) (st : List Value) (h : zH) (ce sl : Nat) : Option (Bool × zO) := match st with
  | .int x :: r => zk pc lo (f x :: r) h ce sl
  | _ => none
def zl2 (f : Int64 → Int64 → Int64) (lo : List (Option Value)) (pc : Nat) (st : List Value) (h : zH) (ce sl : Nat) : Option (Bool × zO) := match st with
  | .long y :: .long x :: r => zk pc lo (.long (f x y) :: r) h ce sl
  | _ => none
/-- a call: callee, arguments, the state behind it but for the answer -/
def zcl (g : Bool) (y : Nat) (as : List Value) (pc : Nat) (lo : List (Option Value)) (st : List Value) (h : zH) (ce sl : Nat) : Option (Bool × zO) := some (g, .inr (.inr (y, as, (pc, lo, st, h, ce, sl))))
def zinv (R : Room) (ns : List Nat) (lo : List (Option Value)) (pc : Nat) (st : List Value) (h : zH) (ce sl : Nat) : Option (Bool × zO) := match ns with
  | 0 :: y :: n :: mc :: ms :: ci :: _ =>
    match (st.take n).reverse with
    | .ref k :: as => zcl (zisC h k ci && Nat.beq (as.length + 1) n && Nat.ble (zcs (st.drop n)) 8 && Nat.ble (ce + mc) R.cells && Nat.ble (sl + ms) R.slots) y (.ref k :: as) pc lo (st.drop n) h (ce + mc) (sl + ms)
    | _ => none
  | 1 :: y :: n :: mc :: ms :: _ => zcl (Nat.beq (st.take n).length n && Nat.ble (zcs (st.drop n)) 8 && Nat.ble (ce + mc) R.cells && Nat.ble (sl + ms) R.slots) y (st.take n).reverse pc lo (st.drop n) h (ce + mc) (sl + ms)
  | 2 :: y :: n :: mc :: ms :: _ =>
    match (st.take n).reverse with
    | .ref k :: as => zcl (Nat.beq (as.length + 1) n && Nat.ble (zcs (st.drop n)) 8 && Nat.ble (ce + mc) R.cells && Nat.ble (sl + ms) R.slots) y (.ref k :: as) pc lo (st.drop n) h (ce + mc) (sl + ms)
    | _ => none
  | 3 :: _ => match st with
    | .ref _ :: r => zg (Nat.ble (zcs r + 12) R.locals) pc lo r h ce sl
    | _ => none
  | 4 :: _ => match st with
    | .int n :: .int dp :: .ref k :: .int sp :: .ref j :: r => match zisA h j 0, zisA h k 0 with
      | some n0, some n1 => zg (!decide (sp < 0) && !decide (dp < 0) && !decide (n < 0) && Nat.ble (sp.toNatClampNeg + n.toNatClampNeg) n0 && Nat.ble (dp.toNatClampNeg + n.toNatClampNeg) n1 && Nat.ble (zcs r) 8) pc lo r (h.1, zcpy h.2.1 j sp.toNatClampNeg k dp.toNatClampNeg n.toNatClampNeg, h.2.2.1, h.2.2.2) ce sl
      | _, _ => none
    | _ => none
  | 5 :: _ => match st with
    | .ref k :: r => zg (Nat.ble 1001 k && Nat.ble k 1002 && Nat.ble (zcs r) 8 && Nat.ble ce R.cells && Nat.ble sl R.slots) pc lo (.int (nI (zlens.getD (k - 1001) 0)) :: r) h ce sl
    | _ => none
  | 6 :: _ => match st with
    | .int i :: .ref k :: r => zg (Nat.ble 1001 k && Nat.ble k 1002 && Nat.ble (zcs r) 8 && zin i (zlens.getD (k - 1001) 0) && Nat.ble ce R.cells && Nat.ble sl R.slots) pc lo (.int (zch (k - 1001) i) :: r) h ce sl
    | _ => none
  | _ => none
def zstep (M : zMeth) (S : zS) : Option (Bool × zO) :=
  match S with
  | (pc, lo, st, h, ce, sl) =>
  match zfetch M pc with
  | none => none
  | some (ins, len, ns, z) =>
    match ins with
    | .iconst n => zk (pc + len) lo (.int (Int32.ofInt n) :: st) h ce sl
    | .bipush n => zk (pc + len) lo (.int (Int8.ofInt n).toInt32 :: st) h ce sl
    | .sipush n => zk (pc + len) lo (.int (Int16.ofInt n).toInt32 :: st) h ce sl
    | .lconst n => zk (pc + len) lo (.long (Int64.ofNat (n : Nat)) :: st) h ce sl
    | .aconst_null => zk (pc + len) lo (.null :: st) h ce sl
    | .ldc _ => match ns with
      | 0 :: _ => zk (pc + len) lo (.int (Int32.ofInt z) :: st) h ce sl
      | 1 :: k :: _ => zk (pc + len) lo (.ref (1001 + k) :: st) h ce sl
      | _ => none
    | .ldc_w _ => zk (pc + len) lo (.int (Int32.ofInt z) :: st) h ce sl
    | .ldc2_w _ => zk (pc + len) lo (.long (Int64.ofInt z) :: st) h ce sl
    | .iload_n k => zldi lo (k : Nat) (pc + len) st h ce sl
    | .iload k => zldi lo k (pc + len) st h ce sl
    | .lload_n k => zldl lo (k : Nat) (pc + len) st h ce sl
    | .lload k => zldl lo k (pc + len) st h ce sl
    | .aload_n k => zlda lo (k : Nat) (pc + len) st h ce sl
    | .aload k => zlda lo k (pc + len) st h ce sl
    | .istore_n k => zis lo (zml M) (k : Nat) (pc + len) st h ce sl
    | .istore k => zis lo (zml M) k (pc + len) st h ce sl
    | .lstore_n k => zls lo (zml M) (k : Nat) (pc + len) st h ce sl
    | .lstore k => zls lo (zml M) k (pc + len) st h ce sl
    | .astore_n k => zas lo (zml M) (k : Nat) (pc + len) st h ce sl
    | .astore k => zas lo (zml M) k (pc + len) st h ce sl
    | .iinc i n => match znth lo i with
      | some (some (.int x)) => zg (Nat.blt i (zml M)) (pc + len) (zst1 lo i (.int (x + Int32.ofInt n))) st h ce sl
      | _ => none
    | .iadd => zi2 (fun x y => x + y) lo (pc + len) st h ce sl
    | .isub => zi2 (fun x y => x - y) lo (pc + len) st h ce sl
    | .imul => zi2 (fun x y => x * y) lo (pc + len) st h ce sl
    | .iand => zi2 (fun x y => x &&& y) lo (pc + len) st h ce sl
    | .ior => zi2 (fun x y => x ||| y) lo (pc + len) st h ce sl
    | .ixor => zi2 (fun x y => x ^^^ y) lo (pc + len) st h ce sl
    | .ishl => zi2 (fun x y => x <<< (y &&& 31)) lo (pc + len) st h ce sl
    | .ishr => zi2 (fun x y => x >>> (y &&& 31)) lo (pc + len) st h ce sl
    | .iushr => zi2 (fun x y => (x.toUInt32 >>> (y.toUInt32 &&& Int32.toUInt32 31)).toInt32) lo (pc + len) st h ce sl
    | .idiv => match st with
      | .int y :: .int x :: r => zg (!decide (y = 0)) (pc + len) lo (.int (x / y) :: r) h ce sl
      | _ => none
    | .irem => match st with
      | .int y :: .int x :: r => zg (!decide (y = 0)) (pc + len) lo (.int (x - x / y * y) :: r) h ce sl
      | _ => none
    | .ineg => zi1 (fun x => .int (-x)) lo (pc + len) st h ce sl
    | .i2l => zi1 (fun x => .long x.toInt64) lo (pc + len) st h ce sl
    | .i2b => zi1 (fun x => .int x.toInt8.toInt32) lo (pc + len) st h ce sl
    | .i2c => zi1 (fun x => .int (x.toUInt32 % 65536).toInt32) lo (pc + len) st h ce sl
    | .l2i => match st with
      | .long x :: r => zk (pc + len) lo (.int x.toInt32 :: r) h ce sl
      | _ => none
    | .ladd => zl2 (fun x y => x + y) lo (pc + len) st h ce sl
    | .lmul => zl2 (fun x y => x * y) lo (pc + len) st h ce sl
    | .land => zl2 (fun x y => x &&& y) lo (pc + len) st h ce sl
    | .lor => zl2 (fun x y => x ||| y) lo (pc + len) st h ce sl
    | .lshl => match st with
      | .int y :: .long x :: r => zk (pc + len) lo (.long (x <<< (y.toInt64 &&& 63)) :: r) h ce sl
      | _ => none
    | .lshr => match st with
      | .int y :: .long x :: r => zk (pc + len) lo (.long (x >>> (y.toInt64 &&& 63)) :: r) h ce sl
      | _ => none
    | .lcmp => match st with
      | .long y :: .long x :: r => zk (pc + len) lo (.int (lg_cmp x y) :: r) h ce sl
      | _ => none
    | .dup => match st with
      | v :: r => zg (Nat.beq v.category 1) (pc + len) lo (v :: v :: r) h ce sl
      | _ => none
    | .dup2 => match st with
      | v :: w :: r => zg (Nat.beq v.category 1 && Nat.beq w.category 1) (pc + len) lo (v :: w :: v :: w :: r) h ce sl
      | _ => none
    | .pop => match st with
      | v :: r => zg (Nat.beq v.category 1) (pc + len) lo r h ce sl
      | _ => none
    | .goto o => zk (zoff pc o) lo st h ce sl
    | .ifCond c o => match st with
      | .int x :: r => zbr (zcmp c x 0) (zoff pc o) (pc + len) lo r h ce sl
      | _ => none
    | .if_icmp c o => match st with
      | .int y :: .int x :: r => zbr (zcmp c x y) (zoff pc o) (pc + len) lo r h ce sl
      | _ => none
    | .ifnull o => match st with
      | .null :: r => zk (zoff pc o) lo r h ce sl
      | .ref _ :: r => zk (pc + len) lo r h ce sl
      | _ => none
    | .tableswitch d a _ offs => match st with
      | .int x :: r => some (true, .inl (offs.toList.mapIdx (fun i o => (decide (x = Int32.ofInt (a + (i : Int))), (zoff pc o, lo, r, h, ce, sl))), (zoff pc d, lo, r, h, ce, sl)))
      | _ => none
    | .lookupswitch d ps => match st with
      | .int x :: r => some (true, .inl (ps.toList.map (fun q => (decide (x = Int32.ofInt q.1), (zoff pc q.2, lo, r, h, ce, sl))), (zoff pc d, lo, r, h, ce, sl)))
      | _ => none
    | .getfield _ => match ns, st with
      | ci :: f :: _, .ref k :: r => zg (zisC h k ci) (pc + len) lo (zfv h (zty ci f) k f :: r) h ce sl
      | _, _ => none
    | .putfield _ => match ns, st with
      | ci :: f :: _, v :: .ref k :: r => match zput h (zty ci f) k f v with
        | some (g, h') => zg (zisC h k ci && g) (pc + len) lo r h' ce sl
        | none => none
      | _, _ => none
    | .iaload => match st with
      | .int i :: .ref k :: r => match zisA h k 0 with
        | some n => zg (zin i n) (pc + len) lo (.int (h.2.1 k i.toNatClampNeg) :: r) h ce sl
        | none => none
      | _ => none
    | .baload => match st with
      | .int i :: .ref k :: r => match zlen h k with
        | some n => zg (zin i n && ((zisA h k 2).isSome || (zisA h k 3).isSome)) (pc + len) lo (.int (h.2.1 k i.toNatClampNeg) :: r) h ce sl
        | none => none
      | _ => none
    | .laload => match st with
      | .int i :: .ref k :: r => match zisA h k 1 with
        | some n => zg (zin i n) (pc + len) lo (.long (h.2.2.1 k i.toNatClampNeg) :: r) h ce sl
        | none => none
      | _ => none
    | .aaload => match st with
      | .int i :: .ref k :: r => match zisA h k 4 with
        | some n => zg (zin i n) (pc + len) lo (va_rf (h.2.2.2 k i.toNatClampNeg) :: r) h ce sl
        | none => none
      | _ => none
    | .iastore => match st with
      | .int x :: .int i :: .ref k :: r => match zisA h k 0 with
        | some n => zg (zin i n) (pc + len) lo r (h.1, zup h.2.1 k i.toNatClampNeg x, h.2.2.1, h.2.2.2) ce sl
        | none => none
      | _ => none
    | .bastore => match st with
      | .int x :: .int i :: .ref k :: r => match znth h.1 k with
        | some (.inr (2, n)) => zg (zin i n) (pc + len) lo r (h.1, zup h.2.1 k i.toNatClampNeg (vp_nar .byte x), h.2.2.1, h.2.2.2) ce sl
        | some (.inr (3, n)) => zg (zin i n) (pc + len) lo r (h.1, zup h.2.1 k i.toNatClampNeg (vp_nar .boolean x), h.2.2.1, h.2.2.2) ce sl
        | _ => none
      | _ => none
    | .lastore => match st with
      | .long x :: .int i :: .ref k :: r => match zisA h k 1 with
        | some n => zg (zin i n) (pc + len) lo r (h.1, h.2.1, zup h.2.2.1 k i.toNatClampNeg x, h.2.2.2) ce sl
        | none => none
      | _ => none
    | .aastore => match st with
      | .ref x :: .int i :: .ref k :: r => match zisA h k 4 with
        | some n => zg (zin i n && zisC h x 5) (pc + len) lo r (h.1, h.2.1, h.2.2.1, zup h.2.2.2 k i.toNatClampNeg (some x)) ce sl
        | none => none
      | _ => none
    | .arraylength => match st with
      | .ref k :: r => match zlen h k with
        | some n => zk (pc + len) lo (.int (nI n) :: r) h ce sl
        | none => none
      | _ => none
    | .newarray a => match st with
      | .int n :: r => match zatk a with
        | some t => zg (!decide (n < 0) && Nat.ble n.toNatClampNeg 65536 && Nat.blt h.1.length 900 && Nat.ble (ce + 1) (zrm M).cells && Nat.ble (sl + n.toNatClampNeg) (zrm M).slots) (pc + len) lo (.ref h.1.length :: r) (znewa h t n.toNatClampNeg) (ce + 1) (sl + n.toNatClampNeg)
        | none => none
      | _ => none
    | .anewarray _ => match st with
      | .int n :: r => zg (!decide (n < 0) && Nat.ble n.toNatClampNeg 65536 && Nat.blt h.1.length 900 && Nat.ble (ce + 1) (zrm M).cells && Nat.ble (sl + n.toNatClampNeg) (zrm M).slots) (pc + len) lo (.ref h.1.length :: r) (znewa h 4 n.toNatClampNeg) (ce + 1) (sl + n.toNatClampNeg)
      | _ => none
    | .new _ => match ns with
      | ci :: _ => zg (Nat.blt ci 11 && Nat.blt h.1.length 900 && Nat.ble (ce + 1) (zrm M).cells && Nat.ble (sl + zN ci) (zrm M).slots) (pc + len) lo (.ref h.1.length :: st) (znewo h ci) (ce + 1) (sl + zN ci)
      | _ => none
    | .invokevirtual _ => zinv (zrm M) ns lo (pc + len) st h ce sl
    | .invokespecial _ => zinv (zrm M) ns lo (pc + len) st h ce sl
    | .invokestatic _ => zinv (zrm M) ns lo (pc + len) st h ce sl
    | .ireturn => match st, zret M with
      | [.int x], some ty => some (znar ty x && Nat.ble ce (zrm M).cells && Nat.ble sl (zrm M).slots, .inr (.inl (some (.int x), h, ce, sl)))
      | _, _ => none
    | .lreturn => match st, zret M with
      | [.long x], some .long => some (Nat.ble ce (zrm M).cells && Nat.ble sl (zrm M).slots, .inr (.inl (some (.long x), h, ce, sl)))
      | _, _ => none
    | .areturn => match st, zret M with
      | [.ref x], some (.object _) => some (Nat.ble ce (zrm M).cells && Nat.ble sl (zrm M).slots, .inr (.inl (some (.ref x), h, ce, sl)))
      | _, _ => none
    | .return_ => match st, zret M with
      | [], none => some (Nat.ble ce (zrm M).cells && Nat.ble sl (zrm M).slots, .inr (.inl (none, h, ce, sl)))
      | _, _ => none
    | _ => none
def zsw {ρ : Type} : List (Bool × zS) → (zS → ρ) → zS → ρ
  | [], f, d => f d
  | (b, s) :: r, f, d => cond b (f s) (zsw r f d)
/-- what comes of a step, by what comes of the states behind it and of calls -/
def zthen (F : zS → Option zRes) (G : Nat → List Value → zH → Option (Option Value × zH)) (x : Option (Bool × zO)) : Option zRes := match x with
  | none => none
  | some (g, o) => cond g (match o with
    | .inl (bs, S') => zsw bs F S'
    | .inr (.inl r) => some r
    | .inr (.inr (y, as, (pc, lo, st, h, ce, sl))) => (G y as h).bind (fun q => F (pc, lo, q.1.toList ++ st, q.2, ce, sl))) none
def zent (M : zMeth) (as : List Value) (h : zH) : zS := cond (Nat.ble (zargs as).length (zml M)) (0, zpad (zargs as) (zml M), [], h, 0, 0) (99999, [], [], h, 0, 0)
section ZEX
variable (Z : Nat → zMeth)
def zex : Nat → zMeth → zS → Option zRes
  | 0, _, _ => none
  | n + 1, M, S => zthen (zex n M) (fun y as h => (zex n (Z y) (zent (Z y) as h)).map (fun r => (r.1, r.2.1))) (zstep M (zclear M S))
theorem zsw_map {ρ : Type} (F F' : zS → Option ρ) (hF : ∀ S r, F S = some r → F' S = some r) : ∀ (bs : List (Bool × zS)) (d : zS) (r : ρ), zsw bs F d = some r → zsw bs F' d = some r
  | [], d, r, h => hF d r h
  | (true, s) :: _, _, r, h => hF s r h
  | (false, _) :: bs, d, r, h => zsw_map F F' hF bs d r h
theorem zthen_mono {F F' : zS → Option zRes} {G G' : Nat → List Value → zH → Option (Option Value × zH)} (hF : ∀ S r, F S = some r → F' S = some r) (hG : ∀ y as h r, G y as h = some r → G' y as h = some r) (x : Option (Bool × zO)) (r : zRes) (h : zthen F G x = some r) : zthen F' G' x = some r := by
  match x with
  | none => exact h
  | some (false, _) => exact h
  | some (true, .inl (bs, S')) => exact zsw_map F F' hF bs S' r h
  | some (true, .inr (.inl r')) => exact h
  | some (true, .inr (.inr (y, as, (pc, lo, st, hh, ce, sl)))) =>
    have h1 : (G y as hh).bind (fun q => F (pc, lo, q.1.toList ++ st, q.2, ce, sl)) = some r := h
    show (G' y as hh).bind (fun q => F' (pc, lo, q.1.toList ++ st, q.2, ce, sl)) = some r
    obtain ⟨q, h2, h3⟩ := Option.bind_eq_some_iff.mp h1
    exact Option.bind_eq_some_iff.mpr ⟨q, hG _ _ _ _ h2, hF _ _ h3⟩
theorem zex_succ (n : Nat) : ∀ (M : zMeth) (S : zS) (r : zRes), zex Z n M S = some r → zex Z (n + 1) M S = some r := by
  induction n with
  | zero => intro M S r h; cases h
  | succ n ih =>
    intro M S r h
    refine zthen_mono (F := zex Z n M) (fun S r h => ih M S r h) (fun y as hh q h => ?_) (zstep M (zclear M S)) r h
    obtain ⟨r', h1, h2⟩ := Option.map_eq_some_iff.mp h
    exact Option.map_eq_some_iff.mpr ⟨r', ih _ _ _ h1, h2⟩
theorem zex_le {n k : Nat} (hk : n ≤ k) {M : zMeth} {S : zS} {r : zRes} (h : zex Z n M S = some r) : zex Z k M S = some r := by
  induction hk with
  | refl => exact h
  | step _ ih => exact zex_succ Z _ _ _ _ ih
noncomputable def zrun (M : zMeth) (S : zS) : Option zRes := Classical.epsilon (fun o : Option zRes => (∃ n, zex Z n M S = o ∧ o ≠ none) ∨ ((∀ n, zex Z n M S = none) ∧ o = none))
theorem zrun_spec (M : zMeth) (S : zS) : (∃ n, zex Z n M S = zrun Z M S ∧ zrun Z M S ≠ none) ∨ ((∀ n, zex Z n M S = none) ∧ zrun Z M S = none) := by
  refine Classical.epsilon_spec (p := fun o : Option zRes => (∃ n, zex Z n M S = o ∧ o ≠ none) ∨ ((∀ n, zex Z n M S = none) ∧ o = none)) ?_
  by_cases h : ∃ n, zex Z n M S ≠ none
  · obtain ⟨n, hn⟩ := h
    exact ⟨_, Or.inl ⟨n, rfl, hn⟩⟩
  · exact ⟨none, Or.inr ⟨fun n => Classical.byContradiction fun q => h ⟨n, q⟩, rfl⟩⟩
theorem zrun_some {M : zMeth} {S : zS} {r : zRes} : zrun Z M S = some r ↔ ∃ n, zex Z n M S = some r := by
  constructor
  · intro h
    rcases zrun_spec Z M S with ⟨n, h1, -⟩ | ⟨-, h2⟩
    · exact ⟨n, h1.trans h⟩
    · rw [h] at h2; cases h2
  · rintro ⟨n, hn⟩
    rcases zrun_spec Z M S with ⟨k, h1, h2⟩ | ⟨h1, -⟩
    · cases hz : zrun Z M S with
      | none => exact absurd hz h2
      | some r' =>
        rw [hz] at h1
        have a := zex_le Z (Nat.le_max_left n k) hn
        have b := zex_le Z (Nat.le_max_right n k) h1
        exact (b.symm.trans a)
    · rw [h1 n] at hn; cases hn
noncomputable def zcall (y : Nat) (as : List Value) (h : zH) : Option (Option Value × zH) := (zrun Z (Z y) (zent (Z y) as h)).map (fun r => (r.1, r.2.1))
theorem zcall_some {y : Nat} {as : List Value} {h : zH} {q : Option Value × zH} : zcall Z y as h = some q ↔ ∃ n ce sl, zex Z n (Z y) (zent (Z y) as h) = some (q.1, q.2, ce, sl) := by
  constructor
  · intro hc
    obtain ⟨r, h1, h2⟩ := Option.map_eq_some_iff.mp hc
    obtain ⟨n, hn⟩ := (zrun_some Z).mp h1
    subst h2
    exact ⟨n, r.2.2.1, r.2.2.2, hn⟩
  · rintro ⟨n, ce, sl, hn⟩
    exact Option.map_eq_some_iff.mpr ⟨_, (zrun_some Z).mpr ⟨n, hn⟩, rfl⟩
theorem zopt_ext {α : Type} {a b : Option α} (h : ∀ r, a = some r ↔ b = some r) : a = b := by
  cases a with
  | none => cases b with
    | none => rfl
    | some y => exact ((h y).mpr rfl)
  | some x => exact ((h x).mp rfl).symm
theorem zsw_fin {ρ : Type} (f : Nat → zS → Option ρ) (F : zS → Option ρ) (hF : ∀ S r, F S = some r → ∃ n, f n S = some r) : ∀ (bs : List (Bool × zS)) (d : zS) (r : ρ), zsw bs F d = some r → ∃ n, zsw bs (f n) d = some r
  | [], d, r, h => hF d r h
  | (true, s) :: _, _, r, h => hF s r h
  | (false, _) :: bs, d, r, h => zsw_fin f F hF bs d r h
theorem zrun_step (M : zMeth) (S : zS) : zrun Z M S = zthen (zrun Z M) (zcall Z) (zstep M (zclear M S)) := by
  refine zopt_ext fun r => ⟨fun h => ?_, fun h => ?_⟩
  · obtain ⟨n, hn⟩ := (zrun_some Z).mp h
    cases n with
    | zero => cases hn
    | succ n =>
      refine zthen_mono (F := zex Z n M) (fun S r h => (zrun_some Z).mpr ⟨n, h⟩) (fun y as hh q h => ?_) (zstep M (zclear M S)) r hn
      obtain ⟨r', h1, h2⟩ := Option.map_eq_some_iff.mp h
      exact Option.map_eq_some_iff.mpr ⟨r', (zrun_some Z).mpr ⟨n, h1⟩, h2⟩
  · refine (zrun_some Z).mpr ?_
    match hs : zstep M (zclear M S) with
    | none => rw [hs] at h; cases h
    | some (false, _) => rw [hs] at h; cases h
    | some (true, .inl (bs, S')) =>
      rw [hs] at h
      obtain ⟨n, hn⟩ := zsw_fin (fun n => zex Z n M) (zrun Z M) (fun S r h => (zrun_some Z).mp h) bs S' r h
      refine ⟨n + 1, ?_⟩
      show zthen _ _ (zstep M (zclear M S)) = some r
      rw [hs]
      exact hn
    | some (true, .inr (.inl r')) =>
      rw [hs] at h
      refine ⟨1, ?_⟩
      show zthen _ _ (zstep M (zclear M S)) = some r
      rw [hs]
      exact h
    | some (true, .inr (.inr (y, as, (pc, lo, st, hh, ce, sl)))) =>
      rw [hs] at h
      have h1 : (zcall Z y as hh).bind (fun q => zrun Z M (pc, lo, q.1.toList ++ st, q.2, ce, sl)) = some r := h
      obtain ⟨q, h2, h3⟩ := Option.bind_eq_some_iff.mp h1
      obtain ⟨n, c1, s1, hn⟩ := (zcall_some Z).mp h2
      obtain ⟨k, hk⟩ := (zrun_some Z).mp h3
      refine ⟨max n k + 1, ?_⟩
      show zthen _ _ (zstep M (zclear M S)) = some r
      rw [hs]
      show Option.bind _ _ = some r
      refine Option.bind_eq_some_iff.mpr ⟨q, Option.map_eq_some_iff.mpr ⟨_, zex_le Z (Nat.le_max_left n k) hn, rfl⟩, zex_le Z (Nat.le_max_right n k) hk⟩
theorem zclr_idem : ∀ (r : List Bool) (lo : List (Option Value)), zclr (zclr lo r) r = zclr lo r
  | [], [] => rfl
  | [], _ :: _ => rfl
  | _ :: _, [] => rfl
  | b :: r, v :: lo => by
    show cond b none (cond b none v) :: zclr (zclr lo r) r = cond b none v :: zclr lo r
    rw [zclr_idem r lo]
    cases b <;> rfl
theorem zclear_idem (M : zMeth) (S : zS) : zclear M (zclear M S) = zclear M S := by
  obtain ⟨pc, lo, st, h, ce, sl⟩ := S
  show (pc, zclr (zclr lo (zdead M pc)) (zdead M pc), st, h, ce, sl) = _
  rw [zclr_idem]
  rfl
theorem zrun_clear (M : zMeth) (S : zS) : zrun Z M (zclear M S) = zrun Z M S := by
  rw [zrun_step, zrun_step Z M S, zclear_idem]
/-- a run's next steps, as far as calls and the places that are named -/
def zstop (M : zMeth) (F G : zS → Option zRes) (stops : List Nat) (S : zS) : Option zRes := match S with
  | (pc, lo, st, h, ce, sl) => cond (stops.any (fun q => Nat.beq pc q)) (F (zclear M (pc, lo, st, h, ce, sl))) (G (pc, lo, st, h, ce, sl))
noncomputable def zgo (M : zMeth) (stops : List Nat) : Nat → zS → Option zRes
  | 0, S => zrun Z M S
  | k + 1, S => match zstep M (zclear M S) with
    | none => none
    | some (g, o) => cond g (match o with
      | .inl (bs, S') => zsw bs (zstop M (zrun Z M) (zgo M stops k) stops) S'
      | .inr (.inl r) => some r
      | .inr (.inr (y, as, (pc, lo, st, h, ce, sl))) => (zcall Z y as h).bind (fun q => zrun Z M (zclear M (pc, lo, q.1.toList ++ st, q.2, ce, sl)))) none
theorem zrun_go (stops : List Nat) (k : Nat) : ∀ (M : zMeth) (S : zS), zrun Z M S = zgo Z M stops k S := by
  induction k with
  | zero => intro M S; rfl
  | succ k ih =>
    intro M S
    rw [zrun_step]
    have hF : zstop M (zrun Z M) (zgo Z M stops k) stops = zrun Z M := by
      funext S
      obtain ⟨pc, lo, st, h, ce, sl⟩ := S
      unfold zstop
      cases hq : stops.any (fun q => Nat.beq pc q)
      · simp only [hq]
        exact (ih M _).symm
      · simp only [hq]
        exact zrun_clear Z M _
    show _ = (match zstep M (zclear M S) with
    | none => none
    | some (g, o) => cond g (match o with
      | .inl (bs, S') => zsw bs (zstop M (zrun Z M) (zgo Z M stops k) stops) S'
      | .inr (.inl r) => some r
      | .inr (.inr (y, as, (pc, lo, st, h, ce, sl))) => (zcall Z y as h).bind (fun q => zrun Z M (zclear M (pc, lo, q.1.toList ++ st, q.2, ce, sl)))) none)
    rw [hF]
    match zstep M (zclear M S) with
    | none => rfl
    | some (g, .inl (bs, S')) => rfl
    | some (g, .inr (.inl r)) => rfl
    | some (g, .inr (.inr (y, as, (pc, lo, st, h, ce, sl)))) =>
      cases g
      · rfl
      · show Option.bind _ _ = Option.bind _ _
        congr 1
        funext q
        exact (zrun_clear Z M _).symm
/-- a call, by its callee's run -/
theorem zcall_run (y : Nat) (as : List Value) (h : zH) : zcall Z y as h = (zrun Z (Z y) (zclear (Z y) (zent (Z y) as h))).map (fun r => (r.1, r.2.1)) := by
  rw [zrun_clear]
  rfl
end ZEX
