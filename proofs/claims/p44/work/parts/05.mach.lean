/-! THE SMALL MACHINE: the methods' own bytecode over one object's block of cells, numbered from 0. Numbers alone; no state of the JVM. -/
abbrev Mem : Type := (Nat → Nat → Int32) × (Nat → Int64)
def pI (M : Mem) (r k : Nat) (x : Int32) : Mem := (fun c s => if c = r ∧ s = k then x else M.1 c s, M.2)
def pL (M : Mem) (r : Nat) (x : Int64) : Mem := (M.1, fun c => if c = r then x else M.2 c)
def pA (M : Mem) (r : Nat) (f : Nat → Int32) : Mem := (fun c s => if c = r then f s else M.1 c s, M.2)
/-- what the cell r of the block is: 0 to 9 a class, 20 to 25 ints, 26, 27 chars, 28 to 31 rows of objects -/
def kdProg (r : Nat) : Nat := if r = 0 then 2 else if r = 1 then 28 else if r = 2 then 29 else if r = 3 then 30 else if r < 124 then (if (r - 4) % 3 = 0 then 3 else if (r - 4) % 3 = 1 then 26 else 24) else if r < 172 then (if (r - 124) % 4 = 0 then 6 else if (r - 124) % 4 = 1 then 27 else 25) else 8
def kdState (r : Nat) : Nat := if r = 0 then 5 else if r = 1 then 20 else if r = 2 then 20 else if r = 3 then 21 else if r = 4 then 22 else if r = 5 then 23 else if r = 6 then 0 else 20
def kdAll (c : Nat) : Nat := if c = 0 then 9 else if c < 189 then kdProg (c - 1) else if c < 377 then kdProg (c - 189) else if c < 386 then kdState (c - 377) else if c < 395 then kdState (c - 386) else if c = 395 then 4 else if c < 405 then kdState (c - 396) else if c = 405 then 1 else if c = 406 then 20 else if c = 407 then 31 else if c < 410 then 7 else 99
def aLen (k : Nat) : Nat := if k = 20 then 8 else if k = 21 then 12 else if k = 22 then 40 else if k = 23 then 2 else if k = 24 then 4 else if k = 25 then 3 else if k = 26 then 4 else if k = 27 then 3 else if k = 28 then 40 else if k = 29 then 12 else if k = 30 then 16 else if k = 31 then 2 else 0
def aOff (k i : Nat) : Nat := if k = 28 then 3 + 3 * i else if k = 29 then 122 + 4 * i else if k = 30 then 169 + i else 1 + i
def nF (c : Nat) : Nat := if c = 0 then 5 else if c = 1 then 6 else if c = 2 then 6 else if c = 3 then 7 else if c = 4 then 5 else if c = 5 then 10 else if c = 6 then 4 else if c = 7 then 4 else if c = 8 then 4 else 14
/-- a field's kind: 0 int, 1 boolean, 2 char, 3 long, 4 a reference -/
def fTy (c k : Nat) : Nat := if c = 0 then (if k = 2 then 4 else if k = 3 then 4 else 0) else if c = 1 then (if k = 2 then 4 else 0) else if c = 2 then (if k < 3 then 0 else 4) else if c = 3 then (if k = 1 then 2 else if k < 5 then 0 else 4) else if c = 4 then (if k = 0 then 4 else 1) else if c = 5 then (if k < 3 then 0 else if k = 3 then 3 else 4) else if c = 6 then (if k = 0 then 0 else 4) else if c = 7 then 0 else if c = 8 then (if k < 3 then 0 else 1) else (if k < 7 then 4 else if k < 11 then 0 else if k < 13 then 1 else 3)
def fOff (c k : Nat) : Nat := if c = 0 then k - 1 else if c = 1 then 1 else if c = 2 then k - 2 else if c = 3 then k - 4 else if c = 4 then 1 else if c = 5 then k - 3 else if c = 6 then k else if k = 0 then 1 else if k = 1 then 189 else if k = 2 then 377 else if k = 3 then 386 else if k = 4 then 395 else if k = 5 then 405 else 407
def fval (M : Mem) (r c k : Nat) : Value := if fTy c k = 3 then .long (M.2 r) else if fTy c k = 4 then .ref (r + fOff c k) else .int (M.1 r k)
/-- the texts of the constants -/
def strB : List (List Nat) := [[61, 115, 114, 84, 82, 67, 90, 107, 43, 60, 74, 65], [49, 48, 117, 100], [110, 115, 114, 100, 108], [61, 115, 114, 60], [84, 82, 67]]
def strI (j i : Nat) : Int32 := nI ((strB.getD j []).getD i 0)
def strN (j : Nat) : Nat := (strB.getD j []).length
/-- cells' kinds, the script, its length -/
abbrev MG : Type := (Nat → Nat) × (Nat → Int32) × Nat
/-- pc, locals, operands, cells, how many were thrown -/
abbrev AS : Type := Nat × List (Option Value) × List Value × Mem × Nat
abbrev Res : Type := (Option Value ⊕ Nat) × Mem × Nat
abbrev Loc1 : Type := List (Option Value)
def binI (f : Int32 → Int32 → Int32) (st : List Value) : Option (List Value) := match st with
  | .int y :: .int x :: r => some (.int (f x y) :: r)
  | _ => none
def binL (f : Int64 → Int64 → Int64) (st : List Value) : Option (List Value) := match st with
  | .long y :: .long x :: r => some (.long (f x y) :: r)
  | _ => none
def opS (i : Instr) (st : List Value) : Option (List Value) := match i with
  | .iconst v => some (.int (Int32.ofInt v) :: st)
  | .bipush v => some (.int (Int8.ofInt v).toInt32 :: st)
  | .sipush v => some (.int (Int16.ofInt v).toInt32 :: st)
  | .lconst k => some (.long (Int64.ofNat (k : Nat)) :: st)
  | .iadd => binI (fun x y => x + y) st
  | .isub => binI (fun x y => x - y) st
  | .imul => binI (fun x y => x * y) st
  | .iand => binI (fun x y => x &&& y) st
  | .ior => binI (fun x y => x ||| y) st
  | .ixor => binI (fun x y => x ^^^ y) st
  | .ishl => binI (fun x y => x <<< (y &&& 31)) st
  | .iushr => binI (fun x y => (x.toUInt32 >>> (y.toUInt32 &&& Int32.toUInt32 31)).toInt32) st
  | .ishr => binI (fun x y => x >>> (y &&& 31)) st
  | .irem => match st with
    | .int y :: .int x :: r => if y = 0 then none else some (.int (x - x / y * y) :: r)
    | _ => none
  | .ladd => binL (fun x y => x + y) st
  | .lmul => binL (fun x y => x * y) st
  | .land => binL (fun x y => x &&& y) st
  | .lor => binL (fun x y => x ||| y) st
  | .lxor => binL (fun x y => x ^^^ y) st
  | .lshl => match st with
    | .int y :: .long x :: r => some (.long (x <<< (y.toInt64 &&& 63)) :: r)
    | _ => none
  | .lushr => match st with
    | .int y :: .long x :: r => some (.long ((x.toUInt64 >>> (y.toInt64.toUInt64 &&& Int64.toUInt64 63)).toInt64) :: r)
    | _ => none
  | .lcmp => match st with
    | .long y :: .long x :: r => some (.int (lg_cmp x y) :: r)
    | _ => none
  | .i2l => match st with
    | .int x :: r => some (.long x.toInt64 :: r)
    | _ => none
  | .i2c => match st with
    | .int x :: r => some (.int (x.toUInt32 % 65536).toInt32 :: r)
    | _ => none
  | .i2b => match st with
    | .int x :: r => some (.int x.toInt8.toInt32 :: r)
    | _ => none
  | .dup => match st with
    | v :: r => if v.category = 1 then some (v :: v :: r) else none
    | _ => none
  | .dup2 => match st with
    | v :: w :: r => if v.category = 1 ∧ w.category = 1 then some (v :: w :: v :: w :: r) else none
    | _ => none
  | .pop => match st with
    | v :: r => if v.category = 1 then some r else none
    | _ => none
  | _ => none
def ldI (L : Loc1) (i : Nat) : Option Value := match L[i]? with
  | some (some (.int x)) => some (.int x)
  | _ => none
def ldL (L : Loc1) (i : Nat) : Option Value := match L[i]? with
  | some (some (.long x)) => some (.long x)
  | _ => none
def ldA (L : Loc1) (i : Nat) : Option Value := match L[i]? with
  | some (some (.ref x)) => if x < 4000 then some (.ref x) else none
  | _ => none
def isC2 (o : Option Value) : Bool := match o with
  | some v => v.category == 2
  | none => false
/-- a store: what it overlaps is gone -/
def stL (L : Loc1) (i : Nat) (v : Value) : Loc1 :=
  let L1 := L.set i (some v)
  let L2 := if v.category = 2 then L1.set (i + 1) none else L1
  match i with
  | 0 => L2
  | k + 1 => if isC2 (L.getD k none) = true then L2.set k none else L2
def stI (L : Loc1) (i : Nat) (st : List Value) : Option (Loc1 × List Value) := match st with
  | .int x :: r => if i < L.length then some (stL L i (.int x), r) else none
  | _ => none
def stJ (L : Loc1) (i : Nat) (st : List Value) : Option (Loc1 × List Value) := match st with
  | .long x :: r => if i + 1 < L.length then some (stL L i (.long x), r) else none
  | _ => none
def stA (L : Loc1) (i : Nat) (st : List Value) : Option (Loc1 × List Value) := match st with
  | .ref x :: r => if i < L.length ∧ x < 4000 then some (stL L i (.ref x), r) else none
  | _ => none
def push (L : Loc1) (st : List Value) (o : Option Value) : Option (Loc1 × List Value) := match o with
  | some v => some (L, v :: st)
  | none => none
def opL (i : Instr) (L : Loc1) (st : List Value) : Option (Loc1 × List Value) := match i with
  | .iload k => push L st (ldI L k)
  | .iload_n k => push L st (ldI L (k : Nat))
  | .lload k => push L st (ldL L k)
  | .lload_n k => push L st (ldL L (k : Nat))
  | .aload k => push L st (ldA L k)
  | .aload_n k => push L st (ldA L (k : Nat))
  | .istore k => stI L k st
  | .istore_n k => stI L (k : Nat) st
  | .lstore k => stJ L k st
  | .lstore_n k => stJ L (k : Nat) st
  | .astore k => stA L k st
  | .astore_n k => stA L (k : Nat) st
  | .iinc k v => match ldI L k with
    | some (.int x) => some (stL L k (.int (x + Int32.ofInt v)), st)
    | _ => none
  | _ => none
def hold1 (c : Jvm.ClassFile.Cond) (x : Int32) : Bool := match c with
  | .eq => decide (x = 0)
  | .ne => decide (¬ x = 0)
  | .lt => decide (x < 0)
  | .ge => decide (0 ≤ x)
  | .gt => decide (0 < x)
  | .le => decide (x ≤ 0)
def hold2 (c : Jvm.ClassFile.Cond) (x y : Int32) : Bool := match c with
  | .eq => decide (x = y)
  | .ne => decide (¬ x = y)
  | .lt => decide (x < y)
  | .ge => decide (y ≤ x)
  | .gt => decide (y < x)
  | .le => decide (x ≤ y)
def jmp (pc : Nat) (off : Int) (r : List Value) : Option (Nat × List Value) := if 0 ≤ (pc : Int) + off then some (((pc : Int) + off).toNat, r) else none
def opB (i : Instr) (pc : Nat) (st : List Value) : Option (Nat × List Value) := match i with
  | .goto off => jmp pc off st
  | .ifCond c off => match st with
    | .int x :: r => if hold1 c x = true then jmp pc off r else if 0 ≤ (pc : Int) + off then some (pc + 3, r) else none
    | _ => none
  | .if_icmp c off => match st with
    | .int y :: .int x :: r => if hold2 c x y = true then jmp pc off r else if 0 ≤ (pc : Int) + off then some (pc + 3, r) else none
    | _ => none
  | .lookupswitch d ps => match st with
    | .int x :: r => jmp pc (Op.lookupswitch.offset ps.toList d x.toInt) r
    | _ => none
  | .tableswitch d lo hi offs => match st with
    | .int x :: r => if x.toInt < lo ∨ hi < x.toInt then jmp pc d r else match offs[(x.toInt - lo).toNat]? with
      | some off => jmp pc off r
      | none => none
    | _ => none
  | _ => none
abbrev okK (r : Nat) : Prop := 2000 ≤ r ∧ r < 2005
abbrev okV (r : Nat) : Prop := 3000 ≤ r ∧ r < 3005
abbrev okS (r : Nat) : Prop := r = 1000
abbrev okO (G : MG) (r a : Nat) : Prop := G.1 r = a ∧ r < 410
abbrev okR (G : MG) (r lo hi : Nat) : Prop := lo ≤ G.1 r ∧ G.1 r ≤ hi ∧ r < 410
abbrev okX (j : Int32) (n : Nat) : Prop := 0 ≤ j ∧ j.toNatClampNeg < n
def fitF (t : Nat) (x : Int32) : Bool := if t = 0 then true else if t = 1 then decide (x = 0 ∨ x = 1) else if t = 2 then decide (0 ≤ x ∧ x ≤ 65535) else false
/-- what speaks of cells; a, b, d: what the place in the code says of its constant -/
def opH (G : MG) (i : Instr) (a b : Nat) (M : Mem) (st : List Value) : Option (Mem × List Value) := match i with
  | .getfield _ => match st with
    | .ref r :: t => if a = 200 then (if okK r then (if b = 0 then some (M, .int 0 :: t) else some (M, .ref (r + 1000) :: t)) else none) else if okO G r a then some (M, fval M r a b :: t) else none
    | _ => none
  | .putfield _ => match st with
    | .int x :: .ref r :: t => if okO G r a ∧ fitF (fTy a b) x = true then some (pI M r b x, t) else none
    | .long x :: .ref r :: t => if okO G r a ∧ fTy a b = 3 then some (pL M r x, t) else none
    | _ => none
  | .aaload => match st with
    | .int j :: .ref r :: t => if okR G r 28 31 ∧ okX j (aLen (G.1 r)) then some (M, .ref (r + aOff (G.1 r) j.toNatClampNeg) :: t) else none
    | _ => none
  | .iaload => match st with
    | .int j :: .ref r :: t => if okS r then (if okX j G.2.2 then some (M, .int (G.2.1 j.toNatClampNeg) :: t) else none) else if okR G r 20 25 ∧ okX j (aLen (G.1 r)) then some (M, .int (M.1 r j.toNatClampNeg) :: t) else none
    | _ => none
  | .caload => match st with
    | .int j :: .ref r :: t => if okR G r 26 27 ∧ okX j (aLen (G.1 r)) then some (M, .int (M.1 r j.toNatClampNeg) :: t) else none
    | _ => none
  | .baload => match st with
    | .int j :: .ref r :: t => if okV r ∧ okX j (strN (r - 3000)) then some (M, .int (strI (r - 3000) j.toNatClampNeg) :: t) else none
    | _ => none
  | .iastore => match st with
    | .int x :: .int j :: .ref r :: t => if okR G r 20 25 ∧ okX j (aLen (G.1 r)) then some (pI M r j.toNatClampNeg x, t) else none
    | _ => none
  | .castore => match st with
    | .int x :: .int j :: .ref r :: t => if okR G r 26 27 ∧ okX j (aLen (G.1 r)) then some (pI M r j.toNatClampNeg (vp_nar .char x), t) else none
    | _ => none
  | .arraylength => match st with
    | .ref r :: t => if okS r then some (M, .int (Int32.ofNat G.2.2) :: t) else if okV r then some (M, .int (nI (strN (r - 3000))) :: t) else none
    | _ => none
  | .ldc _ => if a = 1 then some (M, .int (Int32.ofNat b) :: st) else if b < 5 then some (M, .ref (2000 + b) :: st) else none
  | .ldc2_w _ => if a = 1 then some (M, .long (-1) :: st) else some (M, .long (Int64.ofNat b) :: st)
  | .getstatic _ => if a = 1 then some (M, .int 1 :: st) else some (M, .ref 9999 :: st)
  | .invokestatic _ => if b = 3 then (match st with
      | .int y :: .int x :: t => if (t.map fun v => v.category).sum ≤ 8 then some (M, .int (if y < x then y else x) :: t) else none
      | _ => none) else if b = 5 then (match st with
      | .int y :: .int x :: t => if (t.map fun v => v.category).sum ≤ 8 then some (M, .int (if x < y then y else x) :: t) else none
      | _ => none) else if b = 4 then (match st with
      | .int n :: .int dp :: .ref rd :: .int sp :: .ref rs :: t => if okR G rs 20 25 ∧ okR G rd 20 25 ∧ (0 ≤ sp ∧ 0 ≤ dp ∧ 0 ≤ n) ∧ sp.toNatClampNeg + n.toNatClampNeg ≤ aLen (G.1 rs) ∧ dp.toNatClampNeg + n.toNatClampNeg ≤ aLen (G.1 rd) ∧ (t.map fun v => v.category).sum ≤ 8 then some (pA M rd (va_cpy (M.1 rs) (M.1 rd) sp.toNatClampNeg dp.toNatClampNeg n.toNatClampNeg), t) else none
      | _ => none) else none
  | _ => none
def catS (st : List Value) : Nat := (st.map fun v => v.category).sum
/-- what is known of a method: how many parameters (this not counted), what it returns (0 nothing, 1 int, 2 boolean, 3 char, 4 byte, 5 long), its locals, the class of 'this' (100 static, 101 a String) -/
abbrev MD : Type := Nat × Nat × Nat × Nat
def recvOk (G : MG) (c r : Nat) : Bool := if c = 101 then decide (2000 ≤ r ∧ r < 2005) else decide (G.1 r = c ∧ r < 410)
/-- the arguments of a call (this first), and what stays -/
def cut (G : MG) (md : MD) (st : List Value) : Option (List Value × List Value) :=
  let n := md.1
  let As := (st.take n).reverse
  if As.length = n then (if md.2.2.2 = 100 then some (As, st.drop n) else match st.drop n with
    | .ref r :: t => if recvOk G md.2.2.2 r = true then some (.ref r :: As, t) else none
    | _ => none) else none
def retOk (t : Nat) (x : Int32) : Bool := if t = 1 then true else if t = 2 then decide (x = 0 ∨ x = 1) else if t = 3 then decide (0 ≤ x ∧ x ≤ 65535) else if t = 4 then decide (-128 ≤ x ∧ x ≤ 127) else false
/-- ends and calls: none of them, an end, or a call -/
def opC (G : MG) (mds : Nat → MD) (md : MD) (i : Instr) (a b : Nat) (s : AS) : Option (Res ⊕ (Nat × List Value × AS)) := match i with
  | .ireturn => match s.2.2.1 with
    | [.int x] => if retOk md.2.1 x = true then some (.inl (.inl (some (.int x)), s.2.2.2.1, s.2.2.2.2)) else none
    | _ => none
  | .lreturn => match s.2.2.1 with
    | [.long x] => if md.2.1 = 5 then some (.inl (.inl (some (.long x)), s.2.2.2.1, s.2.2.2.2)) else none
    | _ => none
  | .return_ => match s.2.2.1 with
    | [] => if md.2.1 = 0 then some (.inl (.inl none, s.2.2.2.1, s.2.2.2.2)) else none
    | _ => none
  | .new _ => match s.2.2.1 with
    | [] => if a < 5 ∧ b = 1 then some (.inl (.inr a, s.2.2.2.1, s.2.2.2.2 + 1)) else none
    | _ => none
  | .invokevirtual _ => match cut G (mds a) s.2.2.1 with
    | some (As, t) => if catS t ≤ 8 ∧ b = 0 ∧ As.all (fun v => v.category == 1) = true then some (.inr (a, As, (s.1 + 3, s.2.1, t, s.2.2.2.1, s.2.2.2.2))) else none
    | none => none
  | .invokestatic _ => match cut G (mds a) s.2.2.1 with
    | some (As, t) => if catS t ≤ 8 ∧ (b = 1 ∨ b = 2 ∨ b = 6) ∧ As.all (fun v => v.category == 1) = true then some (.inr (a, As, (s.1 + 3, s.2.1, t, s.2.2.2.1, s.2.2.2.2))) else none
    | none => none
  | _ => none
def ilen (i : Instr) : Nat := match i with
  | .bipush _ => 2
  | .sipush _ => 3
  | .iload _ => 2
  | .lload _ => 2
  | .aload _ => 2
  | .istore _ => 2
  | .lstore _ => 2
  | .astore _ => 2
  | .iinc _ _ => 3
  | .goto _ => 3
  | .ifCond _ _ => 3
  | .if_icmp _ _ => 3
  | .getfield _ => 3
  | .putfield _ => 3
  | .getstatic _ => 3
  | .ldc _ => 2
  | .ldc2_w _ => 3
  | .invokestatic _ => 3
  | .invokevirtual _ => 3
  | .new _ => 3
  | _ => 1
/-- one row of code: pc, instruction, what its constant is (a, b) -/
abbrev CR : Type := Nat × Instr × Nat × Nat
def stepi (G : MG) (mds : Nat → MD) (md : MD) (i : Instr) (a b : Nat) (s : AS) : Option (AS ⊕ (Res ⊕ (Nat × List Value × AS))) :=
  match opS i s.2.2.1 with
  | some st => some (.inl (s.1 + ilen i, s.2.1, st, s.2.2.2))
  | none => match opL i s.2.1 s.2.2.1 with
    | some (L, st) => some (.inl (s.1 + ilen i, L, st, s.2.2.2))
    | none => match opB i s.1 s.2.2.1 with
      | some (pc, st) => some (.inl (pc, s.2.1, st, s.2.2.2))
      | none => match opH G i a b s.2.2.2.1 s.2.2.1 with
        | some (M, st) => some (.inl (s.1 + ilen i, s.2.1, st, M, s.2.2.2.2))
        | none => match opC G mds md i a b s with
          | some r => some (.inr r)
          | none => none
def fet (C : List CR) (pc : Nat) : Option (Instr × Nat × Nat) := (C.find? (fun e => e.1 == pc)).map (fun e => e.2)
def stepf (G : MG) (mds : Nat → MD) (cds : Nat → List CR) (k : Nat) (s : AS) : Option (AS ⊕ (Res ⊕ (Nat × List Value × AS))) := match fet (cds k) s.1 with
  | some (i, a, b) => stepi G mds (mds k) i a b s
  | none => none
/-- a method, run to its end; a call is asked of 'call' -/
def Exec (G : MG) (mds : Nat → MD) (cds : Nat → List CR) (call : Nat → List Value → Mem → Res → Prop) (k : Nat) : Nat → AS → Res → Prop
  | 0, _, _ => False
  | f + 1, s, r => match stepf G mds cds k s with
    | none => False
    | some (.inl s') => Exec G mds cds call k f s' r
    | some (.inr (.inl r')) => r = r'
    | some (.inr (.inr q)) => ∃ r1 : Res, call q.1 q.2.1 q.2.2.2.2.2.1 r1 ∧ ((∃ v : Option Value, r1.1 = .inl v ∧ Exec G mds cds call k f (q.2.2.1, q.2.2.2.1, v.toList ++ q.2.2.2.2.1, r1.2.1, q.2.2.2.2.2.2 + r1.2.2) r) ∨ ∃ x : Nat, r1.1 = .inr x ∧ r = (.inr x, r1.2.1, q.2.2.2.2.2.2 + r1.2.2))
def entL (As : List Value) (n : Nat) : Loc1 := As.map some ++ List.replicate (n - As.length) none
def xcode (x : Nat) : Int32 := if x = 0 then -2001 else if x = 1 then -2002 else if x = 2 then -2004 else if x = 3 then -2005 else -2003
/-- what the catching method is called with -/
def dShape (As : List Value) : Prop := ∃ (a : Nat) (x1 x2 x3 x4 x5 x6 x7 : Int32), a < 410 ∧ As = [.ref a, .int x1, .int x2, .int x3, .int x4, .int x5, .int x6, .int x7]
/-- calls to a depth; the method kD runs kP and catches -/
def RunG (G : MG) (mds : Nat → MD) (cds : Nat → List CR) (kD kP : Nat) : Nat → Nat → List Value → Mem → Res → Prop
  | 0 => fun _ _ _ _ => False
  | d + 1 => fun k As M r => if k = kD then dShape As ∧ ∃ r1 : Res, RunG G mds cds kD kP d kP As M r1 ∧ ((∃ x : Int32, r1.1 = .inl (some (.int x)) ∧ r = (.inl (some (.int x)), r1.2)) ∨ ∃ x : Nat, x < 5 ∧ r1.1 = .inr x ∧ r = (.inl (some (.int (xcode x))), r1.2)) else ∃ f : Nat, Exec G mds cds (RunG G mds cds kD kP d) k f (0, entL As (mds k).2.2.1, [], M, 0) r
theorem exec_det {G : MG} {mds : Nat → MD} {cds : Nat → List CR} {call : Nat → List Value → Mem → Res → Prop} (hc : ∀ k As M r r', call k As M r → call k As M r' → r = r') {k : Nat} : ∀ (f f' : Nat) (s : AS) (r r' : Res), Exec G mds cds call k f s r → Exec G mds cds call k f' s r' → r = r' := by
  intro f
  induction f with
  | zero => intro f' s r r' h; exact h.elim
  | succ f ih =>
    intro f' s r r' h h'
    cases f' with
    | zero => exact h'.elim
    | succ f' =>
      simp only [Exec] at h h'
      cases hs : stepf G mds cds k s with
      | none => rw [hs] at h; exact h.elim
      | some q =>
        rw [hs] at h h'
        rcases q with s' | r0 | q
        · exact ih f' s' r r' h h'
        · exact h.trans h'.symm
        · obtain ⟨r1, c1, h⟩ := h
          obtain ⟨r2, c2, h'⟩ := h'
          have e := hc _ _ _ _ _ c1 c2
          subst e
          rcases h with ⟨v, e1, h⟩ | ⟨x, e1, h⟩ <;> rcases h' with ⟨v', e2, h'⟩ | ⟨x', e2, h'⟩
          · rw [e1] at e2
            cases e2
            exact ih f' _ r r' h h'
          · rw [e1] at e2; cases e2
          · rw [e1] at e2; cases e2
          · rw [e1] at e2
            cases e2
            exact h.trans h'.symm
theorem run_det {G : MG} {mds : Nat → MD} {cds : Nat → List CR} {kD kP : Nat} : ∀ (d k : Nat) (As : List Value) (M : Mem) (r r' : Res), RunG G mds cds kD kP d k As M r → RunG G mds cds kD kP d k As M r' → r = r' := by
  intro d
  induction d with
  | zero => intro k As M r r' h; exact h.elim
  | succ d ih =>
    intro k As M r r' h h'
    simp only [RunG] at h h'
    by_cases hk : k = kD
    · rw [if_pos hk] at h h'
      obtain ⟨-, r1, c1, h⟩ := h
      obtain ⟨-, r2, c2, h'⟩ := h'
      have e := ih _ _ _ _ _ c1 c2
      subst e
      rcases h with ⟨v, e1, h⟩ | ⟨x, hx, e1, h⟩ <;> rcases h' with ⟨v', e2, h'⟩ | ⟨x', hx', e2, h'⟩ <;> rw [e1] at e2 <;> cases e2 <;> exact h.trans h'.symm
    · rw [if_neg hk] at h h'
      obtain ⟨f, h⟩ := h
      obtain ⟨f', h'⟩ := h'
      exact exec_det (fun k As M r r' a b => ih k As M r r' a b) f f' _ r r' h h'
