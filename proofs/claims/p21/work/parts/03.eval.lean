/-! A small machine over the fixed object graph of class and reference: what a method's bytecode does there, as one function of a configuration (place, locals, stack, heap). Part 04 ties it to the machine itself. -/
/-- the heap: ints by object and place, longs likewise, and the script -/
abbrev Hp : Type := (Nat → Int32 → Int32) × (Nat → Int32 → Int64) × Nat × (Nat → Int32)
abbrev Lc : Type := List (Option Value)
abbrev Cf : Type := Nat × Lc × List Value × Hp
def hI (h : Hp) (i : Nat) (j v : Int32) : Hp := (fun a b => if a = i ∧ b = j then v else h.1 a b, h.2)
def hL (h : Hp) (i : Nat) (j : Int32) (v : Int64) : Hp := (h.1, fun a b => if a = i ∧ b = j then v else h.2.1 a b, h.2.2)
def hC (h : Hp) (s : Nat) (sp : Int32) (d : Nat) (dp n : Int32) : Hp := (fun a b => if a = d ∧ dp ≤ b ∧ b < dp + n then h.1 s (sp + (b - dp)) else h.1 a b, h.2)
def hCL (h : Hp) (s : Nat) (sp : Int32) (d : Nat) (dp n : Int32) : Hp := (h.1, fun a b => if a = d ∧ dp ≤ b ∧ b < dp + n then h.2.1 s (sp + (b - dp)) else h.2.1 a b, h.2.2)
set_option maxRecDepth 100000 in
def oT : List (Nat × Nat × List (Option Value)) := [(3, 10, [some (.ref 1), some (.ref 12), some (.ref 23), some (.ref 34), some (.ref 37), some (.ref 38), some (.ref 42), some (.ref 53), some (.ref 55), some (.ref 60), some (.ref 64), none, none]),
  (3, 7, [some (.ref 2), some (.ref 4), some (.ref 6), some (.ref 8), some (.ref 10), none, none]),
  (3, 8, [some (.int 8), some (.ref 3), none, some (.int 3)]),
  (0, 24, []),
  (3, 8, [some (.int 14), some (.ref 5), none, some (.int 10)]),
  (0, 140, []),
  (3, 8, [some (.int 8), some (.ref 7), none, some (.int 30)]),
  (0, 240, []),
  (3, 8, [some (.int 100), some (.ref 9), none, some (.int 12)]),
  (0, 1200, []),
  (3, 8, [some (.int 4), some (.ref 11), none, some (.int 40)]),
  (0, 160, []),
  (3, 7, [some (.ref 13), some (.ref 15), some (.ref 17), some (.ref 19), some (.ref 21), none, none]),
  (3, 8, [some (.int 8), some (.ref 14), none, some (.int 3)]),
  (0, 24, []),
  (3, 8, [some (.int 14), some (.ref 16), none, some (.int 10)]),
  (0, 140, []),
  (3, 8, [some (.int 8), some (.ref 18), none, some (.int 30)]),
  (0, 240, []),
  (3, 8, [some (.int 100), some (.ref 20), none, some (.int 12)]),
  (0, 1200, []),
  (3, 8, [some (.int 4), some (.ref 22), none, some (.int 40)]),
  (0, 160, []),
  (3, 7, [some (.ref 24), some (.ref 26), some (.ref 28), some (.ref 30), some (.ref 32), none, none]),
  (3, 8, [some (.int 8), some (.ref 25), none, some (.int 3)]),
  (0, 24, []),
  (3, 8, [some (.int 14), some (.ref 27), none, some (.int 10)]),
  (0, 140, []),
  (3, 8, [some (.int 8), some (.ref 29), none, some (.int 30)]),
  (0, 240, []),
  (3, 8, [some (.int 100), some (.ref 31), none, some (.int 12)]),
  (0, 1200, []),
  (3, 8, [some (.int 4), some (.ref 33), none, some (.int 40)]),
  (0, 160, []),
  (3, 5, [some (.ref 35)]),
  (3, 3, [some (.ref 36), none]),
  (0, 96, []),
  (3, 0, [some (.ref 34)]),
  (3, 2, [some (.ref 39), some (.ref 40), some (.ref 41), none, none]),
  (0, 30, []),
  (0, 10, []),
  (0, 10, []),
  (3, 1, [some (.ref 43), some (.ref 44), some (.ref 45), some (.ref 46), some (.ref 47), some (.ref 48), some (.ref 49), some (.ref 50), some (.ref 51), some (.ref 52), none, none, none]),
  (0, 10, []),
  (0, 10, []),
  (0, 10, []),
  (0, 3, []),
  (0, 3, []),
  (0, 10, []),
  (0, 10, []),
  (0, 11, []),
  (0, 121, []),
  (0, 11, []),
  (3, 9, [some (.ref 54), none]),
  (0, 96, []),
  (3, 4, [some (.ref 53), some (.ref 56), some (.ref 58), none, none, none, none, none, none, none, none, none]),
  (3, 3, [some (.ref 57), none]),
  (0, 96, []),
  (3, 3, [some (.ref 59), none]),
  (0, 96, []),
  (3, 6, [some (.ref 61), some (.ref 62), some (.ref 63)]),
  (0, 4, []),
  (0, 4, []),
  (1, 96, []),
  (0, 60, []),
  (3, 11, [some (.ref 66), some (.ref 67), some (.ref 68), none, some (.ref 69), some (.ref 70), some (.ref 71), some (.ref 72), some (.ref 73), some (.ref 74), none, none, some (.ref 75), some (.ref 76), some (.ref 77), some (.ref 78), none, none, none, none, none, none, none, none, none, none, none, some (.ref 79), some (.ref 80), none, none, none, some (.ref 81), some (.ref 82), none, some (.ref 83)]),
  (0, 3400, []),
  (0, 3400, []),
  (0, 3400, []),
  (0, 4, []),
  (0, 4, []),
  (1, 96, []),
  (0, 10, []),
  (0, 10, []),
  (0, 3, []),
  (2, 30, []),
  (0, 10, []),
  (0, 10, []),
  (0, 96, []),
  (0, 128, []),
  (0, 100, []),
  (1, 24, []),
  (0, 60, []),
  (0, 60, [])]
abbrev psNO : Nat := 84
def oK (i : Nat) : Nat := (oT.getD i (9, 0, [])).1
def oP (i : Nat) : Nat := (oT.getD i (9, 0, [])).2.1
def oF (i : Nat) : List (Option Value) := (oT.getD i (9, 0, [])).2.2
/-- the tables that nobody writes: the four of the class; 1300: the script -/
def roT (i : Nat) : List Int32 := if i = 1200 then [-1, 0, 1, 2, 0, 4] else if i = 1201 then [0, 0, 0, 0, 0, 1] else if i = 1202 then [0, 0, 3, 3, 9999, 9999] else if i = 1203 then [0, 0, 0, 0, 0, 999] else []
def aln (h : Hp) (r : Nat) : Nat := if r < 1000 then oP r else if r = 1300 then h.2.2.1 else (roT r).length
def agt (h : Hp) (r : Nat) (j : Int32) : Int32 := if r < 1000 then h.1 r j else if r = 1300 then h.2.2.2 j.toNatClampNeg else (roT r).getD j.toNatClampNeg 0
/-- a place of an array of so many -/
def ibd (j : Int32) (n : Nat) : Prop := 0 ≤ j ∧ j < nI n
/-- an array of ints, or a table -/
def isIA (r : Nat) : Bool := if r < 1000 then oK r == 0 else r == 1300 || (1200 ≤ r && r ≤ 1203)
def isCl (r a : Nat) : Bool := r < 1000 && oK r == 3 && oP r == a
def gfv (h : Hp) (r b : Nat) (k : Int32) : Option Value := match (oF r)[b]? with
  | some (some v) => some v
  | some none => some (.int (h.1 r k))
  | none => none
/-- a field of kind boolean -/
def isZf (a b : Nat) : Bool := (a == 10 && b == 12) || (a == 4 && b == 9) || (a == 11 && b == 3)
def isB (v : Int32) : Prop := v = 0 ∨ v = 1
def pfG (a b : Nat) (v : Int32) : Prop := if isZf a b = true then isB v else True
def isLong (v : Option (Option Value)) : Bool := match v with
  | some (some v) => v.category == 2
  | _ => false
def swt : List (Int32 × Nat) → Nat → Int32 → Nat
  | [], d, _ => d
  | (k, t) :: r, d, x => if x = k then t else swt r d x
abbrev St : Type := Option (Prop × Cf)
def fLdI (ls : Lc) (k n pc : Nat) (st : List Value) (h : Hp) : St := match ls[k]? with
  | some (some (.int x)) => some (True, pc + n, ls, .int x :: st, h)
  | _ => none
def fLdL (ls : Lc) (k n pc : Nat) (st : List Value) (h : Hp) : St := match ls[k]? with
  | some (some (.long x)) => some (True, pc + n, ls, .long x :: st, h)
  | _ => none
def fLdA (ls : Lc) (k n pc : Nat) (st : List Value) (h : Hp) : St := match ls[k]? with
  | some (some (.ref x)) => some (True, pc + n, ls, .ref x :: st, h)
  | _ => none
def fSt (ls : Lc) (k n pc : Nat) (v : Value) (st : List Value) (h : Hp) : St := if isLong ls[k]? = true then none else if isLong ls[k - 1]? = true then none else if k < ls.length then some (True, pc + n, ls.set k (some v), st, h) else none
def fStI (ls : Lc) (k n pc : Nat) (st : List Value) (h : Hp) : St := match st with
  | .int x :: r => fSt ls k n pc (.int x) r h
  | _ => none
def fI2 (f : Int32 → Int32 → Int32) (ls : Lc) (pc : Nat) (st : List Value) (h : Hp) : St := match st with
  | .int y :: .int x :: r => some (True, pc + 1, ls, .int (f x y) :: r, h)
  | _ => none
def fI2g (f : Int32 → Int32 → Int32) (ls : Lc) (pc : Nat) (st : List Value) (h : Hp) : St := match st with
  | .int y :: .int x :: r => some (¬ y = 0, pc + 1, ls, .int (f x y) :: r, h)
  | _ => none
def fI1 (f : Int32 → Int32) (ls : Lc) (pc : Nat) (st : List Value) (h : Hp) : St := match st with
  | .int x :: r => some (True, pc + 1, ls, .int (f x) :: r, h)
  | _ => none
def fL2 (f : Int64 → Int64 → Int64) (ls : Lc) (pc : Nat) (st : List Value) (h : Hp) : St := match st with
  | .long y :: .long x :: r => some (True, pc + 1, ls, .long (f x y) :: r, h)
  | _ => none
def fLI (f : Int64 → Int32 → Int64) (ls : Lc) (pc : Nat) (st : List Value) (h : Hp) : St := match st with
  | .int y :: .long x :: r => some (True, pc + 1, ls, .long (f x y) :: r, h)
  | _ => none
def fIf (q : ClassFile.Cond) (a : Nat) (ls : Lc) (pc : Nat) (st : List Value) (h : Hp) : St := match st with
  | .int x :: r => some (True, (match q with
    | .eq => if x = 0 then a else pc + 3
    | .ne => if x = 0 then pc + 3 else a
    | .lt => if x < 0 then a else pc + 3
    | .ge => if 0 ≤ x then a else pc + 3
    | .gt => if 0 < x then a else pc + 3
    | .le => if x ≤ 0 then a else pc + 3), ls, r, h)
  | _ => none
def fIc (q : ClassFile.Cond) (a : Nat) (ls : Lc) (pc : Nat) (st : List Value) (h : Hp) : St := match st with
  | .int y :: .int x :: r => some (True, (match q with
    | .eq => if x = y then a else pc + 3
    | .ne => if x = y then pc + 3 else a
    | .lt => if x < y then a else pc + 3
    | .ge => if y ≤ x then a else pc + 3
    | .gt => if y < x then a else pc + 3
    | .le => if x ≤ y then a else pc + 3), ls, r, h)
  | _ => none
def fGf (a b : Nat) (k : Int32) (ls : Lc) (pc : Nat) (st : List Value) (h : Hp) : St := match st with
  | .ref r :: t => if isCl r a = true then (match gfv h r b k with
    | some v => some (True, pc + 3, ls, v :: t, h)
    | none => none) else none
  | _ => none
def fPf (a b : Nat) (k : Int32) (ls : Lc) (pc : Nat) (st : List Value) (h : Hp) : St := match st with
  | .int v :: .ref r :: t => if isCl r a = true then (match (oF r)[b]? with
    | some none => some (pfG a b v, pc + 3, ls, t, hI h r k v)
    | _ => none) else none
  | _ => none
def fAl (ls : Lc) (pc : Nat) (st : List Value) (h : Hp) : St := match st with
  | .ref r :: t => if isIA r = true then some (True, pc + 1, ls, .int (nI (aln h r)) :: t, h) else none
  | _ => none
def fIal (ls : Lc) (pc : Nat) (st : List Value) (h : Hp) : St := match st with
  | .int j :: .ref r :: t => if isIA r = true then some (ibd j (aln h r), pc + 1, ls, .int (agt h r j) :: t, h) else none
  | _ => none
def fBal (ls : Lc) (pc : Nat) (st : List Value) (h : Hp) : St := match st with
  | .int j :: .ref r :: t => if r < 1000 ∧ oK r = 2 then some (ibd j (oP r), pc + 1, ls, .int (h.1 r j) :: t, h) else none
  | _ => none
def fLal (ls : Lc) (pc : Nat) (st : List Value) (h : Hp) : St := match st with
  | .int j :: .ref r :: t => if r < 1000 ∧ oK r = 1 then some (ibd j (oP r), pc + 1, ls, .long (h.2.1 r j) :: t, h) else none
  | _ => none
def fIas (ls : Lc) (pc : Nat) (st : List Value) (h : Hp) : St := match st with
  | .int v :: .int j :: .ref r :: t => if r < 1000 ∧ oK r = 0 then some (ibd j (oP r), pc + 1, ls, t, hI h r j v) else none
  | _ => none
def fBas (ls : Lc) (pc : Nat) (st : List Value) (h : Hp) : St := match st with
  | .int v :: .int j :: .ref r :: t => if r < 1000 ∧ oK r = 2 then some (ibd j (oP r) ∧ isB v, pc + 1, ls, t, hI h r j v) else none
  | _ => none
def fLas (ls : Lc) (pc : Nat) (st : List Value) (h : Hp) : St := match st with
  | .long v :: .int j :: .ref r :: t => if r < 1000 ∧ oK r = 1 then some (ibd j (oP r), pc + 1, ls, t, hL h r j v) else none
  | _ => none
/-- may so many places be copied? -/
def cpG (sp dp n : Int32) (ls ld : Nat) : Prop := 0 ≤ sp ∧ 0 ≤ dp ∧ 0 ≤ n ∧ n ≤ nI ls ∧ sp ≤ nI ls - n ∧ n ≤ nI ld ∧ dp ≤ nI ld - n
def fLib (a : Nat) (ls : Lc) (pc : Nat) (st : List Value) (h : Hp) : St := match st with
  | .int y :: .int x :: r => if Nat.ble (r.map fun v => v.category).sum 16 = false then none else if a = 1001 then some (True, pc + 3, ls, .int (if x < y then y else x) :: r, h) else if a = 1002 then some (True, pc + 3, ls, .int (if y < x then y else x) :: r, h) else (match r with
    | .ref d :: .int sp :: .ref s :: t => if a = 1003 then (if d < 1000 ∧ s < 1000 ∧ oK d = 0 ∧ oK s = 0 then some (cpG sp x y (oP s) (oP d), pc + 3, ls, t, hC h s sp d x y)
      else if d < 1000 ∧ s < 1000 ∧ oK d = 1 ∧ oK s = 1 then some (cpG sp x y (oP s) (oP d), pc + 3, ls, t, hCL h s sp d x y) else none) else none
    | _ => none)
  | _ => none
def stI (i : Instr) (a b : Nat) (v : Int32) (w : Int64) (sw : List (Int32 × Nat)) (pc : Nat) (ls : Lc) (st : List Value) (h : Hp) : St := match i with
  | .iload_n k => fLdI ls k 1 pc st h
  | .iload k => fLdI ls k 2 pc st h
  | .aload_n k => fLdA ls k 1 pc st h
  | .aload k => fLdA ls k 2 pc st h
  | .lload_n k => fLdL ls k 1 pc st h
  | .lload k => fLdL ls k 2 pc st h
  | .istore_n k => fStI ls k 1 pc st h
  | .istore k => fStI ls k 2 pc st h
  | .iconst _ => some (True, pc + 1, ls, .int v :: st, h)
  | .bipush _ => some (True, pc + 2, ls, .int v :: st, h)
  | .sipush _ => some (True, pc + 3, ls, .int v :: st, h)
  | .lconst _ => some (True, pc + 1, ls, .long w :: st, h)
  | .ldc _ => if a = 0 then some (True, pc + 2, ls, .int v :: st, h) else some (True, pc + 2, ls, .ref a :: st, h)
  | .ldc_w _ => some (True, pc + 3, ls, .int v :: st, h)
  | .ldc2_w _ => some (True, pc + 3, ls, .long w :: st, h)
  | .iadd => fI2 (fun x y => x + y) ls pc st h
  | .isub => fI2 (fun x y => x - y) ls pc st h
  | .imul => fI2 (fun x y => x * y) ls pc st h
  | .iand => fI2 (fun x y => x &&& y) ls pc st h
  | .ior => fI2 (fun x y => x ||| y) ls pc st h
  | .ixor => fI2 (fun x y => x ^^^ y) ls pc st h
  | .ishl => fI2 (fun x y => x <<< (y &&& 31)) ls pc st h
  | .ishr => fI2 (fun x y => x >>> (y &&& 31)) ls pc st h
  | .iushr => fI2 (fun x y => (x.toUInt32 >>> (y.toUInt32 &&& Int32.toUInt32 31)).toInt32) ls pc st h
  | .idiv => fI2g (fun x y => x / y) ls pc st h
  | .irem => fI2g (fun x y => x - x / y * y) ls pc st h
  | .ineg => fI1 (fun x => -x) ls pc st h
  | .i2b => fI1 (fun x => x.toInt8.toInt32) ls pc st h
  | .i2s => fI1 (fun x => x.toInt16.toInt32) ls pc st h
  | .i2c => fI1 (fun x => (x.toUInt32 % 65536).toInt32) ls pc st h
  | .i2l => (match st with
    | .int x :: r => some (True, pc + 1, ls, .long x.toInt64 :: r, h)
    | _ => none)
  | .l2i => (match st with
    | .long x :: r => some (True, pc + 1, ls, .int x.toInt32 :: r, h)
    | _ => none)
  | .ladd => fL2 (fun x y => x + y) ls pc st h
  | .lsub => fL2 (fun x y => x - y) ls pc st h
  | .lmul => fL2 (fun x y => x * y) ls pc st h
  | .lshl => fLI (fun x y => x <<< (y.toInt64 &&& 63)) ls pc st h
  | .lshr => fLI (fun x y => x >>> (y.toInt64 &&& 63)) ls pc st h
  | .lcmp => (match st with
    | .long y :: .long x :: r => some (True, pc + 1, ls, .int (lg_cmp x y) :: r, h)
    | _ => none)
  | .iinc k _ => (match ls[k]? with
    | some (some (.int x)) => fSt ls k 3 pc (.int (x + v)) st h
    | _ => none)
  | .ifCond q _ => fIf q a ls pc st h
  | .if_icmp q _ => fIc q a ls pc st h
  | .goto _ => some (True, a, ls, st, h)
  | .ifnull _ => (match st with
    | .ref _ :: r => some (True, pc + 3, ls, r, h)
    | _ => none)
  | .ifnonnull _ => (match st with
    | .ref _ :: r => some (True, a, ls, r, h)
    | _ => none)
  | .getfield _ => fGf a b v ls pc st h
  | .putfield _ => fPf a b v ls pc st h
  | .getstatic _ => some (True, pc + 3, ls, .ref a :: st, h)
  | .arraylength => fAl ls pc st h
  | .iaload => fIal ls pc st h
  | .baload => fBal ls pc st h
  | .laload => fLal ls pc st h
  | .iastore => fIas ls pc st h
  | .bastore => fBas ls pc st h
  | .lastore => fLas ls pc st h
  | .dup => (match st with
    | .int x :: r => some (True, pc + 1, ls, .int x :: .int x :: r, h)
    | .ref x :: r => some (True, pc + 1, ls, .ref x :: .ref x :: r, h)
    | _ => none)
  | .pop => (match st with
    | .int _ :: r => some (True, pc + 1, ls, r, h)
    | .ref _ :: r => some (True, pc + 1, ls, r, h)
    | _ => none)
  | .dup2 => (match st with
    | .int x :: .ref y :: r => some (True, pc + 1, ls, .int x :: .ref y :: .int x :: .ref y :: r, h)
    | _ => none)
  | .tableswitch _ _ _ _ => (match st with
    | .int x :: r => some (True, swt sw a x, ls, r, h)
    | _ => none)
  | .lookupswitch _ _ => (match st with
    | .int x :: r => some (True, swt sw a x, ls, r, h)
    | _ => none)
  | .invokestatic _ => if a < 1000 then none else fLib a ls pc st h
  | _ => none
def cdAt (cd : Cd) (pc : Nat) : Option En := match cd[pc]? with
  | some (some q) => some q
  | _ => none
/-- one step: what must hold for it, and where it leads -/
def stp (cd : Cd) (z : Cf) : St := match cdAt cd z.1 with
  | some (i, _, a, b, v, w, sw) => stI i a b v w sw z.1 z.2.1 z.2.2.1 z.2.2.2
  | none => none
/-- a call: the method's number, its arguments (the receiver too), what stays on the stack -/
def cal (cd : Cd) (z : Cf) : Option (Nat × Nat) := match cdAt cd z.1 with
  | some (.invokevirtual _, _, a, b, _) => some (a, b + 1)
  | some (.invokestatic _, _, a, b, _) => if a < 1000 then some (a, b) else none
  | _ => none
def rok (rt : Option FieldType) (i : Instr) (st : List Value) : Option (Prop × Option Value) := match i, st with
  | .ireturn, [.int v] => (match rt with
    | some .int => some (True, some (.int v))
    | some .boolean => some (isB v, some (.int v))
    | _ => none)
  | .lreturn, [.long v] => if rt = some .long then some (True, some (.long v)) else none
  | .areturn, [.ref v] => if rt = some (.object "java/lang/String") then some (True, some (.ref v)) else none
  | .return_, [] => if rt = none then some (True, none) else none
  | _, _ => none
def rtp (cd : Cd) (rt : Option FieldType) (z : Cf) : Option (Prop × Option Value) := match cdAt cd z.1 with
  | some (i, _) => rok rt i z.2.2.1
  | none => none
/-- the judgement: X holds at a configuration if it holds where a step, a call's return, leads; at a return the post holds -/
def Clo (C : Nat → List Value → Hp → (Option Value → Hp → Prop) → Prop) (cd : Cd) (rt : Option FieldType) (Q : Option Value → Hp → Prop) (X : Cf → Prop) : Prop :=
  (∀ (z z' : Cf) (G : Prop), stp cd z = some (G, z') → G → X z' → X z) ∧
  (∀ (pc : Nat) (ls : Lc) (st : List Value) (h : Hp) (mid n : Nat) (as rest : List Value), cal cd (pc, ls, st, h) = some (mid, n) → as.length = n → st = as.reverse ++ rest → (rest.map fun v => v.category).sum ≤ 8 → C mid as h (fun r h' => X (pc + 3, ls, r.toList ++ rest, h')) → X (pc, ls, st, h)) ∧
  (∀ (z : Cf) (G : Prop) (r : Option Value), rtp cd rt z = some (G, r) → G → Q r z.2.2.2 → X z)
def eL : List Value → Lc
  | [] => []
  | v :: vs => if v.category = 2 then some v :: none :: eL vs else some v :: eL vs
def eLn (n : Nat) (as : List Value) : Lc := eL as ++ List.replicate (n - (eL as).length) none
/-- String's own three methods, of a constant of the class -/
def stT' : List (List Nat) := [[112, 97, 121], [108, 111, 115, 116], [118, 105, 99, 116, 105, 109], [115, 97, 118, 101], [108, 101, 97, 115, 116], [100, 97, 121, 115], [110, 107, 114], [107], [103, 111], [103, 116], [103], [119, 107]]
def sIx : List Nat → Int32 → Nat → Int32
  | [], _, _ => -1
  | c :: r, x, k => if x = nI c then nI k else sIx r x (k + 1)
def lib (mid : Nat) (as : List Value) (h : Hp) (Q : Option Value → Hp → Prop) : Prop := match as with
  | [.ref r] => mid = 900 ∧ ∃ i l, r = 1000 + i ∧ stT'[i]? = some l ∧ Q (some (.int (nI l.length))) h
  | [.ref r, .int x] => (∃ i l, r = 1000 + i ∧ stT'[i]? = some l ∧ ((mid = 901 ∧ ∃ k c, x = nI k ∧ l[k]? = some c ∧ Q (some (.int (nI c))) h) ∨ (mid = 902 ∧ (0 ≤ x ∧ x ≤ 65535) ∧ Q (some (.int (sIx l x 0))) h)))
  | _ => False
/-- the receiver is an object of the method's class -/
def rcv (k o : Nat) (as : List Value) : Prop := if k = 0 then True else ∃ r t, as = .ref r :: t ∧ isCl r o = true
def Call : Nat → Nat → List Value → Hp → (Option Value → Hp → Prop) → Prop
  | 0, _, _, _, _ => False
  | d + 1, mid, as, h, Q => (lib mid as h Q) ∨ ∃ y b ml rt o cd q, psM[mid]? = some (y, b, ml, rt, o, cd, q) ∧ (eL as).length ≤ ml ∧ as.length = (if q.1 = 0 then q.2.1 else q.2.1 + 1) ∧ rcv q.1 o as ∧ ∀ X : Cf → Prop, Clo (Call d) cd rt Q X → X (0, eLn ml as, [], h)
