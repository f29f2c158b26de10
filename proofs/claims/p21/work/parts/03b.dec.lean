/-! What stands at a place of the bytes, byte by byte: one look at an instruction, its length in bytes alone. -/
def dK (pc : Nat) : { K : Nat → Decoder Instr // Decoder.instr pc = (Reader.u1 >>= K) } := ⟨_, rfl⟩
theorem dr_bind {α β : Type} {m : Decoder α} {f : α → Decoder β} {c : ByteArray} {p q : Nat} {a : α} (h : Reader.runAt m c p = .ok (a, q)) : Reader.runAt (m >>= f) c p = Reader.runAt (f a) c q := by
  have h : m c p = .ok (a, q) := h
  show Except.bind (m c p) (fun r => f r.1 c r.2) = f a c q
  rw [h]
  rfl
theorem dr_u1 {c : ByteArray} {p : Nat} {b : UInt8} {r : List UInt8} (h : c.data.toList.drop p = b :: r) : Reader.runAt (Reader.u1 : Decoder Nat) c p = .ok (b.toNat, p + 1) := by
  have hp : p < c.data.toList.length := by
    rcases Nat.lt_or_ge p c.data.toList.length with h1 | h1
    · exact h1
    · rw [List.drop_eq_nil_of_le h1] at h; cases h
  have hb : c.data.toList[p] = b := by
    rw [List.drop_eq_getElem_cons hp] at h
    exact (List.cons.inj h).1
  have hp' : p < c.size := hp
  have e : c[p] = b := hb
  show (if h : p < c.size then (do set (p + 1); pure c[p].toNat : Decoder Nat) else throw (HasTruncated.truncated p)) c p = _
  rw [dif_pos hp', e]
  rfl
theorem dr_tl {c : ByteArray} {p : Nat} {b : UInt8} {r : List UInt8} (h : c.data.toList.drop p = b :: r) : c.data.toList.drop (p + 1) = r := by
  rw [← List.drop_drop, h]
  rfl
theorem dr_u2 {c : ByteArray} {p : Nat} {x y : UInt8} {r : List UInt8} (h : c.data.toList.drop p = x :: y :: r) : Reader.runAt (Reader.u2 : Decoder Nat) c p = .ok (x.toNat * 256 + y.toNat, p + 2) :=
  (dr_bind (f := fun hi => do let lo ← Reader.u1; pure (hi * 256 + lo)) (dr_u1 h)).trans (dr_bind (f := fun lo => pure (x.toNat * 256 + lo)) (dr_u1 (dr_tl h)))
theorem dr_s1 {c : ByteArray} {p : Nat} {x : UInt8} {r : List UInt8} (h : c.data.toList.drop p = x :: r) : Reader.runAt (Reader.s1 : Decoder Int) c p = .ok (Reader.signed 8 x.toNat, p + 1) := by
  have e : (Reader.u1 : Decoder Nat) c p = .ok (x.toNat, p + 1) := dr_u1 h
  show Except.map _ ((Reader.u1 : Decoder Nat) c p) = _
  rw [e]
  rfl
theorem dr_s2 {c : ByteArray} {p : Nat} {x y : UInt8} {r : List UInt8} (h : c.data.toList.drop p = x :: y :: r) : Reader.runAt (Reader.s2 : Decoder Int) c p = .ok (Reader.signed 16 (x.toNat * 256 + y.toNat), p + 2) := by
  have e : (Reader.u2 : Decoder Nat) c p = .ok (x.toNat * 256 + y.toNat, p + 2) := dr_u2 h
  show Except.map _ ((Reader.u2 : Decoder Nat) c p) = _
  rw [e]
  rfl
theorem dr_ins {c : ByteArray} {pc n k : Nat} {i : Instr} {b : UInt8} {r : List UInt8} (h : c.data.toList.drop pc = b :: r) (hb : b.toNat = k) (hk : Reader.runAt ((dK pc).1 k) c (pc + 1) = .ok (i, pc + n)) : decode c pc = .ok (i, n) := by
  have h1 : Reader.runAt (Decoder.instr pc) c pc = .ok (i, pc + n) := by
    rw [(dK pc).2, dr_bind (dr_u1 h), hb]
    exact hk
  show Except.bind (Reader.runAt (Decoder.instr pc) c pc) (fun r => pure (r.1, r.2 - pc)) = _
  rw [h1]
  show Except.ok (i, pc + n - pc) = _
  rw [Nat.add_sub_cancel_left]
/-- the first byte of those with no operand -/
def op0 : Instr → Option Nat
  | .iconst v => if v = -1 then some 2 else if v = 0 then some 3 else if v = 1 then some 4 else if v = 2 then some 5 else if v = 3 then some 6 else if v = 4 then some 7 else if v = 5 then some 8 else none
  | .lconst v => if v = 0 then some 9 else some 10
  | .iload_n k => if k = 0 then some 26 else if k = 1 then some 27 else if k = 2 then some 28 else some 29
  | .lload_n k => if k = 0 then some 30 else if k = 1 then some 31 else if k = 2 then some 32 else some 33
  | .aload_n k => if k = 0 then some 42 else if k = 1 then some 43 else if k = 2 then some 44 else some 45
  | .istore_n k => if k = 0 then some 59 else if k = 1 then some 60 else if k = 2 then some 61 else some 62
  | .astore_n k => if k = 0 then some 75 else if k = 1 then some 76 else if k = 2 then some 77 else some 78
  | .iaload => some 46
  | .laload => some 47
  | .baload => some 51
  | .iastore => some 79
  | .lastore => some 80
  | .bastore => some 84
  | .pop => some 87
  | .dup => some 89
  | .dup2 => some 92
  | .iadd => some 96
  | .ladd => some 97
  | .isub => some 100
  | .lsub => some 101
  | .imul => some 104
  | .lmul => some 105
  | .idiv => some 108
  | .irem => some 112
  | .ineg => some 116
  | .ishl => some 120
  | .lshl => some 121
  | .ishr => some 122
  | .lshr => some 123
  | .iushr => some 124
  | .iand => some 126
  | .ior => some 128
  | .ixor => some 130
  | .i2l => some 133
  | .l2i => some 136
  | .i2b => some 145
  | .i2c => some 146
  | .i2s => some 147
  | .lcmp => some 148
  | .ireturn => some 172
  | .lreturn => some 173
  | .areturn => some 176
  | .return_ => some 177
  | .arraylength => some 190
  | _ => none
def op1 : Instr → Option (Nat × Nat)
  | .ldc k => some (18, k)
  | .iload k => some (21, k)
  | .lload k => some (22, k)
  | .aload k => some (25, k)
  | .istore k => some (54, k)
  | _ => none
def op2 : Instr → Option (Nat × Nat)
  | .ldc_w k => some (19, k)
  | .ldc2_w k => some (20, k)
  | .getstatic k => some (178, k)
  | .getfield k => some (180, k)
  | .putfield k => some (181, k)
  | .invokevirtual k => some (182, k)
  | .invokespecial k => some (183, k)
  | .invokestatic k => some (184, k)
  | .new k => some (187, k)
  | _ => none
def opS : Instr → Option (Nat × Int)
  | .sipush k => some (17, k)
  | .ifCond .eq k => some (153, k)
  | .ifCond .ne k => some (154, k)
  | .ifCond .lt k => some (155, k)
  | .ifCond .ge k => some (156, k)
  | .ifCond .gt k => some (157, k)
  | .ifCond .le k => some (158, k)
  | .if_icmp .eq k => some (159, k)
  | .if_icmp .ne k => some (160, k)
  | .if_icmp .lt k => some (161, k)
  | .if_icmp .ge k => some (162, k)
  | .if_icmp .gt k => some (163, k)
  | .if_icmp .le k => some (164, k)
  | .goto k => some (167, k)
  | .ifnull k => some (198, k)
  | .ifnonnull k => some (199, k)
  | _ => none
set_option maxRecDepth 100000 in
theorem op0_sp {i : Instr} {k : Nat} (h : op0 i = some k) (c : ByteArray) (pc : Nat) : Reader.runAt ((dK pc).1 k) c (pc + 1) = .ok (i, pc + 1) := by
  unfold op0 at h
  split at h
  case h_1 v =>
    (repeat' split at h) <;> first | (cases h; done) | (cases h; subst v; rfl)
  case h_2 v =>
    (repeat' split at h) <;> (cases h) <;> (first | (subst v; rfl) | (match v with
      | 0 => contradiction
      | 1 => rfl))
  case h_3 v =>
    match v with
    | 0 => cases h; rfl
    | 1 => cases h; rfl
    | 2 => cases h; rfl
    | 3 => cases h; rfl
  case h_4 v =>
    match v with
    | 0 => cases h; rfl
    | 1 => cases h; rfl
    | 2 => cases h; rfl
    | 3 => cases h; rfl
  case h_5 v =>
    match v with
    | 0 => cases h; rfl
    | 1 => cases h; rfl
    | 2 => cases h; rfl
    | 3 => cases h; rfl
  case h_6 v =>
    match v with
    | 0 => cases h; rfl
    | 1 => cases h; rfl
    | 2 => cases h; rfl
    | 3 => cases h; rfl
  case h_7 v =>
    match v with
    | 0 => cases h; rfl
    | 1 => cases h; rfl
    | 2 => cases h; rfl
    | 3 => cases h; rfl
  all_goals first | (cases h; done) | (cases h; rfl)
set_option maxRecDepth 100000 in
theorem op1_sp {i : Instr} {k v : Nat} (h : op1 i = some (k, v)) {c : ByteArray} {pc : Nat} {x : UInt8} {r : List UInt8} (hl : c.data.toList.drop (pc + 1) = x :: r) (hx : x.toNat = v) : Reader.runAt ((dK pc).1 k) c (pc + 1) = .ok (i, pc + 2) := by
  have hu := dr_u1 hl
  rw [hx] at hu
  unfold op1 at h
  split at h
  all_goals first | (cases h; done) | (cases h; exact dr_bind (f := fun v => pure _) hu)
set_option maxRecDepth 100000 in
theorem op2_sp {i : Instr} {k v : Nat} (h : op2 i = some (k, v)) {c : ByteArray} {pc : Nat} {x y : UInt8} {r : List UInt8} (hl : c.data.toList.drop (pc + 1) = x :: y :: r) (hx : x.toNat * 256 + y.toNat = v) : Reader.runAt ((dK pc).1 k) c (pc + 1) = .ok (i, pc + 3) := by
  have hu := dr_u2 hl
  rw [hx] at hu
  unfold op2 at h
  split at h
  all_goals first | (cases h; done) | (cases h; exact dr_bind (f := fun v => pure _) hu)
set_option maxRecDepth 100000 in
theorem opS_sp {i : Instr} {k : Nat} {v : Int} (h : opS i = some (k, v)) {c : ByteArray} {pc : Nat} {x y : UInt8} {r : List UInt8} (hl : c.data.toList.drop (pc + 1) = x :: y :: r) (hx : Reader.signed 16 (x.toNat * 256 + y.toNat) = v) : Reader.runAt ((dK pc).1 k) c (pc + 1) = .ok (i, pc + 3) := by
  have hu := dr_s2 hl
  rw [hx] at hu
  unfold opS at h
  split at h
  all_goals first | (cases h; done) | (cases h; exact dr_bind (f := fun v => pure _) hu)
/-- the bytes from a place on say that the instruction stands there -/
def okI (c : ByteArray) (pc : Nat) (b : UInt8) (bs : List UInt8) (i : Instr) (n : Nat) : Bool := match op0 i with
  | some k => Nat.beq b.toNat k && Nat.beq n 1
  | none => match op2 i with
    | some (k, v) => (match bs with
      | x :: y :: _ => Nat.beq b.toNat k && Nat.beq (x.toNat * 256 + y.toNat) v && Nat.beq n 3
      | _ => false)
    | none => match op1 i with
      | some (k, v) => (match bs with
        | x :: _ => Nat.beq b.toNat k && Nat.beq x.toNat v && Nat.beq n 2
        | _ => false)
      | none => match opS i with
        | some (k, v) => (match bs with
          | x :: y :: _ => Nat.beq b.toNat k && decide (Reader.signed 16 (x.toNat * 256 + y.toNat) = v) && Nat.beq n 3
          | _ => false)
        | none => match i with
          | .bipush v => (match bs with
            | x :: _ => Nat.beq b.toNat 16 && decide (Reader.signed 8 x.toNat = v) && Nat.beq n 2
            | _ => false)
          | .iinc k v => (match bs with
            | x :: y :: _ => Nat.beq b.toNat 132 && Nat.beq x.toNat k && decide (Reader.signed 8 y.toNat = v) && Nat.beq n 3
            | _ => false)
          | _ => decide (decode c pc = .ok (i, n))
set_option maxRecDepth 100000 in
theorem okI_sp {c : ByteArray} {pc : Nat} {b : UInt8} {bs : List UInt8} {i : Instr} {n : Nat} (hl : c.data.toList.drop pc = b :: bs) (h : okI c pc b bs i n = true) : decode c pc = .ok (i, n) := by
  have ht := dr_tl hl
  unfold okI at h
  split at h
  · rename_i k hk
    simp only [Bool.and_eq_true] at h
    have h1 := Nat.eq_of_beq_eq_true h.1
    have h2 := Nat.eq_of_beq_eq_true h.2
    subst h2
    exact dr_ins hl h1 (op0_sp hk c pc)
  split at h
  · rename_i k v hk
    split at h
    · simp only [Bool.and_eq_true] at h
      have h1 := Nat.eq_of_beq_eq_true h.1.1
      have h2 := Nat.eq_of_beq_eq_true h.1.2
      have h3 := Nat.eq_of_beq_eq_true h.2
      subst h3
      exact dr_ins hl h1 (op2_sp hk ht h2)
    · cases h
  split at h
  · rename_i k v hk
    split at h
    · simp only [Bool.and_eq_true] at h
      have h1 := Nat.eq_of_beq_eq_true h.1.1
      have h2 := Nat.eq_of_beq_eq_true h.1.2
      have h3 := Nat.eq_of_beq_eq_true h.2
      subst h3
      exact dr_ins hl h1 (op1_sp hk ht h2)
    · cases h
  split at h
  · rename_i k v hk
    split at h
    · simp only [Bool.and_eq_true, decide_eq_true_eq] at h
      have h1 := Nat.eq_of_beq_eq_true h.1.1
      have h3 := Nat.eq_of_beq_eq_true h.2
      subst h3
      exact dr_ins hl h1 (opS_sp hk ht h.1.2)
    · cases h
  split at h
  · rename_i v
    split at h
    · simp only [Bool.and_eq_true, decide_eq_true_eq] at h
      have h1 := Nat.eq_of_beq_eq_true h.1.1
      have h3 := Nat.eq_of_beq_eq_true h.2
      have hs := dr_s1 ht
      rw [h.1.2] at hs
      subst h3
      exact dr_ins hl h1 (dr_bind (f := fun v => pure (Instr.bipush v)) hs)
    · cases h
  · rename_i k v
    split at h
    · simp only [Bool.and_eq_true, decide_eq_true_eq] at h
      have h1 := Nat.eq_of_beq_eq_true h.1.1.1
      have h2 := Nat.eq_of_beq_eq_true h.1.1.2
      have h3 := Nat.eq_of_beq_eq_true h.2
      have hu := dr_u1 ht
      rw [h2] at hu
      have hs := dr_s1 (dr_tl ht)
      rw [h.1.2] at hs
      subst h3
      exact dr_ins hl h1 ((dr_bind (f := fun k => do let v ← Reader.s1; pure (Instr.iinc k v)) hu).trans (dr_bind (f := fun v => pure (Instr.iinc _ v)) hs))
    · cases h
  · exact of_decide_eq_true h
