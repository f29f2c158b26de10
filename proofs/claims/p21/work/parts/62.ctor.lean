/-! The constructors: a small machine that makes cells; it runs with no unknown in it, so its end is found by evaluation. -/
noncomputable abbrev Kb : Type := Nat × Nat × List Value × List (Nat × Int32)
noncomputable abbrev Kf : Type := Nat × Lc × List Value × List Kb
noncomputable def lkK : List (Nat × Int32) → Nat → Int32
  | [], _ => 0
  | (k, v) :: r, j => if j = k then v else lkK r j
noncomputable def entK (ad : Nat → Nat) (cA : Nat → ClassId) (q : Kb) : va_E := if q.1 = 0 then .inl (cA 0, (q.2.1, .inl (lkK q.2.2.2))) else if q.1 = 1 then .inl (cA 1, (q.2.1, .inr (.inl (fun _ => 0)))) else if q.1 = 2 then .inl (cA 2, (q.2.1, .inl (fun _ => 0))) else .inr (q.2.1, q.2.2.1.map (tr ad))
noncomputable def wlk (ad : Nat → Nat) (cA : Nat → ClassId) (g : List Kb) : va_W := g.mapIdx (fun i q => (ad i, entK ad cA q))
noncomputable def slK (q : Kb) : Nat := if q.1 ≤ 2 then q.2.1 else q.2.2.1.length
noncomputable def slG : List Kb → Nat
  | [] => 0
  | q :: r => slK q + slG r
noncomputable def dfl (a : Nat) : List Value := match vwCl[a]? with
  | some (_, T, N) => (List.range N).map (fun k => if (T k).2.2.1 = "I" ∨ (T k).2.2.1 = "Z" then .int 0 else .null)
  | none => []
/-- may v be put into field b of class a by a method of class o? -/
noncomputable def kfit (o a b : Nat) (v : Value) : Bool := match vwCl[a]? with
  | some (C, T, N) => decide (b < N) && (match parseFieldDescriptor (T b).2.2.1 with
    | some ty => decide (narrow ty v = v) && fits ty v
    | none => false) && (!(T b).2.2.2 || (decide ((T b).1 = nmO o) && decide (o < 12)))
  | none => false
noncomputable def atyT (a : Nat) : FieldType := if a = 0 then .int else if a = 1 then .long else .boolean
noncomputable def kst (o : Nat) (i : Instr) (a b : Nat) (v : Int32) (z : Kf) : Option Kf := match i with
  | .aload_n k => (match z.2.1[(k : Nat)]? with
    | some (some (.ref x)) => some (z.1 + 1, z.2.1, .ref x :: z.2.2.1, z.2.2.2)
    | _ => none)
  | .iload_n k => (match z.2.1[(k : Nat)]? with
    | some (some (.int x)) => some (z.1 + 1, z.2.1, .int x :: z.2.2.1, z.2.2.2)
    | _ => none)
  | .iconst _ => some (z.1 + 1, z.2.1, .int v :: z.2.2.1, z.2.2.2)
  | .bipush _ => some (z.1 + 2, z.2.1, .int v :: z.2.2.1, z.2.2.2)
  | .sipush _ => some (z.1 + 3, z.2.1, .int v :: z.2.2.1, z.2.2.2)
  | .istore_n k => (match z.2.2.1 with
    | .int x :: r => if isLong z.2.1[(k : Nat) - 1]? = false ∧ (k : Nat) < z.2.1.length then some (z.1 + 1, z.2.1.set k (some (.int x)), r, z.2.2.2) else none
    | _ => none)
  | .astore_n k => (match z.2.2.1 with
    | .ref x :: r => if isLong z.2.1[(k : Nat) - 1]? = false ∧ (k : Nat) < z.2.1.length then some (z.1 + 1, z.2.1.set k (some (.ref x)), r, z.2.2.2) else none
    | _ => none)
  | .iinc k _ => (match z.2.1[k]? with
    | some (some (.int x)) => if isLong z.2.1[k - 1]? = false ∧ k < z.2.1.length then some (z.1 + 3, z.2.1.set k (some (.int (x + v))), z.2.2.1, z.2.2.2) else none
    | _ => none)
  | .imul => (match z.2.2.1 with
    | .int y :: .int x :: r => some (z.1 + 1, z.2.1, .int (x * y) :: r, z.2.2.2)
    | _ => none)
  | .dup => (match z.2.2.1 with
    | .ref x :: r => some (z.1 + 1, z.2.1, .ref x :: .ref x :: r, z.2.2.2)
    | _ => none)
  | .invokestatic _ => (match z.2.2.1 with
    | .int y :: .int x :: r => if a = 1001 ∧ (r.map fun v => v.category).sum ≤ 16 then some (z.1 + 3, z.2.1, .int (if x < y then y else x) :: r, z.2.2.2) else none
    | _ => none)
  | .new _ => if a < 12 ∧ z.2.2.2.length < 1000 then some (z.1 + 3, z.2.1, .ref z.2.2.2.length :: z.2.2.1, z.2.2.2 ++ [(3, a, dfl a, [])]) else none
  | .newarray _ => (match z.2.2.1 with
    | .int n :: r => if a < 3 ∧ ¬ n < 0 ∧ n.toNatClampNeg ≤ 100000 ∧ z.2.2.2.length < 1000 then some (z.1 + 2, z.2.1, .ref z.2.2.2.length :: r, z.2.2.2 ++ [(a, n.toNatClampNeg, [], [])]) else none
    | _ => none)
  | .getfield _ => (match z.2.2.1 with
    | .ref r :: t => (match z.2.2.2[r]? with
      | some (3, a', fs, _) => if a' = a then (match fs[b]? with
        | some x => some (z.1 + 3, z.2.1, x :: t, z.2.2.2)
        | none => none) else none
      | _ => none)
    | _ => none)
  | .putfield _ => (match z.2.2.1 with
    | x :: .ref r :: t => (match z.2.2.2[r]? with
      | some (3, a', fs, w) => if a' = a ∧ b < fs.length ∧ kfit o a b x = true then some (z.1 + 3, z.2.1, t, z.2.2.2.set r (3, a, fs.set b x, w)) else none
      | _ => none)
    | _ => none)
  | .iastore => (match z.2.2.1 with
    | .int x :: .int j :: .ref r :: t => (match z.2.2.2[r]? with
      | some (0, n, fs, w) => if ¬ (j < 0 ∨ n ≤ j.toNatClampNeg) then some (z.1 + 1, z.2.1, t, z.2.2.2.set r (0, n, fs, (j.toNatClampNeg, x) :: w)) else none
      | _ => none)
    | _ => none)
  | .if_icmp .ge _ => (match z.2.2.1 with
    | .int y :: .int x :: r => some (if y ≤ x then a else z.1 + 3, z.2.1, r, z.2.2.2)
    | _ => none)
  | .goto _ => some (a, z.2.1, z.2.2.1, z.2.2.2)
  | .invokespecial _ => (match z.2.2.1 with
    | .ref _ :: t => if a = 99 ∧ (t.map fun v => v.category).sum ≤ 16 then some (z.1 + 3, z.2.1, t, z.2.2.2) else none
    | _ => none)
  | _ => none
noncomputable def kcd (a : Nat) : Nat × Cd := match psK[a]? with
  | some (_, _, _, _, o, cd, _) => (o, cd)
  | none => (13, cdk12)
/-- is it a constructor's call? whose -/
noncomputable def kcl (i : Instr) (x : Nat) : Option Mi := match i with
  | .invokespecial _ => if x = 99 then none else psK[x]?
  | _ => none
noncomputable def isR : List Value → Bool
  | .ref _ :: _ => true
  | _ => false
noncomputable def kto : Nat → Nat → Nat → Kf → Option Kf
  | 0, _, _, _ => none
  | n + 1, a, stop, z => if z.1 = stop then some z else match cdX (kcd a).2 z.1 with
    | some (i, _, x, y, v, _, _) => (match kcl i x with
      | some (_, _, ml, _, _, _, q) => if (q.2.1 + 1 ≤ z.2.2.1.length ∧ (eL (z.2.2.1.take (q.2.1 + 1)).reverse).length ≤ ml) ∧ ((z.2.2.1.drop (q.2.1 + 1)).map fun v => v.category).sum ≤ 8 ∧ isR (z.2.2.1.take (q.2.1 + 1)).reverse = true then (match kto n x q.1 (0, eLn ml (z.2.2.1.take (q.2.1 + 1)).reverse, [], z.2.2.2) with
        | some (pc', _, [], g') => if pc' = q.1 then kto n a stop (z.1 + 3, z.2.1, z.2.2.1.drop (q.2.1 + 1), g') else none
        | _ => none) else none
      | none => (match kst (kcd a).1 i x y v z with
        | some z' => kto n a stop z'
        | none => none))
    | none => none
noncomputable def kcC (q : Nat × Nat × Nat × Nat × (Nat × Nat) × (Nat × Nat) × (Nat × Nat)) : Bool := match vwCl[q.2.2.1]? with
  | some (C, _, N) => decide (N = q.2.2.2.1) && hasW q.2.2.2.2.1 (.classLink (nmO q.1) q.2.1 C) && hasW q.2.2.2.2.2.1 (.instantiable C q.2.2.2.1) && hasW q.2.2.2.2.2.2 (.initialized C)
  | none => false
set_option maxRecDepth 100000 in
theorem kcT_ok : kcT.all kcC = true := by decide +kernel
noncomputable def kmC (q : Nat × Nat × Nat × Nat × Nat) : Bool := if q.2.2.1 = 99 then hasW q.2.2.2 (.methodLink (nmO q.1) q.2.1 objectInit) else (match psK[q.2.2.1]? with
  | some (y, _) => hasW q.2.2.2 (.methodLink (nmO q.1) q.2.1 y)
  | none => false)
set_option maxRecDepth 100000 in
theorem kmT_ok : kmT.all kmC = true := by decide +kernel
theorem lb8 : Jvm.Cond.instanceMethod objectInit ∈ gT := hasW_in (q := lbq8) (by decide +kernel)
theorem lb9 : Jvm.Cond.code objectInit ⟨#[0xb1]⟩ 1 none ∈ gT := hasW_in (q := lbq9) (by decide +kernel)
theorem lb10 : Jvm.Cond.arrayClass .int ∈ gT := hasW_in (q := lbq10) (by decide +kernel)
theorem lb11 : Jvm.Cond.arrayClass .long ∈ gT := hasW_in (q := lbq11) (by decide +kernel)
theorem lb12 : Jvm.Cond.arrayClass .boolean ∈ gT := hasW_in (q := lbq12) (by decide +kernel)
noncomputable def okk (o pc : Nat) (i : Instr) (n a b : Nat) (v : Int32) (sw : List (Int32 × Nat)) : Bool := match i with
  | .aload_n _ | .iload_n _ | .istore_n _ | .astore_n _ | .imul | .dup | .iastore | .return_ => n == 1
  | .iconst k => n == 1 && decide (Int32.ofInt k = v)
  | .bipush k => n == 2 && decide ((Int8.ofInt k).toInt32 = v)
  | .sipush k => n == 3 && decide ((Int16.ofInt k).toInt32 = v)
  | .iinc _ k => n == 3 && decide (Int32.ofInt k = v)
  | .if_icmp _ f | .goto f => n == 3 && decide ((pc : Int) + f = (a : Int))
  | .getfield k | .putfield k => n == 3 && flI sw (fun q => q.1 == o && q.2.1 == k && q.2.2.1 == a && q.2.2.2.1 == b)
  | .invokestatic k => n == 3 && mjI sw (fun q => q.1 == o && q.2.1 == k && q.2.2.1 == a)
  | .new k => n == 3 && atI kcT sw (fun q => q.1 == o && q.2.1 == k && q.2.2.1 == a)
  | .newarray t => n == 2 && decide (newarray.typeOf t = atyT a)
  | .invokespecial k => n == 3 && (if b = 0 then atI kmT sw (fun q => q.1 == o && q.2.1 == k && q.2.2.1 == a) else decide (a ≠ 99) && atI nsT sw (fun q => q.1 == o && q.2.1 == k && q.2.2.1 == a))
  | _ => false
noncomputable def okkE (c : ByteArray) (o pc : Nat) (q : En) : Bool := decide (decode c pc = .ok (q.1, q.2.1)) && okk o pc q.1 q.2.1 q.2.2.1 q.2.2.2.1 q.2.2.2.2.1 q.2.2.2.2.2.2
noncomputable def okkC (c : ByteArray) (o : Nat) : Nat → Cd → Bool
  | _, [] => true
  | pc, none :: r => okkC c o (pc + 1) r
  | pc, some q :: r => okkE c o pc q && okkC c o (pc + 1) r
theorem okkC_at {c : ByteArray} {o : Nat} : ∀ {cd : Cd} {k : Nat}, okkC c o k cd = true → ∀ {pc : Nat} {q : En}, cdAt cd pc = some q → okkE c o (k + pc) q = true
  | [], _, _, pc, q, h => by simp [cdAt] at h
  | none :: r, k, h, 0, q, hq => by simp [cdAt] at hq
  | some q0 :: r, k, h, 0, q, hq => by
    simp only [okkC, Bool.and_eq_true] at h
    simp only [cdAt, List.getElem?_cons_zero, Option.some.injEq] at hq
    subst hq
    exact h.1
  | none :: r, k, h, pc + 1, q, hq => by
    have := okkC_at (cd := r) (k := k + 1) h (pc := pc) (q := q) (by simpa [cdAt] using hq)
    rwa [show k + (pc + 1) = k + 1 + pc by omega]
  | some q0 :: r, k, h, pc + 1, q, hq => by
    simp only [okkC, Bool.and_eq_true] at h
    have := okkC_at (cd := r) (k := k + 1) h.2 (pc := pc) (q := q) (by simpa [cdAt] using hq)
    rwa [show k + (pc + 1) = k + 1 + pc by omega]
/-- the same, byte by byte -/
noncomputable def okkCF (c : ByteArray) (o : Nat) : Nat → List UInt8 → Cd → Bool
  | _, _, [] => true
  | pc, _ :: bs, none :: r => okkCF c o (pc + 1) bs r
  | pc, [], none :: r => okkCF c o (pc + 1) [] r
  | pc, b :: bs, some q :: r => okI c pc b bs q.1 q.2.1 && okk o pc q.1 q.2.1 q.2.2.1 q.2.2.2.1 q.2.2.2.2.1 q.2.2.2.2.2.2 && okkCF c o (pc + 1) bs r
  | _, [], some _ :: _ => false
theorem okkCF_sp {c : ByteArray} {o : Nat} : ∀ {cd : Cd} {pc : Nat} {l : List UInt8}, c.data.toList.drop pc = l → okkCF c o pc l cd = true → okkC c o pc cd = true
  | [], _, _, _, _ => rfl
  | none :: r, pc, b :: bs, hl, h => okkCF_sp (cd := r) (dr_tl hl) h
  | none :: r, pc, [], hl, h => okkCF_sp (cd := r) (by rw [← List.drop_drop, hl]; rfl) h
  | some q :: r, pc, b :: bs, hl, h => by
    simp only [okkCF, Bool.and_eq_true] at h
    simp only [okkC, okkE, Bool.and_eq_true, decide_eq_true_eq]
    exact ⟨⟨okI_sp hl h.1.1, h.1.2⟩, okkCF_sp (cd := r) (dr_tl hl) h.2⟩
  | some q :: r, pc, [], hl, h => by simp [okkCF] at h
noncomputable def miK (m : Mi) : Bool := match m with
  | (y, c, ml, rt, o, cd, rp, n, cp, ip, _, np) => (match cdAt cd rp with
    | some (.return_, _) => true
    | _ => false) && isCw cp && hasW ip (.instanceMethod y) && hasW np (.initialized y.cls) && plainName y.cls && decide (y.cls ≠ "java/lang/invoke/MethodHandle") && decide (y.cls ≠ "java/lang/invoke/VarHandle") && decide ((parseMethodDescriptor y.desc).map (fun d => d.parameters.length) = some n) && decide (nmO o = y.cls) && decide (ml ≤ 30) && decide (y.name = "<init>") && decide (rt = none) && decide (o < 12) && okkC c o 0 cd
noncomputable def miKF (m : Mi) : Bool := match m with
  | (y, c, ml, rt, o, cd, rp, n, cp, ip, _, np) => (match cdAt cd rp with
    | some (.return_, _) => true
    | _ => false) && isCw cp && hasW ip (.instanceMethod y) && hasW np (.initialized y.cls) && plainName y.cls && decide (y.cls ≠ "java/lang/invoke/MethodHandle") && decide (y.cls ≠ "java/lang/invoke/VarHandle") && decide ((parseMethodDescriptor y.desc).map (fun d => d.parameters.length) = some n) && decide (nmO o = y.cls) && decide (ml ≤ 30) && decide (y.name = "<init>") && decide (rt = none) && decide (o < 12) && okkCF c o 0 c.data.toList cd
theorem miKF_sp {m : Mi} (h : miKF m = true) : miK m = true := by
  obtain ⟨y, c, ml, rt, o, cd, rp, n, cp, ip, sp, np⟩ := m
  obtain ⟨h1, h2⟩ := Bool.and_eq_true_iff.mp h
  exact Bool.and_eq_true_iff.mpr ⟨h1, okkCF_sp (l := c.data.toList) rfl h2⟩
set_option maxRecDepth 100000 in
theorem kk0 : ∀ m, psK[0]? = some m → (lwB m.2.2.2.2.2.2.2.2.1.1)[m.2.2.2.2.2.2.2.2.1.2]? = some (.code m.1 m.2.1 m.2.2.1 m.2.2.2.1) ∧ miK m = true := fun m h => by cases h; exact ⟨rfl, miKF_sp (by decide +kernel)⟩
set_option maxRecDepth 100000 in
theorem kk1 : ∀ m, psK[1]? = some m → (lwB m.2.2.2.2.2.2.2.2.1.1)[m.2.2.2.2.2.2.2.2.1.2]? = some (.code m.1 m.2.1 m.2.2.1 m.2.2.2.1) ∧ miK m = true := fun m h => by cases h; exact ⟨rfl, miKF_sp (by decide +kernel)⟩
set_option maxRecDepth 100000 in
theorem kk2 : ∀ m, psK[2]? = some m → (lwB m.2.2.2.2.2.2.2.2.1.1)[m.2.2.2.2.2.2.2.2.1.2]? = some (.code m.1 m.2.1 m.2.2.1 m.2.2.2.1) ∧ miK m = true := fun m h => by cases h; exact ⟨rfl, miKF_sp (by decide +kernel)⟩
set_option maxRecDepth 100000 in
theorem kk3 : ∀ m, psK[3]? = some m → (lwB m.2.2.2.2.2.2.2.2.1.1)[m.2.2.2.2.2.2.2.2.1.2]? = some (.code m.1 m.2.1 m.2.2.1 m.2.2.2.1) ∧ miK m = true := fun m h => by cases h; exact ⟨rfl, miKF_sp (by decide +kernel)⟩
set_option maxRecDepth 100000 in
theorem kk4 : ∀ m, psK[4]? = some m → (lwB m.2.2.2.2.2.2.2.2.1.1)[m.2.2.2.2.2.2.2.2.1.2]? = some (.code m.1 m.2.1 m.2.2.1 m.2.2.2.1) ∧ miK m = true := fun m h => by cases h; exact ⟨rfl, miKF_sp (by decide +kernel)⟩
set_option maxRecDepth 100000 in
theorem kk5 : ∀ m, psK[5]? = some m → (lwB m.2.2.2.2.2.2.2.2.1.1)[m.2.2.2.2.2.2.2.2.1.2]? = some (.code m.1 m.2.1 m.2.2.1 m.2.2.2.1) ∧ miK m = true := fun m h => by cases h; exact ⟨rfl, miKF_sp (by decide +kernel)⟩
set_option maxRecDepth 100000 in
theorem kk6 : ∀ m, psK[6]? = some m → (lwB m.2.2.2.2.2.2.2.2.1.1)[m.2.2.2.2.2.2.2.2.1.2]? = some (.code m.1 m.2.1 m.2.2.1 m.2.2.2.1) ∧ miK m = true := fun m h => by cases h; exact ⟨rfl, miKF_sp (by decide +kernel)⟩
set_option maxRecDepth 100000 in
theorem kk7 : ∀ m, psK[7]? = some m → (lwB m.2.2.2.2.2.2.2.2.1.1)[m.2.2.2.2.2.2.2.2.1.2]? = some (.code m.1 m.2.1 m.2.2.1 m.2.2.2.1) ∧ miK m = true := fun m h => by cases h; exact ⟨rfl, miKF_sp (by decide +kernel)⟩
set_option maxRecDepth 100000 in
theorem kk8 : ∀ m, psK[8]? = some m → (lwB m.2.2.2.2.2.2.2.2.1.1)[m.2.2.2.2.2.2.2.2.1.2]? = some (.code m.1 m.2.1 m.2.2.1 m.2.2.2.1) ∧ miK m = true := fun m h => by cases h; exact ⟨rfl, miKF_sp (by decide +kernel)⟩
set_option maxRecDepth 100000 in
theorem kk9 : ∀ m, psK[9]? = some m → (lwB m.2.2.2.2.2.2.2.2.1.1)[m.2.2.2.2.2.2.2.2.1.2]? = some (.code m.1 m.2.1 m.2.2.1 m.2.2.2.1) ∧ miK m = true := fun m h => by cases h; exact ⟨rfl, miKF_sp (by decide +kernel)⟩
set_option maxRecDepth 100000 in
theorem kk10 : ∀ m, psK[10]? = some m → (lwB m.2.2.2.2.2.2.2.2.1.1)[m.2.2.2.2.2.2.2.2.1.2]? = some (.code m.1 m.2.1 m.2.2.1 m.2.2.2.1) ∧ miK m = true := fun m h => by cases h; exact ⟨rfl, miKF_sp (by decide +kernel)⟩
set_option maxRecDepth 100000 in
theorem kk11 : ∀ m, psK[11]? = some m → (lwB m.2.2.2.2.2.2.2.2.1.1)[m.2.2.2.2.2.2.2.2.1.2]? = some (.code m.1 m.2.1 m.2.2.1 m.2.2.2.1) ∧ miK m = true := fun m h => by cases h; exact ⟨rfl, miKF_sp (by decide +kernel)⟩
theorem psK_ok {k : Nat} {m : Mi} (h : psK[k]? = some m) : (lwB m.2.2.2.2.2.2.2.2.1.1)[m.2.2.2.2.2.2.2.2.1.2]? = some (.code m.1 m.2.1 m.2.2.1 m.2.2.2.1) ∧ miK m = true := by
  have hk : k < 12 := (List.getElem?_eq_some_iff.mp h).1
  match k, h with
  | 0, h => exact kk0 m h
  | 1, h => exact kk1 m h
  | 2, h => exact kk2 m h
  | 3, h => exact kk3 m h
  | 4, h => exact kk4 m h
  | 5, h => exact kk5 m h
  | 6, h => exact kk6 m h
  | 7, h => exact kk7 m h
  | 8, h => exact kk8 m h
  | 9, h => exact kk9 m h
  | 10, h => exact kk10 m h
  | 11, h => exact kk11 m h
  | k + 12, _ => omega
set_option maxRecDepth 100000 in
theorem cdk12_ok : okkC code 13 0 cdk12 = true := okkCF_sp (l := code.data.toList) rfl (by decide +kernel)
set_option maxRecDepth 1000000 in
theorem cdL_ok : okC code 13 0 cdL = true := okCF_sp (l := code.data.toList) rfl (by decide +kernel)
