/-! What the tables of part 02 say is so of the Statement: every row is decided. -/
def gT : List Jvm.Cond := lw_tbl.filter goodWord
theorem lwB_in {j k : Nat} {w : Jvm.Cond} (h : (lwB j)[k]? = some w) : w ∈ lw_tbl := by
  have hm := List.mem_of_getElem? h
  unfold lwB at hm
  simp only [lw_tbl, tables_1, List.mem_append]
  split at hm
  · exact Or.inl hm
  split at hm
  · exact Or.inr (Or.inl hm)
  split at hm
  · exact Or.inr (Or.inr (Or.inl hm))
  split at hm
  · exact Or.inr (Or.inr (Or.inr (Or.inl hm)))
  split at hm
  · exact Or.inr (Or.inr (Or.inr (Or.inr (Or.inl hm))))
  split at hm
  · exact Or.inr (Or.inr (Or.inr (Or.inr (Or.inr (Or.inl hm)))))
  split at hm
  · exact Or.inr (Or.inr (Or.inr (Or.inr (Or.inr (Or.inr (Or.inl hm))))))
  split at hm
  · exact Or.inr (Or.inr (Or.inr (Or.inr (Or.inr (Or.inr (Or.inr (Or.inl hm)))))))
  · exact Or.inr (Or.inr (Or.inr (Or.inr (Or.inr (Or.inr (Or.inr (Or.inr hm)))))))
def hasW (q : Nat × Nat) (w : Jvm.Cond) : Bool := decide (lk (lwB q.1) q.2 = some w) && goodWord w
theorem hasW_in {q : Nat × Nat} {w : Jvm.Cond} (h : hasW q w = true) : w ∈ gT := by
  simp only [hasW, Bool.and_eq_true, decide_eq_true_eq] at h
  exact List.mem_filter.mpr ⟨lwB_in (lk_eq.symm.trans h.1), h.2⟩
theorem gT_good : ∀ w ∈ gT, goodWord w = true := fun w h => (List.mem_filter.mp h).2
theorem gT_lw : ∀ w ∈ gT, w ∈ lw_tbl := fun w h => (List.mem_filter.mp h).1
def nmO (o : Nat) : String := psN.getD o ""
def flC (q : Nat × Nat × Nat × Nat × Nat × Nat) : Bool := match vwCl[q.2.2.1]? with
  | some (_, T, N) => decide (q.2.2.2.1 < N) && hasW q.2.2.2.2 (.fieldLink (nmO q.1) q.2.1 (T q.2.2.2.1).1 (T q.2.2.2.1).2.1 (T q.2.2.2.1).2.2.1)
  | none => false
set_option maxRecDepth 100000 in
theorem flT_ok : flT.all flC = true := by decide +kernel
def csC (q : Nat × Nat × Int × Nat × Nat) : Bool := hasW q.2.2.2 (.constant (nmO q.1) q.2.1 (Int32.ofInt q.2.2.1))
set_option maxRecDepth 100000 in
theorem csT_ok : csT.all csC = true := by decide +kernel
def clC (q : Nat × Nat × Int × Nat × Nat) : Bool := hasW q.2.2.2 (.constantLong (nmO q.1) q.2.1 (Int64.ofInt q.2.2.1))
set_option maxRecDepth 100000 in
theorem clT_ok : clT.all clC = true := by decide +kernel
def mlC (q : Nat × Nat × Nat × Nat × Nat) : Bool := match psM[q.2.2.1]? with
  | some (y, _) => hasW q.2.2.2 (.methodLink (nmO q.1) q.2.1 y)
  | none => false
set_option maxRecDepth 100000 in
theorem mlT_ok : mlT.all mlC = true := by decide +kernel
def yLib (m : Nat) : MethodName := if m = 1001 then Lib.Math.max.name else if m = 1002 then Lib.Math.min.name else if m = 1003 then arraycopyName else if m = 900 then ⟨"java/lang/String", "length", "()I"⟩ else if m = 901 then ⟨"java/lang/String", "charAt", "(I)C"⟩ else ⟨"java/lang/String", "indexOf", "(I)I"⟩
def mjC (q : Nat × Nat × Nat × Nat × Nat) : Bool := hasW q.2.2.2 (.methodLink (nmO q.1) q.2.1 (yLib q.2.2.1))
set_option maxRecDepth 100000 in
theorem mjT_ok : mjT.all mjC = true := by decide +kernel
def stN (a : Nat) : String := if a = 1200 then "KIND_ABOVE" else if a = 1201 then "LEAST_AMOUNT" else if a = 1202 then "MOST_AMOUNT" else "MOST_DATE"
def stC (q : Nat × Nat × Nat × Nat × Nat) : Bool := hasW q.2.2.2 (.fieldLink (nmO q.1) q.2.1 "PrisonShops" (stN q.2.2.1) "[I")
set_option maxRecDepth 100000 in
theorem stT_ok : stT.all stC = true := by decide +kernel
def atI {α : Type} (l : List α) (sw : List (Int32 × Nat)) (f : α → Bool) : Bool := match sw with
  | [(_, k)] => (match l[k]? with
    | some q => f q
    | none => false)
  | _ => false
theorem atI_in {α : Type} {l : List α} {sw : List (Int32 × Nat)} {f : α → Bool} (h : atI l sw f = true) : ∃ q ∈ l, f q = true := by
  unfold atI at h
  split at h
  · split at h
    · rename_i q hq
      exact ⟨q, List.mem_of_getElem? hq, h⟩
    · cases h
  · cases h
def csI (sw : List (Int32 × Nat)) (f : Nat × Nat × Int × Nat × Nat → Bool) : Bool := atI csT sw f
def clI (sw : List (Int32 × Nat)) (f : Nat × Nat × Int × Nat × Nat → Bool) : Bool := atI clT sw f
def srI (sw : List (Int32 × Nat)) (f : Nat × Nat × Nat → Bool) : Bool := atI srT sw f
def flI (sw : List (Int32 × Nat)) (f : Nat × Nat × Nat × Nat × Nat × Nat → Bool) : Bool := atI flT sw f
def mlI (sw : List (Int32 × Nat)) (f : Nat × Nat × Nat × Nat × Nat → Bool) : Bool := atI mlT sw f
def mjI (sw : List (Int32 × Nat)) (f : Nat × Nat × Nat × Nat × Nat → Bool) : Bool := atI mjT sw f
def stIx (sw : List (Int32 × Nat)) (f : Nat × Nat × Nat × Nat × Nat → Bool) : Bool := atI stT sw f
/-- is this entry what the bytes say at that place, and are its numbers the tables'? -/
def okx (o pc : Nat) (i : Instr) (n a b : Nat) (v : Int32) (w : Int64) (sw : List (Int32 × Nat)) : Bool := match i with
  | .iload_n _ | .aload_n _ | .lload_n _ | .istore_n _ => n == 1
  | .iload _ | .aload _ | .lload _ | .istore _ => n == 2
  | .iconst k => n == 1 && decide (Int32.ofInt k = v)
  | .bipush k => n == 2 && decide ((Int8.ofInt k).toInt32 = v)
  | .sipush k => n == 3 && decide ((Int16.ofInt k).toInt32 = v)
  | .lconst k => n == 1 && decide (Int64.ofNat (k : Nat) = w)
  | .ldc k => n == 2 && (if a = 0 then csI sw (fun q => q.1 == o && q.2.1 == k && decide (Int32.ofInt q.2.2.1 = v)) else srI sw (fun q => q.1 == o && q.2.1 == k && q.2.2 == a))
  | .ldc_w k => n == 3 && csI sw (fun q => q.1 == o && q.2.1 == k && decide (Int32.ofInt q.2.2.1 = v))
  | .ldc2_w k => n == 3 && clI sw (fun q => q.1 == o && q.2.1 == k && decide (Int64.ofInt q.2.2.1 = w))
  | .iadd | .isub | .imul | .iand | .ior | .ixor | .ishl | .ishr | .iushr | .idiv | .irem | .ineg | .i2b | .i2s | .i2c | .i2l | .l2i | .ladd | .lsub | .lmul | .lshl | .lshr | .lcmp => n == 1
  | .iinc _ k => n == 3 && decide (Int32.ofInt k = v)
  | .ifCond _ f | .if_icmp _ f | .goto f | .ifnonnull f => n == 3 && decide ((pc : Int) + f = (a : Int))
  | .ifnull _ => n == 3
  | .getfield k | .putfield k => n == 3 && decide (nI b = v) && decide (b < 100) && flI sw (fun q => q.1 == o && q.2.1 == k && q.2.2.1 == a && q.2.2.2.1 == b)
  | .getstatic k => n == 3 && (stIx sw (fun q => q.1 == o && q.2.1 == k && q.2.2.1 == a) || (o == 7 && k == 76 && a == 1200))
  | .arraylength | .iaload | .baload | .laload | .iastore | .bastore | .lastore | .dup | .pop | .dup2 => n == 1
  | .tableswitch d lo hi offs => decide ((pc : Int) + d = (a : Int)) && decide (sw = (List.range offs.size).map (fun (k : Nat) => (Int32.ofInt (lo + (k : Int)), ((pc : Int) + offs.toList.getD k 0).toNat))) && decide ((offs.size : Int) = hi - lo + 1) && decide (-1000 < lo) && decide (hi < 1000) && offs.all (fun f => decide (0 ≤ (pc : Int) + f))
  | .lookupswitch d ps => decide ((pc : Int) + d = (a : Int)) && decide (sw = ps.toList.map (fun q => (Int32.ofInt q.1, ((pc : Int) + q.2).toNat))) && (ps.toList.zip (ps.toList.drop 1)).all (fun (q, r) => decide (q.1 < r.1)) && ps.all (fun q => decide (0 ≤ (pc : Int) + q.2) && decide (-1000 < q.1) && decide (q.1 < 1000))
  | .invokevirtual k => n == 3 && (mlI sw (fun q => q.1 == o && q.2.1 == k && q.2.2.1 == a) || (decide (900 ≤ a) && mjI sw (fun q => q.1 == o && q.2.1 == k && q.2.2.1 == a))) && (match psM[a]? with
    | some (_, _, _, _, _, _, q) => q.1 == 1 && q.2.1 == b
    | none => a == 900 && b == 0 || a == 901 && b == 1 || a == 902 && b == 1)
  | .invokestatic k => n == 3 && (if a < 1000 then ((mlI sw (fun q => q.1 == o && q.2.1 == k && q.2.2.1 == a) || (o == 6 && k == 26 && a == 156)) && (match psM[a]? with
    | some (_, _, _, _, _, _, q) => q.1 == 0 && q.2.1 == b
    | none => false)) else mjI sw (fun q => q.1 == o && q.2.1 == k && q.2.2.1 == a))
  | .ireturn | .lreturn | .areturn | .return_ => n == 1
  | _ => false
def okE (c : ByteArray) (o pc : Nat) (q : En) : Bool := decide (decode c pc = .ok (q.1, q.2.1)) && okx o pc q.1 q.2.1 q.2.2.1 q.2.2.2.1 q.2.2.2.2.1 q.2.2.2.2.2.1 q.2.2.2.2.2.2
def okC (c : ByteArray) (o : Nat) : Nat → Cd → Bool
  | _, [] => true
  | pc, none :: r => okC c o (pc + 1) r
  | pc, some q :: r => okE c o pc q && okC c o (pc + 1) r
theorem okC_at {c : ByteArray} {o : Nat} : ∀ {cd : Cd} {k : Nat}, okC c o k cd = true → ∀ {pc : Nat} {q : En}, cdAt cd pc = some q → okE c o (k + pc) q = true
  | [], _, _, pc, q, h => by simp [cdAt] at h
  | none :: r, k, h, 0, q, hq => by simp [cdAt] at hq
  | some q0 :: r, k, h, 0, q, hq => by
    simp only [okC, Bool.and_eq_true] at h
    simp only [cdAt, List.getElem?_cons_zero, Option.some.injEq] at hq
    subst hq
    exact h.1
  | none :: r, k, h, pc + 1, q, hq => by
    have := okC_at (cd := r) (k := k + 1) h (pc := pc) (q := q) (by simpa [cdAt] using hq)
    rwa [show k + (pc + 1) = k + 1 + pc by omega]
  | some q0 :: r, k, h, pc + 1, q, hq => by
    simp only [okC, Bool.and_eq_true] at h
    have := okC_at (cd := r) (k := k + 1) h.2 (pc := pc) (q := q) (by simpa [cdAt] using hq)
    rwa [show k + (pc + 1) = k + 1 + pc by omega]
/-- the same, byte by byte -/
def okCF (c : ByteArray) (o : Nat) : Nat → List UInt8 → Cd → Bool
  | _, _, [] => true
  | pc, _ :: bs, none :: r => okCF c o (pc + 1) bs r
  | pc, [], none :: r => okCF c o (pc + 1) [] r
  | pc, b :: bs, some q :: r => okI c pc b bs q.1 q.2.1 && okx o pc q.1 q.2.1 q.2.2.1 q.2.2.2.1 q.2.2.2.2.1 q.2.2.2.2.2.1 q.2.2.2.2.2.2 && okCF c o (pc + 1) bs r
  | _, [], some _ :: _ => false
theorem okCF_sp {c : ByteArray} {o : Nat} : ∀ {cd : Cd} {pc : Nat} {l : List UInt8}, c.data.toList.drop pc = l → okCF c o pc l cd = true → okC c o pc cd = true
  | [], _, _, _, _ => rfl
  | none :: r, pc, b :: bs, hl, h => okCF_sp (cd := r) (dr_tl hl) h
  | none :: r, pc, [], hl, h => okCF_sp (cd := r) (by rw [← List.drop_drop, hl]; rfl) h
  | some q :: r, pc, b :: bs, hl, h => by
    simp only [okCF, Bool.and_eq_true] at h
    simp only [okC, okE, Bool.and_eq_true, decide_eq_true_eq]
    exact ⟨⟨okI_sp hl h.1.1, h.1.2⟩, okCF_sp (cd := r) (dr_tl hl) h.2⟩
  | some q :: r, pc, [], hl, h => by simp [okCF] at h
def isCw (q : Nat × Nat) : Bool := match (lwB q.1)[q.2]? with
  | some w => goodWord w
  | none => false
def miC (m : Mi) : Bool := match m with
  | (y, c, ml, rt, o, cd, kd, n, cp, ip, sp, np) => isCw cp && (if kd = 0 then hasW ip (.static y) else (hasW ip (.instanceMethod y) && hasW sp (.selects y.cls y y))) && hasW np (.initialized y.cls) && plainName y.cls && decide (y.cls ≠ "java/lang/invoke/MethodHandle") && decide (y.cls ≠ "java/lang/invoke/VarHandle") && decide ((parseMethodDescriptor y.desc).map (fun d => d.parameters.length) = some n) && decide (nmO o = y.cls) && decide (ml ≤ 30) && (decide (kd = 0) || decide ((vwCl[o]?).map (fun q => q.1) = some y.cls)) && okC c o 0 cd
def miCF (m : Mi) : Bool := match m with
  | (y, c, ml, rt, o, cd, kd, n, cp, ip, sp, np) => isCw cp && (if kd = 0 then hasW ip (.static y) else (hasW ip (.instanceMethod y) && hasW sp (.selects y.cls y y))) && hasW np (.initialized y.cls) && plainName y.cls && decide (y.cls ≠ "java/lang/invoke/MethodHandle") && decide (y.cls ≠ "java/lang/invoke/VarHandle") && decide ((parseMethodDescriptor y.desc).map (fun d => d.parameters.length) = some n) && decide (nmO o = y.cls) && decide (ml ≤ 30) && (decide (kd = 0) || decide ((vwCl[o]?).map (fun q => q.1) = some y.cls)) && okCF c o 0 c.data.toList cd
theorem miCF_sp {m : Mi} (h : miCF m = true) : miC m = true := by
  obtain ⟨y, c, ml, rt, o, cd, kd, n, cp, ip, sp, np⟩ := m
  obtain ⟨h1, h2⟩ := Bool.and_eq_true_iff.mp h
  exact Bool.and_eq_true_iff.mpr ⟨h1, okCF_sp (l := c.data.toList) rfl h2⟩
def MO (m : Mi) : Prop := (lwB m.2.2.2.2.2.2.2.2.1.1)[m.2.2.2.2.2.2.2.2.1.2]? = some (.code m.1 m.2.1 m.2.2.1 m.2.2.2.1) ∧ miC m = true
def moB (m : Mi) : Bool := hasW m.2.2.2.2.2.2.2.2.1 (.code m.1 m.2.1 m.2.2.1 m.2.2.2.1) && miCF m
theorem moB_sp {m : Mi} (h : moB m = true) : MO m := by
  obtain ⟨h1, h2⟩ := Bool.and_eq_true_iff.mp h
  simp only [hasW, Bool.and_eq_true, decide_eq_true_eq] at h1
  exact ⟨lk_eq.symm.trans h1.1, miCF_sp h2⟩
set_option maxRecDepth 100000 in
theorem mo0 : MO mi0 := ⟨rfl, miCF_sp (by decide +kernel)⟩
set_option maxRecDepth 100000 in
theorem mo1 : MO mi1 := ⟨rfl, miCF_sp (by decide +kernel)⟩
set_option maxRecDepth 100000 in
theorem mo2 : MO mi2 := ⟨rfl, miCF_sp (by decide +kernel)⟩
set_option maxRecDepth 100000 in
theorem mo3 : MO mi3 := ⟨rfl, miCF_sp (by decide +kernel)⟩
set_option maxRecDepth 100000 in
theorem mo4 : MO mi4 := ⟨rfl, miCF_sp (by decide +kernel)⟩
set_option maxRecDepth 100000 in
theorem mo5 : MO mi5 := ⟨rfl, miCF_sp (by decide +kernel)⟩
set_option maxRecDepth 100000 in
theorem mo6 : MO mi6 := ⟨rfl, miCF_sp (by decide +kernel)⟩
set_option maxRecDepth 100000 in
theorem mo7 : MO mi7 := ⟨rfl, miCF_sp (by decide +kernel)⟩
set_option maxRecDepth 100000 in
theorem mo8 : MO mi8 := ⟨rfl, miCF_sp (by decide +kernel)⟩
set_option maxRecDepth 100000 in
theorem mo9 : MO mi9 := ⟨rfl, miCF_sp (by decide +kernel)⟩
set_option maxRecDepth 100000 in
theorem mo10 : MO mi10 := ⟨rfl, miCF_sp (by decide +kernel)⟩
set_option maxRecDepth 100000 in
theorem mo11 : MO mi11 := ⟨rfl, miCF_sp (by decide +kernel)⟩
set_option maxRecDepth 100000 in
theorem mo12 : MO mi12 := ⟨rfl, miCF_sp (by decide +kernel)⟩
set_option maxRecDepth 100000 in
theorem mo13 : MO mi13 := ⟨rfl, miCF_sp (by decide +kernel)⟩
set_option maxRecDepth 100000 in
theorem mo14 : MO mi14 := ⟨rfl, miCF_sp (by decide +kernel)⟩
set_option maxRecDepth 100000 in
theorem mo15 : MO mi15 := ⟨rfl, miCF_sp (by decide +kernel)⟩
set_option maxRecDepth 100000 in
theorem mo16 : MO mi16 := ⟨rfl, miCF_sp (by decide +kernel)⟩
set_option maxRecDepth 100000 in
theorem mo17 : MO mi17 := ⟨rfl, miCF_sp (by decide +kernel)⟩
set_option maxRecDepth 100000 in
theorem mo18 : MO mi18 := ⟨rfl, miCF_sp (by decide +kernel)⟩
set_option maxRecDepth 100000 in
theorem mo19 : MO mi19 := ⟨rfl, miCF_sp (by decide +kernel)⟩
set_option maxRecDepth 100000 in
theorem mo20 : MO mi20 := ⟨rfl, miCF_sp (by decide +kernel)⟩
set_option maxRecDepth 100000 in
theorem mo21 : MO mi21 := ⟨rfl, miCF_sp (by decide +kernel)⟩
set_option maxRecDepth 100000 in
theorem mo22 : MO mi22 := ⟨rfl, miCF_sp (by decide +kernel)⟩
set_option maxRecDepth 100000 in
theorem mo23 : MO mi23 := ⟨rfl, miCF_sp (by decide +kernel)⟩
set_option maxRecDepth 100000 in
theorem mo24 : MO mi24 := ⟨rfl, miCF_sp (by decide +kernel)⟩
set_option maxRecDepth 100000 in
theorem mo25 : MO mi25 := ⟨rfl, miCF_sp (by decide +kernel)⟩
set_option maxRecDepth 100000 in
theorem mo26 : MO mi26 := ⟨rfl, miCF_sp (by decide +kernel)⟩
set_option maxRecDepth 100000 in
theorem mo27 : MO mi27 := ⟨rfl, miCF_sp (by decide +kernel)⟩
set_option maxRecDepth 100000 in
theorem mo28 : MO mi28 := ⟨rfl, miCF_sp (by decide +kernel)⟩
set_option maxRecDepth 100000 in
theorem mo29 : MO mi29 := ⟨rfl, miCF_sp (by decide +kernel)⟩
set_option maxRecDepth 100000 in
theorem mo30 : MO mi30 := ⟨rfl, miCF_sp (by decide +kernel)⟩
set_option maxRecDepth 100000 in
theorem mo31 : MO mi31 := ⟨rfl, miCF_sp (by decide +kernel)⟩
set_option maxRecDepth 100000 in
theorem mo32 : MO mi32 := ⟨rfl, miCF_sp (by decide +kernel)⟩
set_option maxRecDepth 100000 in
theorem mo33 : MO mi33 := ⟨rfl, miCF_sp (by decide +kernel)⟩
set_option maxRecDepth 100000 in
theorem mo34 : MO mi34 := ⟨rfl, miCF_sp (by decide +kernel)⟩
set_option maxRecDepth 100000 in
theorem mo35 : MO mi35 := ⟨rfl, miCF_sp (by decide +kernel)⟩
set_option maxRecDepth 100000 in
theorem mo36 : MO mi36 := ⟨rfl, miCF_sp (by decide +kernel)⟩
set_option maxRecDepth 100000 in
theorem mo37 : MO mi37 := ⟨rfl, miCF_sp (by decide +kernel)⟩
set_option maxRecDepth 100000 in
theorem mo38 : MO mi38 := ⟨rfl, miCF_sp (by decide +kernel)⟩
set_option maxRecDepth 100000 in
theorem mo39 : MO mi39 := ⟨rfl, miCF_sp (by decide +kernel)⟩
set_option maxRecDepth 100000 in
theorem mo40 : MO mi40 := ⟨rfl, miCF_sp (by decide +kernel)⟩
set_option maxRecDepth 100000 in
theorem mo41 : MO mi41 := ⟨rfl, miCF_sp (by decide +kernel)⟩
set_option maxRecDepth 100000 in
theorem mo42 : MO mi42 := ⟨rfl, miCF_sp (by decide +kernel)⟩
set_option maxRecDepth 100000 in
theorem mo43 : MO mi43 := ⟨rfl, miCF_sp (by decide +kernel)⟩
set_option maxRecDepth 100000 in
theorem mo44 : MO mi44 := ⟨rfl, miCF_sp (by decide +kernel)⟩
set_option maxRecDepth 100000 in
theorem mo45 : MO mi45 := ⟨rfl, miCF_sp (by decide +kernel)⟩
set_option maxRecDepth 100000 in
theorem mo46 : MO mi46 := ⟨rfl, miCF_sp (by decide +kernel)⟩
set_option maxRecDepth 100000 in
theorem mo47 : MO mi47 := ⟨rfl, miCF_sp (by decide +kernel)⟩
set_option maxRecDepth 100000 in
theorem mo48 : MO mi48 := ⟨rfl, miCF_sp (by decide +kernel)⟩
set_option maxRecDepth 100000 in
theorem mo49 : MO mi49 := ⟨rfl, miCF_sp (by decide +kernel)⟩
set_option maxRecDepth 100000 in
theorem mo50 : MO mi50 := ⟨rfl, miCF_sp (by decide +kernel)⟩
set_option maxRecDepth 100000 in
theorem mo51 : MO mi51 := ⟨rfl, miCF_sp (by decide +kernel)⟩
set_option maxRecDepth 100000 in
theorem mo52 : MO mi52 := ⟨rfl, miCF_sp (by decide +kernel)⟩
set_option maxRecDepth 100000 in
theorem mo53 : MO mi53 := ⟨rfl, miCF_sp (by decide +kernel)⟩
set_option maxRecDepth 100000 in
theorem mo54 : MO mi54 := ⟨rfl, miCF_sp (by decide +kernel)⟩
set_option maxRecDepth 100000 in
theorem mo55 : MO mi55 := ⟨rfl, miCF_sp (by decide +kernel)⟩
set_option maxRecDepth 100000 in
theorem mo56 : MO mi56 := ⟨rfl, miCF_sp (by decide +kernel)⟩
set_option maxRecDepth 100000 in
theorem mo57 : MO mi57 := ⟨rfl, miCF_sp (by decide +kernel)⟩
set_option maxRecDepth 100000 in
theorem mo58 : MO mi58 := ⟨rfl, miCF_sp (by decide +kernel)⟩
set_option maxRecDepth 100000 in
theorem mo59 : MO mi59 := ⟨rfl, miCF_sp (by decide +kernel)⟩
set_option maxRecDepth 100000 in
theorem mo60 : MO mi60 := ⟨rfl, miCF_sp (by decide +kernel)⟩
set_option maxRecDepth 100000 in
theorem mo61 : MO mi61 := ⟨rfl, miCF_sp (by decide +kernel)⟩
set_option maxRecDepth 100000 in
theorem mo62 : MO mi62 := ⟨rfl, miCF_sp (by decide +kernel)⟩
set_option maxRecDepth 100000 in
theorem mo63 : MO mi63 := ⟨rfl, miCF_sp (by decide +kernel)⟩
set_option maxRecDepth 100000 in
theorem mo64 : MO mi64 := ⟨rfl, miCF_sp (by decide +kernel)⟩
set_option maxRecDepth 100000 in
theorem mo65 : MO mi65 := ⟨rfl, miCF_sp (by decide +kernel)⟩
set_option maxRecDepth 100000 in
theorem mo66 : MO mi66 := ⟨rfl, miCF_sp (by decide +kernel)⟩
set_option maxRecDepth 100000 in
theorem mo67 : MO mi67 := ⟨rfl, miCF_sp (by decide +kernel)⟩
set_option maxRecDepth 100000 in
theorem mo68 : MO mi68 := ⟨rfl, miCF_sp (by decide +kernel)⟩
set_option maxRecDepth 100000 in
theorem mo69 : MO mi69 := ⟨rfl, miCF_sp (by decide +kernel)⟩
set_option maxRecDepth 100000 in
theorem mo70 : MO mi70 := ⟨rfl, miCF_sp (by decide +kernel)⟩
set_option maxRecDepth 100000 in
theorem mo71 : MO mi71 := ⟨rfl, miCF_sp (by decide +kernel)⟩
set_option maxRecDepth 100000 in
theorem mo72 : MO mi72 := ⟨rfl, miCF_sp (by decide +kernel)⟩
set_option maxRecDepth 100000 in
theorem mo73 : MO mi73 := ⟨rfl, miCF_sp (by decide +kernel)⟩
set_option maxRecDepth 100000 in
theorem mo74 : MO mi74 := ⟨rfl, miCF_sp (by decide +kernel)⟩
set_option maxRecDepth 100000 in
theorem mo75 : MO mi75 := ⟨rfl, miCF_sp (by decide +kernel)⟩
set_option maxRecDepth 100000 in
theorem mo76 : MO mi76 := ⟨rfl, miCF_sp (by decide +kernel)⟩
set_option maxRecDepth 100000 in
theorem mo77 : MO mi77 := ⟨rfl, miCF_sp (by decide +kernel)⟩
set_option maxRecDepth 100000 in
theorem mo78 : MO mi78 := ⟨rfl, miCF_sp (by decide +kernel)⟩
set_option maxRecDepth 100000 in
theorem mo79 : MO mi79 := ⟨rfl, miCF_sp (by decide +kernel)⟩
set_option maxRecDepth 100000 in
theorem mo80 : MO mi80 := ⟨rfl, miCF_sp (by decide +kernel)⟩
set_option maxRecDepth 100000 in
theorem mo81 : MO mi81 := ⟨rfl, miCF_sp (by decide +kernel)⟩
set_option maxRecDepth 100000 in
theorem mo82 : MO mi82 := ⟨rfl, miCF_sp (by decide +kernel)⟩
set_option maxRecDepth 100000 in
theorem mo83 : MO mi83 := ⟨rfl, miCF_sp (by decide +kernel)⟩
set_option maxRecDepth 100000 in
theorem mo84 : MO mi84 := ⟨rfl, miCF_sp (by decide +kernel)⟩
set_option maxRecDepth 100000 in
theorem mo85 : MO mi85 := ⟨rfl, miCF_sp (by decide +kernel)⟩
set_option maxRecDepth 100000 in
theorem mo86 : MO mi86 := ⟨rfl, miCF_sp (by decide +kernel)⟩
set_option maxRecDepth 100000 in
theorem mo87 : MO mi87 := ⟨rfl, miCF_sp (by decide +kernel)⟩
set_option maxRecDepth 100000 in
theorem mo88 : MO mi88 := ⟨rfl, miCF_sp (by decide +kernel)⟩
set_option maxRecDepth 100000 in
theorem mo89 : MO mi89 := ⟨rfl, miCF_sp (by decide +kernel)⟩
set_option maxRecDepth 100000 in
theorem mo90 : MO mi90 := ⟨rfl, miCF_sp (by decide +kernel)⟩
set_option maxRecDepth 100000 in
theorem mo91 : MO mi91 := ⟨rfl, miCF_sp (by decide +kernel)⟩
set_option maxRecDepth 100000 in
theorem mo92 : MO mi92 := ⟨rfl, miCF_sp (by decide +kernel)⟩
set_option maxRecDepth 100000 in
theorem mo93 : MO mi93 := ⟨rfl, miCF_sp (by decide +kernel)⟩
set_option maxRecDepth 100000 in
theorem mo94 : MO mi94 := ⟨rfl, miCF_sp (by decide +kernel)⟩
set_option maxRecDepth 100000 in
theorem mo95 : MO mi95 := ⟨rfl, miCF_sp (by decide +kernel)⟩
set_option maxRecDepth 100000 in
theorem mo96 : MO mi96 := ⟨rfl, miCF_sp (by decide +kernel)⟩
set_option maxRecDepth 100000 in
theorem mo97 : MO mi97 := ⟨rfl, miCF_sp (by decide +kernel)⟩
set_option maxRecDepth 100000 in
theorem mo98 : MO mi98 := ⟨rfl, miCF_sp (by decide +kernel)⟩
set_option maxRecDepth 100000 in
theorem mo99 : MO mi99 := ⟨rfl, miCF_sp (by decide +kernel)⟩
set_option maxRecDepth 100000 in
theorem mo100 : MO mi100 := ⟨rfl, miCF_sp (by decide +kernel)⟩
set_option maxRecDepth 100000 in
theorem mo101 : MO mi101 := ⟨rfl, miCF_sp (by decide +kernel)⟩
set_option maxRecDepth 100000 in
theorem mo102 : MO mi102 := ⟨rfl, miCF_sp (by decide +kernel)⟩
set_option maxRecDepth 100000 in
theorem mo103 : MO mi103 := ⟨rfl, miCF_sp (by decide +kernel)⟩
set_option maxRecDepth 100000 in
theorem mo104 : MO mi104 := ⟨rfl, miCF_sp (by decide +kernel)⟩
set_option maxRecDepth 100000 in
theorem mo105 : MO mi105 := ⟨rfl, miCF_sp (by decide +kernel)⟩
set_option maxRecDepth 100000 in
theorem mo106 : MO mi106 := ⟨rfl, miCF_sp (by decide +kernel)⟩
set_option maxRecDepth 100000 in
theorem mo107 : MO mi107 := ⟨rfl, miCF_sp (by decide +kernel)⟩
set_option maxRecDepth 100000 in
theorem mo108 : MO mi108 := ⟨rfl, miCF_sp (by decide +kernel)⟩
set_option maxRecDepth 100000 in
theorem mo109 : MO mi109 := ⟨rfl, miCF_sp (by decide +kernel)⟩
set_option maxRecDepth 100000 in
theorem mo110 : MO mi110 := ⟨rfl, miCF_sp (by decide +kernel)⟩
set_option maxRecDepth 100000 in
theorem mo111 : MO mi111 := ⟨rfl, miCF_sp (by decide +kernel)⟩
set_option maxRecDepth 100000 in
theorem mo112 : MO mi112 := ⟨rfl, miCF_sp (by decide +kernel)⟩
set_option maxRecDepth 100000 in
theorem mo113 : MO mi113 := ⟨rfl, miCF_sp (by decide +kernel)⟩
set_option maxRecDepth 100000 in
theorem mo114 : MO mi114 := ⟨rfl, miCF_sp (by decide +kernel)⟩
set_option maxRecDepth 100000 in
theorem mo115 : MO mi115 := ⟨rfl, miCF_sp (by decide +kernel)⟩
set_option maxRecDepth 100000 in
theorem mo116 : MO mi116 := ⟨rfl, miCF_sp (by decide +kernel)⟩
set_option maxRecDepth 100000 in
theorem mo117 : MO mi117 := ⟨rfl, miCF_sp (by decide +kernel)⟩
set_option maxRecDepth 100000 in
theorem mo118 : MO mi118 := ⟨rfl, miCF_sp (by decide +kernel)⟩
set_option maxRecDepth 100000 in
theorem mo119 : MO mi119 := ⟨rfl, miCF_sp (by decide +kernel)⟩
set_option maxRecDepth 100000 in
theorem mo120 : MO mi120 := ⟨rfl, miCF_sp (by decide +kernel)⟩
set_option maxRecDepth 100000 in
theorem mo121 : MO mi121 := ⟨rfl, miCF_sp (by decide +kernel)⟩
set_option maxRecDepth 100000 in
theorem mo122 : MO mi122 := ⟨rfl, miCF_sp (by decide +kernel)⟩
set_option maxRecDepth 100000 in
theorem mo123 : MO mi123 := ⟨rfl, miCF_sp (by decide +kernel)⟩
set_option maxRecDepth 100000 in
theorem mo124 : MO mi124 := ⟨rfl, miCF_sp (by decide +kernel)⟩
set_option maxRecDepth 100000 in
theorem mo125 : MO mi125 := ⟨rfl, miCF_sp (by decide +kernel)⟩
set_option maxRecDepth 100000 in
theorem mo126 : MO mi126 := ⟨rfl, miCF_sp (by decide +kernel)⟩
set_option maxRecDepth 100000 in
theorem mo127 : MO mi127 := ⟨rfl, miCF_sp (by decide +kernel)⟩
set_option maxRecDepth 100000 in
theorem mo128 : MO mi128 := ⟨rfl, miCF_sp (by decide +kernel)⟩
set_option maxRecDepth 100000 in
theorem mo129 : MO mi129 := ⟨rfl, miCF_sp (by decide +kernel)⟩
set_option maxRecDepth 100000 in
theorem mo130 : MO mi130 := ⟨rfl, miCF_sp (by decide +kernel)⟩
set_option maxRecDepth 100000 in
theorem mo131 : MO mi131 := ⟨rfl, miCF_sp (by decide +kernel)⟩
set_option maxRecDepth 100000 in
theorem mo132 : MO mi132 := ⟨rfl, miCF_sp (by decide +kernel)⟩
set_option maxRecDepth 100000 in
theorem mo133 : MO mi133 := ⟨rfl, miCF_sp (by decide +kernel)⟩
set_option maxRecDepth 100000 in
theorem mo134 : MO mi134 := ⟨rfl, miCF_sp (by decide +kernel)⟩
set_option maxRecDepth 100000 in
theorem mo135 : MO mi135 := ⟨rfl, miCF_sp (by decide +kernel)⟩
set_option maxRecDepth 100000 in
theorem mo136 : MO mi136 := ⟨rfl, miCF_sp (by decide +kernel)⟩
set_option maxRecDepth 100000 in
theorem mo137 : MO mi137 := ⟨rfl, miCF_sp (by decide +kernel)⟩
set_option maxRecDepth 100000 in
theorem mo138 : MO mi138 := ⟨rfl, miCF_sp (by decide +kernel)⟩
set_option maxRecDepth 100000 in
theorem mo139 : MO mi139 := ⟨rfl, miCF_sp (by decide +kernel)⟩
set_option maxRecDepth 100000 in
theorem mo140 : MO mi140 := ⟨rfl, miCF_sp (by decide +kernel)⟩
set_option maxRecDepth 100000 in
theorem mo141 : MO mi141 := ⟨rfl, miCF_sp (by decide +kernel)⟩
set_option maxRecDepth 100000 in
theorem mo142 : MO mi142 := ⟨rfl, miCF_sp (by decide +kernel)⟩
set_option maxRecDepth 100000 in
theorem mo143 : MO mi143 := ⟨rfl, miCF_sp (by decide +kernel)⟩
set_option maxRecDepth 100000 in
theorem mo144 : MO mi144 := ⟨rfl, miCF_sp (by decide +kernel)⟩
set_option maxRecDepth 100000 in
theorem mo145 : MO mi145 := ⟨rfl, miCF_sp (by decide +kernel)⟩
set_option maxRecDepth 100000 in
theorem mo146 : MO mi146 := ⟨rfl, miCF_sp (by decide +kernel)⟩
set_option maxRecDepth 100000 in
theorem mo147 : MO mi147 := ⟨rfl, miCF_sp (by decide +kernel)⟩
set_option maxRecDepth 100000 in
theorem mo148 : MO mi148 := ⟨rfl, miCF_sp (by decide +kernel)⟩
set_option maxRecDepth 100000 in
theorem mo149 : MO mi149 := ⟨rfl, miCF_sp (by decide +kernel)⟩
set_option maxRecDepth 100000 in
theorem mo150 : MO mi150 := ⟨rfl, miCF_sp (by decide +kernel)⟩
set_option maxRecDepth 100000 in
theorem mo151 : MO mi151 := ⟨rfl, miCF_sp (by decide +kernel)⟩
set_option maxRecDepth 100000 in
theorem mo152 : MO mi152 := ⟨rfl, miCF_sp (by decide +kernel)⟩
set_option maxRecDepth 100000 in
theorem mo153 : MO mi153 := ⟨rfl, miCF_sp (by decide +kernel)⟩
set_option maxRecDepth 100000 in
theorem mo154 : MO mi154 := ⟨rfl, miCF_sp (by decide +kernel)⟩
set_option maxRecDepth 100000 in
theorem mo155 : MO mi155 := ⟨rfl, miCF_sp (by decide +kernel)⟩
set_option maxRecDepth 100000 in
theorem mo156 : MO mi156 := ⟨rfl, miCF_sp (by decide +kernel)⟩
set_option maxRecDepth 100000 in
theorem mo157 : MO mi157 := ⟨rfl, miCF_sp (by decide +kernel)⟩
set_option maxRecDepth 100000 in
theorem mo158 : MO mi158 := ⟨rfl, miCF_sp (by decide +kernel)⟩
set_option maxRecDepth 100000 in
theorem mo159 : MO mi159 := ⟨rfl, miCF_sp (by decide +kernel)⟩
set_option maxRecDepth 100000 in
theorem mo160 : MO mi160 := ⟨rfl, miCF_sp (by decide +kernel)⟩
set_option maxRecDepth 100000 in
theorem mo161 : MO mi161 := ⟨rfl, miCF_sp (by decide +kernel)⟩
set_option maxRecDepth 100000 in
theorem mo162 : MO mi162 := ⟨rfl, miCF_sp (by decide +kernel)⟩
set_option maxRecDepth 100000 in
theorem mo163 : MO mi163 := ⟨rfl, miCF_sp (by decide +kernel)⟩
set_option maxRecDepth 100000 in
theorem mo164 : MO mi164 := ⟨rfl, miCF_sp (by decide +kernel)⟩
set_option maxRecDepth 100000 in
theorem mo165 : MO mi165 := ⟨rfl, miCF_sp (by decide +kernel)⟩
set_option maxRecDepth 100000 in
theorem mo166 : MO mi166 := ⟨rfl, miCF_sp (by decide +kernel)⟩
set_option maxRecDepth 100000 in
theorem mo167 : MO mi167 := ⟨rfl, miCF_sp (by decide +kernel)⟩
set_option maxRecDepth 100000 in
theorem mo168 : MO mi168 := ⟨rfl, miCF_sp (by decide +kernel)⟩
set_option maxRecDepth 100000 in
theorem mo169 : MO mi169 := ⟨rfl, miCF_sp (by decide +kernel)⟩
set_option maxRecDepth 100000 in
theorem mo170 : MO mi170 := ⟨rfl, miCF_sp (by decide +kernel)⟩
set_option maxRecDepth 100000 in
theorem mo171 : MO mi171 := ⟨rfl, miCF_sp (by decide +kernel)⟩
set_option maxRecDepth 100000 in
theorem mo172 : MO mi172 := ⟨rfl, miCF_sp (by decide +kernel)⟩
set_option maxRecDepth 100000 in
theorem mo173 : MO mi173 := ⟨rfl, miCF_sp (by decide +kernel)⟩
set_option maxRecDepth 100000 in
theorem mo174 : MO mi174 := ⟨rfl, miCF_sp (by decide +kernel)⟩
set_option maxRecDepth 100000 in
theorem mo175 : MO mi175 := ⟨rfl, miCF_sp (by decide +kernel)⟩
set_option maxRecDepth 100000 in
theorem mo176 : MO mi176 := ⟨rfl, miCF_sp (by decide +kernel)⟩
set_option maxRecDepth 100000 in
theorem mo177 : MO mi177 := ⟨rfl, miCF_sp (by decide +kernel)⟩
set_option maxRecDepth 100000 in
theorem mo178 : MO mi178 := ⟨rfl, miCF_sp (by decide +kernel)⟩
set_option maxRecDepth 100000 in
theorem mo179 : MO mi179 := ⟨rfl, miCF_sp (by decide +kernel)⟩
set_option maxRecDepth 100000 in
theorem mo180 : MO mi180 := ⟨rfl, miCF_sp (by decide +kernel)⟩
set_option maxRecDepth 100000 in
theorem mo181 : MO mi181 := ⟨rfl, miCF_sp (by decide +kernel)⟩
set_option maxRecDepth 100000 in
theorem mo182 : MO mi182 := ⟨rfl, miCF_sp (by decide +kernel)⟩
set_option maxRecDepth 100000 in
theorem mo183 : MO mi183 := ⟨rfl, miCF_sp (by decide +kernel)⟩
set_option maxRecDepth 100000 in
theorem mo184 : MO mi184 := ⟨rfl, miCF_sp (by decide +kernel)⟩
set_option maxRecDepth 100000 in
theorem mo185 : MO mi185 := ⟨rfl, miCF_sp (by decide +kernel)⟩
set_option maxRecDepth 100000 in
theorem mo186 : MO mi186 := ⟨rfl, miCF_sp (by decide +kernel)⟩
set_option maxRecDepth 100000 in
theorem mo187 : MO mi187 := ⟨rfl, miCF_sp (by decide +kernel)⟩
set_option maxRecDepth 100000 in
theorem mo188 : MO mi188 := ⟨rfl, miCF_sp (by decide +kernel)⟩
set_option maxRecDepth 100000 in
theorem mo189 : MO mi189 := ⟨rfl, miCF_sp (by decide +kernel)⟩
set_option maxRecDepth 100000 in
theorem mo190 : MO mi190 := ⟨rfl, miCF_sp (by decide +kernel)⟩
set_option maxRecDepth 100000 in
theorem mo191 : MO mi191 := ⟨rfl, miCF_sp (by decide +kernel)⟩
set_option maxRecDepth 100000 in
theorem mo192 : MO mi192 := ⟨rfl, miCF_sp (by decide +kernel)⟩
set_option maxRecDepth 100000 in
theorem mo193 : MO mi193 := ⟨rfl, miCF_sp (by decide +kernel)⟩
set_option maxRecDepth 100000 in
theorem mo194 : MO mi194 := ⟨rfl, miCF_sp (by decide +kernel)⟩
set_option maxRecDepth 100000 in
theorem mo195 : MO mi195 := ⟨rfl, miCF_sp (by decide +kernel)⟩
set_option maxRecDepth 100000 in
theorem mo196 : MO mi196 := ⟨rfl, miCF_sp (by decide +kernel)⟩
set_option maxRecDepth 100000 in
theorem mo197 : MO mi197 := ⟨rfl, miCF_sp (by decide +kernel)⟩
set_option maxRecDepth 100000 in
theorem mo198 : MO mi198 := ⟨rfl, miCF_sp (by decide +kernel)⟩
set_option maxRecDepth 100000 in
theorem mo199 : MO mi199 := ⟨rfl, miCF_sp (by decide +kernel)⟩
set_option maxRecDepth 100000 in
theorem mo200 : MO mi200 := ⟨rfl, miCF_sp (by decide +kernel)⟩
set_option maxRecDepth 100000 in
theorem mo201 : MO mi201 := ⟨rfl, miCF_sp (by decide +kernel)⟩
set_option maxRecDepth 100000 in
theorem mo202 : MO mi202 := ⟨rfl, miCF_sp (by decide +kernel)⟩
set_option maxRecDepth 100000 in
theorem mo203 : MO mi203 := ⟨rfl, miCF_sp (by decide +kernel)⟩
set_option maxRecDepth 100000 in
theorem mo204 : MO mi204 := ⟨rfl, miCF_sp (by decide +kernel)⟩
set_option maxRecDepth 100000 in
theorem mo205 : MO mi205 := ⟨rfl, miCF_sp (by decide +kernel)⟩
set_option maxRecDepth 100000 in
theorem mo206 : MO mi206 := ⟨rfl, miCF_sp (by decide +kernel)⟩
set_option maxRecDepth 100000 in
theorem mo207 : MO mi207 := ⟨rfl, miCF_sp (by decide +kernel)⟩
set_option maxRecDepth 100000 in
theorem mo208 : MO mi208 := ⟨rfl, miCF_sp (by decide +kernel)⟩
set_option maxRecDepth 100000 in
theorem mo209 : MO mi209 := ⟨rfl, miCF_sp (by decide +kernel)⟩
set_option maxRecDepth 100000 in
theorem mo210 : MO mi210 := ⟨rfl, miCF_sp (by decide +kernel)⟩
set_option maxRecDepth 100000 in
theorem mo211 : MO mi211 := ⟨rfl, miCF_sp (by decide +kernel)⟩
set_option maxRecDepth 100000 in
theorem mo212 : MO mi212 := ⟨rfl, miCF_sp (by decide +kernel)⟩
set_option maxRecDepth 100000 in
theorem mo213 : MO mi213 := ⟨rfl, miCF_sp (by decide +kernel)⟩
set_option maxRecDepth 100000 in
theorem mo214 : MO mi214 := ⟨rfl, miCF_sp (by decide +kernel)⟩
set_option maxRecDepth 100000 in
theorem mo215 : MO mi215 := ⟨rfl, miCF_sp (by decide +kernel)⟩
set_option maxRecDepth 100000 in
theorem mo216 : MO mi216 := ⟨rfl, miCF_sp (by decide +kernel)⟩
set_option maxRecDepth 100000 in
theorem mo217 : MO mi217 := ⟨rfl, miCF_sp (by decide +kernel)⟩
set_option maxRecDepth 100000 in
theorem mo218 : MO mi218 := ⟨rfl, miCF_sp (by decide +kernel)⟩
set_option maxRecDepth 100000 in
theorem mo219 : MO mi219 := ⟨rfl, miCF_sp (by decide +kernel)⟩
set_option maxRecDepth 100000 in
theorem mo220 : MO mi220 := ⟨rfl, miCF_sp (by decide +kernel)⟩
set_option maxRecDepth 100000 in
theorem mo221 : MO mi221 := ⟨rfl, miCF_sp (by decide +kernel)⟩
set_option maxRecDepth 100000 in
theorem mo222 : MO mi222 := ⟨rfl, miCF_sp (by decide +kernel)⟩
set_option maxRecDepth 100000 in
theorem mo223 : MO mi223 := ⟨rfl, miCF_sp (by decide +kernel)⟩
set_option maxRecDepth 100000 in
theorem mo224 : MO mi224 := ⟨rfl, miCF_sp (by decide +kernel)⟩
set_option maxRecDepth 100000 in
theorem mo225 : MO mi225 := ⟨rfl, miCF_sp (by decide +kernel)⟩
set_option maxRecDepth 100000 in
theorem mo226 : MO mi226 := ⟨rfl, miCF_sp (by decide +kernel)⟩
set_option maxRecDepth 100000 in
theorem mo227 : MO mi227 := ⟨rfl, miCF_sp (by decide +kernel)⟩
set_option maxRecDepth 100000 in
theorem mo228 : MO mi228 := ⟨rfl, miCF_sp (by decide +kernel)⟩
set_option maxRecDepth 100000 in
theorem mo229 : MO mi229 := ⟨rfl, miCF_sp (by decide +kernel)⟩
set_option maxRecDepth 100000 in
theorem mo230 : MO mi230 := ⟨rfl, miCF_sp (by decide +kernel)⟩
set_option maxRecDepth 100000 in
theorem mo231 : MO mi231 := ⟨rfl, miCF_sp (by decide +kernel)⟩
set_option maxRecDepth 100000 in
theorem mo232 : MO mi232 := ⟨rfl, miCF_sp (by decide +kernel)⟩
set_option maxRecDepth 100000 in
theorem mo233 : MO mi233 := ⟨rfl, miCF_sp (by decide +kernel)⟩
set_option maxRecDepth 100000 in
theorem mo234 : MO mi234 := ⟨rfl, miCF_sp (by decide +kernel)⟩
set_option maxRecDepth 100000 in
theorem mo235 : MO mi235 := ⟨rfl, miCF_sp (by decide +kernel)⟩
set_option maxRecDepth 100000 in
theorem mo236 : MO mi236 := ⟨rfl, miCF_sp (by decide +kernel)⟩
set_option maxRecDepth 100000 in
theorem mo237 : MO mi237 := ⟨rfl, miCF_sp (by decide +kernel)⟩
set_option maxRecDepth 100000 in
theorem mo238 : MO mi238 := ⟨rfl, miCF_sp (by decide +kernel)⟩
set_option maxRecDepth 100000 in
theorem mo239 : MO mi239 := ⟨rfl, miCF_sp (by decide +kernel)⟩
set_option maxRecDepth 100000 in
theorem mo240 : MO mi240 := ⟨rfl, miCF_sp (by decide +kernel)⟩
set_option maxRecDepth 100000 in
theorem mo241 : MO mi241 := ⟨rfl, miCF_sp (by decide +kernel)⟩
set_option maxRecDepth 100000 in
theorem mo242 : MO mi242 := ⟨rfl, miCF_sp (by decide +kernel)⟩
set_option maxRecDepth 100000 in
theorem mo243 : MO mi243 := ⟨rfl, miCF_sp (by decide +kernel)⟩
set_option maxRecDepth 100000 in
theorem mo244 : MO mi244 := ⟨rfl, miCF_sp (by decide +kernel)⟩
set_option maxRecDepth 100000 in
theorem mo245 : MO mi245 := ⟨rfl, miCF_sp (by decide +kernel)⟩
set_option maxRecDepth 100000 in
theorem mo246 : MO mi246 := ⟨rfl, miCF_sp (by decide +kernel)⟩
set_option maxRecDepth 100000 in
theorem mo247 : MO mi247 := ⟨rfl, miCF_sp (by decide +kernel)⟩
set_option maxRecDepth 100000 in
theorem mo248 : MO mi248 := ⟨rfl, miCF_sp (by decide +kernel)⟩
set_option maxRecDepth 100000 in
theorem mo249 : MO mi249 := ⟨rfl, miCF_sp (by decide +kernel)⟩
set_option maxRecDepth 100000 in
theorem mo250 : MO mi250 := ⟨rfl, miCF_sp (by decide +kernel)⟩
set_option maxRecDepth 100000 in
theorem mo251 : MO mi251 := ⟨rfl, miCF_sp (by decide +kernel)⟩
set_option maxRecDepth 100000 in
theorem mo252 : MO mi252 := ⟨rfl, miCF_sp (by decide +kernel)⟩
set_option maxRecDepth 100000 in
theorem mo253 : MO mi253 := ⟨rfl, miCF_sp (by decide +kernel)⟩
set_option maxRecDepth 100000 in
theorem mo254 : MO mi254 := ⟨rfl, miCF_sp (by decide +kernel)⟩
set_option maxRecDepth 100000 in
theorem mo255 : MO mi255 := ⟨rfl, miCF_sp (by decide +kernel)⟩
set_option maxRecDepth 100000 in
theorem mo256 : MO mi256 := ⟨rfl, miCF_sp (by decide +kernel)⟩
set_option maxRecDepth 100000 in
theorem mo257 : MO mi257 := ⟨rfl, miCF_sp (by decide +kernel)⟩
set_option maxRecDepth 100000 in
theorem mo258 : MO mi258 := ⟨rfl, miCF_sp (by decide +kernel)⟩
set_option maxRecDepth 100000 in
theorem mo259 : MO mi259 := ⟨rfl, miCF_sp (by decide +kernel)⟩
set_option maxRecDepth 100000 in
theorem mo260 : MO mi260 := ⟨rfl, miCF_sp (by decide +kernel)⟩
set_option maxRecDepth 100000 in
theorem mo261 : MO mi261 := ⟨rfl, miCF_sp (by decide +kernel)⟩
set_option maxRecDepth 100000 in
theorem mo262 : MO mi262 := ⟨rfl, miCF_sp (by decide +kernel)⟩
set_option maxRecDepth 100000 in
theorem mo263 : MO mi263 := ⟨rfl, miCF_sp (by decide +kernel)⟩
set_option maxRecDepth 100000 in
theorem mo264 : MO mi264 := ⟨rfl, miCF_sp (by decide +kernel)⟩
set_option maxRecDepth 100000 in
theorem mo265 : MO mi265 := ⟨rfl, miCF_sp (by decide +kernel)⟩
theorem psM0_ok : ∀ m ∈ psM0, MO m := List.forall_mem_cons.mpr ⟨mo0, List.forall_mem_cons.mpr ⟨mo1, List.forall_mem_cons.mpr ⟨mo2, List.forall_mem_cons.mpr ⟨mo3, List.forall_mem_cons.mpr ⟨mo4, List.forall_mem_cons.mpr ⟨mo5, List.forall_mem_cons.mpr ⟨mo6, List.forall_mem_cons.mpr ⟨mo7, List.forall_mem_cons.mpr ⟨mo8, List.forall_mem_cons.mpr ⟨mo9, List.forall_mem_cons.mpr ⟨mo10, List.forall_mem_cons.mpr ⟨mo11, List.forall_mem_cons.mpr ⟨mo12, List.forall_mem_cons.mpr ⟨mo13, List.forall_mem_cons.mpr ⟨mo14, List.forall_mem_cons.mpr ⟨mo15, List.forall_mem_cons.mpr ⟨mo16, List.forall_mem_cons.mpr ⟨mo17, List.forall_mem_cons.mpr ⟨mo18, List.forall_mem_cons.mpr ⟨mo19, List.forall_mem_cons.mpr ⟨mo20, List.forall_mem_cons.mpr ⟨mo21, List.forall_mem_cons.mpr ⟨mo22, List.forall_mem_cons.mpr ⟨mo23, List.forall_mem_cons.mpr ⟨mo24, List.forall_mem_cons.mpr ⟨mo25, List.forall_mem_cons.mpr ⟨mo26, List.forall_mem_cons.mpr ⟨mo27, List.forall_mem_cons.mpr ⟨mo28, List.forall_mem_cons.mpr ⟨mo29, List.forall_mem_cons.mpr ⟨mo30, List.forall_mem_cons.mpr ⟨mo31, fun _ h => absurd h List.not_mem_nil⟩⟩⟩⟩⟩⟩⟩⟩⟩⟩⟩⟩⟩⟩⟩⟩⟩⟩⟩⟩⟩⟩⟩⟩⟩⟩⟩⟩⟩⟩⟩⟩
theorem psM1_ok : ∀ m ∈ psM1, MO m := List.forall_mem_cons.mpr ⟨mo32, List.forall_mem_cons.mpr ⟨mo33, List.forall_mem_cons.mpr ⟨mo34, List.forall_mem_cons.mpr ⟨mo35, List.forall_mem_cons.mpr ⟨mo36, List.forall_mem_cons.mpr ⟨mo37, List.forall_mem_cons.mpr ⟨mo38, List.forall_mem_cons.mpr ⟨mo39, List.forall_mem_cons.mpr ⟨mo40, List.forall_mem_cons.mpr ⟨mo41, List.forall_mem_cons.mpr ⟨mo42, List.forall_mem_cons.mpr ⟨mo43, List.forall_mem_cons.mpr ⟨mo44, List.forall_mem_cons.mpr ⟨mo45, List.forall_mem_cons.mpr ⟨mo46, List.forall_mem_cons.mpr ⟨mo47, List.forall_mem_cons.mpr ⟨mo48, List.forall_mem_cons.mpr ⟨mo49, List.forall_mem_cons.mpr ⟨mo50, List.forall_mem_cons.mpr ⟨mo51, List.forall_mem_cons.mpr ⟨mo52, List.forall_mem_cons.mpr ⟨mo53, List.forall_mem_cons.mpr ⟨mo54, List.forall_mem_cons.mpr ⟨mo55, List.forall_mem_cons.mpr ⟨mo56, List.forall_mem_cons.mpr ⟨mo57, List.forall_mem_cons.mpr ⟨mo58, List.forall_mem_cons.mpr ⟨mo59, List.forall_mem_cons.mpr ⟨mo60, List.forall_mem_cons.mpr ⟨mo61, List.forall_mem_cons.mpr ⟨mo62, List.forall_mem_cons.mpr ⟨mo63, fun _ h => absurd h List.not_mem_nil⟩⟩⟩⟩⟩⟩⟩⟩⟩⟩⟩⟩⟩⟩⟩⟩⟩⟩⟩⟩⟩⟩⟩⟩⟩⟩⟩⟩⟩⟩⟩⟩
theorem psM2_ok : ∀ m ∈ psM2, MO m := List.forall_mem_cons.mpr ⟨mo64, List.forall_mem_cons.mpr ⟨mo65, List.forall_mem_cons.mpr ⟨mo66, List.forall_mem_cons.mpr ⟨mo67, List.forall_mem_cons.mpr ⟨mo68, List.forall_mem_cons.mpr ⟨mo69, List.forall_mem_cons.mpr ⟨mo70, List.forall_mem_cons.mpr ⟨mo71, List.forall_mem_cons.mpr ⟨mo72, List.forall_mem_cons.mpr ⟨mo73, List.forall_mem_cons.mpr ⟨mo74, List.forall_mem_cons.mpr ⟨mo75, List.forall_mem_cons.mpr ⟨mo76, List.forall_mem_cons.mpr ⟨mo77, List.forall_mem_cons.mpr ⟨mo78, List.forall_mem_cons.mpr ⟨mo79, List.forall_mem_cons.mpr ⟨mo80, List.forall_mem_cons.mpr ⟨mo81, List.forall_mem_cons.mpr ⟨mo82, List.forall_mem_cons.mpr ⟨mo83, List.forall_mem_cons.mpr ⟨mo84, List.forall_mem_cons.mpr ⟨mo85, List.forall_mem_cons.mpr ⟨mo86, List.forall_mem_cons.mpr ⟨mo87, List.forall_mem_cons.mpr ⟨mo88, List.forall_mem_cons.mpr ⟨mo89, List.forall_mem_cons.mpr ⟨mo90, List.forall_mem_cons.mpr ⟨mo91, List.forall_mem_cons.mpr ⟨mo92, List.forall_mem_cons.mpr ⟨mo93, List.forall_mem_cons.mpr ⟨mo94, List.forall_mem_cons.mpr ⟨mo95, fun _ h => absurd h List.not_mem_nil⟩⟩⟩⟩⟩⟩⟩⟩⟩⟩⟩⟩⟩⟩⟩⟩⟩⟩⟩⟩⟩⟩⟩⟩⟩⟩⟩⟩⟩⟩⟩⟩
theorem psM3_ok : ∀ m ∈ psM3, MO m := List.forall_mem_cons.mpr ⟨mo96, List.forall_mem_cons.mpr ⟨mo97, List.forall_mem_cons.mpr ⟨mo98, List.forall_mem_cons.mpr ⟨mo99, List.forall_mem_cons.mpr ⟨mo100, List.forall_mem_cons.mpr ⟨mo101, List.forall_mem_cons.mpr ⟨mo102, List.forall_mem_cons.mpr ⟨mo103, List.forall_mem_cons.mpr ⟨mo104, List.forall_mem_cons.mpr ⟨mo105, List.forall_mem_cons.mpr ⟨mo106, List.forall_mem_cons.mpr ⟨mo107, List.forall_mem_cons.mpr ⟨mo108, List.forall_mem_cons.mpr ⟨mo109, List.forall_mem_cons.mpr ⟨mo110, List.forall_mem_cons.mpr ⟨mo111, List.forall_mem_cons.mpr ⟨mo112, List.forall_mem_cons.mpr ⟨mo113, List.forall_mem_cons.mpr ⟨mo114, List.forall_mem_cons.mpr ⟨mo115, List.forall_mem_cons.mpr ⟨mo116, List.forall_mem_cons.mpr ⟨mo117, List.forall_mem_cons.mpr ⟨mo118, List.forall_mem_cons.mpr ⟨mo119, List.forall_mem_cons.mpr ⟨mo120, List.forall_mem_cons.mpr ⟨mo121, List.forall_mem_cons.mpr ⟨mo122, List.forall_mem_cons.mpr ⟨mo123, List.forall_mem_cons.mpr ⟨mo124, List.forall_mem_cons.mpr ⟨mo125, List.forall_mem_cons.mpr ⟨mo126, List.forall_mem_cons.mpr ⟨mo127, fun _ h => absurd h List.not_mem_nil⟩⟩⟩⟩⟩⟩⟩⟩⟩⟩⟩⟩⟩⟩⟩⟩⟩⟩⟩⟩⟩⟩⟩⟩⟩⟩⟩⟩⟩⟩⟩⟩
theorem psM4_ok : ∀ m ∈ psM4, MO m := List.forall_mem_cons.mpr ⟨mo128, List.forall_mem_cons.mpr ⟨mo129, List.forall_mem_cons.mpr ⟨mo130, List.forall_mem_cons.mpr ⟨mo131, List.forall_mem_cons.mpr ⟨mo132, List.forall_mem_cons.mpr ⟨mo133, List.forall_mem_cons.mpr ⟨mo134, List.forall_mem_cons.mpr ⟨mo135, List.forall_mem_cons.mpr ⟨mo136, List.forall_mem_cons.mpr ⟨mo137, List.forall_mem_cons.mpr ⟨mo138, List.forall_mem_cons.mpr ⟨mo139, List.forall_mem_cons.mpr ⟨mo140, List.forall_mem_cons.mpr ⟨mo141, List.forall_mem_cons.mpr ⟨mo142, List.forall_mem_cons.mpr ⟨mo143, List.forall_mem_cons.mpr ⟨mo144, List.forall_mem_cons.mpr ⟨mo145, List.forall_mem_cons.mpr ⟨mo146, List.forall_mem_cons.mpr ⟨mo147, List.forall_mem_cons.mpr ⟨mo148, List.forall_mem_cons.mpr ⟨mo149, List.forall_mem_cons.mpr ⟨mo150, List.forall_mem_cons.mpr ⟨mo151, List.forall_mem_cons.mpr ⟨mo152, List.forall_mem_cons.mpr ⟨mo153, List.forall_mem_cons.mpr ⟨mo154, List.forall_mem_cons.mpr ⟨mo155, List.forall_mem_cons.mpr ⟨mo156, List.forall_mem_cons.mpr ⟨mo157, List.forall_mem_cons.mpr ⟨mo158, List.forall_mem_cons.mpr ⟨mo159, fun _ h => absurd h List.not_mem_nil⟩⟩⟩⟩⟩⟩⟩⟩⟩⟩⟩⟩⟩⟩⟩⟩⟩⟩⟩⟩⟩⟩⟩⟩⟩⟩⟩⟩⟩⟩⟩⟩
theorem psM5_ok : ∀ m ∈ psM5, MO m := List.forall_mem_cons.mpr ⟨mo160, List.forall_mem_cons.mpr ⟨mo161, List.forall_mem_cons.mpr ⟨mo162, List.forall_mem_cons.mpr ⟨mo163, List.forall_mem_cons.mpr ⟨mo164, List.forall_mem_cons.mpr ⟨mo165, List.forall_mem_cons.mpr ⟨mo166, List.forall_mem_cons.mpr ⟨mo167, List.forall_mem_cons.mpr ⟨mo168, List.forall_mem_cons.mpr ⟨mo169, List.forall_mem_cons.mpr ⟨mo170, List.forall_mem_cons.mpr ⟨mo171, List.forall_mem_cons.mpr ⟨mo172, List.forall_mem_cons.mpr ⟨mo173, List.forall_mem_cons.mpr ⟨mo174, List.forall_mem_cons.mpr ⟨mo175, List.forall_mem_cons.mpr ⟨mo176, List.forall_mem_cons.mpr ⟨mo177, List.forall_mem_cons.mpr ⟨mo178, List.forall_mem_cons.mpr ⟨mo179, List.forall_mem_cons.mpr ⟨mo180, List.forall_mem_cons.mpr ⟨mo181, List.forall_mem_cons.mpr ⟨mo182, List.forall_mem_cons.mpr ⟨mo183, List.forall_mem_cons.mpr ⟨mo184, List.forall_mem_cons.mpr ⟨mo185, List.forall_mem_cons.mpr ⟨mo186, List.forall_mem_cons.mpr ⟨mo187, List.forall_mem_cons.mpr ⟨mo188, List.forall_mem_cons.mpr ⟨mo189, List.forall_mem_cons.mpr ⟨mo190, List.forall_mem_cons.mpr ⟨mo191, fun _ h => absurd h List.not_mem_nil⟩⟩⟩⟩⟩⟩⟩⟩⟩⟩⟩⟩⟩⟩⟩⟩⟩⟩⟩⟩⟩⟩⟩⟩⟩⟩⟩⟩⟩⟩⟩⟩
theorem psM6_ok : ∀ m ∈ psM6, MO m := List.forall_mem_cons.mpr ⟨mo192, List.forall_mem_cons.mpr ⟨mo193, List.forall_mem_cons.mpr ⟨mo194, List.forall_mem_cons.mpr ⟨mo195, List.forall_mem_cons.mpr ⟨mo196, List.forall_mem_cons.mpr ⟨mo197, List.forall_mem_cons.mpr ⟨mo198, List.forall_mem_cons.mpr ⟨mo199, List.forall_mem_cons.mpr ⟨mo200, List.forall_mem_cons.mpr ⟨mo201, List.forall_mem_cons.mpr ⟨mo202, List.forall_mem_cons.mpr ⟨mo203, List.forall_mem_cons.mpr ⟨mo204, List.forall_mem_cons.mpr ⟨mo205, List.forall_mem_cons.mpr ⟨mo206, List.forall_mem_cons.mpr ⟨mo207, List.forall_mem_cons.mpr ⟨mo208, List.forall_mem_cons.mpr ⟨mo209, List.forall_mem_cons.mpr ⟨mo210, List.forall_mem_cons.mpr ⟨mo211, List.forall_mem_cons.mpr ⟨mo212, List.forall_mem_cons.mpr ⟨mo213, List.forall_mem_cons.mpr ⟨mo214, List.forall_mem_cons.mpr ⟨mo215, List.forall_mem_cons.mpr ⟨mo216, List.forall_mem_cons.mpr ⟨mo217, List.forall_mem_cons.mpr ⟨mo218, List.forall_mem_cons.mpr ⟨mo219, List.forall_mem_cons.mpr ⟨mo220, List.forall_mem_cons.mpr ⟨mo221, List.forall_mem_cons.mpr ⟨mo222, List.forall_mem_cons.mpr ⟨mo223, fun _ h => absurd h List.not_mem_nil⟩⟩⟩⟩⟩⟩⟩⟩⟩⟩⟩⟩⟩⟩⟩⟩⟩⟩⟩⟩⟩⟩⟩⟩⟩⟩⟩⟩⟩⟩⟩⟩
theorem psM7_ok : ∀ m ∈ psM7, MO m := List.forall_mem_cons.mpr ⟨mo224, List.forall_mem_cons.mpr ⟨mo225, List.forall_mem_cons.mpr ⟨mo226, List.forall_mem_cons.mpr ⟨mo227, List.forall_mem_cons.mpr ⟨mo228, List.forall_mem_cons.mpr ⟨mo229, List.forall_mem_cons.mpr ⟨mo230, List.forall_mem_cons.mpr ⟨mo231, List.forall_mem_cons.mpr ⟨mo232, List.forall_mem_cons.mpr ⟨mo233, List.forall_mem_cons.mpr ⟨mo234, List.forall_mem_cons.mpr ⟨mo235, List.forall_mem_cons.mpr ⟨mo236, List.forall_mem_cons.mpr ⟨mo237, List.forall_mem_cons.mpr ⟨mo238, List.forall_mem_cons.mpr ⟨mo239, List.forall_mem_cons.mpr ⟨mo240, List.forall_mem_cons.mpr ⟨mo241, List.forall_mem_cons.mpr ⟨mo242, List.forall_mem_cons.mpr ⟨mo243, List.forall_mem_cons.mpr ⟨mo244, List.forall_mem_cons.mpr ⟨mo245, List.forall_mem_cons.mpr ⟨mo246, List.forall_mem_cons.mpr ⟨mo247, List.forall_mem_cons.mpr ⟨mo248, List.forall_mem_cons.mpr ⟨mo249, List.forall_mem_cons.mpr ⟨mo250, List.forall_mem_cons.mpr ⟨mo251, List.forall_mem_cons.mpr ⟨mo252, List.forall_mem_cons.mpr ⟨mo253, List.forall_mem_cons.mpr ⟨mo254, List.forall_mem_cons.mpr ⟨mo255, fun _ h => absurd h List.not_mem_nil⟩⟩⟩⟩⟩⟩⟩⟩⟩⟩⟩⟩⟩⟩⟩⟩⟩⟩⟩⟩⟩⟩⟩⟩⟩⟩⟩⟩⟩⟩⟩⟩
theorem psM8_ok : ∀ m ∈ psM8, MO m := List.forall_mem_cons.mpr ⟨mo256, List.forall_mem_cons.mpr ⟨mo257, List.forall_mem_cons.mpr ⟨mo258, List.forall_mem_cons.mpr ⟨mo259, List.forall_mem_cons.mpr ⟨mo260, List.forall_mem_cons.mpr ⟨mo261, List.forall_mem_cons.mpr ⟨mo262, List.forall_mem_cons.mpr ⟨mo263, List.forall_mem_cons.mpr ⟨mo264, List.forall_mem_cons.mpr ⟨mo265, fun _ h => absurd h List.not_mem_nil⟩⟩⟩⟩⟩⟩⟩⟩⟩⟩
theorem psM_ok : ∀ m ∈ psM, MO m := by
  intro m h
  simp only [psM, List.mem_append] at h
  rcases h with h | h | h | h | h | h | h | h | h
  · exact psM0_ok m h
  · exact psM1_ok m h
  · exact psM2_ok m h
  · exact psM3_ok m h
  · exact psM4_ok m h
  · exact psM5_ok m h
  · exact psM6_ok m h
  · exact psM7_ok m h
  · exact psM8_ok m h
set_option maxRecDepth 100000 in
theorem vw_in : ∀ q ∈ vwCl, ∀ w ∈ u_ws q.1 q.2.1 q.2.2, w ∈ lw_tbl ∧ goodWord w = true := by decide +kernel
theorem vw_gT {ci : Nat} {C : String} {T : u_T} {N : Nat} (h : vwCl[ci]? = some (C, T, N)) : ∀ w ∈ u_ws C T N, w ∈ gT := fun w hw => List.mem_filter.mpr (vw_in _ (List.mem_of_getElem? h) w hw)
theorem lb0 : Jvm.Cond.static Lib.Math.max.name ∈ gT := hasW_in (q := lbq0) (by decide +kernel)
theorem lb1 : Jvm.Cond.static Lib.Math.min.name ∈ gT := hasW_in (q := lbq1) (by decide +kernel)
theorem lb2 : Jvm.Cond.initialized "java/lang/Math" ∈ gT := hasW_in (q := lbq2) (by decide +kernel)
theorem lb3 : Jvm.Cond.native arraycopyName ∈ gT := hasW_in (q := lbq3) (by decide +kernel)
theorem lb4 : Jvm.Cond.static arraycopyName ∈ gT := hasW_in (q := lbq4) (by decide +kernel)
theorem lb5 : Jvm.Cond.initialized "java/lang/System" ∈ gT := hasW_in (q := lbq5) (by decide +kernel)
theorem lb6 : Jvm.Cond.code Lib.Math.max.name Lib.Math.max.code 2 (some .int) ∈ gT := hasW_in (q := lbq6) (by decide +kernel)
theorem lb7 : Jvm.Cond.code Lib.Math.min.name Lib.Math.min.code 2 (some .int) ∈ gT := hasW_in (q := lbq7) (by decide +kernel)
