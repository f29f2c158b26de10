/-! The walk of a method over what is known: steps, calls (into the callee, or by what is known of it), loops by what stays so. -/
noncomputable abbrev Src : Type := Nat × Nat × Nat × LE
noncomputable abbrev Gen : Type := Src × Int × Int
/-- of a loop: what varies; what holds of it; cells that go along; locals that are let go; what is written; the measure, and whether it goes up -/
noncomputable abbrev An : Type := List Gen × (List LE × List Src × List (Src × Src)) × List Kc × List Nat × List Wr × Nat × Bool
/-- a loop that is open: its head, the symbols ahead of it, what varies, what holds at its head, the facts of what varies, the facts ahead of it, the measure -/
noncomputable abbrev Al : Type := Nat × Nat × List Gen × Cc × List LE × Db × Nat × Bool
noncomputable abbrev Bd : Type := Cd × Option FieldType × List (Nat × An)
/-- a caller that waits: its body, where it goes on, its locals, what stays on its stack, its open loops -/
noncomputable abbrev Fm : Type := Bd × Nat × List (Option AV) × List AV × List Al
noncomputable def leSbT (f : Nat → LE) : List (Nat × Int) → LE
  | [] => leC 0
  | (k, a) :: r => leA (leSc a (f k)) (leSbT f r)
noncomputable def leSb (f : Nat → LE) (e : LE) : LE := leK (leSbT f e.2) e.1
theorem leSb_V (ρ : Nat → Int) (f : Nat → LE) (e : LE) : leV ρ (leSb f e) = leV (fun k => leV ρ (f k)) e := by
  have : ∀ l, leV ρ (leSbT f l) = leT (fun k => leV ρ (f k)) l := by
    intro l
    induction l with
    | nil => exact leV_C ρ 0
    | cons p r ih =>
      obtain ⟨k, a⟩ := p
      show leV ρ (leA (leSc a (f k)) (leSbT f r)) = a * leV ρ (f k) + leT _ r
      rw [leV_add, leV_sc, ih]
  unfold leSb
  rw [leV_K, this]
  show _ = e.1 + leT _ e.2
  omega
theorem leSb_S {n : Nat} {f : Nat → LE} {e : LE} (h : ∀ k, leS n (f k)) : leS n (leSb f e) := by
  have : ∀ l, leS n (leSbT f l) := by
    intro l
    induction l with
    | nil => exact leS_C
    | cons p r ih => exact leS_add (leS_sc (h _)) ih
  exact leS_K (this _)
noncomputable def gtL : List LE → Nat → LE
  | [], _ => leC 0
  | e :: _, 0 => e
  | _ :: r, k + 1 => gtL r k
/-- symbols below n stay, those behind are the list's -/
noncomputable def fLL (n : Nat) (σ : List LE) (k : Nat) : LE := if Nat.blt k n = true then leX k else gtL σ (k - n)
theorem gtL_S {n : Nat} : ∀ {σ : List LE}, (∀ e ∈ σ, leS n e) → ∀ k, leS n (gtL σ k)
  | [], _, _ => leS_C
  | e :: _, h, 0 => h e List.mem_cons_self
  | _ :: r, h, k + 1 => gtL_S (fun q hq => h q (List.mem_cons_of_mem _ hq)) k
theorem fLL_S {n m : Nat} {σ : List LE} (h : ∀ e ∈ σ, leS m e) (hn : n ≤ m) (k : Nat) : leS m (fLL n σ k) := by
  unfold fLL
  split
  · rename_i q; exact leS_X (Nat.lt_of_lt_of_le (bltT q) hn)
  · exact gtL_S h _
theorem fLL_lo {n k : Nat} {σ : List LE} (h : k < n) : fLL n σ k = leX k := by unfold fLL; exact if_pos (Nat.ble_eq_true_of_le h)
theorem fLL_hi {n k : Nat} {σ : List LE} : fLL n σ (n + k) = gtL σ k := by
  unfold fLL
  rw [if_neg (fun q => by have := bltT q; omega), Nat.add_sub_cancel_left]
noncomputable def srcV (S : Sx) (ls : List (Option AV)) (s : Src) : Option LE := match s with
  | (0, k, _, _) => (match ls[k]? with
    | some (some (0, e)) => some e
    | _ => none)
  | (1, k, o, i) => kcF S.2.2 k o i
  | (3, _, _, e) => if e.2.isEmpty = true then some e else none
  | _ => none
noncomputable def srcL (S : Sx) (ls : List (Option AV)) : List Gen → Option (List LE)
  | [] => some []
  | g :: r => match srcV S ls g.1, srcL S ls r with
    | some e, some l => some (e :: l)
    | _, _ => none
noncomputable def scB (n : Nat) (e : LE) : Bool := e.2.all fun p => Nat.blt p.1 n
theorem scB_S {n : Nat} {e : LE} (h : scB n e = true) : leS n e := by
  rw [scB, List.all_eq_true] at h
  exact fun p hp => bltT (h p hp)
/-- a cell that a list speaks of is read, or seen to be so -/
noncomputable def tch1 (rg : List Rg) (S : Sx) (g : Gen) : Sx := match g.1 with
  | (1, 0, o, i) => if (i.2.isEmpty || ubFl && scB S.1 i) = true ∧ inR32 S.2.1 i = true then (rdI rg S o i).1 else S
  | (1, 4, o, _) => (match kcF S.2.2 4 o (leC 0), kcF S.2.2 0 65 (leC 24) with
    | none, some e => if leEq e (leC 0) = true then (S.1, S.2.1, (4, o, leC 0, leC 0) :: S.2.2) else S
    | _, _ => S)
  | (1, 6, o, _) => (match kcF S.2.2 6 o (leC 0), kcF S.2.2 0 65 (leC 25) with
    | none, some e => if (en S.2.1 (leK e (-604)) && (en S.2.1 (leK (leSc (-1) e) 2804) || leEq e (leC 3200))) = true then (S.1, S.2.1, (6, o, leC 0, leC 0) :: S.2.2) else S
    | _, _ => S)
  | (1, 7, o, _) => (match kcF S.2.2 7 o (leC 0) with
    | none => (S.1 + 1, ((S.1, 0, 30) :: S.2.1.1, S.2.1.2), (7, o, leC 0, leX S.1) :: S.2.2)
    | some e => match adG S.2.1 (if (cvF && S.2.2.any (fun c => Nat.beq c.1 8 && (Nat.beq c.2.1 o && en S.2.1 c.2.2.1))) = true then leK e (-1) else e) with
      | some D => (S.1, D, S.2.2)
      | none => S)
  | (1, 9, o, i) => if (cvF && (Nat.ble 2000 o && (leEq i (leC 0) && (kcF S.2.2 9 o (leC 0)).isNone))) = true then (match rlD o with
    | some d => (S.1, S.2.1, (9, o, leC 0, leC d.2.2.2.1) :: S.2.2)
    | none => S) else S
  | (1, 8, o, i) => if (scB S.1 i && (kcF S.2.2 8 o i).isNone) = true then (if en S.2.1 (leK (leSc (-1) i) (-1)) = true then (S.1, S.2.1, (8, o, i, leC 0) :: S.2.2) else (match kcF S.2.2 0 66 (leK (leSc 9 i) 306), kcF S.2.2 0 75 i with
    | some d, some b => if (en S.2.1 i && en S.2.1 (leK (leSc (-1) i) 29) && en S.2.1 (leK (leSc (-1) d) (-1)) && en S.2.1 b && en S.2.1 (leSc (-1) b)) = true then (S.1, S.2.1, (8, o, i, leC 0) :: S.2.2) else S
    | _, _ => S)) else S
  | _ => S
noncomputable def tch (rg : List Rg) (S : Sx) : List Gen → Sx
  | [] => S
  | g :: r => tch rg (tch1 rg S g) r
/-- open orders that a list speaks of -/
noncomputable def tch8 (rg : List Rg) (S : Sx) (f : Nat → LE) (kc : List Kc) : Sx := tch rg S ((kc.filter fun c => Nat.beq c.1 8 || cvF && Nat.beq c.1 7).map fun c => ((1, c.1, c.2.1, leSb f c.2.2.1), 0, 0))
noncomputable def eqv (D : Db) (a b : LE) : Bool := leEq a b || en2 D (leSub a b) && en2 D (leSub b a)
theorem eqv_sp {ρ : Nat → Int} {n : Nat} {D : Db} (F : Fa ρ n D) {a b : LE} (h : eqv D a b = true) : leV ρ a = leV ρ b := by
  simp only [eqv, Bool.or_eq_true, Bool.and_eq_true] at h
  rcases h with h | ⟨h1, h2⟩
  · rw [leEq_eq h]
  · have h1 := en2_sp F h1
    have h2 := en2_sp F h2
    rw [leV_sub] at h1 h2
    omega
noncomputable def okB (D : Db) : List Gen → List LE → Bool
  | [], [] => true
  | g :: r, e :: l => en2 D (leK e (-g.2.1)) && en2 D (leK (leSc (-1) e) g.2.2) && okB D r l
  | _, _ => false
noncomputable def okF (D : Db) (f : Nat → LE) (fs : List LE) : Bool := fs.all fun e => en2 D (leSb f e)
noncomputable def okK (S : Sx) (f : Nat → LE) (kc : List Kc) : Bool := kc.all fun c => match kcF S.2.2 c.1 c.2.1 (leSb f c.2.2.1) with
  | some e => if (Nat.beq c.1 11 || (Nat.beq c.1 12 || Nat.beq c.1 14)) = true then en2 S.2.1 (leSub (leSb f c.2.2.2) e) else eqv S.2.1 e (leSb f c.2.2.2)
  | none => false
noncomputable def okV (D : Db) (f : Nat → LE) (p a : AV) : Bool := Nat.beq p.1 a.1 && (if Nat.beq p.1 2 = true then leEq p.2 a.2 else eqv D a.2 (leSb f p.2))
noncomputable def okLs (D : Db) (f : Nat → LE) : List (Option AV) → List (Option AV) → Bool
  | [], [] => true
  | none :: r, a :: l => notL (some a) && okLs D f r l
  | some p :: r, some a :: l => okV D f p a && okLs D f r l
  | _, _ => false
noncomputable def scV (n : Nat) (a : Option AV) : Bool := match a with
  | some a => scB n a.2
  | none => true
noncomputable def gbL : List Gen → Nat → List (Nat × Int × Int)
  | [], _ => []
  | g :: r, k => (k, g.2.1, g.2.2) :: gbL r (k + 1)
noncomputable def chkP (al : Al) (σ : List LE) (S : Sx) (ls : List (Option AV)) : Bool := let f := fLL al.2.1 σ; okB S.2.1 al.2.2.1 σ && okF S.2.1 f al.2.2.2.2.1 && okK S f al.2.2.2.1.1.2.2 && okLs S.2.1 f al.2.2.2.1.2.2.1 ls
/-- the shape of a loop's head -/
noncomputable def alW (al : Al) : Bool := let n := al.2.1 + al.2.2.1.length; let P := al.2.2.2.1; Nat.beq P.1.1 n && al.2.2.2.2.1.all (scB n) && P.1.2.2.all (fun c => scB n c.2.2.1 && scB n c.2.2.2) && P.2.2.1.all (scV n) && Nat.beq P.2.1 al.1 && P.2.2.2.isEmpty && Nat.blt al.2.2.2.2.2.2.1 al.2.2.1.length
noncomputable def setG (n : Nat) : List Gen → List (Option AV) → List (Option AV)
  | [], ls => ls
  | ((0, k, o, _), _) :: r, ls => setG (n + 1) r (if Nat.beq o 0 = true then ls.set k (some (0, leX n)) else (ls.set k (some (0, leX n))).set (o - 1) (some (0, leX n)))
  | _ :: r, ls => setG (n + 1) r ls
noncomputable def celG (n : Nat) : List Gen → List Kc
  | [] => []
  | ((1, k, o, i), _) :: r => (k, o, i, leX n) :: celG (n + 1) r
  | _ :: r => celG (n + 1) r
noncomputable def leSh (n : Nat) (e : LE) : LE := (e.1, e.2.map fun p => (p.1 + n, p.2))
/-- a pattern's symbol: below 1000 what varies, then a symbol by its number, from 2000 on what a list holds -/
noncomputable def insF (n : Nat) (rs : List LE) (k : Nat) : LE := if Nat.blt k 1000 = true then leX (n + k) else if Nat.blt k 2000 = true then leX (k - 1000) else gtL rs (k - 2000)
noncomputable def drp : List Nat → List (Option AV) → List (Option AV)
  | [], ls => ls
  | k :: r, ls => drp r (ls.set k none)
/-- the head of a loop, out of what is known when it is reached first -/
noncomputable def mkP (an : An) (S : Sx) (pc : Nat) (ls : List (Option AV)) (σ : List LE) : Option Al := let gs := an.1; let n := S.1; let gf := an.2.1.1.map (leSb (insF n (an.2.1.2.1.map fun q => (srcV S ls q).getD (leC 0)))); let ex := an.2.2.1.map (fun c => match kcF S.2.2 c.1 c.2.1 (leSb (fLL 0 σ) c.2.2.1) with
    | some e0 => some (c.1, c.2.1, leSh n c.2.2.1, leSub (leA e0 (leSh n c.2.2.2)) (leSb (fLL 0 σ) c.2.2.2))
    | none => none)
  if ex.all (fun o => o.isSome) = true then some (pc, n, gs, ((n + gs.length, (gbL gs n ++ S.2.1.1, gf ++ S.2.1.2), celG n gs ++ ex.filterMap id ++ kpL S.2.1 an.2.2.2.2.1 S.2.2), pc, drp an.2.2.2.1 (setG n gs ls), []), gf, S.2.1, an.2.2.2.2.2.1, an.2.2.2.2.2.2) else none
/-- the measure has gone on -/
noncomputable def msr (al : Al) (σ : List LE) (D : Db) : Bool := let x := leX (al.2.1 + al.2.2.2.2.2.2.1); let e := gtL σ al.2.2.2.2.2.2.1; if al.2.2.2.2.2.2.2 = true then en2 D (leK (leSub e x) (-1)) else en2 D (leK (leSub x e) (-1))
noncomputable def anF : List (Nat × An) → Nat → Option An
  | [], _ => none
  | (k, a) :: r, pc => if Nat.beq k pc = true then some a else anF r pc
noncomputable def alF : List Al → Nat → Option Al
  | [], _ => none
  | a :: r, pc => if Nat.beq a.1 pc = true then some a else alF r pc
/-- a head that is passed by: what must not be the same is -/
noncomputable def skp (S : Sx) (ls : List (Option AV)) (l : List (Nat × An)) (pc : Nat) : Bool := match anF l pc with
  | some an => an.2.1.2.2.any fun q => match srcV S ls q.1, srcV S ls q.2 with
    | some a, some b => leEq (nrm S.2.1 a) b
    | _, _ => false
  | none => false
/-- of an end of a method: what is new, with its bounds; the answer; cells; facts -/
noncomputable abbrev Ou : Type := List Gen × Option LE × List Kc × List LE
/-- what is known of a method: number, depth, arguments (0 an int, 1 a long between bounds, 2 an object), cells that it is told, facts, what it may write, its ends -/
noncomputable abbrev Sm : Type := Nat × Nat × List (Nat × Int × Int) × List Gen × List LE × List Wr × List Ou
noncomputable def smG (s : Sm) : Nat := (s.2.2.1.filter (fun q => !(Nat.beq q.1 2))).length + s.2.2.2.1.length
/-- the arguments' forms, those of the objects left out -/
noncomputable def smA (D : Db) : List (Nat × Int × Int) → List AV → Option (List LE)
  | [], [] => some []
  | (t, l, u) :: r, (t', e) :: as => if Nat.beq t t' = true then (if Nat.beq t 2 = true then (if leEq e (leC l) = true then smA D r as else none) else if (Nat.ble t 1 && en D (leK e (-l)) && en D (leK (leSc (-1) e) u)) = true then (match smA D r as with
    | some l => some (e :: l)
    | none => none) else none) else none
  | _, _ => none
noncomputable def subW (vs ws : List Wr) : Bool := vs.all fun v => ws.any fun w => Nat.beq v.1 w.1 && Nat.beq v.2.1 w.2.1 && ile w.2.2.1 v.2.2.1 && ile v.2.2.2 w.2.2.2
noncomputable def frX (n : Nat) : List Gen → List LE
  | [] => []
  | _ :: r => leX n :: frX (n + 1) r
/-- behind a call of a known method, at one of its ends -/
noncomputable def smO (S : Sx) (σ : List LE) (vs : List Wr) (o : Ou) : Sx × Option LE := let f := fLL 0 (σ ++ frX S.1 o.1); ((S.1 + o.1.length, (gbL o.1 S.1 ++ S.2.1.1, o.2.2.2.map (leSb f) ++ S.2.1.2), o.2.2.1.map (fun c => (c.1, c.2.1, leSb f c.2.2.1, leSb f c.2.2.2)) ++ kpL S.2.1 vs S.2.2), o.2.1.map (leSb f))
/-- what is known, drawn together by facts that it holds already; none where they can't be -/
noncomputable def tgF (D : Db) : List LE → Option Db
  | [] => some D
  | e :: r => if en D (leK (leSc (-1) e) (-1)) = true then none else tgF (tgT D.1 e e.2, D.2) r
theorem tgF_sp {ρ : Nat → Int} {n : Nat} : ∀ {l : List LE} {D : Db}, Fa ρ n D → (∀ e ∈ l, 0 ≤ leV ρ e) → ∃ D', tgF D l = some D' ∧ Fa ρ n D'
  | [], D, F, _ => ⟨D, rfl, F⟩
  | e :: r, D, F, h => by
    have he := h e List.mem_cons_self
    unfold tgF
    split
    · rename_i q
      have := en_sp F q
      rw [leV_K, leV_sc] at this
      omega
    · exact tgF_sp ⟨tgT_sp F he e.2, F.2⟩ (fun f hf => h f (List.mem_cons_of_mem _ hf))
/-- the forms of a known method are of its own symbols -/
noncomputable def smI (s : Sm) : Nat := (s.2.2.1.filter (fun q => !(Nat.beq q.1 2))).length
noncomputable def smW (s : Sm) : Bool := s.2.2.2.1.all (fun g => scB (smI s) g.1.2.2.2) && s.2.2.2.2.2.2.all (fun o => let n := smG s + o.1.length; (match o.2.1 with
  | some e => scB n e
  | none => true) && o.2.2.1.all (fun c => scB n c.2.2.1 && scB n c.2.2.2) && o.2.2.2.all (scB n))
/-- the symbols of a known method: its own; from 500 on the walked method's -/
noncomputable def fLQ (σ : List LE) (k : Nat) : LE := if Nat.ble 500 k = true then leX (k - 500) else gtL σ k
/-- the cells that a method is told may lie where its arguments say -/
noncomputable def gsb (l : List LE) (gs : List Gen) : List Gen := gs.map fun g => ((g.1.1, g.1.2.1, g.1.2.2.1, leSb (fLL 0 l) g.1.2.2.2), g.2)
noncomputable def smF (rg : List Rg) (ws : List Wr) (dp : Nat) (S : Sx) (mid : Nat) (as : List AV) : List Sm → Option (Sx × List LE × Sm)
  | [] => none
  | s :: r => if Nat.beq s.1 mid = true then (match smA S.2.1 s.2.2.1 as with
    | some l1 => (let gs := gsb l1 s.2.2.2.1; let S1 := tch rg S gs; match srcL S1 [] gs with
    | some l2 => if (Nat.ble s.2.1 dp && Nat.ble (smG s) 500 && smW s && okB S1.2.1 s.2.2.2.1 l2 && okF S1.2.1 (fLQ (l1 ++ l2)) s.2.2.2.2.1 && subW s.2.2.2.2.2.1 ws) = true then some (S1, l1 ++ l2, s) else smF rg ws dp S mid as r
    | none => smF rg ws dp S mid as r)
    | none => smF rg ws dp S mid as r) else smF rg ws dp S mid as r
noncomputable def eLa : List AV → List (Option AV)
  | [] => []
  | a :: r => if Nat.beq a.1 1 = true then some a :: none :: eLa r else some a :: eLa r
noncomputable def eLnA (n : Nat) (as : List AV) : List (Option AV) := eLa as ++ List.replicate (n - (eLa as).length) none
noncomputable def rcA (k o : Nat) (as : List AV) : Bool := if k = 0 then true else match as with
  | (2, (.ofNat r, _)) :: _ => isCl r o
  | _ => false
noncomputable def anT : List (Nat × List (Nat × An)) → Nat → List (Nat × An)
  | [], _ => []
  | (k, a) :: r, m => if Nat.beq k m = true then a else anT r m
/-- String's own -/
noncomputable def lbA (S : Sx) (mid : Nat) (as : List AV) : Option (Sx × LE) := match as with
  | [(2, (.ofNat r, _))] => if (Nat.beq mid 900 && Nat.ble 1000 r) = true then (match stT'[r - 1000]? with
    | some l => if Nat.blt l.length 4000 = true then some (S, leC l.length) else none
    | none => none) else none
  | [(2, (.ofNat r, _)), (0, e)] => if Nat.ble 1000 r = true then (match stT'[r - 1000]? with
    | some l => if (Nat.beq mid 901 && bdI S.2.1 e l.length && l.all (fun c => Nat.blt c 256)) = true then some (topI S 0 255) else if (Nat.beq mid 902 && en S.2.1 e && en S.2.1 (leK (leSc (-1) e) 65535) && Nat.blt l.length 4000) = true then some (topI S (-1) l.length) else none
    | none => none) else none
  | _ => none
/-- an end: the answer on the stack -/
noncomputable def rtA (rt : Option FieldType) (i : Instr) (D : Db) (st : List AV) : Option (Option AV) := match i, st with
  | .ireturn, [(0, e)] => (match rt with
    | some .int => some (some (0, e))
    | some .boolean => if (en D e && en D (leK (leSc (-1) e) 1)) = true then some (some (0, e)) else none
    | _ => none)
  | .lreturn, [(1, e)] => (match rt with
    | some .long => some (some (1, e))
    | _ => none)
  | .areturn, [(2, e)] => if rt = some (.object "java/lang/String") then some (some (2, e)) else none
  | .return_, [] => (match rt with
    | none => some none
    | _ => none)
  | _, _ => none
/-- a call: whose, with how many arguments -/
noncomputable def calI (i : Instr) (a b : Nat) : Option (Nat × Nat) := match i with
  | .invokevirtual _ => some (a, b + 1)
  | .invokestatic _ => if a < 1000 then some (a, b) else none
  | _ => none
/-- the walk may be stopped at places of the walked method itself: what is asked there is said by sto -/
noncomputable def stF (sto : Sx → Nat → List (Option AV) → List AV → Option Bool) (skip : Bool) (fs : List Fm) (S : Sx) (pc : Nat) (ls : List (Option AV)) (st : List AV) : Option Bool := match skip, fs with
  | false, [] => sto S pc ls st
  | _, _ => none
noncomputable abbrev noS : Sx → Nat → List (Option AV) → List AV → Option Bool := fun _ _ _ _ => none
noncomputable def kRet (i : Instr) : Bool := Instr.rec (motive := fun _ => Bool)
  (false)
  (false)
  (false)
  (fun _ => false)
  (fun _ => false)
  (fun _ => false)
  (true)
  (false)
  (fun _ => false)
  (fun _ => false)
  (false)
  (false)
  (false)
  (fun _ => false)
  (false)
  (false)
  (fun _ => false)
  (false)
  (false)
  (false)
  (false)
  (false)
  (false)
  (fun _ => false)
  (fun _ => false)
  (false)
  (fun _ => false)
  (fun _ => false)
  (false)
  (false)
  (false)
  (false)
  (fun _ => false)
  (fun _ => false)
  (false)
  (false)
  (false)
  (false)
  (false)
  (false)
  (false)
  (false)
  (false)
  (false)
  (false)
  (false)
  (false)
  (fun _ => false)
  (fun _ => false)
  (false)
  (fun _ => false)
  (fun _ => false)
  (false)
  (false)
  (false)
  (false)
  (fun _ => false)
  (fun _ => false)
  (false)
  (fun _ => false)
  (fun _ => false)
  (fun _ => false)
  (fun _ => false)
  (false)
  (false)
  (false)
  (false)
  (false)
  (false)
  (false)
  (false)
  (false)
  (false)
  (fun _ => false)
  (false)
  (fun _ _ => false)
  (fun _ _ => false)
  (fun _ _ => false)
  (fun _ => false)
  (fun _ => false)
  (fun _ _ => false)
  (fun _ => false)
  (fun _ => false)
  (false)
  (false)
  (fun _ => false)
  (fun _ => false)
  (fun _ _ => false)
  (fun _ => false)
  (fun _ => false)
  (fun _ => false)
  (false)
  (false)
  (true)
  (false)
  (false)
  (fun _ => false)
  (fun _ => false)
  (false)
  (false)
  (false)
  (fun _ => false)
  (fun _ => false)
  (false)
  (false)
  (false)
  (false)
  (false)
  (false)
  (false)
  (false)
  (fun _ => false)
  (fun _ => false)
  (fun _ => false)
  (fun _ => false)
  (false)
  (fun _ => false)
  (fun _ => false)
  (false)
  (false)
  (fun _ _ => false)
  (false)
  (false)
  (true)
  (false)
  (false)
  (fun _ => false)
  (fun _ => false)
  (false)
  (false)
  (false)
  (false)
  (false)
  (fun _ _ => false)
  (fun _ => false)
  (fun _ => false)
  (false)
  (false)
  (false)
  (fun _ => false)
  (fun _ => false)
  (fun _ => false)
  (true)
  (false)
  (false)
  (fun _ => false)
  (false)
  (fun _ _ _ _ => false)
  i
noncomputable def kCal (i : Instr) : Bool := Instr.rec (motive := fun _ => Bool)
  (false)
  (false)
  (false)
  (fun _ => false)
  (fun _ => false)
  (fun _ => false)
  (false)
  (false)
  (fun _ => false)
  (fun _ => false)
  (false)
  (false)
  (false)
  (fun _ => false)
  (false)
  (false)
  (fun _ => false)
  (false)
  (false)
  (false)
  (false)
  (false)
  (false)
  (fun _ => false)
  (fun _ => false)
  (false)
  (fun _ => false)
  (fun _ => false)
  (false)
  (false)
  (false)
  (false)
  (fun _ => false)
  (fun _ => false)
  (false)
  (false)
  (false)
  (false)
  (false)
  (false)
  (false)
  (false)
  (false)
  (false)
  (false)
  (false)
  (false)
  (fun _ => false)
  (fun _ => false)
  (false)
  (fun _ => false)
  (fun _ => false)
  (false)
  (false)
  (false)
  (false)
  (fun _ => false)
  (fun _ => false)
  (false)
  (fun _ => false)
  (fun _ => false)
  (fun _ => false)
  (fun _ => false)
  (false)
  (false)
  (false)
  (false)
  (false)
  (false)
  (false)
  (false)
  (false)
  (false)
  (fun _ => false)
  (false)
  (fun _ _ => false)
  (fun _ _ => false)
  (fun _ _ => false)
  (fun _ => false)
  (fun _ => false)
  (fun _ _ => false)
  (fun _ => false)
  (fun _ => false)
  (false)
  (false)
  (fun _ => false)
  (fun _ => false)
  (fun _ _ => false)
  (fun _ => false)
  (fun _ => true)
  (fun _ => true)
  (false)
  (false)
  (false)
  (false)
  (false)
  (fun _ => false)
  (fun _ => false)
  (false)
  (false)
  (false)
  (fun _ => false)
  (fun _ => false)
  (false)
  (false)
  (false)
  (false)
  (false)
  (false)
  (false)
  (false)
  (fun _ => false)
  (fun _ => false)
  (fun _ => false)
  (fun _ => false)
  (false)
  (fun _ => false)
  (fun _ => false)
  (false)
  (false)
  (fun _ _ => false)
  (false)
  (false)
  (false)
  (false)
  (false)
  (fun _ => false)
  (fun _ => false)
  (false)
  (false)
  (false)
  (false)
  (false)
  (fun _ _ => false)
  (fun _ => false)
  (fun _ => false)
  (false)
  (false)
  (false)
  (fun _ => false)
  (fun _ => false)
  (fun _ => false)
  (false)
  (false)
  (false)
  (fun _ => false)
  (false)
  (fun _ _ _ _ => false)
  i
theorem rtA_n {rt : Option FieldType} {i : Instr} {D : Db} {st : List AV} (h : kRet i = false) : rtA rt i D st = none := by
  cases i <;> first | rfl | exact absurd (show true = false from h) (by decide)
theorem calI_n {i : Instr} {a b : Nat} (h : kCal i = false) : calI i a b = none := by
  cases i <;> first | rfl | exact absurd (show true = false from h) (by decide)
theorem calI_r {i : Instr} {a b : Nat} (h : kRet i = true) : calI i a b = none := by
  cases i <;> first | rfl | exact absurd (show false = true from h) (by decide)
/-- the walk, cut small: what is not taken isn't looked at -/
noncomputable def exX (rec : Nat → List Fm → Bd → List Al → Bool → Cc → Bool) (rg : List Rg) (ws : List Wr) (dp : Nat) (fs : List Fm) (bd : Bd) (act : List Al) (i : Instr) (a b : Nat) (v : Int32) (w : Int64) (sw : List (Int32 × Nat)) (S : Sx) (pc : Nat) (ls : List (Option AV)) (st : List AV) : Bool := match ax rg ws i a b v w sw pc S ls st with
            | some L => L.all (rec dp fs bd act false)
            | none => false
noncomputable def exR (rec : Nat → List Fm → Bd → List Al → Bool → Cc → Bool) (rg : List Rg) (ws : List Wr) (fin : Sx → Option AV → Bool) (dp : Nat) (fs : List Fm) (bd : Bd) (act : List Al) (i : Instr) (a b : Nat) (v : Int32) (w : Int64) (sw : List (Int32 × Nat)) (S : Sx) (pc : Nat) (ls : List (Option AV)) (st : List AV) : Bool := match rtA bd.2.1 i S.2.1 st with
        | some r => (match fs with
          | [] => fin S r
          | (bd', pc', ls', st', act') :: fs' => rec (dp + 1) fs' bd' act' false (S, pc', ls', r.toList ++ st'))
        | none => exX rec rg ws dp fs bd act i a b v w sw S pc ls st
noncomputable def exCi (rec : Nat → List Fm → Bd → List Al → Bool → Cc → Bool) (rg : List Rg) (ws : List Wr) (T : List Sm) (AN : List (Nat × List (Nat × An))) (dp : Nat) (fs : List Fm) (bd : Bd) (act : List Al) (mid : Nat) (as rest : List AV) (S : Sx) (pc : Nat) (ls : List (Option AV)) (st : List AV) : Bool := match dp with
              | 0 => false
              | dp' + 1 => match lbA S mid as with
                | some R => rec (dp' + 1) fs bd act false (R.1, pc + 3, ls, (0, R.2) :: rest)
                | none => match lk psM mid with
                  | some (_, _, ml, rt, o, cd, q) => Nat.ble (eLa as).length ml && Nat.beq as.length (if q.1 = 0 then q.2.1 else q.2.1 + 1) && rcA q.1 o as && rec dp' ((bd, pc + 3, ls, rest, act) :: fs) (cd, rt, anT AN mid) [] false (S, 0, eLnA ml as, [])
                  | none => false
noncomputable def exCs (rec : Nat → List Fm → Bd → List Al → Bool → Cc → Bool) (dp : Nat) (fs : List Fm) (bd : Bd) (act : List Al) (rest : List AV) (S1 : Sx) (σ : List LE) (s : Sm) (pc : Nat) (ls : List (Option AV)) : Bool := s.2.2.2.2.2.2.all (fun o => let R := smO S1 σ s.2.2.2.2.2.1 o; match tgF R.1.2.1 (o.2.2.2.map (leSb (fLL 0 (σ ++ frX S1.1 o.1)))) with
              | none => true
              | some D => rec dp fs bd act false ((R.1.1, D, R.1.2.2), pc + 3, ls, (match R.2 with
              | some e => [(0, e)]
              | none => []) ++ rest))
noncomputable def exC2 (rec : Nat → List Fm → Bd → List Al → Bool → Cc → Bool) (rg : List Rg) (ws : List Wr) (T : List Sm) (AN : List (Nat × List (Nat × An))) (dp : Nat) (fs : List Fm) (bd : Bd) (act : List Al) (mid : Nat) (as rest : List AV) (S : Sx) (pc : Nat) (ls : List (Option AV)) (st : List AV) : Bool := match smF rg ws dp S mid as T with
            | some (S1, σ, s) => exCs rec dp fs bd act rest S1 σ s pc ls
            | none => exCi rec rg ws T AN dp fs bd act mid as rest S pc ls st
noncomputable def exC (rec : Nat → List Fm → Bd → List Al → Bool → Cc → Bool) (rg : List Rg) (ws : List Wr) (T : List Sm) (AN : List (Nat × List (Nat × An))) (dp : Nat) (fs : List Fm) (bd : Bd) (act : List Al) (i : Instr) (a b : Nat) (v : Int32) (w : Int64) (sw : List (Int32 × Nat)) (S : Sx) (pc : Nat) (ls : List (Option AV)) (st : List AV) : Bool := match calI i a b with
          | some (mid, n) => if (Nat.ble n st.length && Nat.ble (catS (st.drop n)) 8) = true then exC2 rec rg ws T AN dp fs bd act mid (st.take n).reverse (st.drop n) S pc ls st else false
          | none => exX rec rg ws dp fs bd act i a b v w sw S pc ls st
noncomputable def exI (rec : Nat → List Fm → Bd → List Al → Bool → Cc → Bool) (rg : List Rg) (ws : List Wr) (T : List Sm) (AN : List (Nat × List (Nat × An))) (fin : Sx → Option AV → Bool) (dp : Nat) (fs : List Fm) (bd : Bd) (act : List Al) (i : Instr) (a b : Nat) (v : Int32) (w : Int64) (sw : List (Int32 × Nat)) (S : Sx) (pc : Nat) (ls : List (Option AV)) (st : List AV) : Bool := Bool.rec (motive := fun _ => Bool) (Bool.rec (motive := fun _ => Bool) (exX rec rg ws dp fs bd act i a b v w sw S pc ls st) (exC rec rg ws T AN dp fs bd act i a b v w sw S pc ls st) (kCal i)) (exR rec rg ws fin dp fs bd act i a b v w sw S pc ls st) (kRet i)
noncomputable def exN (rec : Nat → List Fm → Bd → List Al → Bool → Cc → Bool) (rg : List Rg) (ws : List Wr) (T : List Sm) (AN : List (Nat × List (Nat × An))) (fin : Sx → Option AV → Bool) (dp : Nat) (fs : List Fm) (bd : Bd) (act : List Al) (S : Sx) (pc : Nat) (ls : List (Option AV)) (st : List AV) : Bool := match cdX bd.1 pc with
      | none => false
      | some (i, _, a, b, v, w, sw) => exI rec rg ws T AN fin dp fs bd act i a b v w sw S pc ls st
noncomputable def exAl (rg : List Rg) (al : Al) (S : Sx) (pc : Nat) (ls : List (Option AV)) (st : List AV) : Bool := st.isEmpty && (let S1 := tch rg S al.2.2.1; match srcL S1 ls al.2.2.1 with
      | some σ => (let S2 := tch8 rg S1 (fLL al.2.1 σ) al.2.2.2.1.1.2.2; chkP al σ S2 ls && msr al σ S2.2.1)
      | none => false)
noncomputable def exAn (rec : Nat → List Fm → Bd → List Al → Bool → Cc → Bool) (rg : List Rg) (dp : Nat) (fs : List Fm) (bd : Bd) (act : List Al) (an : An) (S : Sx) (pc : Nat) (ls : List (Option AV)) (st : List AV) : Bool := if Nat.beq an.2.2.2.2.2.1 777 = true then (match an.1 with
      | [] => false
      | g0 :: _ => match srcV S ls g0.1 with
        | some e => en S.2.1 (leK e (-g0.2.1)) && en S.2.1 (leK (leSc (-1) e) g0.2.2) && (List.range (g0.2.2 - g0.2.1 + 1).toNat).all (fun k => match adE S.2.1 (leK e (-(g0.2.1 + k))) with
          | some D => (match tgF D D.2 with
            | some D => rec dp fs bd act true ((S.1, D, S.2.2), pc, ls, st)
            | none => true)
          | none => true)
        | none => false) else st.isEmpty && (let S1 := tch rg (tch rg S an.1) (an.2.2.1.map fun c => ((1, c.1, c.2.1, c.2.2.1), 0, 0)); match srcL S1 ls an.1 with
      | some σ => (let S2 := tch8 rg S1 (fLL 0 σ) an.2.2.1; match mkP an S2 pc ls σ with
        | some al => alW al && chkP al σ S2 ls && rec dp fs bd (al :: act) true al.2.2.2.1
        | none => false)
      | none => false)
noncomputable def exH (rec : Nat → List Fm → Bd → List Al → Bool → Cc → Bool) (rg : List Rg) (ws : List Wr) (T : List Sm) (AN : List (Nat × List (Nat × An))) (fin : Sx → Option AV → Bool) (dp : Nat) (fs : List Fm) (bd : Bd) (act : List Al) (skip : Bool) (S : Sx) (pc : Nat) (ls : List (Option AV)) (st : List AV) : Bool := Bool.rec (motive := fun _ => Bool) (match alF act pc with
    | some al => exAl rg al S pc ls st
    | none => (match anF bd.2.2 pc with
      | some an => exAn rec rg dp fs bd act an S pc ls st
      | none => exN rec rg ws T AN fin dp fs bd act S pc ls st)) (exN rec rg ws T AN fin dp fs bd act S pc ls st) (skip || skp S ls bd.2.2 pc)
noncomputable def exS (rec : Nat → List Fm → Bd → List Al → Bool → Cc → Bool) (rg : List Rg) (ws : List Wr) (T : List Sm) (AN : List (Nat × List (Nat × An))) (fin : Sx → Option AV → Bool) (sto : Sx → Nat → List (Option AV) → List AV → Option Bool) (dp : Nat) (fs : List Fm) (bd : Bd) (act : List Al) (skip : Bool) (S : Sx) (pc : Nat) (ls : List (Option AV)) (st : List AV) : Bool := match stF sto skip fs S pc ls st with
    | some b => b
    | none => exH rec rg ws T AN fin dp fs bd act skip S pc ls st
noncomputable def ex (rg : List Rg) (ws : List Wr) (T : List Sm) (AN : List (Nat × List (Nat × An))) (fin : Sx → Option AV → Bool) (sto : Sx → Nat → List (Option AV) → List AV → Option Bool) (g : Nat) : Nat → List Fm → Bd → List Al → Bool → Cc → Bool := Nat.rec (motive := fun _ => Nat → List Fm → Bd → List Al → Bool → Cc → Bool) (fun _ _ _ _ _ _ => false) (fun _ rec dp fs bd act skip c => Prod.rec (motive := fun _ => Bool) (fun S q => Prod.rec (motive := fun _ => Bool) (fun pc q => Prod.rec (motive := fun _ => Bool) (fun ls st => exS rec rg ws T AN fin sto dp fs bd act skip S pc ls st) q) q) c) g
theorem exN_O {rec : Nat → List Fm → Bd → List Al → Bool → Cc → Bool} {rg : List Rg} {ws : List Wr} {T : List Sm} {AN : List (Nat × List (Nat × An))} {fin : Sx → Option AV → Bool} {dp : Nat} {fs : List Fm} {bd : Bd} {act : List Al} {S : Sx} {pc : Nat} {ls : List (Option AV)} {st : List AV} : exN rec rg ws T AN fin dp fs bd act S pc ls st = (match cdX bd.1 pc with
      | none => false
      | some (i, _, a, b, v, w, sw) => match rtA bd.2.1 i S.2.1 st with
        | some r => (match fs with
          | [] => fin S r
          | (bd', pc', ls', st', act') :: fs' => rec (dp + 1) fs' bd' act' false (S, pc', ls', r.toList ++ st'))
        | none => match calI i a b with
          | some (mid, n) => if (Nat.ble n st.length && Nat.ble (catS (st.drop n)) 8) = true then (let as := (st.take n).reverse; let rest := st.drop n; match smF rg ws dp S mid as T with
            | some (S1, σ, s) => s.2.2.2.2.2.2.all (fun o => let R := smO S1 σ s.2.2.2.2.2.1 o; match tgF R.1.2.1 (o.2.2.2.map (leSb (fLL 0 (σ ++ frX S1.1 o.1)))) with
              | none => true
              | some D => rec dp fs bd act false ((R.1.1, D, R.1.2.2), pc + 3, ls, (match R.2 with
              | some e => [(0, e)]
              | none => []) ++ rest))
            | none => match dp with
              | 0 => false
              | dp' + 1 => match lbA S mid as with
                | some R => rec (dp' + 1) fs bd act false (R.1, pc + 3, ls, (0, R.2) :: rest)
                | none => match lk psM mid with
                  | some (_, _, ml, rt, o, cd, q) => Nat.ble (eLa as).length ml && Nat.beq as.length (if q.1 = 0 then q.2.1 else q.2.1 + 1) && rcA q.1 o as && rec dp' ((bd, pc + 3, ls, rest, act) :: fs) (cd, rt, anT AN mid) [] false (S, 0, eLnA ml as, [])
                  | none => false) else false
          | none => match ax rg ws i a b v w sw pc S ls st with
            | some L => L.all (rec dp fs bd act false)
            | none => false) := by
  unfold exN
  cases cdX bd.1 pc with
  | none => rfl
  | some q =>
    obtain ⟨i, n0, a, b, v, w, sw⟩ := q
    show exI rec rg ws T AN fin dp fs bd act i a b v w sw S pc ls st = _
    unfold exI
    cases hr : kRet i with
    | false =>
      (try dsimp only)
      rw [rtA_n hr]
      cases hc : kCal i with
      | false =>
        (try dsimp only)
        rw [calI_n hc]
        rfl
      | true =>
        show exC rec rg ws T AN dp fs bd act i a b v w sw S pc ls st = _
        unfold exC
        cases calI i a b with
        | none => rfl
        | some q =>
          obtain ⟨mid, n⟩ := q
          (try dsimp only)
          unfold exC2 exCs exCi
          rfl
    | true =>
      show exR rec rg ws fin dp fs bd act i a b v w sw S pc ls st = _
      unfold exR
      (try dsimp only)
      rw [calI_r hr]
      rfl
theorem ex_zero {rg : List Rg} {ws : List Wr} {T : List Sm} {AN : List (Nat × List (Nat × An))} {fin : Sx → Option AV → Bool} {sto : Sx → Nat → List (Option AV) → List AV → Option Bool} {dp : Nat} {fs : List Fm} {bd : Bd} {act : List Al} {skip : Bool} {c : Cc} : ex rg ws T AN fin sto 0 dp fs bd act skip c = false := rfl
theorem ex_succ {rg : List Rg} {ws : List Wr} {T : List Sm} {AN : List (Nat × List (Nat × An))} {fin : Sx → Option AV → Bool} {sto : Sx → Nat → List (Option AV) → List AV → Option Bool} {g dp : Nat} {fs : List Fm} {bd : Bd} {act : List Al} {skip : Bool} {S : Sx} {pc : Nat} {ls : List (Option AV)} {st : List AV} : ex rg ws T AN fin sto (g + 1) dp fs bd act skip (S, pc, ls, st) = (match stF sto skip fs S pc ls st with
    | some b => b
    | none => match skip || skp S ls bd.2.2 pc, alF act pc, anF bd.2.2 pc with
    | false, some al, _ => st.isEmpty && (let S1 := tch rg S al.2.2.1; match srcL S1 ls al.2.2.1 with
      | some σ => (let S2 := tch8 rg S1 (fLL al.2.1 σ) al.2.2.2.1.1.2.2; chkP al σ S2 ls && msr al σ S2.2.1)
      | none => false)
    | false, none, some an => if Nat.beq an.2.2.2.2.2.1 777 = true then (match an.1 with
      | [] => false
      | g0 :: _ => match srcV S ls g0.1 with
        | some e => en S.2.1 (leK e (-g0.2.1)) && en S.2.1 (leK (leSc (-1) e) g0.2.2) && (List.range (g0.2.2 - g0.2.1 + 1).toNat).all (fun k => match adE S.2.1 (leK e (-(g0.2.1 + k))) with
          | some D => (match tgF D D.2 with
            | some D => ex rg ws T AN fin sto g dp fs bd act true ((S.1, D, S.2.2), pc, ls, st)
            | none => true)
          | none => true)
        | none => false) else st.isEmpty && (let S1 := tch rg (tch rg S an.1) (an.2.2.1.map fun c => ((1, c.1, c.2.1, c.2.2.1), 0, 0)); match srcL S1 ls an.1 with
      | some σ => (let S2 := tch8 rg S1 (fLL 0 σ) an.2.2.1; match mkP an S2 pc ls σ with
        | some al => alW al && chkP al σ S2 ls && ex rg ws T AN fin sto g dp fs bd (al :: act) true al.2.2.2.1
        | none => false)
      | none => false)
    | _, _, _ => (match cdX bd.1 pc with
      | none => false
      | some (i, _, a, b, v, w, sw) => match rtA bd.2.1 i S.2.1 st with
        | some r => (match fs with
          | [] => fin S r
          | (bd', pc', ls', st', act') :: fs' => ex rg ws T AN fin sto g (dp + 1) fs' bd' act' false (S, pc', ls', r.toList ++ st'))
        | none => match calI i a b with
          | some (mid, n) => if (Nat.ble n st.length && Nat.ble (catS (st.drop n)) 8) = true then (let as := (st.take n).reverse; let rest := st.drop n; match smF rg ws dp S mid as T with
            | some (S1, σ, s) => s.2.2.2.2.2.2.all (fun o => let R := smO S1 σ s.2.2.2.2.2.1 o; match tgF R.1.2.1 (o.2.2.2.map (leSb (fLL 0 (σ ++ frX S1.1 o.1)))) with
              | none => true
              | some D => ex rg ws T AN fin sto g dp fs bd act false ((R.1.1, D, R.1.2.2), pc + 3, ls, (match R.2 with
              | some e => [(0, e)]
              | none => []) ++ rest))
            | none => match dp with
              | 0 => false
              | dp' + 1 => match lbA S mid as with
                | some R => ex rg ws T AN fin sto g (dp' + 1) fs bd act false (R.1, pc + 3, ls, (0, R.2) :: rest)
                | none => match lk psM mid with
                  | some (_, _, ml, rt, o, cd, q) => Nat.ble (eLa as).length ml && Nat.beq as.length (if q.1 = 0 then q.2.1 else q.2.1 + 1) && rcA q.1 o as && ex rg ws T AN fin sto g dp' ((bd, pc + 3, ls, rest, act) :: fs) (cd, rt, anT AN mid) [] false (S, 0, eLnA ml as, [])
                  | none => false) else false
          | none => match ax rg ws i a b v w sw pc S ls st with
            | some L => L.all (ex rg ws T AN fin sto g dp fs bd act false)
            | none => false)) := by
  show exS (ex rg ws T AN fin sto g) rg ws T AN fin sto dp fs bd act skip S pc ls st = _
  unfold exS
  cases stF sto skip fs S pc ls st with
  | some b => rfl
  | none =>
    dsimp only
    unfold exH
    cases skip || skp S ls bd.2.2 pc with
    | true => exact exN_O
    | false =>
      cases alF act pc with
      | some al => rfl
      | none =>
        cases anF bd.2.2 pc with
        | some an => rfl
        | none => exact exN_O
