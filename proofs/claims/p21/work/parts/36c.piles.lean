/-- what a word or sign is to a reader: a PART by itself (its step), !, (, ), a sign between PARTS, none of these, the end -/
noncomputable abbrev Tk : Type := Int ⊕ (Int ⊕ (Option (Option (Option (Option Unit)))))
noncomputable abbrev Tk.part (s : Int) : Tk := .inl s
noncomputable abbrev Tk.op (b : Int) : Tk := .inr (.inl b)
noncomputable abbrev Tk.bang : Tk := .inr (.inr none)
noncomputable abbrev Tk.opn : Tk := .inr (.inr (some none))
noncomputable abbrev Tk.cls : Tk := .inr (.inr (some (some none)))
noncomputable abbrev Tk.bad : Tk := .inr (.inr (some (some (some none))))
noncomputable abbrev Tk.fin : Tk := .inr (.inr (some (some (some (some ())))))
theorem Tk.op.inj {a b : Int} (h : Tk.op a = Tk.op b) : a = b := Sum.inl.inj (Sum.inr.inj h)
/-- how much a sign binds -/
noncomputable def bnd (b : Int) : Nat := if b = 124 then 1 else if b = 38 then 2 else if b = 60 ∨ b = 61 ∨ b = 62 then 3 else if b = 43 ∨ b = 45 then 4 else if b = 42 ∨ b = 47 then 5 else 0
/-- a sign as a step -/
noncomputable def sg (b : Int) : Int := 20000 + b
/-- the class's reader: at the i-th word or sign; S: signs, the newest first; out: steps, the newest first -/
noncomputable abbrev PA : Type := Nat × Bool × List Int × Nat × Nat × Nat × List Int
noncomputable def PA.i (self_ : PA) : Nat := self_.1
theorem PA.i_mk (i_ : Nat) (due_ : Bool) (S_ : List Int) (ob_ : Nat) (on_ : Nat) (pr_ : Nat) (out_ : List Int) : PA.i (i_, due_, S_, ob_, on_, pr_, out_) = i_ := rfl
noncomputable def PA.due (self_ : PA) : Bool := self_.2.1
theorem PA.due_mk (i_ : Nat) (due_ : Bool) (S_ : List Int) (ob_ : Nat) (on_ : Nat) (pr_ : Nat) (out_ : List Int) : PA.due (i_, due_, S_, ob_, on_, pr_, out_) = due_ := rfl
noncomputable def PA.S (self_ : PA) : List Int := self_.2.2.1
theorem PA.S_mk (i_ : Nat) (due_ : Bool) (S_ : List Int) (ob_ : Nat) (on_ : Nat) (pr_ : Nat) (out_ : List Int) : PA.S (i_, due_, S_, ob_, on_, pr_, out_) = S_ := rfl
noncomputable def PA.ob (self_ : PA) : Nat := self_.2.2.2.1
theorem PA.ob_mk (i_ : Nat) (due_ : Bool) (S_ : List Int) (ob_ : Nat) (on_ : Nat) (pr_ : Nat) (out_ : List Int) : PA.ob (i_, due_, S_, ob_, on_, pr_, out_) = ob_ := rfl
noncomputable def PA.on (self_ : PA) : Nat := self_.2.2.2.2.1
theorem PA.on_mk (i_ : Nat) (due_ : Bool) (S_ : List Int) (ob_ : Nat) (on_ : Nat) (pr_ : Nat) (out_ : List Int) : PA.on (i_, due_, S_, ob_, on_, pr_, out_) = on_ := rfl
noncomputable def PA.pr (self_ : PA) : Nat := self_.2.2.2.2.2.1
theorem PA.pr_mk (i_ : Nat) (due_ : Bool) (S_ : List Int) (ob_ : Nat) (on_ : Nat) (pr_ : Nat) (out_ : List Int) : PA.pr (i_, due_, S_, ob_, on_, pr_, out_) = pr_ := rfl
noncomputable def PA.out (self_ : PA) : List Int := self_.2.2.2.2.2.2
theorem PA.out_mk (i_ : Nat) (due_ : Bool) (S_ : List Int) (ob_ : Nat) (on_ : Nat) (pr_ : Nat) (out_ : List Int) : PA.out (i_, due_, S_, ob_, on_, pr_, out_) = out_ := rfl
noncomputable def settle (l : Nat) : List Int → List Int → List Int × List Int
  | [], o => ([], o)
  | b :: S, o => if l ≤ bnd b then settle l S (sg b :: o) else (b :: S, o)
noncomputable def endN : Nat → List Int → List Int → Nat × List Int × List Int
  | n + 1, 33 :: S, o => endN n S (sg 33 :: o)
  | n, S, o => (n, S, o)
noncomputable def topB (S : List Int) : Nat := match S with
  | b :: _ => bnd b
  | [] => 0
noncomputable def stepA (ts : Nat → Tk) (a : PA) : Option PA := match a.due, ts a.i with
  | true, .inl s => some ⟨a.i + 1, false, (endN a.on a.S (s :: a.out)).2.1, a.ob, (endN a.on a.S (s :: a.out)).1, a.pr + 1, (endN a.on a.S (s :: a.out)).2.2⟩
  | true, .inr (.inr none) => if a.on < 8 then some ⟨a.i + 1, true, 33 :: a.S, a.ob, a.on + 1, a.pr, a.out⟩ else none
  | true, .inr (.inr (some none)) => if a.ob < 8 then some ⟨a.i + 1, true, 40 :: a.S, a.ob + 1, a.on, a.pr, a.out⟩ else none
  | false, .inr (.inr (some (some none))) => if a.ob = 0 then none else some (let q := settle 1 a.S a.out; let e := endN a.on q.1.tail q.2; ⟨a.i + 1, false, e.2.1, a.ob - 1, e.1, a.pr, e.2.2⟩)
  | false, .inr (.inl b) => let q := settle (if bnd b = 3 then 4 else bnd b) a.S a.out; if bnd b = 3 ∧ topB q.1 = 3 then none else some ⟨a.i + 1, true, b :: q.1, a.ob, a.on, a.pr, q.2⟩
  | _, _ => none
/-- so many words or signs on -/
noncomputable def goA (ts : Nat → Tk) (a c : PA) : Prop := ∀ M : PA → PA → Prop, (∀ a, M a a) → (∀ a b c, ts a.i ≠ .fin → stepA ts a = some b → M b c → M a c) → M a c
theorem goA.rf {ts : Nat → Tk} (a : PA) : goA ts a a := fun _ h _ => h a
theorem goA.st {ts : Nat → Tk} {a b c : PA} (h : ts a.i ≠ .fin) (k : stepA ts a = some b) (g : goA ts b c) : goA ts a c := fun M m1 m2 => m2 a b c h k (g M m1 m2)
theorem goA.tr {ts : Nat → Tk} {a b c : PA} (h : goA ts a b) (k : goA ts b c) : goA ts a c := h (fun a b => goA ts b c → goA ts a c) (fun _ k => k) (fun _ _ _ h1 h2 ih k => .st h1 h2 (ih k)) k
/-- a FAULT at this one -/
noncomputable def ftA (ts : Nat → Tk) (a : PA) (i : Nat) : Prop := a.i = i ∧ (ts a.i = .fin ∧ (a.due = true ∨ 0 < a.ob) ∨ ts a.i ≠ .fin ∧ stepA ts a = none)
/-- the reference's reader -/
noncomputable abbrev PB : Type := Nat × Nat × Nat × Nat × List Int
noncomputable def PB.i (self_ : PB) : Nat := self_.1
theorem PB.i_mk (i_ : Nat) (ob_ : Nat) (nt_ : Nat) (pr_ : Nat) (out_ : List Int) : PB.i (i_, ob_, nt_, pr_, out_) = i_ := rfl
noncomputable def PB.ob (self_ : PB) : Nat := self_.2.1
theorem PB.ob_mk (i_ : Nat) (ob_ : Nat) (nt_ : Nat) (pr_ : Nat) (out_ : List Int) : PB.ob (i_, ob_, nt_, pr_, out_) = ob_ := rfl
noncomputable def PB.nt (self_ : PB) : Nat := self_.2.2.1
theorem PB.nt_mk (i_ : Nat) (ob_ : Nat) (nt_ : Nat) (pr_ : Nat) (out_ : List Int) : PB.nt (i_, ob_, nt_, pr_, out_) = nt_ := rfl
noncomputable def PB.pr (self_ : PB) : Nat := self_.2.2.2.1
theorem PB.pr_mk (i_ : Nat) (ob_ : Nat) (nt_ : Nat) (pr_ : Nat) (out_ : List Int) : PB.pr (i_, ob_, nt_, pr_, out_) = pr_ := rfl
noncomputable def PB.out (self_ : PB) : List Int := self_.2.2.2.2
theorem PB.out_mk (i_ : Nat) (ob_ : Nat) (nt_ : Nat) (pr_ : Nat) (out_ : List Int) : PB.out (i_, ob_, nt_, pr_, out_) = out_ := rfl
noncomputable abbrev PR : Type := PB ⊕ Nat
noncomputable def PB.nx (b : PB) : PB := ⟨b.i + 1, b.ob, b.nt, b.pr, b.out⟩
noncomputable def PB.em (b : PB) (s : Int) : PB := ⟨b.i, b.ob, b.nt, b.pr, sg s :: b.out⟩
/-- levels: 1 to 5 as signs bind, 6 a PART; lp: a level's loop behind its first side -/
noncomputable def prs (ts : Nat → Tk) (q : Bool) (l : Nat) (b : PB) (r : PR) : Prop := ∀ M : Bool → Nat → PB → PR → Prop, (∀ (l : Nat) (b b1 : PB) (r : PR), (l = 1 ∨ l = 2 ∨ l = 4 ∨ l = 5) → M false (l + 1) b (.inl b1) → M true l b1 r → M false l b r) → (∀ (l : Nat) (b : PB) (i : Nat), 1 ≤ l → l ≤ 5 → M false (l + 1) b (.inr i) → M false l b (.inr i)) → (∀ (l : Nat) (b : PB), (∀ s, ts b.i = .op s → bnd s ≠ l) → M true l b (.inl b)) → (∀ (l : Nat) (b b2 : PB) (s : Int) (r : PR), (l = 1 ∨ l = 2 ∨ l = 4 ∨ l = 5) → ts b.i = .op s → bnd s = l → M false (l + 1) b.nx (.inl b2) → M true l (b2.em s) r → M true l b r) → (∀ (l : Nat) (b : PB) (s : Int) (i : Nat), (l = 1 ∨ l = 2 ∨ l = 4 ∨ l = 5) → ts b.i = .op s → bnd s = l → M false (l + 1) b.nx (.inr i) → M true l b (.inr i)) → (∀ (b b1 : PB), M false 4 b (.inl b1) → (∀ s, ts b1.i = .op s → bnd s ≠ 3) → M false 3 b (.inl b1)) → (∀ (b b1 b2 : PB) (s : Int), M false 4 b (.inl b1) → ts b1.i = .op s → bnd s = 3 → M false 4 b1.nx (.inl b2) → M false 3 b (.inl (b2.em s))) → (∀ (b b1 : PB) (s : Int) (i : Nat), M false 4 b (.inl b1) → ts b1.i = .op s → bnd s = 3 → M false 4 b1.nx (.inr i) → M false 3 b (.inr i)) → (∀ (b : PB) (s : Int), ts b.i = .part s → M false 6 b (.inl ⟨b.i + 1, b.ob, b.nt, b.pr + 1, s :: b.out⟩)) → (∀ (b b1 : PB), ts b.i = .bang → b.nt < 8 → M false 6 ⟨b.i + 1, b.ob, b.nt + 1, b.pr, b.out⟩ (.inl b1) → M false 6 b (.inl ⟨b1.i, b1.ob, b1.nt - 1, b1.pr, sg 33 :: b1.out⟩)) → (∀ (b : PB) (i : Nat), ts b.i = .bang → b.nt < 8 → M false 6 ⟨b.i + 1, b.ob, b.nt + 1, b.pr, b.out⟩ (.inr i) → M false 6 b (.inr i)) → (∀ (b : PB), ts b.i = .bang → 8 ≤ b.nt → M false 6 b (.inr b.i)) → (∀ (b b1 : PB), ts b.i = .opn → b.ob < 8 → M false 1 ⟨b.i + 1, b.ob + 1, b.nt, b.pr, b.out⟩ (.inl b1) → ts b1.i = .cls → M false 6 b (.inl ⟨b1.i + 1, b1.ob - 1, b1.nt, b1.pr, b1.out⟩)) → (∀ (b : PB) (i : Nat), ts b.i = .opn → b.ob < 8 → M false 1 ⟨b.i + 1, b.ob + 1, b.nt, b.pr, b.out⟩ (.inr i) → M false 6 b (.inr i)) → (∀ (b b1 : PB), ts b.i = .opn → b.ob < 8 → M false 1 ⟨b.i + 1, b.ob + 1, b.nt, b.pr, b.out⟩ (.inl b1) → ts b1.i ≠ .cls → M false 6 b (.inr b1.i)) → (∀ (b : PB), ts b.i = .opn → 8 ≤ b.ob → M false 6 b (.inr b.i)) → (∀ (b : PB), (∀ s, ts b.i ≠ .part s) → ts b.i ≠ .bang → ts b.i ≠ .opn → M false 6 b (.inr b.i)) → M q l b r
theorem prs.up {ts : Nat → Tk} {l : Nat} {b b1 : PB} {r : PR} (h0 : (l = 1 ∨ l = 2 ∨ l = 4 ∨ l = 5)) (h1 : prs ts false (l + 1) b (.inl b1)) (h2 : prs ts true l b1 r) : prs ts false l b r := fun M c0 c1 c2 c3 c4 c5 c6 c7 c8 c9 c10 c11 c12 c13 c14 c15 c16 => c0 _ _ _ _ h0 (h1 M c0 c1 c2 c3 c4 c5 c6 c7 c8 c9 c10 c11 c12 c13 c14 c15 c16) (h2 M c0 c1 c2 c3 c4 c5 c6 c7 c8 c9 c10 c11 c12 c13 c14 c15 c16)
theorem prs.upF {ts : Nat → Tk} {l : Nat} {b : PB} {i : Nat} (h0 : 1 ≤ l) (h1 : l ≤ 5) (h2 : prs ts false (l + 1) b (.inr i)) : prs ts false l b (.inr i) := fun M c0 c1 c2 c3 c4 c5 c6 c7 c8 c9 c10 c11 c12 c13 c14 c15 c16 => c1 _ _ _ h0 h1 (h2 M c0 c1 c2 c3 c4 c5 c6 c7 c8 c9 c10 c11 c12 c13 c14 c15 c16)
theorem prs.lpE {ts : Nat → Tk} {l : Nat} {b : PB} (h0 : (∀ s, ts b.i = .op s → bnd s ≠ l)) : prs ts true l b (.inl b) := fun M c0 c1 c2 c3 c4 c5 c6 c7 c8 c9 c10 c11 c12 c13 c14 c15 c16 => c2 _ _ h0
theorem prs.lpS {ts : Nat → Tk} {l : Nat} {b b2 : PB} {s : Int} {r : PR} (h0 : (l = 1 ∨ l = 2 ∨ l = 4 ∨ l = 5)) (h1 : ts b.i = .op s) (h2 : bnd s = l) (h3 : prs ts false (l + 1) b.nx (.inl b2)) (h4 : prs ts true l (b2.em s) r) : prs ts true l b r := fun M c0 c1 c2 c3 c4 c5 c6 c7 c8 c9 c10 c11 c12 c13 c14 c15 c16 => c3 _ _ _ _ _ h0 h1 h2 (h3 M c0 c1 c2 c3 c4 c5 c6 c7 c8 c9 c10 c11 c12 c13 c14 c15 c16) (h4 M c0 c1 c2 c3 c4 c5 c6 c7 c8 c9 c10 c11 c12 c13 c14 c15 c16)
theorem prs.lpF {ts : Nat → Tk} {l : Nat} {b : PB} {s : Int} {i : Nat} (h0 : (l = 1 ∨ l = 2 ∨ l = 4 ∨ l = 5)) (h1 : ts b.i = .op s) (h2 : bnd s = l) (h3 : prs ts false (l + 1) b.nx (.inr i)) : prs ts true l b (.inr i) := fun M c0 c1 c2 c3 c4 c5 c6 c7 c8 c9 c10 c11 c12 c13 c14 c15 c16 => c4 _ _ _ _ h0 h1 h2 (h3 M c0 c1 c2 c3 c4 c5 c6 c7 c8 c9 c10 c11 c12 c13 c14 c15 c16)
theorem prs.te {ts : Nat → Tk} {b b1 : PB} (h0 : prs ts false 4 b (.inl b1)) (h1 : (∀ s, ts b1.i = .op s → bnd s ≠ 3)) : prs ts false 3 b (.inl b1) := fun M c0 c1 c2 c3 c4 c5 c6 c7 c8 c9 c10 c11 c12 c13 c14 c15 c16 => c5 _ _ (h0 M c0 c1 c2 c3 c4 c5 c6 c7 c8 c9 c10 c11 c12 c13 c14 c15 c16) h1
theorem prs.tt {ts : Nat → Tk} {b b1 b2 : PB} {s : Int} (h0 : prs ts false 4 b (.inl b1)) (h1 : ts b1.i = .op s) (h2 : bnd s = 3) (h3 : prs ts false 4 b1.nx (.inl b2)) : prs ts false 3 b (.inl (b2.em s)) := fun M c0 c1 c2 c3 c4 c5 c6 c7 c8 c9 c10 c11 c12 c13 c14 c15 c16 => c6 _ _ _ _ (h0 M c0 c1 c2 c3 c4 c5 c6 c7 c8 c9 c10 c11 c12 c13 c14 c15 c16) h1 h2 (h3 M c0 c1 c2 c3 c4 c5 c6 c7 c8 c9 c10 c11 c12 c13 c14 c15 c16)
theorem prs.tf {ts : Nat → Tk} {b b1 : PB} {s : Int} {i : Nat} (h0 : prs ts false 4 b (.inl b1)) (h1 : ts b1.i = .op s) (h2 : bnd s = 3) (h3 : prs ts false 4 b1.nx (.inr i)) : prs ts false 3 b (.inr i) := fun M c0 c1 c2 c3 c4 c5 c6 c7 c8 c9 c10 c11 c12 c13 c14 c15 c16 => c7 _ _ _ _ (h0 M c0 c1 c2 c3 c4 c5 c6 c7 c8 c9 c10 c11 c12 c13 c14 c15 c16) h1 h2 (h3 M c0 c1 c2 c3 c4 c5 c6 c7 c8 c9 c10 c11 c12 c13 c14 c15 c16)
theorem prs.part {ts : Nat → Tk} {b : PB} {s : Int} (h0 : ts b.i = .part s) : prs ts false 6 b (.inl ⟨b.i + 1, b.ob, b.nt, b.pr + 1, s :: b.out⟩) := fun M c0 c1 c2 c3 c4 c5 c6 c7 c8 c9 c10 c11 c12 c13 c14 c15 c16 => c8 _ _ h0
theorem prs.bang {ts : Nat → Tk} {b b1 : PB} (h0 : ts b.i = .bang) (h1 : b.nt < 8) (h2 : prs ts false 6 ⟨b.i + 1, b.ob, b.nt + 1, b.pr, b.out⟩ (.inl b1)) : prs ts false 6 b (.inl ⟨b1.i, b1.ob, b1.nt - 1, b1.pr, sg 33 :: b1.out⟩) := fun M c0 c1 c2 c3 c4 c5 c6 c7 c8 c9 c10 c11 c12 c13 c14 c15 c16 => c9 _ _ h0 h1 (h2 M c0 c1 c2 c3 c4 c5 c6 c7 c8 c9 c10 c11 c12 c13 c14 c15 c16)
theorem prs.bangF {ts : Nat → Tk} {b : PB} {i : Nat} (h0 : ts b.i = .bang) (h1 : b.nt < 8) (h2 : prs ts false 6 ⟨b.i + 1, b.ob, b.nt + 1, b.pr, b.out⟩ (.inr i)) : prs ts false 6 b (.inr i) := fun M c0 c1 c2 c3 c4 c5 c6 c7 c8 c9 c10 c11 c12 c13 c14 c15 c16 => c10 _ _ h0 h1 (h2 M c0 c1 c2 c3 c4 c5 c6 c7 c8 c9 c10 c11 c12 c13 c14 c15 c16)
theorem prs.bang8 {ts : Nat → Tk} {b : PB} (h0 : ts b.i = .bang) (h1 : 8 ≤ b.nt) : prs ts false 6 b (.inr b.i) := fun M c0 c1 c2 c3 c4 c5 c6 c7 c8 c9 c10 c11 c12 c13 c14 c15 c16 => c11 _ h0 h1
theorem prs.opn {ts : Nat → Tk} {b b1 : PB} (h0 : ts b.i = .opn) (h1 : b.ob < 8) (h2 : prs ts false 1 ⟨b.i + 1, b.ob + 1, b.nt, b.pr, b.out⟩ (.inl b1)) (h3 : ts b1.i = .cls) : prs ts false 6 b (.inl ⟨b1.i + 1, b1.ob - 1, b1.nt, b1.pr, b1.out⟩) := fun M c0 c1 c2 c3 c4 c5 c6 c7 c8 c9 c10 c11 c12 c13 c14 c15 c16 => c12 _ _ h0 h1 (h2 M c0 c1 c2 c3 c4 c5 c6 c7 c8 c9 c10 c11 c12 c13 c14 c15 c16) h3
theorem prs.opnF {ts : Nat → Tk} {b : PB} {i : Nat} (h0 : ts b.i = .opn) (h1 : b.ob < 8) (h2 : prs ts false 1 ⟨b.i + 1, b.ob + 1, b.nt, b.pr, b.out⟩ (.inr i)) : prs ts false 6 b (.inr i) := fun M c0 c1 c2 c3 c4 c5 c6 c7 c8 c9 c10 c11 c12 c13 c14 c15 c16 => c13 _ _ h0 h1 (h2 M c0 c1 c2 c3 c4 c5 c6 c7 c8 c9 c10 c11 c12 c13 c14 c15 c16)
theorem prs.opnX {ts : Nat → Tk} {b b1 : PB} (h0 : ts b.i = .opn) (h1 : b.ob < 8) (h2 : prs ts false 1 ⟨b.i + 1, b.ob + 1, b.nt, b.pr, b.out⟩ (.inl b1)) (h3 : ts b1.i ≠ .cls) : prs ts false 6 b (.inr b1.i) := fun M c0 c1 c2 c3 c4 c5 c6 c7 c8 c9 c10 c11 c12 c13 c14 c15 c16 => c14 _ _ h0 h1 (h2 M c0 c1 c2 c3 c4 c5 c6 c7 c8 c9 c10 c11 c12 c13 c14 c15 c16) h3
theorem prs.opn8 {ts : Nat → Tk} {b : PB} (h0 : ts b.i = .opn) (h1 : 8 ≤ b.ob) : prs ts false 6 b (.inr b.i) := fun M c0 c1 c2 c3 c4 c5 c6 c7 c8 c9 c10 c11 c12 c13 c14 c15 c16 => c15 _ h0 h1
theorem prs.no {ts : Nat → Tk} {b : PB} (h0 : (∀ s, ts b.i ≠ .part s)) (h1 : ts b.i ≠ .bang) (h2 : ts b.i ≠ .opn) : prs ts false 6 b (.inr b.i) := fun M c0 c1 c2 c3 c4 c5 c6 c7 c8 c9 c10 c11 c12 c13 c14 c15 c16 => c16 _ h0 h1 h2
theorem settle_app {l : Nat} : ∀ {P S o : List Int}, (∀ x ∈ P, l ≤ bnd x) → topB S < l → settle l (P ++ S) o = (S, (P.map sg).reverse ++ o)
  | [], S, o, _, hS => by
    cases S with
    | nil => rfl
    | cons b S => show (if l ≤ bnd b then _ else _) = _; rw [if_neg (by simpa [Tok.ty_mk, Tok.st_mk, Tok.nx_mk, Tok.val_mk, PA.i_mk, PA.due_mk, PA.S_mk, PA.ob_mk, PA.on_mk, PA.pr_mk, PA.out_mk, PB.i_mk, PB.ob_mk, PB.nt_mk, PB.pr_mk, PB.out_mk, topB] using hS)]; rfl
  | b :: P, S, o, h, hS => by
    show (if l ≤ bnd b then settle l (P ++ S) (sg b :: o) else _) = _
    rw [if_pos (h b (List.mem_cons_self ..)), settle_app (fun x hx => h x (List.mem_cons_of_mem _ hx)) hS]
    simp [Tok.ty_mk, Tok.st_mk, Tok.nx_mk, Tok.val_mk, PA.i_mk, PA.due_mk, PA.S_mk, PA.ob_mk, PA.on_mk, PA.pr_mk, PA.out_mk, PB.i_mk, PB.ob_mk, PB.nt_mk, PB.pr_mk, PB.out_mk]
theorem endN_rep : ∀ {k n : Nat} {S o : List Int}, S.head? ≠ some 33 → k ≤ n → endN n (List.replicate k 33 ++ S) o = (n - k, S, List.replicate k (sg 33) ++ o)
  | 0, n, S, o, hS, _ => by
    show endN n S o = _
    cases n with
    | zero => rfl
    | succ n =>
      unfold endN
      split
      · rename_i q _
        exact absurd rfl hS
      · rfl
  | k + 1, n, S, o, hS, hk => by
    cases n with
    | zero => omega
    | succ n =>
      show endN n (List.replicate k 33 ++ S) (sg 33 :: o) = _
      rw [endN_rep hS (by omega)]
      congr 1
      · omega
      · congr 1
        rw [List.replicate_succ', List.append_assoc]
        rfl
theorem bnd_le (b : Int) : bnd b ≤ 5 := by unfold bnd; split <;> (try split) <;> (try split) <;> (try split) <;> (try split) <;> omega
/-- the sign that comes, behind a level that is at its end with P still on the pile -/
noncomputable def Nx (l : Nat) (P : List Int) (t : Tk) : Prop := ∀ b, t = .op b → bnd b < l ∨ bnd b = 3 ∧ ∃ P2 c P3, P = P2 ++ c :: P3 ∧ (∀ x ∈ P2, 4 ≤ bnd x) ∧ bnd c = 3
/-- the class's reader goes along -/
noncomputable def AL (ts : Nat → Tk) (l : Nat) (b : PB) : PR → Prop
  | .inl b' => ∀ S, topB S < l → S.head? ≠ some 33 → ∃ P, ∃ o, goA ts ⟨b.i, true, S, b.ob, b.nt, b.pr, b.out⟩ ⟨b'.i, false, P ++ S, b.ob, b.nt, b'.pr, o⟩ ∧ b'.ob = b.ob ∧ b'.nt = b.nt ∧ b'.out = (P.map sg).reverse ++ o ∧ (∀ x ∈ P, l ≤ bnd x) ∧ Nx l P (ts b'.i)
  | .inr i => ∀ S, topB S < l → S.head? ≠ some 33 → ∃ a, goA ts ⟨b.i, true, S, b.ob, b.nt, b.pr, b.out⟩ a ∧ ftA ts a i
noncomputable def ALp (ts : Nat → Tk) (l : Nat) (b : PB) : PR → Prop
  | .inl b' => ∀ P S o, topB S < l → S.head? ≠ some 33 → (∀ x ∈ P, l ≤ bnd x) → b.out = (P.map sg).reverse ++ o → Nx (l + 1) P (ts b.i) → ∃ P', ∃ o', goA ts ⟨b.i, false, P ++ S, b.ob, b.nt, b.pr, o⟩ ⟨b'.i, false, P' ++ S, b.ob, b.nt, b'.pr, o'⟩ ∧ b'.ob = b.ob ∧ b'.nt = b.nt ∧ b'.out = (P'.map sg).reverse ++ o' ∧ (∀ x ∈ P', l ≤ bnd x) ∧ Nx l P' (ts b'.i)
  | .inr i => ∀ P S o, topB S < l → S.head? ≠ some 33 → (∀ x ∈ P, l ≤ bnd x) → b.out = (P.map sg).reverse ++ o → Nx (l + 1) P (ts b.i) → ∃ a, goA ts ⟨b.i, false, P ++ S, b.ob, b.nt, b.pr, o⟩ a ∧ ftA ts a i
noncomputable def AL6 (ts : Nat → Tk) (b : PB) : PR → Prop
  | .inl b' => ∀ k S, S.head? ≠ some 33 → k ≤ b.nt → goA ts ⟨b.i, true, List.replicate k 33 ++ S, b.ob, b.nt, b.pr, b.out⟩ ⟨b'.i, false, S, b.ob, b.nt - k, b'.pr, List.replicate k (sg 33) ++ b'.out⟩ ∧ b'.ob = b.ob ∧ b'.nt = b.nt
  | .inr i => ∀ k S, S.head? ≠ some 33 → k ≤ b.nt → ∃ a, goA ts ⟨b.i, true, List.replicate k 33 ++ S, b.ob, b.nt, b.pr, b.out⟩ a ∧ ftA ts a i
noncomputable def GA (ts : Nat → Tk) (q : Bool) (l : Nat) (b : PB) (r : PR) : Prop := if q = true then ALp ts l b r else if l = 6 then AL6 ts b r else AL ts l b r
theorem AL6.al {ts : Nat → Tk} {b : PB} : ∀ {r : PR}, AL6 ts b r → AL ts 6 b r
  | .inl b', h => fun S _ h2 => by
    obtain ⟨g, e1, e2⟩ := h 0 S h2 (Nat.zero_le _)
    exact ⟨[], b'.out, g, e1, e2, rfl, (fun x hx => by cases hx), fun c _ => Or.inl (by have := bnd_le c; omega)⟩
  | .inr i, h => fun S _ h2 => h 0 S h2 (Nat.zero_le _)
theorem head_op {b : Int} {S : List Int} (h : 1 ≤ bnd b) : (b :: S).head? ≠ some 33 := by
  intro e
  cases e
  revert h
  decide
theorem Nx.app {l : Nat} {P Q : List Int} {t : Tk} (h : Nx l P t) : Nx l (P ++ Q) t := fun b e => by
  rcases h b e with h | ⟨h1, P2, c, P3, rfl, h2, h3⟩
  · exact Or.inl h
  · exact Or.inr ⟨h1, P2, c, P3 ++ Q, by simp [Tok.ty_mk, Tok.st_mk, Tok.nx_mk, Tok.val_mk, PA.i_mk, PA.due_mk, PA.S_mk, PA.ob_mk, PA.on_mk, PA.pr_mk, PA.out_mk, PB.i_mk, PB.ob_mk, PB.nt_mk, PB.pr_mk, PB.out_mk], h2, h3⟩
theorem Nx.dn {l : Nat} {P : List Int} {t : Tk} (h : Nx (l + 1) P t) (n : ∀ s, t = .op s → bnd s ≠ l) : Nx l P t := fun b e => by
  rcases h b e with h | h
  · have := n b e
    exact Or.inl (by omega)
  · exact Or.inr h
/-- a sign between PARTS, not a test's, behind a level's side -/
theorem step_op {ts : Nat → Tk} {i ob on pr l : Nat} {P S o : List Int} {s : Int} (h : ts i = .op s) (hl : bnd s = l) (h3 : l ≠ 3) (hS : topB S < l) (hP : ∀ x ∈ P, l ≤ bnd x) : stepA ts ⟨i, false, P ++ S, ob, on, pr, o⟩ = some ⟨i + 1, true, s :: S, ob, on, pr, (P.map sg).reverse ++ o⟩ := by
  unfold stepA
  dsimp only [Tok.ty_mk, Tok.st_mk, Tok.nx_mk, Tok.val_mk, PA.i_mk, PA.due_mk, PA.S_mk, PA.ob_mk, PA.on_mk, PA.pr_mk, PA.out_mk, PB.i_mk, PB.ob_mk, PB.nt_mk, PB.pr_mk, PB.out_mk]
  rw [h]
  dsimp only [Tok.ty_mk, Tok.st_mk, Tok.nx_mk, Tok.val_mk, PA.i_mk, PA.due_mk, PA.S_mk, PA.ob_mk, PA.on_mk, PA.pr_mk, PA.out_mk, PB.i_mk, PB.ob_mk, PB.nt_mk, PB.pr_mk, PB.out_mk]
  rw [hl, if_neg h3, settle_app hP hS, if_neg (fun q => h3 q.1)]
theorem step_te {ts : Nat → Tk} {i ob on pr : Nat} {P S o : List Int} {s : Int} (h : ts i = .op s) (hl : bnd s = 3) (hS : topB S < 3) (hP : ∀ x ∈ P, 4 ≤ bnd x) : stepA ts ⟨i, false, P ++ S, ob, on, pr, o⟩ = some ⟨i + 1, true, s :: S, ob, on, pr, (P.map sg).reverse ++ o⟩ := by
  unfold stepA
  dsimp only [Tok.ty_mk, Tok.st_mk, Tok.nx_mk, Tok.val_mk, PA.i_mk, PA.due_mk, PA.S_mk, PA.ob_mk, PA.on_mk, PA.pr_mk, PA.out_mk, PB.i_mk, PB.ob_mk, PB.nt_mk, PB.pr_mk, PB.out_mk]
  rw [h]
  dsimp only [Tok.ty_mk, Tok.st_mk, Tok.nx_mk, Tok.val_mk, PA.i_mk, PA.due_mk, PA.S_mk, PA.ob_mk, PA.on_mk, PA.pr_mk, PA.out_mk, PB.i_mk, PB.ob_mk, PB.nt_mk, PB.pr_mk, PB.out_mk]
  rw [if_pos hl, settle_app hP (by omega), if_neg (fun q => by have := q.2; dsimp only [Tok.ty_mk, Tok.st_mk, Tok.nx_mk, Tok.val_mk, PA.i_mk, PA.due_mk, PA.S_mk, PA.ob_mk, PA.on_mk, PA.pr_mk, PA.out_mk, PB.i_mk, PB.ob_mk, PB.nt_mk, PB.pr_mk, PB.out_mk] at this; omega)]
theorem nf {ts : Nat → Tk} {i : Nat} {t : Tk} (h : ts i = t) (n : t ≠ .fin) : ts i ≠ .fin := h ▸ n
theorem up_al {ts : Nat → Tk} {l : Nat} {b b1 : PB} (h1 : AL ts (l + 1) b (.inl b1)) : ∀ {r : PR}, ALp ts l b1 r → AL ts l b r
  | .inl b', h2 => fun S t1 t2 => by
    obtain ⟨P, o, g, e1, e2, e3, e4, e5⟩ := h1 S (by omega) t2
    obtain ⟨P', o', g', f1, f2, f3, f4, f5⟩ := h2 P S o t1 t2 (fun x hx => by have := e4 x hx; omega) e3 e5
    rw [e1, e2] at g'
    exact ⟨P', o', g.tr g', f1.trans e1, f2.trans e2, f3, f4, f5⟩
  | .inr i, h2 => fun S t1 t2 => by
    obtain ⟨P, o, g, e1, e2, e3, e4, e5⟩ := h1 S (by omega) t2
    obtain ⟨a, g', f⟩ := h2 P S o t1 t2 (fun x hx => by have := e4 x hx; omega) e3 e5
    rw [e1, e2] at g'
    exact ⟨a, g.tr g', f⟩
theorem lps_al {ts : Nat → Tk} {l : Nat} {b b2 : PB} {s : Int} (hl : 1 ≤ l) (h3 : l ≠ 3) (h : ts b.i = .op s) (hs : bnd s = l) (h1 : AL ts (l + 1) b.nx (.inl b2)) : ∀ {r : PR}, ALp ts l (b2.em s) r → ALp ts l b r := by
  have A : ∀ P S o, topB S < l → S.head? ≠ some 33 → (∀ x ∈ P, l ≤ bnd x) → b.out = (P.map sg).reverse ++ o → ∃ P2 o2, goA ts ⟨b.i, false, P ++ S, b.ob, b.nt, b.pr, o⟩ ⟨b2.i, false, (P2 ++ [s]) ++ S, b.ob, b.nt, b2.pr, o2⟩ ∧ b2.ob = b.ob ∧ b2.nt = b.nt ∧ sg s :: b2.out = ((P2 ++ [s]).map sg).reverse ++ o2 ∧ (∀ x ∈ P2 ++ [s], l ≤ bnd x) ∧ Nx (l + 1) (P2 ++ [s]) (ts b2.i) := fun P S o t1 t2 hP ho => by
    obtain ⟨P2, o2, g, e1, e2, e3, e4, e5⟩ := h1 (s :: S) (by show bnd s < _; omega) (head_op (by omega))
    refine ⟨P2, o2, .st (nf h (by simp [Tok.ty_mk, Tok.st_mk, Tok.nx_mk, Tok.val_mk, PA.i_mk, PA.due_mk, PA.S_mk, PA.ob_mk, PA.on_mk, PA.pr_mk, PA.out_mk, PB.i_mk, PB.ob_mk, PB.nt_mk, PB.pr_mk, PB.out_mk])) (step_op h hs h3 t1 hP) ?_, e1, e2, by simp [Tok.ty_mk, Tok.st_mk, Tok.nx_mk, Tok.val_mk, PA.i_mk, PA.due_mk, PA.S_mk, PA.ob_mk, PA.on_mk, PA.pr_mk, PA.out_mk, PB.i_mk, PB.ob_mk, PB.nt_mk, PB.pr_mk, PB.out_mk, e3], fun x hx => ?_, e5.app⟩
    · rw [← ho]
      simpa [Tok.ty_mk, Tok.st_mk, Tok.nx_mk, Tok.val_mk, PA.i_mk, PA.due_mk, PA.S_mk, PA.ob_mk, PA.on_mk, PA.pr_mk, PA.out_mk, PB.i_mk, PB.ob_mk, PB.nt_mk, PB.pr_mk, PB.out_mk, PB.nx] using g
    · rcases List.mem_append.mp hx with hx | hx
      · have := e4 x hx; omega
      · rw [List.mem_singleton.mp hx, hs]
        exact Nat.le_refl _
  intro r
  cases r with
  | inl b' =>
    intro h2 P S o t1 t2 hP ho _
    · obtain ⟨P2, o2, g, e1, e2, e3, e4, e5⟩ := A P S o t1 t2 hP ho
      obtain ⟨P', o', g', f1, f2, f3, f4, f5⟩ := h2 (P2 ++ [s]) S o2 t1 t2 e4 e3 e5
      refine ⟨P', o', g.tr ?_, f1.trans e1, f2.trans e2, f3, f4, f5⟩
      simpa [Tok.ty_mk, Tok.st_mk, Tok.nx_mk, Tok.val_mk, PA.i_mk, PA.due_mk, PA.S_mk, PA.ob_mk, PA.on_mk, PA.pr_mk, PA.out_mk, PB.i_mk, PB.ob_mk, PB.nt_mk, PB.pr_mk, PB.out_mk, PB.em, e1, e2] using g'
  | inr i =>
    intro h2 P S o t1 t2 hP ho _
    · obtain ⟨P2, o2, g, e1, e2, e3, e4, e5⟩ := A P S o t1 t2 hP ho
      obtain ⟨a, g', f⟩ := h2 (P2 ++ [s]) S o2 t1 t2 e4 e3 e5
      refine ⟨a, g.tr ?_, f⟩
      simpa [Tok.ty_mk, Tok.st_mk, Tok.nx_mk, Tok.val_mk, PA.i_mk, PA.due_mk, PA.S_mk, PA.ob_mk, PA.on_mk, PA.pr_mk, PA.out_mk, PB.i_mk, PB.ob_mk, PB.nt_mk, PB.pr_mk, PB.out_mk, PB.em, e1, e2] using g'
theorem prs_al {ts : Nat → Tk} (hts : ∀ i b, ts i = .op b → 1 ≤ bnd b) {q : Bool} {l : Nat} {b : PB} {r : PR} (h : prs ts q l b r) : GA ts q l b r := by
  have sub : ∀ {l : Nat} {b : PB} {r : PR}, GA ts false l b r → AL ts l b r := fun {l b r} g => by
    unfold GA at g
    rw [if_neg (by decide)] at g
    split at g
    · rename_i e
      subst e
      exact g.al
    · exact g
  have mk : ∀ {l : Nat} {b : PB} {r : PR}, l ≠ 6 → AL ts l b r → GA ts false l b r := fun {l b r} n g => by
    unfold GA
    rw [if_neg (by decide), if_neg n]
    exact g
  have lp : ∀ {l : Nat} {b : PB} {r : PR}, GA ts true l b r → ALp ts l b r := fun g => g
  have get6 : ∀ {b : PB} {r : PR}, GA ts false 6 b r → AL6 ts b r := fun g => g
  have mk6 : ∀ {b : PB} {r : PR}, AL6 ts b r → GA ts false 6 b r := fun g => g
  refine h (fun q l b r => GA ts q l b r) ?_ ?_ ?_ ?_ ?_ ?_ ?_ ?_ ?_ ?_ ?_ ?_ ?_ ?_ ?_ ?_ ?_
  · intro l0 b0 b10 r0 hl i1 i2
    exact mk (by omega) (up_al (sub i1) (lp i2))
  · intro l0 b0 i0 h1 h2 i1
    exact mk (by omega) (fun S t1 t2 => sub i1 S (by omega) t2)
  · intro l0 b0 hn
    exact fun P S o t1 t2 hP ho hN => ⟨P, o, .rf _, rfl, rfl, ho, hP, hN.dn hn⟩
  · intro l0 b0 b20 s0 r0 hl h hs i1 i2
    exact lps_al (by omega) (by omega) h hs (sub i1) (lp i2)
  · intro l b s i hl h hs i1
    refine fun P S o t1 t2 hP ho hN => ?_
    obtain ⟨a, g, f⟩ := sub i1 (s :: S) (by show bnd s < _; omega) (head_op (by omega))
    refine ⟨a, .st (nf h (by simp [Tok.ty_mk, Tok.st_mk, Tok.nx_mk, Tok.val_mk, PA.i_mk, PA.due_mk, PA.S_mk, PA.ob_mk, PA.on_mk, PA.pr_mk, PA.out_mk, PB.i_mk, PB.ob_mk, PB.nt_mk, PB.pr_mk, PB.out_mk])) (step_op h hs (by omega) t1 hP) ?_, f⟩
    rw [← ho]
    exact g
  · intro b0 b10 i1 hn
    refine mk (by decide) (fun S t1 t2 => ?_)
    obtain ⟨P, o, g, e1, e2, e3, e4, e5⟩ := sub i1 S (by omega) t2
    exact ⟨P, o, g, e1, e2, e3, fun x hx => by have := e4 x hx; omega, e5.dn hn⟩
  · intro b b1 b2 s i1 h hs i2
    refine mk (by decide) (fun S t1 t2 => ?_)
    obtain ⟨P, o, g, e1, e2, e3, e4, e5⟩ := sub i1 S (by omega) t2
    obtain ⟨P2, o2, g2, f1, f2, f3, f4, f5⟩ := sub i2 (s :: S) (by show bnd s < _; omega) (head_op (by omega))
    refine ⟨P2 ++ [s], o2, g.tr (.st (nf h (by simp [Tok.ty_mk, Tok.st_mk, Tok.nx_mk, Tok.val_mk, PA.i_mk, PA.due_mk, PA.S_mk, PA.ob_mk, PA.on_mk, PA.pr_mk, PA.out_mk, PB.i_mk, PB.ob_mk, PB.nt_mk, PB.pr_mk, PB.out_mk])) (step_te h hs t1 e4) ?_), f1.trans e1, f2.trans e2, by simp [Tok.ty_mk, Tok.st_mk, Tok.nx_mk, Tok.val_mk, PA.i_mk, PA.due_mk, PA.S_mk, PA.ob_mk, PA.on_mk, PA.pr_mk, PA.out_mk, PB.i_mk, PB.ob_mk, PB.nt_mk, PB.pr_mk, PB.out_mk, PB.em, f3], fun x hx => ?_, fun c hc => ?_⟩
    · have : PB.nx b1 = ⟨b1.i + 1, b.ob, b.nt, b1.pr, (P.map sg).reverse ++ o⟩ := by unfold PB.nx; rw [e1, e2, e3]
      rw [this] at g2
      simpa [Tok.ty_mk, Tok.st_mk, Tok.nx_mk, Tok.val_mk, PA.i_mk, PA.due_mk, PA.S_mk, PA.ob_mk, PA.on_mk, PA.pr_mk, PA.out_mk, PB.i_mk, PB.ob_mk, PB.nt_mk, PB.pr_mk, PB.out_mk, PB.em] using g2
    · rcases List.mem_append.mp hx with hx | hx
      · have := f4 x hx; omega
      · rw [List.mem_singleton.mp hx, hs]
        exact Nat.le_refl _
    · rcases f5 c hc with k | ⟨k, Q2, d, Q3, q, q2, q3⟩
      · by_cases k3 : bnd c = 3
        · exact Or.inr ⟨k3, P2, s, [], rfl, f4, hs⟩
        · exact Or.inl (by omega)
      · exact Or.inr ⟨k, Q2, d, Q3 ++ [s], by simp [Tok.ty_mk, Tok.st_mk, Tok.nx_mk, Tok.val_mk, PA.i_mk, PA.due_mk, PA.S_mk, PA.ob_mk, PA.on_mk, PA.pr_mk, PA.out_mk, PB.i_mk, PB.ob_mk, PB.nt_mk, PB.pr_mk, PB.out_mk, q], q2, q3⟩
  · intro b b1 s i i1 h hs i2
    refine mk (by decide) (fun S t1 t2 => ?_)
    obtain ⟨P, o, g, e1, e2, e3, e4, e5⟩ := sub i1 S (by omega) t2
    obtain ⟨a, g2, f⟩ := sub i2 (s :: S) (by show bnd s < _; omega) (head_op (by omega))
    refine ⟨a, g.tr (.st (nf h (by simp [Tok.ty_mk, Tok.st_mk, Tok.nx_mk, Tok.val_mk, PA.i_mk, PA.due_mk, PA.S_mk, PA.ob_mk, PA.on_mk, PA.pr_mk, PA.out_mk, PB.i_mk, PB.ob_mk, PB.nt_mk, PB.pr_mk, PB.out_mk])) (step_te h hs t1 e4) ?_), f⟩
    have : PB.nx b1 = ⟨b1.i + 1, b.ob, b.nt, b1.pr, (P.map sg).reverse ++ o⟩ := by unfold PB.nx; rw [e1, e2, e3]
    rw [this] at g2
    exact g2
  · intro b s h
    refine mk6 (fun k S t hk => ⟨.st (nf h (by simp [Tok.ty_mk, Tok.st_mk, Tok.nx_mk, Tok.val_mk, PA.i_mk, PA.due_mk, PA.S_mk, PA.ob_mk, PA.on_mk, PA.pr_mk, PA.out_mk, PB.i_mk, PB.ob_mk, PB.nt_mk, PB.pr_mk, PB.out_mk])) ?_ (.rf _), rfl, rfl⟩)
    unfold stepA
    dsimp only [Tok.ty_mk, Tok.st_mk, Tok.nx_mk, Tok.val_mk, PA.i_mk, PA.due_mk, PA.S_mk, PA.ob_mk, PA.on_mk, PA.pr_mk, PA.out_mk, PB.i_mk, PB.ob_mk, PB.nt_mk, PB.pr_mk, PB.out_mk]
    rw [h]
    dsimp only [Tok.ty_mk, Tok.st_mk, Tok.nx_mk, Tok.val_mk, PA.i_mk, PA.due_mk, PA.S_mk, PA.ob_mk, PA.on_mk, PA.pr_mk, PA.out_mk, PB.i_mk, PB.ob_mk, PB.nt_mk, PB.pr_mk, PB.out_mk]
    rw [endN_rep t hk]
  · intro b b1 h h8 i1
    refine mk6 (fun k S t hk => ?_)
    replace i1 := get6 i1
    obtain ⟨g, e1, e2⟩ := i1 (k + 1) S t (by dsimp only [Tok.ty_mk, Tok.st_mk, Tok.nx_mk, Tok.val_mk, PA.i_mk, PA.due_mk, PA.S_mk, PA.ob_mk, PA.on_mk, PA.pr_mk, PA.out_mk, PB.i_mk, PB.ob_mk, PB.nt_mk, PB.pr_mk, PB.out_mk]; omega)
    refine ⟨.st (nf h (by simp [Tok.ty_mk, Tok.st_mk, Tok.nx_mk, Tok.val_mk, PA.i_mk, PA.due_mk, PA.S_mk, PA.ob_mk, PA.on_mk, PA.pr_mk, PA.out_mk, PB.i_mk, PB.ob_mk, PB.nt_mk, PB.pr_mk, PB.out_mk])) (b := ⟨b.i + 1, true, 33 :: (List.replicate k 33 ++ S), b.ob, b.nt + 1, b.pr, b.out⟩) ?_ ?_, e1, by dsimp only [Tok.ty_mk, Tok.st_mk, Tok.nx_mk, Tok.val_mk, PA.i_mk, PA.due_mk, PA.S_mk, PA.ob_mk, PA.on_mk, PA.pr_mk, PA.out_mk, PB.i_mk, PB.ob_mk, PB.nt_mk, PB.pr_mk, PB.out_mk] at e2 ⊢; omega⟩
    · unfold stepA
      dsimp only [Tok.ty_mk, Tok.st_mk, Tok.nx_mk, Tok.val_mk, PA.i_mk, PA.due_mk, PA.S_mk, PA.ob_mk, PA.on_mk, PA.pr_mk, PA.out_mk, PB.i_mk, PB.ob_mk, PB.nt_mk, PB.pr_mk, PB.out_mk]
      rw [h]
      dsimp only [Tok.ty_mk, Tok.st_mk, Tok.nx_mk, Tok.val_mk, PA.i_mk, PA.due_mk, PA.S_mk, PA.ob_mk, PA.on_mk, PA.pr_mk, PA.out_mk, PB.i_mk, PB.ob_mk, PB.nt_mk, PB.pr_mk, PB.out_mk]
      exact if_pos h8
    · have e : b.nt + 1 - (k + 1) = b.nt - k := by omega
      have r : List.replicate (k + 1) (sg 33) ++ b1.out = List.replicate k (sg 33) ++ sg 33 :: b1.out := by
        rw [List.replicate_succ', List.append_assoc]; rfl
      dsimp only [Tok.ty_mk, Tok.st_mk, Tok.nx_mk, Tok.val_mk, PA.i_mk, PA.due_mk, PA.S_mk, PA.ob_mk, PA.on_mk, PA.pr_mk, PA.out_mk, PB.i_mk, PB.ob_mk, PB.nt_mk, PB.pr_mk, PB.out_mk] at g
      rw [e, r] at g
      exact g
  · intro b i h h8 i1
    refine mk6 (fun k S t hk => ?_)
    replace i1 := get6 i1
    obtain ⟨a, g, f⟩ := i1 (k + 1) S t (by dsimp only [Tok.ty_mk, Tok.st_mk, Tok.nx_mk, Tok.val_mk, PA.i_mk, PA.due_mk, PA.S_mk, PA.ob_mk, PA.on_mk, PA.pr_mk, PA.out_mk, PB.i_mk, PB.ob_mk, PB.nt_mk, PB.pr_mk, PB.out_mk]; omega)
    refine ⟨a, .st (nf h (by simp [Tok.ty_mk, Tok.st_mk, Tok.nx_mk, Tok.val_mk, PA.i_mk, PA.due_mk, PA.S_mk, PA.ob_mk, PA.on_mk, PA.pr_mk, PA.out_mk, PB.i_mk, PB.ob_mk, PB.nt_mk, PB.pr_mk, PB.out_mk])) (b := ⟨b.i + 1, true, 33 :: (List.replicate k 33 ++ S), b.ob, b.nt + 1, b.pr, b.out⟩) ?_ (by simpa [Tok.ty_mk, Tok.st_mk, Tok.nx_mk, Tok.val_mk, PA.i_mk, PA.due_mk, PA.S_mk, PA.ob_mk, PA.on_mk, PA.pr_mk, PA.out_mk, PB.i_mk, PB.ob_mk, PB.nt_mk, PB.pr_mk, PB.out_mk, List.replicate_succ] using g), f⟩
    unfold stepA
    dsimp only [Tok.ty_mk, Tok.st_mk, Tok.nx_mk, Tok.val_mk, PA.i_mk, PA.due_mk, PA.S_mk, PA.ob_mk, PA.on_mk, PA.pr_mk, PA.out_mk, PB.i_mk, PB.ob_mk, PB.nt_mk, PB.pr_mk, PB.out_mk]
    rw [h]
    dsimp only [Tok.ty_mk, Tok.st_mk, Tok.nx_mk, Tok.val_mk, PA.i_mk, PA.due_mk, PA.S_mk, PA.ob_mk, PA.on_mk, PA.pr_mk, PA.out_mk, PB.i_mk, PB.ob_mk, PB.nt_mk, PB.pr_mk, PB.out_mk]
    exact if_pos h8
  · intro b h h8
    refine mk6 (fun k S t hk => ⟨_, .rf _, rfl, Or.inr ⟨nf h (by simp [Tok.ty_mk, Tok.st_mk, Tok.nx_mk, Tok.val_mk, PA.i_mk, PA.due_mk, PA.S_mk, PA.ob_mk, PA.on_mk, PA.pr_mk, PA.out_mk, PB.i_mk, PB.ob_mk, PB.nt_mk, PB.pr_mk, PB.out_mk]), ?_⟩⟩)
    unfold stepA
    dsimp only [Tok.ty_mk, Tok.st_mk, Tok.nx_mk, Tok.val_mk, PA.i_mk, PA.due_mk, PA.S_mk, PA.ob_mk, PA.on_mk, PA.pr_mk, PA.out_mk, PB.i_mk, PB.ob_mk, PB.nt_mk, PB.pr_mk, PB.out_mk]
    rw [h]
    dsimp only [Tok.ty_mk, Tok.st_mk, Tok.nx_mk, Tok.val_mk, PA.i_mk, PA.due_mk, PA.S_mk, PA.ob_mk, PA.on_mk, PA.pr_mk, PA.out_mk, PB.i_mk, PB.ob_mk, PB.nt_mk, PB.pr_mk, PB.out_mk]
    exact if_neg (by omega)
  · intro b b1 h h8 i1 hc
    refine mk6 (fun k S t hk => ?_)
    obtain ⟨P, o, g, e1, e2, e3, e4, e5⟩ := sub i1 (40 :: (List.replicate k 33 ++ S)) (by show bnd 40 < 1; decide) (by simp [Tok.ty_mk, Tok.st_mk, Tok.nx_mk, Tok.val_mk, PA.i_mk, PA.due_mk, PA.S_mk, PA.ob_mk, PA.on_mk, PA.pr_mk, PA.out_mk, PB.i_mk, PB.ob_mk, PB.nt_mk, PB.pr_mk, PB.out_mk])
    dsimp only [Tok.ty_mk, Tok.st_mk, Tok.nx_mk, Tok.val_mk, PA.i_mk, PA.due_mk, PA.S_mk, PA.ob_mk, PA.on_mk, PA.pr_mk, PA.out_mk, PB.i_mk, PB.ob_mk, PB.nt_mk, PB.pr_mk, PB.out_mk] at e1 e2 g
    refine ⟨.st (nf h (by simp [Tok.ty_mk, Tok.st_mk, Tok.nx_mk, Tok.val_mk, PA.i_mk, PA.due_mk, PA.S_mk, PA.ob_mk, PA.on_mk, PA.pr_mk, PA.out_mk, PB.i_mk, PB.ob_mk, PB.nt_mk, PB.pr_mk, PB.out_mk])) (b := ⟨b.i + 1, true, 40 :: (List.replicate k 33 ++ S), b.ob + 1, b.nt, b.pr, b.out⟩) ?_ (g.tr (.st (nf hc (by simp [Tok.ty_mk, Tok.st_mk, Tok.nx_mk, Tok.val_mk, PA.i_mk, PA.due_mk, PA.S_mk, PA.ob_mk, PA.on_mk, PA.pr_mk, PA.out_mk, PB.i_mk, PB.ob_mk, PB.nt_mk, PB.pr_mk, PB.out_mk])) ?_ (.rf _))), by show b1.ob - 1 = b.ob; omega, e2⟩
    · unfold stepA
      dsimp only [Tok.ty_mk, Tok.st_mk, Tok.nx_mk, Tok.val_mk, PA.i_mk, PA.due_mk, PA.S_mk, PA.ob_mk, PA.on_mk, PA.pr_mk, PA.out_mk, PB.i_mk, PB.ob_mk, PB.nt_mk, PB.pr_mk, PB.out_mk]
      rw [h]
      dsimp only [Tok.ty_mk, Tok.st_mk, Tok.nx_mk, Tok.val_mk, PA.i_mk, PA.due_mk, PA.S_mk, PA.ob_mk, PA.on_mk, PA.pr_mk, PA.out_mk, PB.i_mk, PB.ob_mk, PB.nt_mk, PB.pr_mk, PB.out_mk]
      exact if_pos h8
    · unfold stepA
      dsimp only [Tok.ty_mk, Tok.st_mk, Tok.nx_mk, Tok.val_mk, PA.i_mk, PA.due_mk, PA.S_mk, PA.ob_mk, PA.on_mk, PA.pr_mk, PA.out_mk, PB.i_mk, PB.ob_mk, PB.nt_mk, PB.pr_mk, PB.out_mk]
      rw [hc]
      dsimp only [Tok.ty_mk, Tok.st_mk, Tok.nx_mk, Tok.val_mk, PA.i_mk, PA.due_mk, PA.S_mk, PA.ob_mk, PA.on_mk, PA.pr_mk, PA.out_mk, PB.i_mk, PB.ob_mk, PB.nt_mk, PB.pr_mk, PB.out_mk]
      refine (if_neg (by omega)).trans ?_
      rw [settle_app e4 (by show bnd 40 < 1; decide)]
      show some (_ : PA) = _
      dsimp only [List.tail, Tok.ty_mk, Tok.st_mk, Tok.nx_mk, Tok.val_mk, PA.i_mk, PA.due_mk, PA.S_mk, PA.ob_mk, PA.on_mk, PA.pr_mk, PA.out_mk, PB.i_mk, PB.ob_mk, PB.nt_mk, PB.pr_mk, PB.out_mk]
      rw [endN_rep t hk, ← e3]
      simp [Tok.ty_mk, Tok.st_mk, Tok.nx_mk, Tok.val_mk, PA.i_mk, PA.due_mk, PA.S_mk, PA.ob_mk, PA.on_mk, PA.pr_mk, PA.out_mk, PB.i_mk, PB.ob_mk, PB.nt_mk, PB.pr_mk, PB.out_mk]
  · intro b i h h8 i1
    refine mk6 (fun k S t hk => ?_)
    obtain ⟨a, g, f⟩ := sub i1 (40 :: (List.replicate k 33 ++ S)) (by show bnd 40 < 1; decide) (by simp [Tok.ty_mk, Tok.st_mk, Tok.nx_mk, Tok.val_mk, PA.i_mk, PA.due_mk, PA.S_mk, PA.ob_mk, PA.on_mk, PA.pr_mk, PA.out_mk, PB.i_mk, PB.ob_mk, PB.nt_mk, PB.pr_mk, PB.out_mk])
    refine ⟨a, .st (nf h (by simp [Tok.ty_mk, Tok.st_mk, Tok.nx_mk, Tok.val_mk, PA.i_mk, PA.due_mk, PA.S_mk, PA.ob_mk, PA.on_mk, PA.pr_mk, PA.out_mk, PB.i_mk, PB.ob_mk, PB.nt_mk, PB.pr_mk, PB.out_mk])) (b := ⟨b.i + 1, true, 40 :: (List.replicate k 33 ++ S), b.ob + 1, b.nt, b.pr, b.out⟩) ?_ g, f⟩
    unfold stepA
    dsimp only [Tok.ty_mk, Tok.st_mk, Tok.nx_mk, Tok.val_mk, PA.i_mk, PA.due_mk, PA.S_mk, PA.ob_mk, PA.on_mk, PA.pr_mk, PA.out_mk, PB.i_mk, PB.ob_mk, PB.nt_mk, PB.pr_mk, PB.out_mk]
    rw [h]
    dsimp only [Tok.ty_mk, Tok.st_mk, Tok.nx_mk, Tok.val_mk, PA.i_mk, PA.due_mk, PA.S_mk, PA.ob_mk, PA.on_mk, PA.pr_mk, PA.out_mk, PB.i_mk, PB.ob_mk, PB.nt_mk, PB.pr_mk, PB.out_mk]
    exact if_pos h8
  · intro b b1 h h8 i1 hc
    refine mk6 (fun k S t hk => ?_)
    obtain ⟨P, o, g, e1, e2, e3, e4, e5⟩ := sub i1 (40 :: (List.replicate k 33 ++ S)) (by show bnd 40 < 1; decide) (by simp [Tok.ty_mk, Tok.st_mk, Tok.nx_mk, Tok.val_mk, PA.i_mk, PA.due_mk, PA.S_mk, PA.ob_mk, PA.on_mk, PA.pr_mk, PA.out_mk, PB.i_mk, PB.ob_mk, PB.nt_mk, PB.pr_mk, PB.out_mk])
    refine ⟨_, .st (nf h (by simp [Tok.ty_mk, Tok.st_mk, Tok.nx_mk, Tok.val_mk, PA.i_mk, PA.due_mk, PA.S_mk, PA.ob_mk, PA.on_mk, PA.pr_mk, PA.out_mk, PB.i_mk, PB.ob_mk, PB.nt_mk, PB.pr_mk, PB.out_mk])) (b := ⟨b.i + 1, true, 40 :: (List.replicate k 33 ++ S), b.ob + 1, b.nt, b.pr, b.out⟩) ?_ g, rfl, ?_⟩
    · unfold stepA
      dsimp only [Tok.ty_mk, Tok.st_mk, Tok.nx_mk, Tok.val_mk, PA.i_mk, PA.due_mk, PA.S_mk, PA.ob_mk, PA.on_mk, PA.pr_mk, PA.out_mk, PB.i_mk, PB.ob_mk, PB.nt_mk, PB.pr_mk, PB.out_mk]
      rw [h]
      dsimp only [Tok.ty_mk, Tok.st_mk, Tok.nx_mk, Tok.val_mk, PA.i_mk, PA.due_mk, PA.S_mk, PA.ob_mk, PA.on_mk, PA.pr_mk, PA.out_mk, PB.i_mk, PB.ob_mk, PB.nt_mk, PB.pr_mk, PB.out_mk]
      exact if_pos h8
    · by_cases hf : ts b1.i = .fin
      · exact Or.inl ⟨hf, Or.inr (by dsimp only [Tok.ty_mk, Tok.st_mk, Tok.nx_mk, Tok.val_mk, PA.i_mk, PA.due_mk, PA.S_mk, PA.ob_mk, PA.on_mk, PA.pr_mk, PA.out_mk, PB.i_mk, PB.ob_mk, PB.nt_mk, PB.pr_mk, PB.out_mk]; omega)⟩
      · refine Or.inr ⟨hf, ?_⟩
        unfold stepA
        dsimp only [Tok.ty_mk, Tok.st_mk, Tok.nx_mk, Tok.val_mk, PA.i_mk, PA.due_mk, PA.S_mk, PA.ob_mk, PA.on_mk, PA.pr_mk, PA.out_mk, PB.i_mk, PB.ob_mk, PB.nt_mk, PB.pr_mk, PB.out_mk]
        rcases ht : ts b1.i with _ | c | _ | _ | _ | _ | _
        · rfl
        ·
          dsimp only [Tok.ty_mk, Tok.st_mk, Tok.nx_mk, Tok.val_mk, PA.i_mk, PA.due_mk, PA.S_mk, PA.ob_mk, PA.on_mk, PA.pr_mk, PA.out_mk, PB.i_mk, PB.ob_mk, PB.nt_mk, PB.pr_mk, PB.out_mk]
          rcases e5 c ht with k | ⟨k3, P2, d, P3, rfl, q2, q3⟩
          · have := hts _ _ ht; omega
          · rw [if_pos k3, List.append_assoc, List.cons_append, settle_app q2 (by show bnd d < 4; omega), if_pos ⟨k3, q3⟩]
        · rfl
        · rfl
        · exact absurd ht hc
        · rfl
        · rfl
  · intro b h h8
    refine mk6 (fun k S t hk => ⟨_, .rf _, rfl, Or.inr ⟨nf h (by simp [Tok.ty_mk, Tok.st_mk, Tok.nx_mk, Tok.val_mk, PA.i_mk, PA.due_mk, PA.S_mk, PA.ob_mk, PA.on_mk, PA.pr_mk, PA.out_mk, PB.i_mk, PB.ob_mk, PB.nt_mk, PB.pr_mk, PB.out_mk]), ?_⟩⟩)
    unfold stepA
    dsimp only [Tok.ty_mk, Tok.st_mk, Tok.nx_mk, Tok.val_mk, PA.i_mk, PA.due_mk, PA.S_mk, PA.ob_mk, PA.on_mk, PA.pr_mk, PA.out_mk, PB.i_mk, PB.ob_mk, PB.nt_mk, PB.pr_mk, PB.out_mk]
    rw [h]
    dsimp only [Tok.ty_mk, Tok.st_mk, Tok.nx_mk, Tok.val_mk, PA.i_mk, PA.due_mk, PA.S_mk, PA.ob_mk, PA.on_mk, PA.pr_mk, PA.out_mk, PB.i_mk, PB.ob_mk, PB.nt_mk, PB.pr_mk, PB.out_mk]
    exact if_neg (by omega)
  · intro b n1 n2 n3
    refine mk6 (fun k S t hk => ⟨_, .rf _, rfl, ?_⟩)
    by_cases hf : ts b.i = .fin
    · exact Or.inl ⟨hf, Or.inl rfl⟩
    · refine Or.inr ⟨hf, ?_⟩
      unfold stepA
      dsimp only [Tok.ty_mk, Tok.st_mk, Tok.nx_mk, Tok.val_mk, PA.i_mk, PA.due_mk, PA.S_mk, PA.ob_mk, PA.on_mk, PA.pr_mk, PA.out_mk, PB.i_mk, PB.ob_mk, PB.nt_mk, PB.pr_mk, PB.out_mk]
      rcases ht : ts b.i with s | _ | _ | _ | _ | _ | _
      · exact absurd ht (n1 s)
      · rfl
      · exact absurd ht n2
      · exact absurd ht n3
      · rfl
      · rfl
      · rfl
/-- a whole TEXT: both read it alike -/
noncomputable def ALL (ts : Nat → Tk) (i0 : Nat) : PR → Prop
  | .inr i => ∃ a, goA ts ⟨i0, true, [], 0, 0, 0, []⟩ a ∧ ftA ts a i
  | .inl b => ∃ a, goA ts ⟨i0, true, [], 0, 0, 0, []⟩ a ∧ (ts b.i ≠ .fin → ftA ts a b.i) ∧ (ts b.i = .fin → a.i = b.i ∧ a.due = false ∧ a.ob = 0 ∧ a.pr = b.pr ∧ settle 1 a.S a.out = ([], b.out))
theorem prs_all {ts : Nat → Tk} (hts : ∀ i b, ts i = .op b → 1 ≤ bnd b) {i0 : Nat} {r : PR} (h : prs ts false 1 ⟨i0, 0, 0, 0, []⟩ r) : ALL ts i0 r := by
  have k : AL ts 1 ⟨i0, 0, 0, 0, []⟩ r := by
    have := prs_al hts h
    unfold GA at this
    rw [if_neg (by decide), if_neg (by decide)] at this
    exact this
  cases r with
  | inr i => exact k [] (by decide) (by simp [Tok.ty_mk, Tok.st_mk, Tok.nx_mk, Tok.val_mk, PA.i_mk, PA.due_mk, PA.S_mk, PA.ob_mk, PA.on_mk, PA.pr_mk, PA.out_mk, PB.i_mk, PB.ob_mk, PB.nt_mk, PB.pr_mk, PB.out_mk])
  | inl b =>
    obtain ⟨P, o, g, e1, e2, e3, e4, e5⟩ := k [] (by decide) (by simp [Tok.ty_mk, Tok.st_mk, Tok.nx_mk, Tok.val_mk, PA.i_mk, PA.due_mk, PA.S_mk, PA.ob_mk, PA.on_mk, PA.pr_mk, PA.out_mk, PB.i_mk, PB.ob_mk, PB.nt_mk, PB.pr_mk, PB.out_mk])
    refine ⟨_, g, fun hf => ⟨rfl, Or.inr ⟨hf, ?_⟩⟩, fun _ => ⟨rfl, rfl, rfl, rfl, ?_⟩⟩
    · unfold stepA
      dsimp only [Tok.ty_mk, Tok.st_mk, Tok.nx_mk, Tok.val_mk, PA.i_mk, PA.due_mk, PA.S_mk, PA.ob_mk, PA.on_mk, PA.pr_mk, PA.out_mk, PB.i_mk, PB.ob_mk, PB.nt_mk, PB.pr_mk, PB.out_mk]
      rcases ht : ts b.i with _ | c | _ | _ | _ | _ | _
      · rfl
      ·
        dsimp only [Tok.ty_mk, Tok.st_mk, Tok.nx_mk, Tok.val_mk, PA.i_mk, PA.due_mk, PA.S_mk, PA.ob_mk, PA.on_mk, PA.pr_mk, PA.out_mk, PB.i_mk, PB.ob_mk, PB.nt_mk, PB.pr_mk, PB.out_mk]
        rcases e5 c ht with k | ⟨k3, P2, d, P3, rfl, q2, q3⟩
        · have := hts _ _ ht; omega
        · rw [if_pos k3, List.append_assoc, List.cons_append, settle_app q2 (by show bnd d < 4; omega), if_pos ⟨k3, q3⟩]
      · rfl
      · rfl
      · rfl
      · rfl
      · rfl
    · rw [e3]
      exact settle_app e4 (by decide)
/-! The class's piles of signs and steps. -/
noncomputable def PLr (f : Int32 → Int32) : List Int → Prop
  | [] => True
  | b :: S => (f (nI S.length)).toInt = b ∧ PLr f S
theorem PLr.cg {f g : Int32 → Int32} : ∀ {S : List Int}, PLr f S → (∀ j, j < S.length → g (nI j) = f (nI j)) → PLr g S
  | [], _, _ => trivial
  | b :: S, h, e => ⟨by rw [e _ (Nat.lt_succ_self _)]; exact h.1, PLr.cg h.2 (fun j hj => e j (Nat.lt_succ_of_lt hj))⟩
/-- signs and steps that lie there, the newest first -/
noncomputable abbrev SG (h : Hp) (S out : List Int) : Prop := (h.1 58 1 = nI S.length) ∧ (PLr (h.1 59) S) ∧ (h.1 56 1 = nI out.length) ∧ (PLr (h.1 57) out) ∧ (S.length + out.length ≤ 96)
theorem SG.s1 {h : Hp} {S out : List Int} (self_ : SG h S out) : h.1 58 1 = nI S.length := self_.1
theorem SG.s2 {h : Hp} {S out : List Int} (self_ : SG h S out) : PLr (h.1 59) S := self_.2.1
theorem SG.o1 {h : Hp} {S out : List Int} (self_ : SG h S out) : h.1 56 1 = nI out.length := self_.2.2.1
theorem SG.o2 {h : Hp} {S out : List Int} (self_ : SG h S out) : PLr (h.1 57) out := self_.2.2.2.1
theorem SG.ln {h : Hp} {S out : List Int} (self_ : SG h S out) : S.length + out.length ≤ 96 := self_.2.2.2.2
noncomputable def frG (h h' : Hp) : Prop := (∀ o (j : Int32), ¬ (o = 56 ∧ j = 1 ∨ o = 57 ∨ o = 58 ∧ j = 1 ∨ o = 59) → h'.1 o j = h.1 o j) ∧ h'.2 = h.2
theorem frG_rf {h : Hp} : frG h h := ⟨fun _ _ _ => rfl, rfl⟩
theorem frG.tr {h h1 h2 : Hp} (a : frG h h1) (b : frG h1 h2) : frG h h2 := ⟨fun o j q => (b.1 o j q).trans (a.1 o j q), b.2.trans a.2⟩
theorem frG.st {h h1 : Hp} {o : Nat} {j v : Int32} (f : frG h h1) (hj : o = 56 ∧ j = 1 ∨ o = 57 ∨ o = 58 ∧ j = 1 ∨ o = 59) : frG h (hI h1 o j v) := by
  refine ⟨fun a k hn => ?_, f.2⟩
  show (if a = o ∧ k = j then v else h1.1 a k) = _
  rw [if_neg (fun (q : a = o ∧ k = j) => hn (by rw [q.1, q.2]; exact hj))]
  exact f.1 a k hn
theorem SG.cg {h h1 : Hp} {S out : List Int} (g : SG h S out) (e1 : h1.1 58 1 = h.1 58 1) (e2 : ∀ j, h1.1 59 j = h.1 59 j) (e3 : h1.1 56 1 = h.1 56 1) (e4 : ∀ j, h1.1 57 j = h.1 57 j) : SG h1 S out := ⟨e1.trans g.s1, g.s2.cg (fun j _ => e2 _), e3.trans g.o1, g.o2.cg (fun j _ => e4 _), g.ln⟩
theorem SG.sm {h : Hp} {S out : List Int} (g : SG h S out) : h.1 58 1 ≤ 96 := by
  have := g.ln
  rw [g.s1]
  exact (tx_le (b := 96) (by omega) (by omega)).mpr (by omega)
theorem PLr.wr {f : Int32 → Int32} {S : List Int} {v : Int32} (h : PLr f S) (hl : S.length < 4000) : PLr (fun j => if j = nI S.length then v else f j) (v.toInt :: S) := by
  refine ⟨by show (if nI S.length = nI S.length then v else _).toInt = _; rw [if_pos rfl], h.cg (fun j hj => ?_)⟩
  show (if nI j = nI S.length then v else f (nI j)) = _
  rw [if_neg (fun q => by have := (nIle_eq (by omega) (by omega)).mp q; omega)]
theorem nI_m1 {a : Nat} : nI (a + 1) - 1 = nI a := by
  apply Int32.toInt_inj.mp
  rw [← tx_1]
  congr 1
  apply Int32.toBitVec_inj.mp
  simp [Tok.ty_mk, Tok.st_mk, Tok.nx_mk, Tok.val_mk, PA.i_mk, PA.due_mk, PA.S_mk, PA.ob_mk, PA.on_mk, PA.pr_mk, PA.out_mk, PB.i_mk, PB.ob_mk, PB.nt_mk, PB.pr_mk, PB.out_mk]
theorem bnd_nI {b : Int} : nI (bnd b) = if b = 124 then 1 else if b = 38 then 2 else if b = 60 ∨ b = 61 ∨ b = 62 then 3 else if b = 43 ∨ b = 45 then 4 else if b = 42 ∨ b = 47 then 5 else 0 := by
  unfold bnd
  split
  · rfl
  · split
    · rfl
    · split
      · rfl
      · split
        · rfl
        · split <;> rfl
theorem tx_m1 {x : Int32} (a : 0 < x) (b : x ≤ 96) : ibd (x - 1) 96 := by
  rw [Int32.lt_iff_toInt_lt] at a
  rw [Int32.le_iff_toInt_le] at b
  have c0 : (0 : Int32).toInt = 0 := rfl
  have c1 : (1 : Int32).toInt = 1 := rfl
  have c96 : (96 : Int32).toInt = 96 := rfl
  have e : (x - 1).toInt = x.toInt - 1 := by rw [Int32.toInt_sub, c1, b32 (by omega) (by omega)]
  refine ⟨by rw [Int32.le_iff_toInt_le]; omega, ?_⟩
  show x - 1 < (96 : Int32)
  rw [Int32.lt_iff_toInt_lt]
  omega
theorem bnd_i (b : Int32) : nI (bnd b.toInt) = if b = 124 then 1 else if b = 38 then 2 else if b = 60 ∨ b = 61 ∨ b = 62 then 3 else if b = 43 ∨ b = 45 then 4 else if b = 42 ∨ b = 47 then 5 else 0 := by
  have e124 : b.toInt = 124 ↔ b = 124 := Int32.toInt_inj (x := b) (y := 124)
  have e38 : b.toInt = 38 ↔ b = 38 := Int32.toInt_inj (x := b) (y := 38)
  have e60 : b.toInt = 60 ↔ b = 60 := Int32.toInt_inj (x := b) (y := 60)
  have e61 : b.toInt = 61 ↔ b = 61 := Int32.toInt_inj (x := b) (y := 61)
  have e62 : b.toInt = 62 ↔ b = 62 := Int32.toInt_inj (x := b) (y := 62)
  have e43 : b.toInt = 43 ↔ b = 43 := Int32.toInt_inj (x := b) (y := 43)
  have e45 : b.toInt = 45 ↔ b = 45 := Int32.toInt_inj (x := b) (y := 45)
  have e42 : b.toInt = 42 ↔ b = 42 := Int32.toInt_inj (x := b) (y := 42)
  have e47 : b.toInt = 47 ↔ b = 47 := Int32.toInt_inj (x := b) (y := 47)
  rw [bnd_nI]
  simp only [Tok.ty_mk, Tok.st_mk, Tok.nx_mk, Tok.val_mk, PA.i_mk, PA.due_mk, PA.S_mk, PA.ob_mk, PA.on_mk, PA.pr_mk, PA.out_mk, PB.i_mk, PB.ob_mk, PB.nt_mk, PB.pr_mk, PB.out_mk, e124, e38, e60, e61, e62, e43, e45, e42, e47]
theorem c_push58 {d : Nat} {Q : Option Value → Hp → Prop} {h : Hp} {v : Int32} (a0 : 0 ≤ h.1 58 1) (a1 : h.1 58 1 < 96) (k : Q none (hI (hI h 59 (h.1 58 1) v) 58 1 (h.1 58 1 + 1))) : Call (d + 1) 23 [.ref 58, .int v] h Q := by
  have e96 : nI 96 = 96 := rfl
  refine call_of (rfl : psM[23]? = some _) rfl rfl (rcvV rfl) (fun X hX => ?_)
  show X (0, [some (.ref 58), some (.int v)], [], h)
  refine go hX 3 (gs := [True, True, True]) (z' := (if (h.1 58 1) < 0 then 19 else 7, [some (.ref 58), some (.int v)], [], h)) rfl ⟨trivial, trivial, trivial, trivial⟩ ?_
  refine br (fun b1 => ?_) (fun b1 => ?_)
  ·
    refine rt_ hX (G := True) (r := none) rfl trivial ?_
    exfalso; grind
  ·
    refine go hX 6 (gs := [True, True, True, True, True, True]) (z' := (if (h.1 58 1) < (nI 96) then 20 else 19, [some (.ref 58), some (.int v)], [], h)) rfl ⟨trivial, trivial, trivial, trivial, trivial, trivial, trivial⟩ ?_
    refine br (fun b2 => ?_) (fun b2 => ?_)
    ·
      refine go hX 12 (gs := [True, True, True, True, True, True, ibd (h.1 58 1) 96, True, True, True, True, True]) (z' := (40, [some (.ref 58), some (.int v)], [], (hI (hI h 59 (h.1 58 1) v) 58 1 ((h.1 58 1) + 1)))) rfl ⟨trivial, trivial, trivial, trivial, trivial, trivial, ?_, trivial, trivial, trivial, trivial, trivial, trivial⟩ ?_
      · exact ibd_of (B := 96) rfl a0 a1
      refine rt_ hX (G := True) (r := none) rfl trivial ?_
      exact k
    ·
      refine rt_ hX (G := True) (r := none) rfl trivial ?_
      exfalso; grind
theorem c_push56 {d : Nat} {Q : Option Value → Hp → Prop} {h : Hp} {v : Int32} (a0 : 0 ≤ h.1 56 1) (a1 : h.1 56 1 < 96) (k : Q none (hI (hI h 57 (h.1 56 1) v) 56 1 (h.1 56 1 + 1))) : Call (d + 1) 23 [.ref 56, .int v] h Q := by
  have e96 : nI 96 = 96 := rfl
  refine call_of (rfl : psM[23]? = some _) rfl rfl (rcvV rfl) (fun X hX => ?_)
  show X (0, [some (.ref 56), some (.int v)], [], h)
  refine go hX 3 (gs := [True, True, True]) (z' := (if (h.1 56 1) < 0 then 19 else 7, [some (.ref 56), some (.int v)], [], h)) rfl ⟨trivial, trivial, trivial, trivial⟩ ?_
  refine br (fun b1 => ?_) (fun b1 => ?_)
  ·
    refine rt_ hX (G := True) (r := none) rfl trivial ?_
    exfalso; grind
  ·
    refine go hX 6 (gs := [True, True, True, True, True, True]) (z' := (if (h.1 56 1) < (nI 96) then 20 else 19, [some (.ref 56), some (.int v)], [], h)) rfl ⟨trivial, trivial, trivial, trivial, trivial, trivial, trivial⟩ ?_
    refine br (fun b2 => ?_) (fun b2 => ?_)
    ·
      refine go hX 12 (gs := [True, True, True, True, True, True, ibd (h.1 56 1) 96, True, True, True, True, True]) (z' := (40, [some (.ref 56), some (.int v)], [], (hI (hI h 57 (h.1 56 1) v) 56 1 ((h.1 56 1) + 1)))) rfl ⟨trivial, trivial, trivial, trivial, trivial, trivial, ?_, trivial, trivial, trivial, trivial, trivial, trivial⟩ ?_
      · exact ibd_of (B := 96) rfl a0 a1
      refine rt_ hX (G := True) (r := none) rfl trivial ?_
      exact k
    ·
      refine rt_ hX (G := True) (r := none) rfl trivial ?_
      exfalso; grind
theorem c_top {d : Nat} {Q : Option Value → Hp → Prop} {h : Hp} (sm : h.1 58 1 ≤ 96) (k1 : ¬ h.1 58 1 ≤ 0 → Q (some (.int (h.1 59 (h.1 58 1 - 1)))) h) (k0 : h.1 58 1 ≤ 0 → Q (some (.int 0)) h) : Call (d + 1) 25 [.ref 58] h Q := by
  have e96 : nI 96 = 96 := rfl
  refine call_of (rfl : psM[25]? = some _) rfl rfl (rcvV rfl) (fun X hX => ?_)
  show X (0, [some (.ref 58)], [], h)
  refine go hX 3 (gs := [True, True, True]) (z' := (if (h.1 58 1) ≤ 0 then 33 else 7, [some (.ref 58)], [], h)) rfl ⟨trivial, trivial, trivial, trivial⟩ ?_
  refine br (fun b1 => ?_) (fun b1 => ?_)
  ·
    refine go hX 1 (gs := [True]) (z' := (34, [some (.ref 58)], [.int 0], h)) rfl ⟨trivial, trivial⟩ ?_
    refine rt_ hX (G := True) (r := some (.int 0)) rfl trivial ?_
    exact k0 b1
  ·
    refine go hX 6 (gs := [True, True, True, True, True, True]) (z' := (if (nI 96) < (h.1 58 1) then 33 else 19, [some (.ref 58)], [], h)) rfl ⟨trivial, trivial, trivial, trivial, trivial, trivial, trivial⟩ ?_
    refine br (fun b2 => ?_) (fun b2 => ?_)
    ·
      refine go hX 1 (gs := [True]) (z' := (34, [some (.ref 58)], [.int 0], h)) rfl ⟨trivial, trivial⟩ ?_
      refine rt_ hX (G := True) (r := some (.int 0)) rfl trivial ?_
      exfalso; grind
    ·
      refine go hX 8 (gs := [True, ibd ((h.1 58 1) - 1) 96, True, True, True, True, True, True]) (z' := (34, [some (.ref 58)], [.int (h.1 59 ((h.1 58 1) - 1))], h)) rfl ⟨trivial, ?_, trivial, trivial, trivial, trivial, trivial, trivial, trivial⟩ ?_
      · exact tx_m1 (Int32.not_le.mp b1) sm
      refine rt_ hX (G := True) (r := some (.int (h.1 59 ((h.1 58 1) - 1)))) rfl trivial ?_
      exact k1 b1
theorem c_pop {d : Nat} {Q : Option Value → Hp → Prop} {h : Hp} (a0 : 0 < h.1 58 1) (sm : h.1 58 1 ≤ 96) (k : Q (some (.int (h.1 59 (h.1 58 1 - 1)))) (hI h 58 1 (h.1 58 1 - 1))) : Call (d + 1) 26 [.ref 58] h Q := by
  have e96 : nI 96 = 96 := rfl
  refine call_of (rfl : psM[26]? = some _) rfl rfl (rcvV rfl) (fun X hX => ?_)
  show X (0, [some (.ref 58)], [], h)
  refine go hX 3 (gs := [True, True, True]) (z' := (if (h.1 58 1) ≤ 0 then 19 else 7, [some (.ref 58)], [], h)) rfl ⟨trivial, trivial, trivial, trivial⟩ ?_
  refine br (fun b1 => ?_) (fun b1 => ?_)
  ·
    refine go hX 1 (gs := [True]) (z' := (20, [some (.ref 58)], [.int 0], h)) rfl ⟨trivial, trivial⟩ ?_
    refine rt_ hX (G := True) (r := some (.int 0)) rfl trivial ?_
    exfalso; grind
  ·
    refine go hX 6 (gs := [True, True, True, True, True, True]) (z' := (if (h.1 58 1) ≤ (nI 96) then 21 else 19, [some (.ref 58)], [], h)) rfl ⟨trivial, trivial, trivial, trivial, trivial, trivial, trivial⟩ ?_
    refine br (fun b2 => ?_) (fun b2 => ?_)
    ·
      refine go hX 11 (gs := [ibd ((h.1 58 1) - 1) 96, True, True, True, True, True, True, True, True, True, True]) (z' := (40, [some (.ref 58)], [.int (h.1 59 ((h.1 58 1) - 1))], (hI h 58 1 ((h.1 58 1) - 1)))) rfl ⟨?_, trivial, trivial, trivial, trivial, trivial, trivial, trivial, trivial, trivial, trivial, trivial⟩ ?_
      · exact tx_m1 a0 sm
      refine rt_ hX (G := True) (r := some (.int (h.1 59 ((h.1 58 1) - 1)))) rfl trivial ?_
      exact k
    ·
      refine go hX 1 (gs := [True]) (z' := (20, [some (.ref 58)], [.int 0], h)) rfl ⟨trivial, trivial⟩ ?_
      refine rt_ hX (G := True) (r := some (.int 0)) rfl trivial ?_
      exfalso; grind
theorem c_binds {d : Nat} {Q : Option Value → Hp → Prop} {h : Hp} {b : Int32} (k : Q (some (.int (nI (bnd b.toInt)))) h) : Call (d + 1) 47 [.int b] h Q := by
  refine call_of (rfl : psM[47]? = some _) rfl rfl (rcvS rfl) (fun X hX => ?_)
  show X (0, [some (.int b)], [], h)
  refine go hX 2 (gs := [True, True]) (z' := (if b = 38 then 86 else if b = 42 then 92 else if b = 43 then 90 else if b = 45 then 90 else if b = 47 then 92 else if b = 60 then 88 else if b = 61 then 88 else if b = 62 then 88 else if b = 124 then 84 else 94, [some (.int b)], [], h)) rfl ⟨trivial, trivial, trivial⟩ ?_
  refine br (fun b1 => ?_) (fun b1 => ?_)
  ·
    refine go hX 1 (gs := [True]) (z' := (87, [some (.int b)], [.int 2], h)) rfl ⟨trivial, trivial⟩ ?_
    refine rt_ hX (G := True) (r := some (.int 2)) rfl trivial ?_
    rw [bnd_i] at k
    simpa [Tok.ty_mk, Tok.st_mk, Tok.nx_mk, Tok.val_mk, PA.i_mk, PA.due_mk, PA.S_mk, PA.ob_mk, PA.on_mk, PA.pr_mk, PA.out_mk, PB.i_mk, PB.ob_mk, PB.nt_mk, PB.pr_mk, PB.out_mk, b1] using k
  ·
    refine br (fun b2 => ?_) (fun b2 => ?_)
    ·
      refine go hX 1 (gs := [True]) (z' := (93, [some (.int b)], [.int 5], h)) rfl ⟨trivial, trivial⟩ ?_
      refine rt_ hX (G := True) (r := some (.int 5)) rfl trivial ?_
      rw [bnd_i] at k
      simpa [Tok.ty_mk, Tok.st_mk, Tok.nx_mk, Tok.val_mk, PA.i_mk, PA.due_mk, PA.S_mk, PA.ob_mk, PA.on_mk, PA.pr_mk, PA.out_mk, PB.i_mk, PB.ob_mk, PB.nt_mk, PB.pr_mk, PB.out_mk, b1, b2] using k
    ·
      refine br (fun b3 => ?_) (fun b3 => ?_)
      ·
        refine go hX 1 (gs := [True]) (z' := (91, [some (.int b)], [.int 4], h)) rfl ⟨trivial, trivial⟩ ?_
        refine rt_ hX (G := True) (r := some (.int 4)) rfl trivial ?_
        rw [bnd_i] at k
        simpa [Tok.ty_mk, Tok.st_mk, Tok.nx_mk, Tok.val_mk, PA.i_mk, PA.due_mk, PA.S_mk, PA.ob_mk, PA.on_mk, PA.pr_mk, PA.out_mk, PB.i_mk, PB.ob_mk, PB.nt_mk, PB.pr_mk, PB.out_mk, b1, b2, b3] using k
      ·
        refine br (fun b4 => ?_) (fun b4 => ?_)
        ·
          refine go hX 1 (gs := [True]) (z' := (91, [some (.int b)], [.int 4], h)) rfl ⟨trivial, trivial⟩ ?_
          refine rt_ hX (G := True) (r := some (.int 4)) rfl trivial ?_
          rw [bnd_i] at k
          simpa [Tok.ty_mk, Tok.st_mk, Tok.nx_mk, Tok.val_mk, PA.i_mk, PA.due_mk, PA.S_mk, PA.ob_mk, PA.on_mk, PA.pr_mk, PA.out_mk, PB.i_mk, PB.ob_mk, PB.nt_mk, PB.pr_mk, PB.out_mk, b1, b2, b3, b4] using k
        ·
          refine br (fun b5 => ?_) (fun b5 => ?_)
          ·
            refine go hX 1 (gs := [True]) (z' := (93, [some (.int b)], [.int 5], h)) rfl ⟨trivial, trivial⟩ ?_
            refine rt_ hX (G := True) (r := some (.int 5)) rfl trivial ?_
            rw [bnd_i] at k
            simpa [Tok.ty_mk, Tok.st_mk, Tok.nx_mk, Tok.val_mk, PA.i_mk, PA.due_mk, PA.S_mk, PA.ob_mk, PA.on_mk, PA.pr_mk, PA.out_mk, PB.i_mk, PB.ob_mk, PB.nt_mk, PB.pr_mk, PB.out_mk, b1, b2, b3, b4, b5] using k
          ·
            refine br (fun b6 => ?_) (fun b6 => ?_)
            ·
              refine go hX 1 (gs := [True]) (z' := (89, [some (.int b)], [.int 3], h)) rfl ⟨trivial, trivial⟩ ?_
              refine rt_ hX (G := True) (r := some (.int 3)) rfl trivial ?_
              rw [bnd_i] at k
              simpa [Tok.ty_mk, Tok.st_mk, Tok.nx_mk, Tok.val_mk, PA.i_mk, PA.due_mk, PA.S_mk, PA.ob_mk, PA.on_mk, PA.pr_mk, PA.out_mk, PB.i_mk, PB.ob_mk, PB.nt_mk, PB.pr_mk, PB.out_mk, b1, b2, b3, b4, b5, b6] using k
            ·
              refine br (fun b7 => ?_) (fun b7 => ?_)
              ·
                refine go hX 1 (gs := [True]) (z' := (89, [some (.int b)], [.int 3], h)) rfl ⟨trivial, trivial⟩ ?_
                refine rt_ hX (G := True) (r := some (.int 3)) rfl trivial ?_
                rw [bnd_i] at k
                simpa [Tok.ty_mk, Tok.st_mk, Tok.nx_mk, Tok.val_mk, PA.i_mk, PA.due_mk, PA.S_mk, PA.ob_mk, PA.on_mk, PA.pr_mk, PA.out_mk, PB.i_mk, PB.ob_mk, PB.nt_mk, PB.pr_mk, PB.out_mk, b1, b2, b3, b4, b5, b6, b7] using k
              ·
                refine br (fun b8 => ?_) (fun b8 => ?_)
                ·
                  refine go hX 1 (gs := [True]) (z' := (89, [some (.int b)], [.int 3], h)) rfl ⟨trivial, trivial⟩ ?_
                  refine rt_ hX (G := True) (r := some (.int 3)) rfl trivial ?_
                  rw [bnd_i] at k
                  simpa [Tok.ty_mk, Tok.st_mk, Tok.nx_mk, Tok.val_mk, PA.i_mk, PA.due_mk, PA.S_mk, PA.ob_mk, PA.on_mk, PA.pr_mk, PA.out_mk, PB.i_mk, PB.ob_mk, PB.nt_mk, PB.pr_mk, PB.out_mk, b1, b2, b3, b4, b5, b6, b7, b8] using k
                ·
                  refine br (fun b9 => ?_) (fun b9 => ?_)
                  ·
                    refine go hX 1 (gs := [True]) (z' := (85, [some (.int b)], [.int 1], h)) rfl ⟨trivial, trivial⟩ ?_
                    refine rt_ hX (G := True) (r := some (.int 1)) rfl trivial ?_
                    rw [bnd_i] at k
                    simpa [Tok.ty_mk, Tok.st_mk, Tok.nx_mk, Tok.val_mk, PA.i_mk, PA.due_mk, PA.S_mk, PA.ob_mk, PA.on_mk, PA.pr_mk, PA.out_mk, PB.i_mk, PB.ob_mk, PB.nt_mk, PB.pr_mk, PB.out_mk, b1, b2, b3, b4, b5, b6, b7, b8, b9] using k
                  ·
                    refine go hX 1 (gs := [True]) (z' := (95, [some (.int b)], [.int 0], h)) rfl ⟨trivial, trivial⟩ ?_
                    refine rt_ hX (G := True) (r := some (.int 0)) rfl trivial ?_
                    rw [bnd_i] at k
                    simpa [Tok.ty_mk, Tok.st_mk, Tok.nx_mk, Tok.val_mk, PA.i_mk, PA.due_mk, PA.S_mk, PA.ob_mk, PA.on_mk, PA.pr_mk, PA.out_mk, PB.i_mk, PB.ob_mk, PB.nt_mk, PB.pr_mk, PB.out_mk, b1, b2, b3, b4, b5, b6, b7, b8, b9] using k
theorem SG.top {d : Nat} {Q : Option Value → Hp → Prop} {h : Hp} {S out : List Int} (g : SG h S out) (k : ∀ v : Int32, v.toInt = S.headD 0 → Q (some (.int v)) h) : Call (d + 1) 25 [.ref 58] h Q := by
  refine c_top g.sm (fun q => ?_) (fun q => ?_)
  · cases S with
    | nil => exact absurd (show h.1 58 1 ≤ 0 by rw [g.s1]; exact Int32.le_refl _) q
    | cons b T =>
      refine k _ ?_
      rw [g.s1]
      show (h.1 59 (nI (T.length + 1) - 1)).toInt = b
      rw [nI_m1]
      exact g.s2.1
  · cases S with
    | nil => exact k 0 rfl
    | cons b T =>
      rw [g.s1] at q
      have := g.ln
      simp only [Tok.ty_mk, Tok.st_mk, Tok.nx_mk, Tok.val_mk, PA.i_mk, PA.due_mk, PA.S_mk, PA.ob_mk, PA.on_mk, PA.pr_mk, PA.out_mk, PB.i_mk, PB.ob_mk, PB.nt_mk, PB.pr_mk, PB.out_mk, List.length_cons] at this
      exact absurd (tx_n0 q (by simp only [Tok.ty_mk, Tok.st_mk, Tok.nx_mk, Tok.val_mk, PA.i_mk, PA.due_mk, PA.S_mk, PA.ob_mk, PA.on_mk, PA.pr_mk, PA.out_mk, PB.i_mk, PB.ob_mk, PB.nt_mk, PB.pr_mk, PB.out_mk, List.length_cons]; omega)) (by simp [Tok.ty_mk, Tok.st_mk, Tok.nx_mk, Tok.val_mk, PA.i_mk, PA.due_mk, PA.S_mk, PA.ob_mk, PA.on_mk, PA.pr_mk, PA.out_mk, PB.i_mk, PB.ob_mk, PB.nt_mk, PB.pr_mk, PB.out_mk])
theorem SG.pop {d : Nat} {Q : Option Value → Hp → Prop} {h : Hp} {b : Int} {T out : List Int} (g : SG h (b :: T) out) (k : ∀ (w : Int32) (h1 : Hp), w.toInt = b → frG h h1 → SG h1 T out → T.length + out.length < 96 → Q (some (.int w)) h1) : Call (d + 1) 26 [.ref 58] h Q := by
  have ln := g.ln
  simp only [Tok.ty_mk, Tok.st_mk, Tok.nx_mk, Tok.val_mk, PA.i_mk, PA.due_mk, PA.S_mk, PA.ob_mk, PA.on_mk, PA.pr_mk, PA.out_mk, PB.i_mk, PB.ob_mk, PB.nt_mk, PB.pr_mk, PB.out_mk, List.length_cons] at ln
  have e : h.1 58 1 - 1 = nI T.length := by rw [g.s1]; exact nI_m1
  refine c_pop ?_ g.sm ?_
  · rw [g.s1, Int32.lt_iff_toInt_lt, nI_i (by simp only [Tok.ty_mk, Tok.st_mk, Tok.nx_mk, Tok.val_mk, PA.i_mk, PA.due_mk, PA.S_mk, PA.ob_mk, PA.on_mk, PA.pr_mk, PA.out_mk, PB.i_mk, PB.ob_mk, PB.nt_mk, PB.pr_mk, PB.out_mk, List.length_cons]; omega)]
    show (0 : Int) < _
    simp only [Tok.ty_mk, Tok.st_mk, Tok.nx_mk, Tok.val_mk, PA.i_mk, PA.due_mk, PA.S_mk, PA.ob_mk, PA.on_mk, PA.pr_mk, PA.out_mk, PB.i_mk, PB.ob_mk, PB.nt_mk, PB.pr_mk, PB.out_mk, List.length_cons]
    omega
  · rw [e]
    refine k _ _ g.s2.1 (frG_rf.st (Or.inr (Or.inr (Or.inl ⟨rfl, rfl⟩)))) ⟨hI_eq, ?_, ?_, ?_, by omega⟩ (by omega)
    · exact g.s2.2.cg (fun j _ => hI_ne (by decide))
    · rw [hI_ne (by decide)]; exact g.o1
    · exact g.o2.cg (fun j _ => hI_ne (by decide))
theorem tx_96 {a : Nat} (h : a < 96) : 0 ≤ nI a ∧ nI a < 96 := by
  refine ⟨tx_0 a (by omega), ?_⟩
  rw [Int32.lt_iff_toInt_lt, nI_i (by omega)]
  show _ < (96 : Int)
  omega
theorem SG.psh56 {d : Nat} {Q : Option Value → Hp → Prop} {h : Hp} {v : Int32} {S out : List Int} (g : SG h S out) (l : S.length + out.length < 96) (k : ∀ h1, frG h h1 → SG h1 S (v.toInt :: out) → Q none h1) : Call (d + 1) 23 [.ref 56, .int v] h Q := by
  have b := tx_96 (a := out.length) (by omega)
  refine c_push56 (by rw [g.o1]; exact b.1) (by rw [g.o1]; exact b.2) ?_
  rw [g.o1, tx_1]
  refine k _ ((frG_rf.st (Or.inr (Or.inl rfl))).st (Or.inl ⟨rfl, rfl⟩)) ⟨?_, ?_, hI_eq, ?_, by simp only [Tok.ty_mk, Tok.st_mk, Tok.nx_mk, Tok.val_mk, PA.i_mk, PA.due_mk, PA.S_mk, PA.ob_mk, PA.on_mk, PA.pr_mk, PA.out_mk, PB.i_mk, PB.ob_mk, PB.nt_mk, PB.pr_mk, PB.out_mk, List.length_cons]; omega⟩
  · rw [hI_ne (by decide), hI_ne (by decide)]; exact g.s1
  · exact g.s2.cg (fun j _ => (hI_ne (by decide)).trans (hI_ne (by decide)))
  · refine (g.o2.wr (v := v) (by omega)).cg (fun j hj => ?_)
    rw [hI_ne (by decide)]
    show (if 57 = 57 ∧ nI j = nI out.length then v else h.1 57 (nI j)) = if nI j = nI out.length then v else h.1 57 (nI j)
    simp [Tok.ty_mk, Tok.st_mk, Tok.nx_mk, Tok.val_mk, PA.i_mk, PA.due_mk, PA.S_mk, PA.ob_mk, PA.on_mk, PA.pr_mk, PA.out_mk, PB.i_mk, PB.ob_mk, PB.nt_mk, PB.pr_mk, PB.out_mk]
theorem SG.psh58 {d : Nat} {Q : Option Value → Hp → Prop} {h : Hp} {v : Int32} {S out : List Int} (g : SG h S out) (l : S.length + out.length < 96) (k : ∀ h1, frG h h1 → SG h1 (v.toInt :: S) out → Q none h1) : Call (d + 1) 23 [.ref 58, .int v] h Q := by
  have b := tx_96 (a := S.length) (by omega)
  refine c_push58 (by rw [g.s1]; exact b.1) (by rw [g.s1]; exact b.2) ?_
  rw [g.s1, tx_1]
  refine k _ ((frG_rf.st (Or.inr (Or.inr (Or.inr rfl)))).st (Or.inr (Or.inr (Or.inl ⟨rfl, rfl⟩)))) ⟨hI_eq, ?_, ?_, ?_, by simp only [Tok.ty_mk, Tok.st_mk, Tok.nx_mk, Tok.val_mk, PA.i_mk, PA.due_mk, PA.S_mk, PA.ob_mk, PA.on_mk, PA.pr_mk, PA.out_mk, PB.i_mk, PB.ob_mk, PB.nt_mk, PB.pr_mk, PB.out_mk, List.length_cons]; omega⟩
  · refine (g.s2.wr (v := v) (by omega)).cg (fun j hj => ?_)
    rw [hI_ne (by decide)]
    show (if 59 = 59 ∧ nI j = nI S.length then v else h.1 59 (nI j)) = if nI j = nI S.length then v else h.1 59 (nI j)
    simp [Tok.ty_mk, Tok.st_mk, Tok.nx_mk, Tok.val_mk, PA.i_mk, PA.due_mk, PA.S_mk, PA.ob_mk, PA.on_mk, PA.pr_mk, PA.out_mk, PB.i_mk, PB.ob_mk, PB.nt_mk, PB.pr_mk, PB.out_mk]
  · rw [hI_ne (by decide), hI_ne (by decide)]; exact g.o1
  · exact g.o2.cg (fun j _ => (hI_ne (by decide)).trans (hI_ne (by decide)))
theorem sg_i {w : Int32} (h : 0 ≤ w.toInt) (h1 : w.toInt ≤ 255) : (20000 + w).toInt = sg w.toInt := by
  have c : (20000 : Int32).toInt = 20000 := rfl
  rw [Int32.toInt_add, c, b32 (by omega) (by omega)]
  rfl
/-- signs are bytes -/
noncomputable def SB (S : List Int) : Prop := ∀ x ∈ S, 0 ≤ x ∧ x ≤ 255
theorem tx_lt {a b : Nat} (ha : a ≤ 4000) (hb : b ≤ 4000) : nI a < nI b ↔ a < b := by
  rw [Int32.lt_iff_toInt_lt, nI_i (by omega), nI_i (by omega)]
  omega
/-- but for piles and such cells of the reader all is as it was -/
noncomputable def frRd (J : List Int32) (h h' : Hp) : Prop := (∀ o (j : Int32), ¬ (o = 56 ∧ j = 1 ∨ o = 57 ∨ o = 58 ∧ j = 1 ∨ o = 59 ∨ o = 55 ∧ j ∈ J) → h'.1 o j = h.1 o j) ∧ h'.2 = h.2
section FRX
variable {J : List Int32} {h h1 h2 : Hp}
theorem frRd_rf : frRd J h h := ⟨fun _ _ _ => rfl, rfl⟩
theorem frRd.tr (a : frRd J h h1) (b : frRd J h1 h2) : frRd J h h2 := ⟨fun o j q => (b.1 o j q).trans (a.1 o j q), b.2.trans a.2⟩
theorem frRd.st {j v : Int32} (f : frRd J h h1) (hj : j ∈ J) : frRd J h (hI h1 55 j v) := by
  refine ⟨fun a k hn => ?_, f.2⟩
  show (if a = 55 ∧ k = j then v else h1.1 a k) = _
  rw [if_neg (fun (q : a = 55 ∧ k = j) => hn (by rw [q.1, q.2]; exact Or.inr (Or.inr (Or.inr (Or.inr ⟨rfl, hj⟩)))))]
  exact f.1 a k hn
theorem frRd.mo {J' : List Int32} (f : frRd J h h1) (hs : ∀ j, j ∈ J → j ∈ J') : frRd J' h h1 := ⟨fun o j q => f.1 o j (fun r => q (by
  rcases r with r | r | r | r | r
  · exact Or.inl r
  · exact Or.inr (Or.inl r)
  · exact Or.inr (Or.inr (Or.inl r))
  · exact Or.inr (Or.inr (Or.inr (Or.inl r)))
  · exact Or.inr (Or.inr (Or.inr (Or.inr ⟨r.1, hs _ r.2⟩))))), f.2⟩
theorem frG.x (f : frG h h1) : frRd J h h1 := ⟨fun o j q => f.1 o j (fun r => q (by
  rcases r with r | r | r | r
  · exact Or.inl r
  · exact Or.inr (Or.inl r)
  · exact Or.inr (Or.inr (Or.inl r))
  · exact Or.inr (Or.inr (Or.inr (Or.inl r))))), f.2⟩
theorem frRd.at55 (f : frRd J h h1) {j : Int32} (hj : ¬ j ∈ J) : h1.1 55 j = h.1 55 j := f.1 55 j (fun r => by
  rcases r with ⟨r, -⟩ | r | ⟨r, -⟩ | r | ⟨-, r⟩
  · exact absurd r (by decide)
  · exact absurd r (by decide)
  · exact absurd r (by decide)
  · exact absurd r (by decide)
  · exact hj r)
end FRX
theorem frG.at55 {h h1 : Hp} (f : frG h h1) (j : Int32) : h1.1 55 j = h.1 55 j := f.1 55 j (fun r => by rcases r with ⟨r, -⟩ | r | ⟨r, -⟩ | r <;> exact absurd r (by decide))
theorem SG.w55 {h : Hp} {S out : List Int} {j v : Int32} (g : SG h S out) : SG (hI h 55 j v) S out := g.cg (hI_ne (by decide)) (fun _ => hI_ne (by decide)) (hI_ne (by decide)) (fun _ => hI_ne (by decide))
theorem tx_m1' {a : Nat} (h : a ≤ 4000) : nI (a + 1) + (-1) = nI a := by
  apply Int32.toInt_inj.mp
  have c : (-1 : Int32).toInt = -1 := rfl
  rw [Int32.toInt_add, c, nI_i (by omega), nI_i (by omega), b32 (by omega) (by omega)]
  omega
/-- the class's reader, words and signs apart -/
noncomputable abbrev RdA (h : Hp) (a : PA) : Prop := (SG h a.S a.out) ∧ (SB a.S) ∧ (h.1 55 9 = if a.due = true then 1 else 0) ∧ (h.1 55 10 = nI a.ob) ∧ (h.1 55 11 = nI a.on) ∧ (h.1 55 4 = nI a.pr) ∧ (a.ob ≤ 8) ∧ (a.on ≤ 8) ∧ (a.pr ≤ 4000)
theorem RdA.g {h : Hp} {a : PA} (self_ : RdA h a) : SG h a.S a.out := self_.1
theorem RdA.sb {h : Hp} {a : PA} (self_ : RdA h a) : SB a.S := self_.2.1
theorem RdA.du {h : Hp} {a : PA} (self_ : RdA h a) : h.1 55 9 = if a.due = true then 1 else 0 := self_.2.2.1
theorem RdA.ob {h : Hp} {a : PA} (self_ : RdA h a) : h.1 55 10 = nI a.ob := self_.2.2.2.1
theorem RdA.on {h : Hp} {a : PA} (self_ : RdA h a) : h.1 55 11 = nI a.on := self_.2.2.2.2.1
theorem RdA.pr {h : Hp} {a : PA} (self_ : RdA h a) : h.1 55 4 = nI a.pr := self_.2.2.2.2.2.1
theorem RdA.b1 {h : Hp} {a : PA} (self_ : RdA h a) : a.ob ≤ 8 := self_.2.2.2.2.2.2.1
theorem RdA.b2 {h : Hp} {a : PA} (self_ : RdA h a) : a.on ≤ 8 := self_.2.2.2.2.2.2.2.1
theorem RdA.b3 {h : Hp} {a : PA} (self_ : RdA h a) : a.pr ≤ 4000 := self_.2.2.2.2.2.2.2.2
theorem settle_lp {d : Nat} {Q : Option Value → Hp → Prop} {X : Cf → Prop} (hX : Clo (Call (d + 1)) cd46 none Q X) {L : Nat} (hL : 1 ≤ L) (hL5 : L ≤ 5) : ∀ {S : List Int} {h : Hp} {out : List Int} {k : Nat}, SG h S out → SB S → S.length + k ≤ 96 → (∀ h', frG h h' → SG h' (settle L S out).1 (settle L S out).2 → Q none h') → X (2, [some (.ref 55), some (.int (nI L)), some (.int (nI k))], [], h) := by
  intro S
  induction S with
  | nil =>
    intro h out k g sb hl kk
    refine go hX 3 (gs := [True, True, True]) (z' := (if 96 ≤ (nI k) then 46 else 8, [some (.ref 55), some (.int (nI L)), some (.int (nI k))], [], h)) rfl ⟨trivial, trivial, trivial, trivial⟩ ?_
    refine br (fun b1 => ?_) (fun b1 => ?_)
    ·
      refine rt_ hX (G := True) (r := none) rfl trivial ?_
      exact kk h frG_rf g
    ·
      refine go hX 2 (gs := [True, True]) (z' := (12, [some (.ref 55), some (.int (nI L)), some (.int (nI k))], [.ref 58], h)) rfl ⟨trivial, trivial, trivial⟩ ?_
      refine cl hX 25 1 [.ref 58] [] rfl rfl rfl rfl ?_
      refine g.top (fun v2 hv2 => ?_)
      show X (15, [some (.ref 55), some (.int (nI L)), some (.int (nI k))], [.int v2], h)
      refine cl hX 47 1 [.int v2] [] rfl rfl rfl rfl ?_
      refine c_binds ?_
      show X (18, [some (.ref 55), some (.int (nI L)), some (.int (nI k))], [.int (nI (bnd v2.toInt))], h)
      refine go hX 2 (gs := [True, True]) (z' := (if (nI (bnd v2.toInt)) < (nI L) then 46 else 22, [some (.ref 55), some (.int (nI L)), some (.int (nI k))], [], h)) rfl ⟨trivial, trivial, trivial⟩ ?_
      refine br (fun b3 => ?_) (fun b3 => ?_)
      ·
        refine rt_ hX (G := True) (r := none) rfl trivial ?_
        exact kk h frG_rf g
      ·
        refine go hX 5 (gs := [True, True, True, True, True]) (z' := (33, [some (.ref 55), some (.int (nI L)), some (.int (nI k))], [.ref 58, .int 20000, .ref 56], h)) rfl ⟨trivial, trivial, trivial, trivial, trivial, trivial⟩ ?_
        refine cl hX 26 1 [.ref 58] [.int 20000, .ref 56] rfl rfl rfl rfl ?_
        exact absurd (show bnd v2.toInt < L by rw [hv2]; exact hL) (fun q => b3 ((tx_lt (by have := bnd_le v2.toInt; omega) (by omega)).mpr q))
  | cons b T ih =>
    intro h out k g sb hl kk
    refine go hX 3 (gs := [True, True, True]) (z' := (if 96 ≤ (nI k) then 46 else 8, [some (.ref 55), some (.int (nI L)), some (.int (nI k))], [], h)) rfl ⟨trivial, trivial, trivial, trivial⟩ ?_
    refine br (fun b1 => ?_) (fun b1 => ?_)
    ·
      refine rt_ hX (G := True) (r := none) rfl trivial ?_
      exact absurd ((tx_le (a := 96) (by decide) (by omega)).mp b1) (by simp only [Tok.ty_mk, Tok.st_mk, Tok.nx_mk, Tok.val_mk, PA.i_mk, PA.due_mk, PA.S_mk, PA.ob_mk, PA.on_mk, PA.pr_mk, PA.out_mk, PB.i_mk, PB.ob_mk, PB.nt_mk, PB.pr_mk, PB.out_mk, List.length_cons] at hl; omega)
    ·
      refine go hX 2 (gs := [True, True]) (z' := (12, [some (.ref 55), some (.int (nI L)), some (.int (nI k))], [.ref 58], h)) rfl ⟨trivial, trivial, trivial⟩ ?_
      refine cl hX 25 1 [.ref 58] [] rfl rfl rfl rfl ?_
      refine g.top (fun v2 hv2 => ?_)
      show X (15, [some (.ref 55), some (.int (nI L)), some (.int (nI k))], [.int v2], h)
      refine cl hX 47 1 [.int v2] [] rfl rfl rfl rfl ?_
      refine c_binds ?_
      show X (18, [some (.ref 55), some (.int (nI L)), some (.int (nI k))], [.int (nI (bnd v2.toInt))], h)
      refine go hX 2 (gs := [True, True]) (z' := (if (nI (bnd v2.toInt)) < (nI L) then 46 else 22, [some (.ref 55), some (.int (nI L)), some (.int (nI k))], [], h)) rfl ⟨trivial, trivial, trivial⟩ ?_
      refine br (fun b3 => ?_) (fun b3 => ?_)
      ·
        refine rt_ hX (G := True) (r := none) rfl trivial ?_
        have q := (tx_lt (by have := bnd_le v2.toInt; omega) (by omega)).mp b3
        rw [hv2] at q
        refine kk h frG_rf ?_
        show SG h (if L ≤ bnd b then settle L T (sg b :: out) else (b :: T, out)).1 (if L ≤ bnd b then settle L T (sg b :: out) else (b :: T, out)).2
        rw [if_neg (by exact Nat.not_le.mpr q)]
        exact g
      ·
        refine go hX 5 (gs := [True, True, True, True, True]) (z' := (33, [some (.ref 55), some (.int (nI L)), some (.int (nI k))], [.ref 58, .int 20000, .ref 56], h)) rfl ⟨trivial, trivial, trivial, trivial, trivial, trivial⟩ ?_
        refine cl hX 26 1 [.ref 58] [.int 20000, .ref 56] rfl rfl rfl rfl ?_
        refine g.pop (fun w h1 hw f1 g1 l1 => ?_)
        show X (36, [some (.ref 55), some (.int (nI L)), some (.int (nI k))], [.int w, .int 20000, .ref 56], h1)
        refine go hX 1 (gs := [True]) (z' := (37, [some (.ref 55), some (.int (nI L)), some (.int (nI k))], [.int (20000 + w), .ref 56], h1)) rfl ⟨trivial, trivial⟩ ?_
        refine cl hX 23 2 [.ref 56, .int (20000 + w)] [] rfl rfl rfl rfl ?_
        refine g1.psh56 l1 (fun h2 f2 g2 => ?_)
        show X (40, [some (.ref 55), some (.int (nI L)), some (.int (nI k))], [], h2)
        refine go hX 2 (gs := [True, True]) (z' := (2, [some (.ref 55), some (.int (nI L)), some (.int ((nI k) + 1))], [], h2)) rfl ⟨trivial, trivial, trivial⟩ ?_
        have q := (not_congr (tx_lt (by have := bnd_le v2.toInt; omega) (by omega))).mp b3
        rw [hv2] at q
        rw [tx_1]
        have e := sg_i (w := w) (by rw [hw]; exact (sb b (List.mem_cons_self ..)).1) (by rw [hw]; exact (sb b (List.mem_cons_self ..)).2)
        rw [hw] at e; rw [e] at g2
        refine ih g2 (fun x hx => sb x (List.mem_cons_of_mem _ hx)) (by simp only [Tok.ty_mk, Tok.st_mk, Tok.nx_mk, Tok.val_mk, PA.i_mk, PA.due_mk, PA.S_mk, PA.ob_mk, PA.on_mk, PA.pr_mk, PA.out_mk, PB.i_mk, PB.ob_mk, PB.nt_mk, PB.pr_mk, PB.out_mk, List.length_cons] at hl; omega) (fun h' f3 g3 => kk h' ((f1.tr f2).tr f3) ?_)
        show SG h' (if L ≤ bnd b then settle L T (sg b :: out) else (b :: T, out)).1 (if L ≤ bnd b then settle L T (sg b :: out) else (b :: T, out)).2
        have q : ¬ bnd b < L := q
        rw [if_pos (by omega)]
        exact g3
theorem c_settle {d : Nat} {Q : Option Value → Hp → Prop} {L : Nat} (hL : 1 ≤ L) (hL5 : L ≤ 5) {S : List Int} {h : Hp} {out : List Int} (g : SG h S out) (sb : SB S) (kk : ∀ h', frG h h' → SG h' (settle L S out).1 (settle L S out).2 → Q none h') : Call (d + 2) 46 [.ref 55, .int (nI L)] h Q := by
  refine call_of (rfl : psM[46]? = some _) rfl rfl (rcvV rfl) (fun X hX => ?_)
  show X (0, [some (.ref 55), some (.int (nI L)), none], [], h)
  refine go hX 2 (gs := [True, True]) (z' := (2, [some (.ref 55), some (.int (nI L)), some (.int (nI 0))], [], h)) rfl ⟨trivial, trivial, trivial⟩ ?_
  exact settle_lp hX hL hL5 g sb (by have := g.ln; omega) kk
theorem hd33 {S : List Int} (h : S.headD 0 = 33) : ∃ T, S = 33 :: T := by
  cases S with
  | nil => exact absurd h (by decide)
  | cons b T => exact ⟨T, by rw [show b = 33 from h]⟩
theorem endN_0 {o : Nat} {S out : List Int} (h : o = 0) : endN o S out = (o, S, out) := by
  subst h
  rfl
theorem endN_st {o : Nat} {S out : List Int} (h : ¬ S.headD 0 = 33) : endN o S out = (o, S, out) := by
  unfold endN
  split
  · exact absurd rfl h
  · rfl
theorem endP_lp {d : Nat} {Q : Option Value → Hp → Prop} {X : Cf → Prop} (hX : Clo (Call (d + 1)) cd45 none Q X) : ∀ {m : Nat} {S : List Int} {h : Hp} {out : List Int} {o : Nat}, S.length = m → SG h S out → h.1 55 11 = nI o → o ≤ 4000 → (∀ h', frRd [9, 11] h h' → SG h' (endN o S out).2.1 (endN o S out).2.2 → h'.1 55 11 = nI (endN o S out).1 → h'.1 55 9 = 0 → Q none h') → X (0, [some (.ref 55)], [], h) := by
  intro m
  induction m with
  | zero => 
    intro S h out o ht g eo hn kk
    refine go hX 3 (gs := [True, True, True]) (z' := (if (h.1 55 11) ≤ 0 then 50 else 7, [some (.ref 55)], [], h)) rfl ⟨trivial, trivial, trivial, trivial⟩ ?_
    refine br (fun b1 => ?_) (fun b1 => ?_)
    ·
      refine go hX 3 (gs := [isB 0, True, True]) (z' := (55, [some (.ref 55)], [], (hI h 55 9 0))) rfl ⟨?_, trivial, trivial, trivial⟩ ?_
      · exact isB0
      refine rt_ hX (G := True) (r := none) rfl trivial ?_
      have e := endN_0 (S := S) (out := out) (tx_n0 (by rw [← eo]; exact b1) hn)
      exact kk _ (frRd_rf.st (by decide)) (by rw [e]; exact g.w55) (by rw [e, hI_j (by decide)]; exact eo) hI_eq
    ·
      refine go hX 2 (gs := [True, True]) (z' := (11, [some (.ref 55)], [.ref 58], h)) rfl ⟨trivial, trivial, trivial⟩ ?_
      refine cl hX 25 1 [.ref 58] [] rfl rfl rfl rfl ?_
      refine g.top (fun v2 hv2 => ?_)
      show X (14, [some (.ref 55)], [.int v2], h)
      refine go hX 2 (gs := [True, True]) (z' := (if v2 = 33 then 19 else 50, [some (.ref 55)], [], h)) rfl ⟨trivial, trivial, trivial⟩ ?_
      refine br (fun b3 => ?_) (fun b3 => ?_)
      ·
        refine go hX 5 (gs := [True, True, True, True, True]) (z' := (30, [some (.ref 55)], [.ref 58, .int 20000, .ref 56], h)) rfl ⟨trivial, trivial, trivial, trivial, trivial, trivial⟩ ?_
        refine cl hX 26 1 [.ref 58] [.int 20000, .ref 56] rfl rfl rfl rfl ?_
        obtain ⟨T, rfl⟩ := hd33 (hv2.symm.trans (by rw [b3]; rfl)); exact absurd ht (by simp [Tok.ty_mk, Tok.st_mk, Tok.nx_mk, Tok.val_mk, PA.i_mk, PA.due_mk, PA.S_mk, PA.ob_mk, PA.on_mk, PA.pr_mk, PA.out_mk, PB.i_mk, PB.ob_mk, PB.nt_mk, PB.pr_mk, PB.out_mk])
      ·
        refine go hX 3 (gs := [isB 0, True, True]) (z' := (55, [some (.ref 55)], [], (hI h 55 9 0))) rfl ⟨?_, trivial, trivial, trivial⟩ ?_
        · exact isB0
        refine rt_ hX (G := True) (r := none) rfl trivial ?_
        have e := endN_st (o := o) (out := out) (fun q => b3 (Int32.toInt_inj.mp (by rw [hv2, q]; rfl)))
        exact kk _ (frRd_rf.st (by decide)) (by rw [e]; exact g.w55) (by rw [e, hI_j (by decide)]; exact eo) hI_eq
  | succ m ih =>
    intro S h out o ht g eo hn kk
    refine go hX 3 (gs := [True, True, True]) (z' := (if (h.1 55 11) ≤ 0 then 50 else 7, [some (.ref 55)], [], h)) rfl ⟨trivial, trivial, trivial, trivial⟩ ?_
    refine br (fun b1 => ?_) (fun b1 => ?_)
    ·
      refine go hX 3 (gs := [isB 0, True, True]) (z' := (55, [some (.ref 55)], [], (hI h 55 9 0))) rfl ⟨?_, trivial, trivial, trivial⟩ ?_
      · exact isB0
      refine rt_ hX (G := True) (r := none) rfl trivial ?_
      have e := endN_0 (S := S) (out := out) (tx_n0 (by rw [← eo]; exact b1) hn)
      exact kk _ (frRd_rf.st (by decide)) (by rw [e]; exact g.w55) (by rw [e, hI_j (by decide)]; exact eo) hI_eq
    ·
      refine go hX 2 (gs := [True, True]) (z' := (11, [some (.ref 55)], [.ref 58], h)) rfl ⟨trivial, trivial, trivial⟩ ?_
      refine cl hX 25 1 [.ref 58] [] rfl rfl rfl rfl ?_
      refine g.top (fun v2 hv2 => ?_)
      show X (14, [some (.ref 55)], [.int v2], h)
      refine go hX 2 (gs := [True, True]) (z' := (if v2 = 33 then 19 else 50, [some (.ref 55)], [], h)) rfl ⟨trivial, trivial, trivial⟩ ?_
      refine br (fun b3 => ?_) (fun b3 => ?_)
      ·
        refine go hX 5 (gs := [True, True, True, True, True]) (z' := (30, [some (.ref 55)], [.ref 58, .int 20000, .ref 56], h)) rfl ⟨trivial, trivial, trivial, trivial, trivial, trivial⟩ ?_
        refine cl hX 26 1 [.ref 58] [.int 20000, .ref 56] rfl rfl rfl rfl ?_
        obtain ⟨T, rfl⟩ := hd33 (hv2.symm.trans (by rw [b3]; rfl)); refine g.pop (fun w h1 hw f1 g1 l1 => ?_)
        show X (33, [some (.ref 55)], [.int w, .int 20000, .ref 56], h1)
        refine go hX 1 (gs := [True]) (z' := (34, [some (.ref 55)], [.int (20000 + w), .ref 56], h1)) rfl ⟨trivial, trivial⟩ ?_
        refine cl hX 23 2 [.ref 56, .int (20000 + w)] [] rfl rfl rfl rfl ?_
        refine g1.psh56 l1 (fun h2 f2 g2 => ?_)
        show X (37, [some (.ref 55)], [], h2)
        refine go hX 7 (gs := [True, True, True, True, True, True, True]) (z' := (0, [some (.ref 55)], [], (hI h2 55 11 ((h2.1 55 11) - 1)))) rfl ⟨trivial, trivial, trivial, trivial, trivial, trivial, trivial, trivial⟩ ?_
        cases o with
        | zero => exact absurd (by rw [eo]; exact Int32.le_refl _) b1
        | succ o => ?_
        have e := sg_i (w := w) (by rw [hw]; decide) (by rw [hw]; decide)
        rw [hw] at e; rw [e] at g2
        have ee : h2.1 55 11 - 1 = nI o := by rw [f2.at55, f1.at55, eo]; exact nI_m1
        rw [ee]
        refine ih (out := sg 33 :: out) (S := T) (o := o) (by simp only [Tok.ty_mk, Tok.st_mk, Tok.nx_mk, Tok.val_mk, PA.i_mk, PA.due_mk, PA.S_mk, PA.ob_mk, PA.on_mk, PA.pr_mk, PA.out_mk, PB.i_mk, PB.ob_mk, PB.nt_mk, PB.pr_mk, PB.out_mk, List.length_cons] at ht; omega) g2.w55 hI_eq (by omega) (fun h' f3 g3 e3 e4 => kk h' ((((f1.tr f2).x).st (by decide)).tr f3) g3 e3 e4)
      ·
        refine go hX 3 (gs := [isB 0, True, True]) (z' := (55, [some (.ref 55)], [], (hI h 55 9 0))) rfl ⟨?_, trivial, trivial, trivial⟩ ?_
        · exact isB0
        refine rt_ hX (G := True) (r := none) rfl trivial ?_
        have e := endN_st (o := o) (out := out) (fun q => b3 (Int32.toInt_inj.mp (by rw [hv2, q]; rfl)))
        exact kk _ (frRd_rf.st (by decide)) (by rw [e]; exact g.w55) (by rw [e, hI_j (by decide)]; exact eo) hI_eq
theorem c_endP {d : Nat} {Q : Option Value → Hp → Prop} {S : List Int} {h : Hp} {out : List Int} {o : Nat} (g : SG h S out) (eo : h.1 55 11 = nI o) (hn : o ≤ 4000) (kk : ∀ h', frRd [9, 11] h h' → SG h' (endN o S out).2.1 (endN o S out).2.2 → h'.1 55 11 = nI (endN o S out).1 → h'.1 55 9 = 0 → Q none h') : Call (d + 2) 45 [.ref 55] h Q := by
  refine call_of (rfl : psM[45]? = some _) rfl rfl (rcvV rfl) (fun X hX => ?_)
  show X (0, [some (.ref 55)], [], h)
  exact endP_lp hX rfl g eo hn kk
