/-! How a method is run in the small machine: blocks of steps, branches, calls, returns. -/
def rG (cd : Cd) : Nat → List Prop → Cf → Option (List Prop × Cf)
  | 0, gs, z => some (gs, z)
  | n + 1, gs, z => match stp cd z with
    | some (G, z') => rG cd n (G :: gs) z'
    | none => none
def allG : List Prop → Prop
  | [] => True
  | p :: r => p ∧ allG r
section BASE
variable {C : Nat → List Value → Hp → (Option Value → Hp → Prop) → Prop} {cd : Cd} {rt : Option FieldType} {Q : Option Value → Hp → Prop} {X : Cf → Prop}
theorem rG_all : ∀ {n : Nat} {gs gs' : List Prop} {z z' : Cf}, rG cd n gs z = some (gs', z') → allG gs' → allG gs
  | 0, _, _, _, _, h, g => by cases h; exact g
  | n + 1, gs, gs', z, z', h, g => by
    unfold rG at h
    split at h
    · have := rG_all h g
      exact this.2
    · cases h
theorem clo_run (hX : Clo C cd rt Q X) : ∀ {n : Nat} {gs gs' : List Prop} {z z' : Cf}, rG cd n gs z = some (gs', z') → allG gs' → X z' → X z
  | 0, _, _, _, _, h, _, x => by cases h; exact x
  | n + 1, gs, gs', z, z', h, g, x => by
    unfold rG at h
    split at h
    · rename_i G z1 hz
      exact hX.1 z z1 G hz (rG_all h g).1 (clo_run hX h g x)
    · cases h
/-- a block of steps -/
theorem go (hX : Clo C cd rt Q X) (n : Nat) {gs : List Prop} {z z' : Cf} (h : rG cd n [] z = some (gs, z')) (g : allG gs) (x : X z') : X z := clo_run hX h g x
theorem br {c : Prop} [Decidable c] {t f : Nat} {ls : Lc} {st : List Value} {h : Hp} (a : c → X (t, ls, st, h)) (b : ¬ c → X (f, ls, st, h)) : X (if c then t else f, ls, st, h) := by
  by_cases hc : c
  · rw [if_pos hc]; exact a hc
  · rw [if_neg hc]; exact b hc
theorem cl (hX : Clo C cd rt Q X) {pc : Nat} {ls : Lc} {st : List Value} {h : Hp} (mid n : Nat) (as rest : List Value) (h1 : cal cd (pc, ls, st, h) = some (mid, n)) (h2 : as.length = n) (h3 : st = as.reverse ++ rest) (h4 : Nat.ble (rest.map fun v => v.category).sum 8 = true) (k : C mid as h (fun r h' => X (pc + 3, ls, r.toList ++ rest, h'))) : X (pc, ls, st, h) := hX.2.1 pc ls st h mid n as rest h1 h2 h3 (Nat.le_of_ble_eq_true h4) k
theorem rt_ (hX : Clo C cd rt Q X) {z : Cf} {G : Prop} {r : Option Value} (h1 : rtp cd rt z = some (G, r)) (g : G) (k : Q r z.2.2.2) : X z := hX.2.2 z G r h1 g k
end BASE
theorem call_of {d mid : Nat} {as : List Value} {h : Hp} {Q : Option Value → Hp → Prop} {y : MethodName} {b : ByteArray} {ml : Nat} {rt : Option FieldType} {o : Nat} {cd : Cd} {q : Mp} (hm : psM[mid]? = some (y, b, ml, rt, o, cd, q)) (h1 : Nat.ble (eL as).length ml = true) (h2 : as.length = (if q.1 = 0 then q.2.1 else q.2.1 + 1)) (h3 : rcv q.1 o as) (hX : ∀ X : Cf → Prop, Clo (Call d) cd rt Q X → X (0, eLn ml as, [], h)) : Call (d + 1) mid as h Q := Or.inr ⟨y, b, ml, rt, o, cd, q, hm, Nat.le_of_ble_eq_true h1, h2, h3, hX⟩
theorem rcvS {k o : Nat} {as : List Value} (h : k = 0) : rcv k o as := by unfold rcv; rw [if_pos h]; trivial
theorem rcvV {k o r : Nat} {t : List Value} (h : isCl r o = true) : rcv k o (.ref r :: t) := by
  unfold rcv
  split
  · trivial
  · exact ⟨r, t, rfl, h⟩
/-- more depth does no harm; nor a weaker post -/
theorem Call.mono {Q Q' : Option Value → Hp → Prop} : ∀ {d mid : Nat} {as : List Value} {h : Hp}, Call d mid as h Q → (∀ r h', Q r h' → Q' r h') → Call d mid as h Q'
  | 0, _, _, _, hc, _ => hc
  | d + 1, mid, as, h, hc, w => by
    rcases hc with hc | ⟨y, b, ml, rt, o, cd, q, h1, h2, h3, h4, hX⟩
    · refine Or.inl ?_
      unfold lib at hc ⊢
      split at hc
      · obtain ⟨e, i, l, a1, a2, a3⟩ := hc
        exact ⟨e, i, l, a1, a2, w _ _ a3⟩
      · obtain ⟨i, l, a1, a2, a3⟩ := hc
        refine ⟨i, l, a1, a2, ?_⟩
        rcases a3 with ⟨e, k, c, b1, b2, b3⟩ | ⟨e, b1, b2⟩
        · exact Or.inl ⟨e, k, c, b1, b2, w _ _ b3⟩
        · exact Or.inr ⟨e, b1, w _ _ b2⟩
      · exact hc
    · exact Or.inr ⟨y, b, ml, rt, o, cd, q, h1, h2, h3, h4, fun X hc => hX X ⟨hc.1, hc.2.1, fun z G r e g hq => hc.2.2 z G r e g (w _ _ hq)⟩⟩
theorem i64_le (a b : Int32) : a.toInt64 ≤ b.toInt64 ↔ a ≤ b := by rw [Int64.le_iff_toInt_le, Int32.le_iff_toInt_le, Int32.toInt_toInt64, Int32.toInt_toInt64]
theorem i64_0 (b : Int32) : (0 : Int64) ≤ b.toInt64 ↔ 0 ≤ b := i64_le 0 b
theorem isB0 : isB 0 := Or.inl rfl
theorem isB1 : isB 1 := Or.inr rfl
/-- a counter that goes up to B -/
theorem up_ind {P : Int32 → Prop} (B : Int32) (st : ∀ i : Int32, 0 ≤ i → i ≤ B → (i < B → P (i + 1)) → P i) : ∀ i : Int32, 0 ≤ i → i ≤ B → P i := by
  have key : ∀ (n : Nat) (i : Int32), 0 ≤ i → i ≤ B → B.toInt - i.toInt ≤ (n : Int) → P i := by
    intro n
    induction n with
    | zero => intro i h0 h1 h2; exact st i h0 h1 (fun h => by rw [Int32.lt_iff_toInt_lt] at h; omega)
    | succ n ih =>
      intro i h0 h1 h2
      refine st i h0 h1 (fun h => ?_)
      have hz : (i + 1).toInt = i.toInt + 1 := by
        have hB := B.toInt_lt
        rw [Int32.lt_iff_toInt_lt] at h
        rw [Int32.le_iff_toInt_le, Int32.toInt_zero] at h0
        rw [Int32.toInt_add, Int32.toInt_one]
        rw [Int.bmod_eq_of_le] <;> omega
      refine ih (i + 1) ?_ ?_ ?_
      · rw [Int32.le_iff_toInt_le, Int32.toInt_zero] at h0 ⊢; omega
      · rw [Int32.lt_iff_toInt_lt] at h; rw [Int32.le_iff_toInt_le]; omega
      · omega
  intro i h0 h1
  exact key (B.toInt - i.toInt).toNat i h0 h1 (by omega)
/-- what a method of the reference leaves as it was: all cells but those of os and the fields fs of object 65 -/
def frM (os : List Nat) (fs : List Int32) (h h' : Hp) : Prop := (∀ (o : Nat) (j : Int32), o ∉ os → (o ≠ 65 ∨ j ∉ fs) → h'.1 o j = h.1 o j) ∧ h'.2 = h.2
theorem frM_rf {os : List Nat} {fs : List Int32} {h : Hp} : frM os fs h h := ⟨fun _ _ _ _ => rfl, rfl⟩
theorem frM_tr {os os' o2 : List Nat} {fs fs' f2 : List Int32} {h h1 h2 : Hp} (a : frM os fs h h1) (b : frM os' fs' h1 h2) (hs : ∀ o ∈ os, o ∈ o2) (hs' : ∀ o ∈ os', o ∈ o2) (hf : ∀ o ∈ fs, o ∈ f2) (hf' : ∀ o ∈ fs', o ∈ f2) : frM o2 f2 h h2 := ⟨fun o j h1 h3 => (b.1 o j (fun q => h1 (hs' o q)) (h3.elim Or.inl (fun q => Or.inr (fun z => q (hf' j z))))).trans (a.1 o j (fun q => h1 (hs o q)) (h3.elim Or.inl (fun q => Or.inr (fun z => q (hf j z))))), b.2.trans a.2⟩
theorem frM_wk {os o2 : List Nat} {fs f2 : List Int32} {h h1 : Hp} (a : frM os fs h h1) (hs : ∀ o ∈ os, o ∈ o2) (hf : ∀ o ∈ fs, o ∈ f2) : frM o2 f2 h h1 := frM_tr a frM_rf hs hs hf hf
theorem frM_o {os : List Nat} {fs : List Int32} {h h1 : Hp} {o : Nat} {j v : Int32} (a : frM os fs h h1) (ho : o ∈ os) : frM os fs h (hI h1 o j v) := ⟨fun o' j' h1' h2 => by
  show (if o' = o ∧ j' = j then v else _) = _
  rw [if_neg (fun (q : o' = o ∧ j' = j) => h1' (q.1 ▸ ho))]
  exact a.1 o' j' h1' h2, a.2⟩
theorem frM_f {os : List Nat} {fs : List Int32} {h h1 : Hp} {j v : Int32} (a : frM os fs h h1) (hj : j ∈ fs) : frM os fs h (hI h1 65 j v) := ⟨fun o' j' h1' h2 => by
  show (if o' = 65 ∧ j' = j then v else _) = _
  rw [if_neg (fun (q : o' = 65 ∧ j' = j) => h2.elim (fun z => z q.1) (fun z => z (q.2 ▸ hj)))]
  exact a.1 o' j' h1' h2, a.2⟩
theorem hI_eq {h : Hp} {o : Nat} {j v : Int32} : (hI h o j v).1 o j = v := by show (if o = o ∧ j = j then v else _) = v; simp
theorem hI_j {h : Hp} {o : Nat} {j k v : Int32} (hk : k ≠ j) : (hI h o j v).1 o k = h.1 o k := by
  show (if o = o ∧ k = j then v else _) = _
  rw [if_neg (fun q => hk q.2)]
theorem hI_o {h : Hp} {o a : Nat} {j k v : Int32} (ha : a ≠ o) : (hI h o j v).1 a k = h.1 a k := hI_ne ha
