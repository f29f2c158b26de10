/-! How a method is run in the small machine: blocks of steps, branches, calls, returns. -/
def rG (cd : Cd) : Nat → List Prop → Cf → Option (List Prop × Cf)
  | 0, gs, z => some (gs, z)
  | n + 1, gs, z => match stp cd z with
    | some (G, z') => rG cd n (G :: gs) z'
    | none => none
def allG : List Prop → Prop
  | [] => True
  | p :: r => p ∧ allG r
section BASE
variable {C : Nat → List Value → Hp → (Option Value → Hp → Prop) → Prop} {cd : Cd} {rt : Option FieldType} {Q : Option Value → Hp → Prop} {X : Cf → Prop}
theorem rG_all : ∀ {n : Nat} {gs gs' : List Prop} {z z' : Cf}, rG cd n gs z = some (gs', z') → allG gs' → allG gs
  | 0, _, _, _, _, h, g => by cases h; exact g
  | n + 1, gs, gs', z, z', h, g => by
    unfold rG at h
    split at h
    · have := rG_all h g
      exact this.2
    · cases h
theorem clo_run (hX : Clo C cd rt Q X) : ∀ {n : Nat} {gs gs' : List Prop} {z z' : Cf}, rG cd n gs z = some (gs', z') → allG gs' → X z' → X z
  | 0, _, _, _, _, h, _, x => by cases h; exact x
  | n + 1, gs, gs', z, z', h, g, x => by
    unfold rG at h
    split at h
    · rename_i G z1 hz
      exact hX.1 z z1 G hz (rG_all h g).1 (clo_run hX h g x)
    · cases h
/-- a block of steps -/
theorem go (hX : Clo C cd rt Q X) (n : Nat) {gs : List Prop} {z z' : Cf} (h : rG cd n [] z = some (gs, z')) (g : allG gs) (x : X z') : X z := clo_run hX h g x
theorem br {c : Prop} [Decidable c] {t f : Nat} {ls : Lc} {st : List Value} {h : Hp} (a : c → X (t, ls, st, h)) (b : ¬ c → X (f, ls, st, h)) : X (if c then t else f, ls, st, h) := by
  by_cases hc : c
  · rw [if_pos hc]; exact a hc
  · rw [if_neg hc]; exact b hc
theorem cl (hX : Clo C cd rt Q X) {pc : Nat} {ls : Lc} {st : List Value} {h : Hp} (mid n : Nat) (as rest : List Value) (h1 : cal cd (pc, ls, st, h) = some (mid, n)) (h2 : as.length = n) (h3 : st = as.reverse ++ rest) (h4 : Nat.ble (rest.map fun v => v.category).sum 8 = true) (k : C mid as h (fun r h' => X (pc + 3, ls, r.toList ++ rest, h'))) : X (pc, ls, st, h) := hX.2.1 pc ls st h mid n as rest h1 h2 h3 (Nat.le_of_ble_eq_true h4) k
theorem rt_ (hX : Clo C cd rt Q X) {z : Cf} {G : Prop} {r : Option Value} (h1 : rtp cd rt z = some (G, r)) (g : G) (k : Q r z.2.2.2) : X z := hX.2.2 z G r h1 g k
end BASE
theorem call_of {d mid : Nat} {as : List Value} {h : Hp} {Q : Option Value → Hp → Prop} {y : MethodName} {b : ByteArray} {ml : Nat} {rt : Option FieldType} {o : Nat} {cd : Cd} {q : Mp} (hm : psM[mid]? = some (y, b, ml, rt, o, cd, q)) (h1 : Nat.ble (eL as).length ml = true) (h2 : as.length = (if q.1 = 0 then q.2.1 else q.2.1 + 1)) (h3 : rcv q.1 o as) (hX : ∀ X : Cf → Prop, Clo (Call d) cd rt Q X → X (0, eLn ml as, [], h)) : Call (d + 1) mid as h Q := Or.inr ⟨y, b, ml, rt, o, cd, q, hm, Nat.le_of_ble_eq_true h1, h2, h3, hX⟩
theorem rcvS {k o : Nat} {as : List Value} (h : k = 0) : rcv k o as := by unfold rcv; rw [if_pos h]; trivial
theorem rcvV {k o r : Nat} {t : List Value} (h : isCl r o = true) : rcv k o (.ref r :: t) := by
  unfold rcv
  split
  · trivial
  · exact ⟨r, t, rfl, h⟩
/-- more depth does no harm; nor a weaker post -/
theorem Call.mono {Q Q' : Option Value → Hp → Prop} : ∀ {d mid : Nat} {as : List Value} {h : Hp}, Call d mid as h Q → (∀ r h', Q r h' → Q' r h') → Call d mid as h Q'
  | 0, _, _, _, hc, _ => hc
  | d + 1, mid, as, h, hc, w => by
    rcases hc with hc | ⟨y, b, ml, rt, o, cd, q, h1, h2, h3, h4, hX⟩
    · refine Or.inl ?_
      unfold lib at hc ⊢
      split at hc
      · obtain ⟨e, i, l, a1, a2, a3⟩ := hc
        exact ⟨e, i, l, a1, a2, w _ _ a3⟩
      · obtain ⟨i, l, a1, a2, a3⟩ := hc
        refine ⟨i, l, a1, a2, ?_⟩
        rcases a3 with ⟨e, k, c, b1, b2, b3⟩ | ⟨e, b1, b2⟩
        · exact Or.inl ⟨e, k, c, b1, b2, w _ _ b3⟩
        · exact Or.inr ⟨e, b1, w _ _ b2⟩
      · exact hc
    · exact Or.inr ⟨y, b, ml, rt, o, cd, q, h1, h2, h3, h4, fun X hc => hX X ⟨hc.1, hc.2.1, fun z G r e g hq => hc.2.2 z G r e g (w _ _ hq)⟩⟩
theorem i64_le (a b : Int32) : a.toInt64 ≤ b.toInt64 ↔ a ≤ b := by rw [Int64.le_iff_toInt_le, Int32.le_iff_toInt_le, Int32.toInt_toInt64, Int32.toInt_toInt64]
theorem i64_0 (b : Int32) : (0 : Int64) ≤ b.toInt64 ↔ 0 ≤ b := i64_le 0 b
theorem isB0 : isB 0 := Or.inl rfl
theorem isB1 : isB 1 := Or.inr rfl
/-- a counter that goes up to B -/
theorem up_ind {P : Int32 → Prop} (B : Int32) (st : ∀ i : Int32, 0 ≤ i → i ≤ B → (i < B → P (i + 1)) → P i) : ∀ i : Int32, 0 ≤ i → i ≤ B → P i := by
  have key : ∀ (n : Nat) (i : Int32), 0 ≤ i → i ≤ B → B.toInt - i.toInt ≤ (n : Int) → P i := by
    intro n
    induction n with
    | zero => intro i h0 h1 h2; exact st i h0 h1 (fun h => by rw [Int32.lt_iff_toInt_lt] at h; omega)
    | succ n ih =>
      intro i h0 h1 h2
      refine st i h0 h1 (fun h => ?_)
      have hz : (i + 1).toInt = i.toInt + 1 := by
        have hB := B.toInt_lt
        rw [Int32.lt_iff_toInt_lt] at h
        rw [Int32.le_iff_toInt_le, Int32.toInt_zero] at h0
        rw [Int32.toInt_add, Int32.toInt_one]
        rw [Int.bmod_eq_of_le] <;> omega
      refine ih (i + 1) ?_ ?_ ?_
      · rw [Int32.le_iff_toInt_le, Int32.toInt_zero] at h0 ⊢; omega
      · rw [Int32.lt_iff_toInt_lt] at h; rw [Int32.le_iff_toInt_le]; omega
      · omega
  intro i h0 h1
  exact key (B.toInt - i.toInt).toNat i h0 h1 (by omega)
/-- a place among the intervals of a list -/
def inR : List (Nat × Int32 × Int32) → Nat → Int32 → Prop
  | [], _, _ => False
  | (a, l, u) :: r, o, j => (o = a ∧ l ≤ j ∧ j < u) ∨ inR r o j
/-- what is left as it was: all but the places of rs; the longs and the script -/
def fr (rs : List (Nat × Int32 × Int32)) (h h' : Hp) : Prop := (∀ (o : Nat) (j : Int32), ¬ inR rs o j → h'.1 o j = h.1 o j) ∧ h'.2 = h.2
theorem fr_rf {rs : List (Nat × Int32 × Int32)} {h : Hp} : fr rs h h := ⟨fun _ _ _ => rfl, rfl⟩
theorem fr_tr {rs : List (Nat × Int32 × Int32)} {h h1 h2 : Hp} (a : fr rs h h1) (b : fr rs h1 h2) : fr rs h h2 := ⟨fun o j q => (b.1 o j q).trans (a.1 o j q), b.2.trans a.2⟩
theorem inR_sub {rs r2 : List (Nat × Int32 × Int32)} (hs : ∀ q ∈ rs, q ∈ r2) {o : Nat} {j : Int32} (h : inR rs o j) : inR r2 o j := by
  have key : ∀ (l : List (Nat × Int32 × Int32)) (q : Nat × Int32 × Int32), q ∈ l → o = q.1 ∧ q.2.1 ≤ j ∧ j < q.2.2 → inR l o j := by
    intro l
    induction l with
    | nil => intro q hq; cases hq
    | cons x r ih =>
      intro q hq hz
      rcases List.mem_cons.mp hq with rfl | hq
      · exact Or.inl hz
      · exact Or.inr (ih q hq hz)
  induction rs with
  | nil => exact h.elim
  | cons x r ih =>
    rcases h with h | h
    · exact key r2 x (hs x List.mem_cons_self) h
    · exact ih (fun q hq => hs q (List.mem_cons_of_mem _ hq)) h
theorem fr_wk {rs r2 : List (Nat × Int32 × Int32)} {h h1 : Hp} (a : fr rs h h1) (hs : ∀ q ∈ rs, q ∈ r2) : fr r2 h h1 := ⟨fun o j q => a.1 o j (fun z => q (inR_sub hs z)), a.2⟩
theorem fr_im {rs r2 : List (Nat × Int32 × Int32)} {h h1 : Hp} (a : fr rs h h1) (hs : ∀ o j, inR rs o j → inR r2 o j) : fr r2 h h1 := ⟨fun o j q => a.1 o j (fun z => q (hs o j z)), a.2⟩
theorem fr_st {rs : List (Nat × Int32 × Int32)} {h h1 : Hp} {o : Nat} {j v : Int32} (a : fr rs h h1) (ho : inR rs o j) : fr rs h (hI h1 o j v) := ⟨fun o' j' q => by
  show (if o' = o ∧ j' = j then v else _) = _
  rw [if_neg (fun (z : o' = o ∧ j' = j) => q (z.1 ▸ z.2 ▸ ho))]
  exact a.1 o' j' q, a.2⟩
theorem fr_at {rs : List (Nat × Int32 × Int32)} {h h1 : Hp} (a : fr rs h h1) {o : Nat} {j : Int32} (q : ¬ inR rs o j) : h1.1 o j = h.1 o j := a.1 o j q
theorem fr_2 {rs : List (Nat × Int32 × Int32)} {h h1 : Hp} (a : fr rs h h1) : h1.2 = h.2 := a.2
theorem hI_eq {h : Hp} {o : Nat} {j v : Int32} : (hI h o j v).1 o j = v := by show (if o = o ∧ j = j then v else _) = v; simp
theorem hI_j {h : Hp} {o : Nat} {j k v : Int32} (hk : k ≠ j) : (hI h o j v).1 o k = h.1 o k := by
  show (if o = o ∧ k = j then v else _) = _
  rw [if_neg (fun q => hk q.2)]
theorem hI_o {h : Hp} {o a : Nat} {j k v : Int32} (ha : a ≠ o) : (hI h o j v).1 a k = h.1 a k := hI_ne ha
