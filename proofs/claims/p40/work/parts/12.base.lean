/-! How a method is run in the small machine: blocks of steps, branches, calls, returns. -/
def rG (cd : Cd) : Nat → List Prop → Cf → Option (List Prop × Cf)
  | 0, gs, z => some (gs, z)
  | n + 1, gs, z => match stp cd z with
    | some (G, z') => rG cd n (G :: gs) z'
    | none => none
def allG : List Prop → Prop
  | [] => True
  | p :: r => p ∧ allG r
section BASE
variable {C : Nat → List Value → Hp → (Option Value → Hp → Prop) → Prop} {cd : Cd} {rt : Option FieldType} {Q : Option Value → Hp → Prop} {X : Cf → Prop}
theorem rG_all : ∀ {n : Nat} {gs gs' : List Prop} {z z' : Cf}, rG cd n gs z = some (gs', z') → allG gs' → allG gs
  | 0, _, _, _, _, h, g => by cases h; exact g
  | n + 1, gs, gs', z, z', h, g => by
    unfold rG at h
    split at h
    · have := rG_all h g
      exact this.2
    · cases h
theorem clo_run (hX : Clo C cd rt Q X) : ∀ {n : Nat} {gs gs' : List Prop} {z z' : Cf}, rG cd n gs z = some (gs', z') → allG gs' → X z' → X z
  | 0, _, _, _, _, h, _, x => by cases h; exact x
  | n + 1, gs, gs', z, z', h, g, x => by
    unfold rG at h
    split at h
    · rename_i G z1 hz
      exact hX.1 z z1 G hz (rG_all h g).1 (clo_run hX h g x)
    · cases h
/-- a block of steps -/
theorem go (hX : Clo C cd rt Q X) (n : Nat) {gs : List Prop} {z z' : Cf} (h : rG cd n [] z = some (gs, z')) (g : allG gs) (x : X z') : X z := clo_run hX h g x
theorem br {c : Prop} [Decidable c] {t f : Nat} {ls : Lc} {st : List Value} {h : Hp} (a : c → X (t, ls, st, h)) (b : ¬ c → X (f, ls, st, h)) : X (if c then t else f, ls, st, h) := by
  by_cases hc : c
  · rw [if_pos hc]; exact a hc
  · rw [if_neg hc]; exact b hc
theorem cl (hX : Clo C cd rt Q X) {pc : Nat} {ls : Lc} {st : List Value} {h : Hp} (mid n : Nat) (as rest : List Value) (h1 : cal cd (pc, ls, st, h) = some (mid, n)) (h2 : as.length = n) (h3 : st = as.reverse ++ rest) (h4 : Nat.ble (rest.map fun v => v.category).sum 8 = true) (k : C mid as h (fun r h' => X (pc + 3, ls, r.toList ++ rest, h'))) : X (pc, ls, st, h) := hX.2.1 pc ls st h mid n as rest h1 h2 h3 (Nat.le_of_ble_eq_true h4) k
theorem rt_ (hX : Clo C cd rt Q X) {z : Cf} {G : Prop} {r : Option Value} (h1 : rtp cd rt z = some (G, r)) (g : G) (k : Q r z.2.2.2) : X z := hX.2.2 z G r h1 g k
end BASE
theorem call_of {d mid : Nat} {as : List Value} {h : Hp} {Q : Option Value → Hp → Prop} {y : MethodName} {b : ByteArray} {ml : Nat} {rt : Option FieldType} {o : Nat} {cd : Cd} {q : Mp} (hm : psM[mid]? = some (y, b, ml, rt, o, cd, q)) (h1 : Nat.ble (eL as).length ml = true) (h2 : as.length = (if q.1 = 0 then q.2.1 else q.2.1 + 1)) (h3 : rcv q.1 o as) (hX : ∀ X : Cf → Prop, Clo (Call d) cd rt Q X → X (0, eLn ml as, [], h)) : Call (d + 1) mid as h Q := Or.inr ⟨y, b, ml, rt, o, cd, q, hm, Nat.le_of_ble_eq_true h1, h2, h3, hX⟩
theorem rcvS {k o : Nat} {as : List Value} (h : k = 0) : rcv k o as := by unfold rcv; rw [if_pos h]; trivial
theorem rcvV {k o r : Nat} {t : List Value} (h : isCl r o = true) : rcv k o (.ref r :: t) := by
  unfold rcv
  split
  · trivial
  · exact ⟨r, t, rfl, h⟩
/-- more depth does no harm; nor a weaker post -/
theorem Call.mono {Q Q' : Option Value → Hp → Prop} : ∀ {d mid : Nat} {as : List Value} {h : Hp}, Call d mid as h Q → (∀ r h', Q r h' → Q' r h') → Call d mid as h Q'
  | 0, _, _, _, hc, _ => hc
  | d + 1, mid, as, h, hc, w => by
    rcases hc with hc | ⟨y, b, ml, rt, o, cd, q, h1, h2, h3, h4, hX⟩
    · refine Or.inl ?_
      unfold lib at hc ⊢
      split at hc
      · obtain ⟨e, i, l, a1, a2, a3⟩ := hc
        exact ⟨e, i, l, a1, a2, w _ _ a3⟩
      · obtain ⟨i, l, a1, a2, a3⟩ := hc
        refine ⟨i, l, a1, a2, ?_⟩
        rcases a3 with ⟨e, k, c, b1, b2, b3⟩ | ⟨e, b1, b2⟩
        · exact Or.inl ⟨e, k, c, b1, b2, w _ _ b3⟩
        · exact Or.inr ⟨e, b1, w _ _ b2⟩
      · exact hc
    · exact Or.inr ⟨y, b, ml, rt, o, cd, q, h1, h2, h3, h4, fun X hc => hX X ⟨hc.1, hc.2.1, fun z G r e g hq => hc.2.2 z G r e g (w _ _ hq)⟩⟩
theorem i64_le (a b : Int32) : a.toInt64 ≤ b.toInt64 ↔ a ≤ b := by rw [Int64.le_iff_toInt_le, Int32.le_iff_toInt_le, Int32.toInt_toInt64, Int32.toInt_toInt64]
theorem i64_0 (b : Int32) : (0 : Int64) ≤ b.toInt64 ↔ 0 ≤ b := i64_le 0 b
