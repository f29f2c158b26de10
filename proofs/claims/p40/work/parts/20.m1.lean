theorem c_isIn {d : Nat} {Q : Option Value → Hp → Prop} {h : Hp} {v lo hi : Int64} (k1 : lo ≤ v ∧ v ≤ hi → Q (some (.int 1)) h) (k0 : ¬ (lo ≤ v ∧ v ≤ hi) → Q (some (.int 0)) h) : Call (d + 1) 159 [.long v, .long lo, .long hi] h Q := by
  refine call_of (rfl : psM[159]? = some _) rfl rfl (rcvS rfl) (fun X hX => ?_)
  show X (0, [some (.long v), none, some (.long lo), none, some (.long hi), none], [], h)
  refine go hX 4 (gs := [True, True, True, True]) (z' := (if (lg_cmp v lo) < 0 then 17 else 6, [some (.long v), none, some (.long lo), none, some (.long hi), none], [], h)) rfl ⟨trivial, trivial, trivial, trivial, trivial⟩ ?_
  refine br (fun b1 => ?_) (fun b1 => ?_)
  ·
    refine go hX 1 (gs := [True]) (z' := (18, [some (.long v), none, some (.long lo), none, some (.long hi), none], [.int 0], h)) rfl ⟨trivial, trivial⟩ ?_
    refine rt_ hX (G := isB 0) (r := some (.int 0)) rfl isB0 ?_
    simp only [lg_cmp_lt, lg_cmp_gt] at *
    exact k0 (by grind)
  ·
    refine go hX 4 (gs := [True, True, True, True]) (z' := (if 0 < (lg_cmp v hi) then 17 else 13, [some (.long v), none, some (.long lo), none, some (.long hi), none], [], h)) rfl ⟨trivial, trivial, trivial, trivial, trivial⟩ ?_
    refine br (fun b2 => ?_) (fun b2 => ?_)
    ·
      refine go hX 1 (gs := [True]) (z' := (18, [some (.long v), none, some (.long lo), none, some (.long hi), none], [.int 0], h)) rfl ⟨trivial, trivial⟩ ?_
      refine rt_ hX (G := isB 0) (r := some (.int 0)) rfl isB0 ?_
      simp only [lg_cmp_lt, lg_cmp_gt] at *
      exact k0 (by grind)
    ·
      refine go hX 2 (gs := [True, True]) (z' := (18, [some (.long v), none, some (.long lo), none, some (.long hi), none], [.int 1], h)) rfl ⟨trivial, trivial, trivial⟩ ?_
      refine rt_ hX (G := isB 1) (r := some (.int 1)) rfl isB1 ?_
      simp only [lg_cmp_lt, lg_cmp_gt] at *
      exact k1 (by grind)
theorem c_orNone {d : Nat} {Q : Option Value → Hp → Prop} {h : Hp} {v : Int32} (k : Q (some (.int (if v < 0 then -1000000005 else v))) h) : Call (d + 1) 160 [.int v] h Q := by
  refine call_of (rfl : psM[160]? = some _) rfl rfl (rcvS rfl) (fun X hX => ?_)
  show X (0, [some (.int v)], [], h)
  refine go hX 2 (gs := [True, True]) (z' := (if 0 ≤ v then 9 else 4, [some (.int v)], [], h)) rfl ⟨trivial, trivial, trivial⟩ ?_
  refine br (fun b1 => ?_) (fun b1 => ?_)
  ·
    refine go hX 1 (gs := [True]) (z' := (10, [some (.int v)], [.int v], h)) rfl ⟨trivial, trivial⟩ ?_
    refine rt_ hX (G := True) (r := some (.int v)) rfl trivial ?_
    rw [if_neg (by grind)] at k; exact k
  ·
    refine go hX 2 (gs := [True, True]) (z' := (10, [some (.int v)], [.int (-1000000005)], h)) rfl ⟨trivial, trivial, trivial⟩ ?_
    refine rt_ hX (G := True) (r := some (.int (-1000000005))) rfl trivial ?_
    rw [if_pos (by grind)] at k; exact k
theorem c_least {d : Nat} {Q : Option Value → Hp → Prop} {h : Hp} {a b : Int32} (k : Q (some (.int (if a < b then a else b))) h) : Call (d + 1) 161 [.int a, .int b] h Q := by
  refine call_of (rfl : psM[161]? = some _) rfl rfl (rcvS rfl) (fun X hX => ?_)
  show X (0, [some (.int a), some (.int b)], [], h)
  refine go hX 3 (gs := [True, True, True]) (z' := (if b ≤ a then 9 else 5, [some (.int a), some (.int b)], [], h)) rfl ⟨trivial, trivial, trivial, trivial⟩ ?_
  refine br (fun b1 => ?_) (fun b1 => ?_)
  ·
    refine go hX 1 (gs := [True]) (z' := (10, [some (.int a), some (.int b)], [.int b], h)) rfl ⟨trivial, trivial⟩ ?_
    refine rt_ hX (G := True) (r := some (.int b)) rfl trivial ?_
    rw [if_neg (by grind)] at k; exact k
  ·
    refine go hX 2 (gs := [True, True]) (z' := (10, [some (.int a), some (.int b)], [.int a], h)) rfl ⟨trivial, trivial, trivial⟩ ?_
    refine rt_ hX (G := True) (r := some (.int a)) rfl trivial ?_
    rw [if_pos (by grind)] at k; exact k
theorem c_becomes {d : Nat} {Q : Option Value → Hp → Prop} {h : Hp} {a v : Int32} (ha : ibd a 3400) (k : Q (some (.int (h.1 66 a))) (hI h 66 a v)) : Call (d + 1) 162 [.ref 65, .int a, .int v] h Q := by
  refine call_of (rfl : psM[162]? = some _) rfl rfl (rcvV rfl) (fun X hX => ?_)
  show X (0, [some (.ref 65), some (.int a), some (.int v), none], [], h)
  refine go hX 11 (gs := [True, ibd a 3400, True, True, True, True, True, ibd a 3400, True, True, True]) (z' := (15, [some (.ref 65), some (.int a), some (.int v), some (.int (h.1 66 a))], [.int (h.1 66 a)], (hI h 66 a v))) rfl ⟨trivial, ?_, trivial, trivial, trivial, trivial, trivial, ?_, trivial, trivial, trivial, trivial⟩ ?_
  · exact ha
  · exact ha
  refine rt_ hX (G := True) (r := some (.int (h.1 66 a))) rfl trivial ?_
  exact k
theorem c_shopAt {d : Nat} {Q : Option Value → Hp → Prop} {h : Hp} {x : Int32} (k : Q (some (.int (10 + (10 * x)))) h) : Call (d + 1) 163 [.ref 65, .int x] h Q := by
  refine call_of (rfl : psM[163]? = some _) rfl rfl (rcvV rfl) (fun X hX => ?_)
  show X (0, [some (.ref 65), some (.int x)], [], h)
  refine go hX 5 (gs := [True, True, True, True, True]) (z' := (7, [some (.ref 65), some (.int x)], [.int (10 + (10 * x))], h)) rfl ⟨trivial, trivial, trivial, trivial, trivial, trivial⟩ ?_
  refine rt_ hX (G := True) (r := some (.int (10 + (10 * x)))) rfl trivial ?_
  exact k
theorem c_handAt {d : Nat} {Q : Option Value → Hp → Prop} {h : Hp} {x : Int32} (k : Q (some (.int (40 + (16 * x)))) h) : Call (d + 1) 164 [.ref 65, .int x] h Q := by
  refine call_of (rfl : psM[164]? = some _) rfl rfl (rcvV rfl) (fun X hX => ?_)
  show X (0, [some (.ref 65), some (.int x)], [], h)
  refine go hX 5 (gs := [True, True, True, True, True]) (z' := (7, [some (.ref 65), some (.int x)], [.int (40 + (16 * x))], h)) rfl ⟨trivial, trivial, trivial, trivial, trivial, trivial⟩ ?_
  refine rt_ hX (G := True) (r := some (.int (40 + (16 * x)))) rfl trivial ?_
  exact k
theorem c_thingAt {d : Nat} {Q : Option Value → Hp → Prop} {h : Hp} {x : Int32} (k : Q (some (.int (300 + (9 * x)))) h) : Call (d + 1) 165 [.ref 65, .int x] h Q := by
  refine call_of (rfl : psM[165]? = some _) rfl rfl (rcvV rfl) (fun X hX => ?_)
  show X (0, [some (.ref 65), some (.int x)], [], h)
  refine go hX 5 (gs := [True, True, True, True, True]) (z' := (8, [some (.ref 65), some (.int x)], [.int (300 + (9 * x))], h)) rfl ⟨trivial, trivial, trivial, trivial, trivial, trivial⟩ ?_
  refine rt_ hX (G := True) (r := some (.int (300 + (9 * x)))) rfl trivial ?_
  exact k
theorem c_textAt {d : Nat} {Q : Option Value → Hp → Prop} {h : Hp} {x : Int32} (k : Q (some (.int (600 + (200 * x)))) h) : Call (d + 1) 166 [.ref 65, .int x] h Q := by
  refine call_of (rfl : psM[166]? = some _) rfl rfl (rcvV rfl) (fun X hX => ?_)
  show X (0, [some (.ref 65), some (.int x)], [], h)
  refine go hX 5 (gs := [True, True, True, True, True]) (z' := (9, [some (.ref 65), some (.int x)], [.int (600 + (200 * x))], h)) rfl ⟨trivial, trivial, trivial, trivial, trivial, trivial⟩ ?_
  refine rt_ hX (G := True) (r := some (.int (600 + (200 * x)))) rfl trivial ?_
  exact k
theorem c_eventAt {d : Nat} {Q : Option Value → Hp → Prop} {h : Hp} {x : Int32} (k : Q (some (.int (3000 + (4 * x)))) h) : Call (d + 1) 167 [.ref 65, .int x] h Q := by
  refine call_of (rfl : psM[167]? = some _) rfl rfl (rcvV rfl) (fun X hX => ?_)
  show X (0, [some (.ref 65), some (.int x)], [], h)
  refine go hX 5 (gs := [True, True, True, True, True]) (z' := (7, [some (.ref 65), some (.int x)], [.int (3000 + (4 * x))], h)) rfl ⟨trivial, trivial, trivial, trivial, trivial, trivial⟩ ?_
  refine rt_ hX (G := True) (r := some (.int (3000 + (4 * x)))) rfl trivial ?_
  exact k
theorem c_isShop {d : Nat} {Q : Option Value → Hp → Prop} {h : Hp} {x : Int32} (k1 : 0 ≤ x ∧ x ≤ h.1 66 1 - 1 → Q (some (.int 1)) h) (k0 : ¬ (0 ≤ x ∧ x ≤ h.1 66 1 - 1) → Q (some (.int 0)) h) : Call (d + 2) 168 [.ref 65, .int x] h Q := by
  refine call_of (rfl : psM[168]? = some _) rfl rfl (rcvV rfl) (fun X hX => ?_)
  show X (0, [some (.ref 65), some (.int x)], [], h)
  refine go hX 10 (gs := [True, True, True, ibd 1 3400, True, True, True, True, True, True]) (z' := (12, [some (.ref 65), some (.int x)], [.long (Int32.toInt64 ((h.1 66 1) - 1)), .long 0, .long (Int32.toInt64 x)], h)) rfl ⟨trivial, trivial, trivial, ?_, trivial, trivial, trivial, trivial, trivial, trivial, trivial⟩ ?_
  · exact ⟨by decide, by decide⟩
  refine cl hX 159 3 [.long (Int32.toInt64 x), .long 0, .long (Int32.toInt64 ((h.1 66 1) - 1))] [] rfl rfl rfl rfl ?_
  refine c_isIn (fun b1 => ?_) (fun b1 => ?_)
  ·
    show X (15, [some (.ref 65), some (.int x)], [.int 1], h)
    refine rt_ hX (G := isB 1) (r := some (.int 1)) rfl isB1 ?_
    simp only [i64_le, i64_0] at *
    exact k1 b1
  ·
    show X (15, [some (.ref 65), some (.int x)], [.int 0], h)
    refine rt_ hX (G := isB 0) (r := some (.int 0)) rfl isB0 ?_
    simp only [i64_le, i64_0] at *
    exact k0 b1
theorem c_isHand {d : Nat} {Q : Option Value → Hp → Prop} {h : Hp} {x : Int32} (k1 : 0 ≤ x ∧ x ≤ h.1 66 2 - 1 → Q (some (.int 1)) h) (k0 : ¬ (0 ≤ x ∧ x ≤ h.1 66 2 - 1) → Q (some (.int 0)) h) : Call (d + 2) 169 [.ref 65, .int x] h Q := by
  refine call_of (rfl : psM[169]? = some _) rfl rfl (rcvV rfl) (fun X hX => ?_)
  show X (0, [some (.ref 65), some (.int x)], [], h)
  refine go hX 10 (gs := [True, True, True, ibd 2 3400, True, True, True, True, True, True]) (z' := (12, [some (.ref 65), some (.int x)], [.long (Int32.toInt64 ((h.1 66 2) - 1)), .long 0, .long (Int32.toInt64 x)], h)) rfl ⟨trivial, trivial, trivial, ?_, trivial, trivial, trivial, trivial, trivial, trivial, trivial⟩ ?_
  · exact ⟨by decide, by decide⟩
  refine cl hX 159 3 [.long (Int32.toInt64 x), .long 0, .long (Int32.toInt64 ((h.1 66 2) - 1))] [] rfl rfl rfl rfl ?_
  refine c_isIn (fun b1 => ?_) (fun b1 => ?_)
  ·
    show X (15, [some (.ref 65), some (.int x)], [.int 1], h)
    refine rt_ hX (G := isB 1) (r := some (.int 1)) rfl isB1 ?_
    simp only [i64_le, i64_0] at *
    exact k1 b1
  ·
    show X (15, [some (.ref 65), some (.int x)], [.int 0], h)
    refine rt_ hX (G := isB 0) (r := some (.int 0)) rfl isB0 ?_
    simp only [i64_le, i64_0] at *
    exact k0 b1
theorem c_isThing {d : Nat} {Q : Option Value → Hp → Prop} {h : Hp} {x : Int32} (k1 : 0 ≤ x ∧ x ≤ h.1 66 3 - 1 → Q (some (.int 1)) h) (k0 : ¬ (0 ≤ x ∧ x ≤ h.1 66 3 - 1) → Q (some (.int 0)) h) : Call (d + 2) 170 [.ref 65, .int x] h Q := by
  refine call_of (rfl : psM[170]? = some _) rfl rfl (rcvV rfl) (fun X hX => ?_)
  show X (0, [some (.ref 65), some (.int x)], [], h)
  refine go hX 10 (gs := [True, True, True, ibd 3 3400, True, True, True, True, True, True]) (z' := (12, [some (.ref 65), some (.int x)], [.long (Int32.toInt64 ((h.1 66 3) - 1)), .long 0, .long (Int32.toInt64 x)], h)) rfl ⟨trivial, trivial, trivial, ?_, trivial, trivial, trivial, trivial, trivial, trivial, trivial⟩ ?_
  · exact ⟨by decide, by decide⟩
  refine cl hX 159 3 [.long (Int32.toInt64 x), .long 0, .long (Int32.toInt64 ((h.1 66 3) - 1))] [] rfl rfl rfl rfl ?_
  refine c_isIn (fun b1 => ?_) (fun b1 => ?_)
  ·
    show X (15, [some (.ref 65), some (.int x)], [.int 1], h)
    refine rt_ hX (G := isB 1) (r := some (.int 1)) rfl isB1 ?_
    simp only [i64_le, i64_0] at *
    exact k1 b1
  ·
    show X (15, [some (.ref 65), some (.int x)], [.int 0], h)
    refine rt_ hX (G := isB 0) (r := some (.int 0)) rfl isB0 ?_
    simp only [i64_le, i64_0] at *
    exact k0 b1
theorem c_isText {d : Nat} {Q : Option Value → Hp → Prop} {h : Hp} {x : Int32} (k1 : 0 ≤ x ∧ x ≤ h.1 66 4 - 1 → Q (some (.int 1)) h) (k0 : ¬ (0 ≤ x ∧ x ≤ h.1 66 4 - 1) → Q (some (.int 0)) h) : Call (d + 2) 171 [.ref 65, .int x] h Q := by
  refine call_of (rfl : psM[171]? = some _) rfl rfl (rcvV rfl) (fun X hX => ?_)
  show X (0, [some (.ref 65), some (.int x)], [], h)
  refine go hX 10 (gs := [True, True, True, ibd 4 3400, True, True, True, True, True, True]) (z' := (12, [some (.ref 65), some (.int x)], [.long (Int32.toInt64 ((h.1 66 4) - 1)), .long 0, .long (Int32.toInt64 x)], h)) rfl ⟨trivial, trivial, trivial, ?_, trivial, trivial, trivial, trivial, trivial, trivial, trivial⟩ ?_
  · exact ⟨by decide, by decide⟩
  refine cl hX 159 3 [.long (Int32.toInt64 x), .long 0, .long (Int32.toInt64 ((h.1 66 4) - 1))] [] rfl rfl rfl rfl ?_
  refine c_isIn (fun b1 => ?_) (fun b1 => ?_)
  ·
    show X (15, [some (.ref 65), some (.int x)], [.int 1], h)
    refine rt_ hX (G := isB 1) (r := some (.int 1)) rfl isB1 ?_
    simp only [i64_le, i64_0] at *
    exact k1 b1
  ·
    show X (15, [some (.ref 65), some (.int x)], [.int 0], h)
    refine rt_ hX (G := isB 0) (r := some (.int 0)) rfl isB0 ?_
    simp only [i64_le, i64_0] at *
    exact k0 b1
theorem c_isEvent {d : Nat} {Q : Option Value → Hp → Prop} {h : Hp} {x : Int32} (k1 : 0 ≤ x ∧ x ≤ h.1 66 5 - 1 → Q (some (.int 1)) h) (k0 : ¬ (0 ≤ x ∧ x ≤ h.1 66 5 - 1) → Q (some (.int 0)) h) : Call (d + 2) 239 [.ref 65, .int x] h Q := by
  refine call_of (rfl : psM[239]? = some _) rfl rfl (rcvV rfl) (fun X hX => ?_)
  show X (0, [some (.ref 65), some (.int x)], [], h)
  refine go hX 10 (gs := [True, True, True, ibd 5 3400, True, True, True, True, True, True]) (z' := (12, [some (.ref 65), some (.int x)], [.long (Int32.toInt64 ((h.1 66 5) - 1)), .long 0, .long (Int32.toInt64 x)], h)) rfl ⟨trivial, trivial, trivial, ?_, trivial, trivial, trivial, trivial, trivial, trivial, trivial⟩ ?_
  · exact ⟨by decide, by decide⟩
  refine cl hX 159 3 [.long (Int32.toInt64 x), .long 0, .long (Int32.toInt64 ((h.1 66 5) - 1))] [] rfl rfl rfl rfl ?_
  refine c_isIn (fun b1 => ?_) (fun b1 => ?_)
  ·
    show X (15, [some (.ref 65), some (.int x)], [.int 1], h)
    refine rt_ hX (G := isB 1) (r := some (.int 1)) rfl isB1 ?_
    simp only [i64_le, i64_0] at *
    exact k1 b1
  ·
    show X (15, [some (.ref 65), some (.int x)], [.int 0], h)
    refine rt_ hX (G := isB 0) (r := some (.int 0)) rfl isB0 ?_
    simp only [i64_le, i64_0] at *
    exact k0 b1
