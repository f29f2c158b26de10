/-! By hand (contracts printed by wip/se/m4.py). -/
theorem c_isHand {d : Nat} {Q : Option Value → Hp → Prop} {h : Hp} {x : Int32} (k1 : 0 ≤ x ∧ x ≤ h.1 66 2 - 1 → Q (some (.int 1)) h) (k0 : ¬ (0 ≤ x ∧ x ≤ h.1 66 2 - 1) → Q (some (.int 0)) h) : Call (d + 2) 169 [.ref 65, .int x] h Q := by
  refine call_of (rfl : psM[169]? = some _) rfl rfl (rcvV rfl) (fun X hX => ?_)
  show X (0, [some (.ref 65), some (.int x)], [], h)
  refine go hX 10 (gs := [True, True, True, ibd 2 3400, True, True, True, True, True, True]) (z' := (12, [some (.ref 65), some (.int x)], [.long (Int32.toInt64 ((h.1 66 2) - 1)), .long 0, .long (Int32.toInt64 x)], h)) rfl ⟨trivial, trivial, trivial, ?_, trivial, trivial, trivial, trivial, trivial, trivial, trivial⟩ ?_
  · exact ⟨by decide, by decide⟩
  refine cl hX 159 3 [.long (Int32.toInt64 x), .long 0, .long (Int32.toInt64 ((h.1 66 2) - 1))] [] rfl rfl rfl rfl ?_
  refine c_isIn (fun b1 => ?_) (fun b1 => ?_)
  ·
    show X (15, [some (.ref 65), some (.int x)], [.int 1], h)
    refine rt_ hX (G := isB 1) (r := some (.int 1)) rfl isB1 ?_
    simp only [i64_le, i64_0] at *
    exact k1 b1
  ·
    show X (15, [some (.ref 65), some (.int x)], [.int 0], h)
    refine rt_ hX (G := isB 0) (r := some (.int 0)) rfl isB0 ?_
    simp only [i64_le, i64_0] at *
    exact k0 b1
theorem c_becomes {d : Nat} {Q : Option Value → Hp → Prop} {h : Hp} {a v : Int32} (ha : ibd a 3400) (k : Q (some (.int (h.1 66 a))) (hI h 66 a v)) : Call (d + 1) 162 [.ref 65, .int a, .int v] h Q := by
  refine call_of (rfl : psM[162]? = some _) rfl rfl (rcvV rfl) (fun X hX => ?_)
  show X (0, [some (.ref 65), some (.int a), some (.int v), none], [], h)
  refine go hX 11 (gs := [True, ibd a 3400, True, True, True, True, True, ibd a 3400, True, True, True]) (z' := (15, [some (.ref 65), some (.int a), some (.int v), some (.int (h.1 66 a))], [.int (h.1 66 a)], (hI h 66 a v))) rfl ⟨trivial, ?_, trivial, trivial, trivial, trivial, trivial, ?_, trivial, trivial, trivial, trivial⟩ ?_
  · exact ha
  · exact ha
  refine rt_ hX (G := True) (r := some (.int (h.1 66 a))) rfl trivial ?_
  exact k
theorem c_within {d : Nat} {Q : Option Value → Hp → Prop} {h : Hp} {v lo hi : Int32} (k1 : lo ≤ v ∧ v ≤ hi → Q (some (.int 1)) h) (k0 : ¬ (lo ≤ v ∧ v ≤ hi) → Q (some (.int 0)) h) : Call (d + 1) 156 [.int v, .int lo, .int hi] h Q := by
  refine call_of (rfl : psM[156]? = some _) rfl rfl (rcvS rfl) (fun X hX => ?_)
  show X (0, [some (.int v), some (.int lo), some (.int hi)], [], h)
  refine go hX 3 (gs := [True, True, True]) (z' := (if v < lo then 14 else 5, [some (.int v), some (.int lo), some (.int hi)], [], h)) rfl ⟨trivial, trivial, trivial, trivial⟩ ?_
  refine br (fun b1 => ?_) (fun b1 => ?_)
  ·
    refine go hX 1 (gs := [True]) (z' := (15, [some (.int v), some (.int lo), some (.int hi)], [.int 0], h)) rfl ⟨trivial, trivial⟩ ?_
    refine rt_ hX (G := isB 0) (r := some (.int 0)) rfl isB0 ?_
    exact k0 (by grind)
  ·
    refine go hX 3 (gs := [True, True, True]) (z' := (if hi < v then 14 else 10, [some (.int v), some (.int lo), some (.int hi)], [], h)) rfl ⟨trivial, trivial, trivial, trivial⟩ ?_
    refine br (fun b2 => ?_) (fun b2 => ?_)
    ·
      refine go hX 1 (gs := [True]) (z' := (15, [some (.int v), some (.int lo), some (.int hi)], [.int 0], h)) rfl ⟨trivial, trivial⟩ ?_
      refine rt_ hX (G := isB 0) (r := some (.int 0)) rfl isB0 ?_
      exact k0 (by grind)
    ·
      refine go hX 2 (gs := [True, True]) (z' := (15, [some (.int v), some (.int lo), some (.int hi)], [.int 1], h)) rfl ⟨trivial, trivial, trivial⟩ ?_
      refine rt_ hX (G := isB 1) (r := some (.int 1)) rfl isB1 ?_
      exact k1 (by grind)
theorem c_holds4 {d : Nat} {Q : Option Value → Hp → Prop} {h : Hp} {x : Int32} (k1 : 0 ≤ x ∧ x < h.1 4 2 → Q (some (.int 1)) h) (k0 : ¬ (0 ≤ x ∧ x < h.1 4 2) → Q (some (.int 0)) h) : Call (d + 1) 93 [.ref 4, .int x] h Q := by
  refine call_of (rfl : psM[93]? = some _) rfl rfl (rcvV rfl) (fun X hX => ?_)
  show X (0, [some (.ref 4), some (.int x)], [], h)
  refine go hX 2 (gs := [True, True]) (z' := (if x < 0 then 16 else 4, [some (.ref 4), some (.int x)], [], h)) rfl ⟨trivial, trivial, trivial⟩ ?_
  refine br (fun b1 => ?_) (fun b1 => ?_)
  ·
    refine go hX 1 (gs := [True]) (z' := (17, [some (.ref 4), some (.int x)], [.int 0], h)) rfl ⟨trivial, trivial⟩ ?_
    refine rt_ hX (G := isB 0) (r := some (.int 0)) rfl isB0 ?_
    exact k0 (by grind)
  ·
    refine go hX 4 (gs := [True, True, True, True]) (z' := (if (h.1 4 2) ≤ x then 16 else 12, [some (.ref 4), some (.int x)], [], h)) rfl ⟨trivial, trivial, trivial, trivial, trivial⟩ ?_
    refine br (fun b2 => ?_) (fun b2 => ?_)
    ·
      refine go hX 1 (gs := [True]) (z' := (17, [some (.ref 4), some (.int x)], [.int 0], h)) rfl ⟨trivial, trivial⟩ ?_
      refine rt_ hX (G := isB 0) (r := some (.int 0)) rfl isB0 ?_
      exact k0 (by grind)
    ·
      refine go hX 2 (gs := [True, True]) (z' := (17, [some (.ref 4), some (.int x)], [.int 1], h)) rfl ⟨trivial, trivial, trivial⟩ ?_
      refine rt_ hX (G := isB 1) (r := some (.int 1)) rfl isB1 ?_
      exact k1 (by grind)
theorem c_get4 {d : Nat} {Q : Option Value → Hp → Prop} {h : Hp} {x : Int32} (x0 : 0 ≤ x) (x1 : x < h.1 4 2) (xm : h.1 4 2 ≤ 10) (k : Q (some (.int (h.1 5 ((x * 14) + 12)))) h) : Call (d + 1) 94 [.ref 4, .int x, .int 12] h Q := by
  refine call_of (rfl : psM[94]? = some _) rfl rfl (rcvV rfl) (fun X hX => ?_)
  show X (0, [some (.ref 4), some (.int x), some (.int 12)], [], h)
  refine go hX 2 (gs := [True, True]) (z' := (if x < 0 then 24 else 4, [some (.ref 4), some (.int x), some (.int 12)], [], h)) rfl ⟨trivial, trivial, trivial⟩ ?_
  refine br (fun b1 => ?_) (fun b1 => ?_)
  ·
    refine go hX 1 (gs := [True]) (z' := (25, [some (.ref 4), some (.int x), some (.int 12)], [.int 0], h)) rfl ⟨trivial, trivial⟩ ?_
    refine rt_ hX (G := True) (r := some (.int 0)) rfl trivial ?_
    exfalso; grind
  ·
    refine go hX 4 (gs := [True, True, True, True]) (z' := (if (h.1 4 2) ≤ x then 24 else 12, [some (.ref 4), some (.int x), some (.int 12)], [], h)) rfl ⟨trivial, trivial, trivial, trivial, trivial⟩ ?_
    refine br (fun b2 => ?_) (fun b2 => ?_)
    ·
      refine go hX 1 (gs := [True]) (z' := (25, [some (.ref 4), some (.int x), some (.int 12)], [.int 0], h)) rfl ⟨trivial, trivial⟩ ?_
      refine rt_ hX (G := True) (r := some (.int 0)) rfl trivial ?_
      exfalso; grind
    ·
      refine go hX 15 (gs := [ibd ((x * 14) + 12) 140, True, True, True, True, True, True, True, True, True, True, True, True, True, True]) (z' := (39, [some (.ref 4), some (.int x), some (.int 12)], [.int (h.1 5 ((x * 14) + 12))], h)) rfl ⟨?_, trivial, trivial, trivial, trivial, trivial, trivial, trivial, trivial, trivial, trivial, trivial, trivial, trivial, trivial, trivial⟩ ?_
      · exact ibd_of (B := 140) rfl (by grind) (by grind)
      refine rt_ hX (G := True) (r := some (.int (h.1 5 ((x * 14) + 12)))) rfl trivial ?_
      exact k
theorem c_set4 {d : Nat} {Q : Option Value → Hp → Prop} {h : Hp} {x v : Int32} (x0 : 0 ≤ x) (x1 : x < h.1 4 2) (xm : h.1 4 2 ≤ 10) (k : Q none (hI h 5 ((x * 14) + 12) v)) : Call (d + 1) 95 [.ref 4, .int x, .int 12, .int v] h Q := by
  refine call_of (rfl : psM[95]? = some _) rfl rfl (rcvV rfl) (fun X hX => ?_)
  show X (0, [some (.ref 4), some (.int x), some (.int 12), some (.int v)], [], h)
  refine go hX 2 (gs := [True, True]) (z' := (if x < 0 then 24 else 4, [some (.ref 4), some (.int x), some (.int 12), some (.int v)], [], h)) rfl ⟨trivial, trivial, trivial⟩ ?_
  refine br (fun b1 => ?_) (fun b1 => ?_)
  ·
    refine rt_ hX (G := True) (r := none) rfl trivial ?_
    exfalso; grind
  ·
    refine go hX 4 (gs := [True, True, True, True]) (z' := (if (h.1 4 2) ≤ x then 24 else 12, [some (.ref 4), some (.int x), some (.int 12), some (.int v)], [], h)) rfl ⟨trivial, trivial, trivial, trivial, trivial⟩ ?_
    refine br (fun b2 => ?_) (fun b2 => ?_)
    ·
      refine rt_ hX (G := True) (r := none) rfl trivial ?_
      exfalso; grind
    ·
      refine go hX 16 (gs := [ibd ((x * 14) + 12) 140, True, True, True, True, True, True, True, True, True, True, True, True, True, True, True]) (z' := (39, [some (.ref 4), some (.int x), some (.int 12), some (.int v)], [], (hI h 5 ((x * 14) + 12) v))) rfl ⟨?_, trivial, trivial, trivial, trivial, trivial, trivial, trivial, trivial, trivial, trivial, trivial, trivial, trivial, trivial, trivial, trivial⟩ ?_
      · exact ibd_of (B := 140) rfl (by grind) (by grind)
      refine rt_ hX (G := True) (r := none) rfl trivial ?_
      exact k
theorem c_barred {d : Nat} {Q : Option Value → Hp → Prop} {h : Hp} {x y : Int32} (x0 : 0 ≤ x) (x1 : x < h.1 4 2) (xm : h.1 4 2 ≤ 10) (k1 : (h.1 5 ((x * 14) + 12) >>> (y &&& 31)) &&& 1 = 1 → Q (some (.int 1)) h) (k0 : ¬ (h.1 5 ((x * 14) + 12) >>> (y &&& 31)) &&& 1 = 1 → Q (some (.int 0)) h) : Call (d + 2) 64 [.ref 1, .int x, .int y] h Q := by
  refine call_of (rfl : psM[64]? = some _) rfl rfl (rcvV rfl) (fun X hX => ?_)
  show X (0, [some (.ref 1), some (.int x), some (.int y)], [], h)
  refine go hX 4 (gs := [True, True, True, True]) (z' := (7, [some (.ref 1), some (.int x), some (.int y)], [.int 12, .int x, .ref 4], h)) rfl ⟨trivial, trivial, trivial, trivial, trivial⟩ ?_
  refine cl hX 94 3 [.ref 4, .int x, .int 12] [] rfl rfl rfl rfl ?_
  refine c_get4 x0 x1 xm ?_
  show X (10, [some (.ref 1), some (.int x), some (.int y)], [.int (h.1 5 ((x * 14) + 12))], h)
  refine go hX 6 (gs := [True, True, True, True, True, True]) (z' := (if (((h.1 5 ((x * 14) + 12)) >>> (y &&& 31)) &&& 1) = 1 then 18 else 22, [some (.ref 1), some (.int x), some (.int y)], [], h)) rfl ⟨trivial, trivial, trivial, trivial, trivial, trivial, trivial⟩ ?_
  refine br (fun b1 => ?_) (fun b1 => ?_)
  ·
    refine go hX 2 (gs := [True, True]) (z' := (23, [some (.ref 1), some (.int x), some (.int y)], [.int 1], h)) rfl ⟨trivial, trivial, trivial⟩ ?_
    refine rt_ hX (G := isB 1) (r := some (.int 1)) rfl isB1 ?_
    exact k1 b1
  ·
    refine go hX 1 (gs := [True]) (z' := (23, [some (.ref 1), some (.int x), some (.int y)], [.int 0], h)) rfl ⟨trivial, trivial⟩ ?_
    refine rt_ hX (G := isB 0) (r := some (.int 0)) rfl isB0 ?_
    exact k0 b1
theorem c_setB1 {d : Nat} {Q : Option Value → Hp → Prop} {h : Hp} {x y : Int32} (x0 : 0 ≤ x) (x1 : x < h.1 4 2) (xm : h.1 4 2 ≤ 10) (k : Q none (hI h 5 ((x * 14) + 12) ((h.1 5 ((x * 14) + 12)) ||| (1 <<< (y &&& 31))))) : Call (d + 2) 65 [.ref 1, .int x, .int y, .int 1] h Q := by
  refine call_of (rfl : psM[65]? = some _) rfl rfl (rcvV rfl) (fun X hX => ?_)
  show X (0, [some (.ref 1), some (.int x), some (.int y), some (.int 1), none, none], [], h)
  refine go hX 8 (gs := [True, True, True, True, True, True, True, True]) (z' := (12, [some (.ref 1), some (.int x), some (.int y), some (.int 1), some (.int (1 <<< (y &&& 31))), none], [.int 12, .int x, .ref 4], h)) rfl ⟨trivial, trivial, trivial, trivial, trivial, trivial, trivial, trivial, trivial⟩ ?_
  refine cl hX 94 3 [.ref 4, .int x, .int 12] [] rfl rfl rfl rfl ?_
  refine c_get4 x0 x1 xm ?_
  show X (15, [some (.ref 1), some (.int x), some (.int y), some (.int 1), some (.int (1 <<< (y &&& 31))), none], [.int (h.1 5 ((x * 14) + 12))], h)
  refine go hX 11 (gs := [True, True, True, True, True, True, True, True, True, True, True]) (z' := (43, [some (.ref 1), some (.int x), some (.int y), some (.int 1), some (.int (1 <<< (y &&& 31))), some (.int (h.1 5 ((x * 14) + 12)))], [.int ((h.1 5 ((x * 14) + 12)) ||| (1 <<< (y &&& 31))), .int 12, .int x, .ref 4], h)) rfl ⟨trivial, trivial, trivial, trivial, trivial, trivial, trivial, trivial, trivial, trivial, trivial, trivial⟩ ?_
  refine cl hX 95 4 [.ref 4, .int x, .int 12, .int ((h.1 5 ((x * 14) + 12)) ||| (1 <<< (y &&& 31)))] [] rfl rfl rfl rfl ?_
  refine c_set4 x0 x1 xm ?_
  show X (46, [some (.ref 1), some (.int x), some (.int y), some (.int 1), some (.int (1 <<< (y &&& 31))), some (.int (h.1 5 ((x * 14) + 12)))], [], (hI h 5 ((x * 14) + 12) ((h.1 5 ((x * 14) + 12)) ||| (1 <<< (y &&& 31)))))
  refine rt_ hX (G := True) (r := none) rfl trivial ?_
  exact k
theorem c_setB0 {d : Nat} {Q : Option Value → Hp → Prop} {h : Hp} {x y : Int32} (x0 : 0 ≤ x) (x1 : x < h.1 4 2) (xm : h.1 4 2 ≤ 10) (k : Q none (hI h 5 ((x * 14) + 12) ((h.1 5 ((x * 14) + 12)) &&& ((1 <<< (y &&& 31)) ^^^ (-1))))) : Call (d + 2) 65 [.ref 1, .int x, .int y, .int 0] h Q := by
  refine call_of (rfl : psM[65]? = some _) rfl rfl (rcvV rfl) (fun X hX => ?_)
  show X (0, [some (.ref 1), some (.int x), some (.int y), some (.int 0), none, none], [], h)
  refine go hX 8 (gs := [True, True, True, True, True, True, True, True]) (z' := (12, [some (.ref 1), some (.int x), some (.int y), some (.int 0), some (.int (1 <<< (y &&& 31))), none], [.int 12, .int x, .ref 4], h)) rfl ⟨trivial, trivial, trivial, trivial, trivial, trivial, trivial, trivial, trivial⟩ ?_
  refine cl hX 94 3 [.ref 4, .int x, .int 12] [] rfl rfl rfl rfl ?_
  refine c_get4 x0 x1 xm ?_
  show X (15, [some (.ref 1), some (.int x), some (.int y), some (.int 0), some (.int (1 <<< (y &&& 31))), none], [.int (h.1 5 ((x * 14) + 12))], h)
  refine go hX 12 (gs := [True, True, True, True, True, True, True, True, True, True, True, True]) (z' := (43, [some (.ref 1), some (.int x), some (.int y), some (.int 0), some (.int (1 <<< (y &&& 31))), some (.int (h.1 5 ((x * 14) + 12)))], [.int ((h.1 5 ((x * 14) + 12)) &&& ((1 <<< (y &&& 31)) ^^^ (-1))), .int 12, .int x, .ref 4], h)) rfl ⟨trivial, trivial, trivial, trivial, trivial, trivial, trivial, trivial, trivial, trivial, trivial, trivial, trivial⟩ ?_
  refine cl hX 95 4 [.ref 4, .int x, .int 12, .int ((h.1 5 ((x * 14) + 12)) &&& ((1 <<< (y &&& 31)) ^^^ (-1)))] [] rfl rfl rfl rfl ?_
  refine c_set4 x0 x1 xm ?_
  show X (46, [some (.ref 1), some (.int x), some (.int y), some (.int 0), some (.int (1 <<< (y &&& 31))), some (.int (h.1 5 ((x * 14) + 12)))], [], (hI h 5 ((x * 14) + 12) ((h.1 5 ((x * 14) + 12)) &&& ((1 <<< (y &&& 31)) ^^^ (-1)))))
  refine rt_ hX (G := True) (r := none) rfl trivial ?_
  exact k
theorem c_barA {d : Nat} {Q : Option Value → Hp → Prop} {h : Hp} {x y o : Int32} (xm : h.1 4 2 ≤ 10) (k0 : ¬ ((0 ≤ x ∧ x < h.1 4 2) ∧ (0 ≤ y ∧ y < h.1 4 2) ∧ ¬ x = y ∧ (0 ≤ o ∧ o ≤ 1)) → Q (some (.int (-1000000001))) h) (k11 : ((0 ≤ x ∧ x < h.1 4 2) ∧ (0 ≤ y ∧ y < h.1 4 2) ∧ ¬ x = y ∧ (0 ≤ o ∧ o ≤ 1)) → ((h.1 5 ((x * 14) + 12) >>> (y &&& 31)) &&& 1 = 1) → o = 1 → Q (some (.int 1)) (hI (hI h 5 ((x * 14) + 12) ((h.1 5 ((x * 14) + 12)) ||| (1 <<< (y &&& 31)))) 5 ((y * 14) + 12) (((hI h 5 ((x * 14) + 12) ((h.1 5 ((x * 14) + 12)) ||| (1 <<< (y &&& 31)))).1 5 ((y * 14) + 12)) ||| (1 <<< (x &&& 31))))) (k10 : ((0 ≤ x ∧ x < h.1 4 2) ∧ (0 ≤ y ∧ y < h.1 4 2) ∧ ¬ x = y ∧ (0 ≤ o ∧ o ≤ 1)) → ((h.1 5 ((x * 14) + 12) >>> (y &&& 31)) &&& 1 = 1) → ¬ o = 1 → Q (some (.int 1)) (hI (hI h 5 ((x * 14) + 12) ((h.1 5 ((x * 14) + 12)) &&& ((1 <<< (y &&& 31)) ^^^ (-1)))) 5 ((y * 14) + 12) (((hI h 5 ((x * 14) + 12) ((h.1 5 ((x * 14) + 12)) &&& ((1 <<< (y &&& 31)) ^^^ (-1)))).1 5 ((y * 14) + 12)) &&& ((1 <<< (x &&& 31)) ^^^ (-1))))) (k01 : ((0 ≤ x ∧ x < h.1 4 2) ∧ (0 ≤ y ∧ y < h.1 4 2) ∧ ¬ x = y ∧ (0 ≤ o ∧ o ≤ 1)) → ¬ ((h.1 5 ((x * 14) + 12) >>> (y &&& 31)) &&& 1 = 1) → o = 1 → Q (some (.int 0)) (hI (hI h 5 ((x * 14) + 12) ((h.1 5 ((x * 14) + 12)) ||| (1 <<< (y &&& 31)))) 5 ((y * 14) + 12) (((hI h 5 ((x * 14) + 12) ((h.1 5 ((x * 14) + 12)) ||| (1 <<< (y &&& 31)))).1 5 ((y * 14) + 12)) ||| (1 <<< (x &&& 31))))) (k00 : ((0 ≤ x ∧ x < h.1 4 2) ∧ (0 ≤ y ∧ y < h.1 4 2) ∧ ¬ x = y ∧ (0 ≤ o ∧ o ≤ 1)) → ¬ ((h.1 5 ((x * 14) + 12) >>> (y &&& 31)) &&& 1 = 1) → ¬ o = 1 → Q (some (.int 0)) (hI (hI h 5 ((x * 14) + 12) ((h.1 5 ((x * 14) + 12)) &&& ((1 <<< (y &&& 31)) ^^^ (-1)))) 5 ((y * 14) + 12) (((hI h 5 ((x * 14) + 12) ((h.1 5 ((x * 14) + 12)) &&& ((1 <<< (y &&& 31)) ^^^ (-1)))).1 5 ((y * 14) + 12)) &&& ((1 <<< (x &&& 31)) ^^^ (-1))))) : Call (d + 3) 113 [.ref 0, .int x, .int y, .int o] h Q := by
  refine call_of (rfl : psM[113]? = some _) rfl rfl (rcvV rfl) (fun X hX => ?_)
  show X (0, [some (.ref 0), some (.int x), some (.int y), some (.int o), none], [], h)
  refine go hX 4 (gs := [True, True, True, True]) (z' := (8, [some (.ref 0), some (.int x), some (.int y), some (.int o), none], [.int x, .ref 4], h)) rfl ⟨trivial, trivial, trivial, trivial, trivial⟩ ?_
  refine cl hX 93 2 [.ref 4, .int x] [] rfl rfl rfl rfl ?_
  refine c_holds4 (fun b1 => ?_) (fun b1 => ?_)
  ·
    show X (11, [some (.ref 0), some (.int x), some (.int y), some (.int o), none], [.int 1], h)
    refine go hX 5 (gs := [True, True, True, True, True]) (z' := (22, [some (.ref 0), some (.int x), some (.int y), some (.int o), none], [.int y, .ref 4], h)) rfl ⟨trivial, trivial, trivial, trivial, trivial, trivial⟩ ?_
    refine cl hX 93 2 [.ref 4, .int y] [] rfl rfl rfl rfl ?_
    refine c_holds4 (fun b2 => ?_) (fun b2 => ?_)
    ·
      show X (25, [some (.ref 0), some (.int x), some (.int y), some (.int o), none], [.int 1], h)
      refine go hX 4 (gs := [True, True, True, True]) (z' := (if x = y then 42 else 33, [some (.ref 0), some (.int x), some (.int y), some (.int o), none], [], h)) rfl ⟨trivial, trivial, trivial, trivial, trivial⟩ ?_
      refine br (fun b3 => ?_) (fun b3 => ?_)
      ·
        refine go hX 1 (gs := [True]) (z' := (44, [some (.ref 0), some (.int x), some (.int y), some (.int o), none], [.int (-1000000001)], h)) rfl ⟨trivial, trivial⟩ ?_
        refine rt_ hX (G := True) (r := some (.int (-1000000001))) rfl trivial ?_
        exact k0 (by grind)
      ·
        refine go hX 3 (gs := [True, True, True]) (z' := (36, [some (.ref 0), some (.int x), some (.int y), some (.int o), none], [.int 1, .int 0, .int o], h)) rfl ⟨trivial, trivial, trivial, trivial⟩ ?_
        refine cl hX 156 3 [.int o, .int 0, .int 1] [] rfl rfl rfl rfl ?_
        refine c_within (fun b4 => ?_) (fun b4 => ?_)
        ·
          show X (39, [some (.ref 0), some (.int x), some (.int y), some (.int o), none], [.int 1], h)
          refine go hX 5 (gs := [True, True, True, True, True]) (z' := (51, [some (.ref 0), some (.int x), some (.int y), some (.int o), none], [.int y, .int x, .ref 1], h)) rfl ⟨trivial, trivial, trivial, trivial, trivial, trivial⟩ ?_
          refine cl hX 64 3 [.ref 1, .int x, .int y] [] rfl rfl rfl rfl ?_
          refine c_barred b1.1 b1.2 xm (fun b5 => ?_) (fun b5 => ?_)
          ·
            show X (54, [some (.ref 0), some (.int x), some (.int y), some (.int o), none], [.int 1], h)
            refine go hX 11 (gs := [True, True, True, True, True, True, True, True, True, True, True]) (z' := (if o = 1 then 75 else 79, [some (.ref 0), some (.int x), some (.int y), some (.int o), some (.int 1)], [.int y, .int x, .ref 1], h)) rfl ⟨trivial, trivial, trivial, trivial, trivial, trivial, trivial, trivial, trivial, trivial, trivial, trivial⟩ ?_
            refine br (fun b6 => ?_) (fun b6 => ?_)
            ·
              refine go hX 2 (gs := [True, True]) (z' := (80, [some (.ref 0), some (.int x), some (.int y), some (.int o), some (.int 1)], [.int 1, .int y, .int x, .ref 1], h)) rfl ⟨trivial, trivial, trivial⟩ ?_
              refine cl hX 65 4 [.ref 1, .int x, .int y, .int 1] [] rfl rfl rfl rfl ?_
              refine c_setB1 b1.1 b1.2 xm ?_
              show X (83, [some (.ref 0), some (.int x), some (.int y), some (.int o), some (.int 1)], [], (hI h 5 ((x * 14) + 12) ((h.1 5 ((x * 14) + 12)) ||| (1 <<< (y &&& 31)))))
              refine go hX 7 (gs := [True, True, True, True, True, True, True]) (z' := (if o = 1 then 94 else 98, [some (.ref 0), some (.int x), some (.int y), some (.int o), some (.int 1)], [.int x, .int y, .ref 1], (hI h 5 ((x * 14) + 12) ((h.1 5 ((x * 14) + 12)) ||| (1 <<< (y &&& 31)))))) rfl ⟨trivial, trivial, trivial, trivial, trivial, trivial, trivial, trivial⟩ ?_
              refine br (fun b7 => ?_) (fun b7 => ?_)
              ·
                refine go hX 2 (gs := [True, True]) (z' := (99, [some (.ref 0), some (.int x), some (.int y), some (.int o), some (.int 1)], [.int 1, .int x, .int y, .ref 1], (hI h 5 ((x * 14) + 12) ((h.1 5 ((x * 14) + 12)) ||| (1 <<< (y &&& 31)))))) rfl ⟨trivial, trivial, trivial⟩ ?_
                refine cl hX 65 4 [.ref 1, .int y, .int x, .int 1] [] rfl rfl rfl rfl ?_
                refine c_setB1 b2.1 (by rw [hI_ne (by decide)]; exact b2.2) (by rw [hI_ne (by decide)]; exact xm) ?_
                show X (102, [some (.ref 0), some (.int x), some (.int y), some (.int o), some (.int 1)], [], (hI (hI h 5 ((x * 14) + 12) ((h.1 5 ((x * 14) + 12)) ||| (1 <<< (y &&& 31)))) 5 ((y * 14) + 12) (((hI h 5 ((x * 14) + 12) ((h.1 5 ((x * 14) + 12)) ||| (1 <<< (y &&& 31)))).1 5 ((y * 14) + 12)) ||| (1 <<< (x &&& 31)))))
                refine go hX 1 (gs := [True]) (z' := (104, [some (.ref 0), some (.int x), some (.int y), some (.int o), some (.int 1)], [.int 1], (hI (hI h 5 ((x * 14) + 12) ((h.1 5 ((x * 14) + 12)) ||| (1 <<< (y &&& 31)))) 5 ((y * 14) + 12) (((hI h 5 ((x * 14) + 12) ((h.1 5 ((x * 14) + 12)) ||| (1 <<< (y &&& 31)))).1 5 ((y * 14) + 12)) ||| (1 <<< (x &&& 31)))))) rfl ⟨trivial, trivial⟩ ?_
                refine rt_ hX (G := True) (r := some (.int 1)) rfl trivial ?_
                exact k11 ⟨b1, b2, b3, b4⟩ b5 b6
              ·
                refine go hX 1 (gs := [True]) (z' := (99, [some (.ref 0), some (.int x), some (.int y), some (.int o), some (.int 1)], [.int 0, .int x, .int y, .ref 1], (hI h 5 ((x * 14) + 12) ((h.1 5 ((x * 14) + 12)) ||| (1 <<< (y &&& 31)))))) rfl ⟨trivial, trivial⟩ ?_
                refine cl hX 65 4 [.ref 1, .int y, .int x, .int 0] [] rfl rfl rfl rfl ?_
                refine c_setB0 b2.1 (by rw [hI_ne (by decide)]; exact b2.2) (by rw [hI_ne (by decide)]; exact xm) ?_
                show X (102, [some (.ref 0), some (.int x), some (.int y), some (.int o), some (.int 1)], [], (hI (hI h 5 ((x * 14) + 12) ((h.1 5 ((x * 14) + 12)) ||| (1 <<< (y &&& 31)))) 5 ((y * 14) + 12) (((hI h 5 ((x * 14) + 12) ((h.1 5 ((x * 14) + 12)) ||| (1 <<< (y &&& 31)))).1 5 ((y * 14) + 12)) &&& ((1 <<< (x &&& 31)) ^^^ (-1)))))
                refine go hX 1 (gs := [True]) (z' := (104, [some (.ref 0), some (.int x), some (.int y), some (.int o), some (.int 1)], [.int 1], (hI (hI h 5 ((x * 14) + 12) ((h.1 5 ((x * 14) + 12)) ||| (1 <<< (y &&& 31)))) 5 ((y * 14) + 12) (((hI h 5 ((x * 14) + 12) ((h.1 5 ((x * 14) + 12)) ||| (1 <<< (y &&& 31)))).1 5 ((y * 14) + 12)) &&& ((1 <<< (x &&& 31)) ^^^ (-1)))))) rfl ⟨trivial, trivial⟩ ?_
                refine rt_ hX (G := True) (r := some (.int 1)) rfl trivial ?_
                exact absurd b6 b7
            ·
              refine go hX 1 (gs := [True]) (z' := (80, [some (.ref 0), some (.int x), some (.int y), some (.int o), some (.int 1)], [.int 0, .int y, .int x, .ref 1], h)) rfl ⟨trivial, trivial⟩ ?_
              refine cl hX 65 4 [.ref 1, .int x, .int y, .int 0] [] rfl rfl rfl rfl ?_
              refine c_setB0 b1.1 b1.2 xm ?_
              show X (83, [some (.ref 0), some (.int x), some (.int y), some (.int o), some (.int 1)], [], (hI h 5 ((x * 14) + 12) ((h.1 5 ((x * 14) + 12)) &&& ((1 <<< (y &&& 31)) ^^^ (-1)))))
              refine go hX 7 (gs := [True, True, True, True, True, True, True]) (z' := (if o = 1 then 94 else 98, [some (.ref 0), some (.int x), some (.int y), some (.int o), some (.int 1)], [.int x, .int y, .ref 1], (hI h 5 ((x * 14) + 12) ((h.1 5 ((x * 14) + 12)) &&& ((1 <<< (y &&& 31)) ^^^ (-1)))))) rfl ⟨trivial, trivial, trivial, trivial, trivial, trivial, trivial, trivial⟩ ?_
              refine br (fun b8 => ?_) (fun b8 => ?_)
              ·
                refine go hX 2 (gs := [True, True]) (z' := (99, [some (.ref 0), some (.int x), some (.int y), some (.int o), some (.int 1)], [.int 1, .int x, .int y, .ref 1], (hI h 5 ((x * 14) + 12) ((h.1 5 ((x * 14) + 12)) &&& ((1 <<< (y &&& 31)) ^^^ (-1)))))) rfl ⟨trivial, trivial, trivial⟩ ?_
                refine cl hX 65 4 [.ref 1, .int y, .int x, .int 1] [] rfl rfl rfl rfl ?_
                refine c_setB1 b2.1 (by rw [hI_ne (by decide)]; exact b2.2) (by rw [hI_ne (by decide)]; exact xm) ?_
                show X (102, [some (.ref 0), some (.int x), some (.int y), some (.int o), some (.int 1)], [], (hI (hI h 5 ((x * 14) + 12) ((h.1 5 ((x * 14) + 12)) &&& ((1 <<< (y &&& 31)) ^^^ (-1)))) 5 ((y * 14) + 12) (((hI h 5 ((x * 14) + 12) ((h.1 5 ((x * 14) + 12)) &&& ((1 <<< (y &&& 31)) ^^^ (-1)))).1 5 ((y * 14) + 12)) ||| (1 <<< (x &&& 31)))))
                refine go hX 1 (gs := [True]) (z' := (104, [some (.ref 0), some (.int x), some (.int y), some (.int o), some (.int 1)], [.int 1], (hI (hI h 5 ((x * 14) + 12) ((h.1 5 ((x * 14) + 12)) &&& ((1 <<< (y &&& 31)) ^^^ (-1)))) 5 ((y * 14) + 12) (((hI h 5 ((x * 14) + 12) ((h.1 5 ((x * 14) + 12)) &&& ((1 <<< (y &&& 31)) ^^^ (-1)))).1 5 ((y * 14) + 12)) ||| (1 <<< (x &&& 31)))))) rfl ⟨trivial, trivial⟩ ?_
                refine rt_ hX (G := True) (r := some (.int 1)) rfl trivial ?_
                exact absurd b8 b6
              ·
                refine go hX 1 (gs := [True]) (z' := (99, [some (.ref 0), some (.int x), some (.int y), some (.int o), some (.int 1)], [.int 0, .int x, .int y, .ref 1], (hI h 5 ((x * 14) + 12) ((h.1 5 ((x * 14) + 12)) &&& ((1 <<< (y &&& 31)) ^^^ (-1)))))) rfl ⟨trivial, trivial⟩ ?_
                refine cl hX 65 4 [.ref 1, .int y, .int x, .int 0] [] rfl rfl rfl rfl ?_
                refine c_setB0 b2.1 (by rw [hI_ne (by decide)]; exact b2.2) (by rw [hI_ne (by decide)]; exact xm) ?_
                show X (102, [some (.ref 0), some (.int x), some (.int y), some (.int o), some (.int 1)], [], (hI (hI h 5 ((x * 14) + 12) ((h.1 5 ((x * 14) + 12)) &&& ((1 <<< (y &&& 31)) ^^^ (-1)))) 5 ((y * 14) + 12) (((hI h 5 ((x * 14) + 12) ((h.1 5 ((x * 14) + 12)) &&& ((1 <<< (y &&& 31)) ^^^ (-1)))).1 5 ((y * 14) + 12)) &&& ((1 <<< (x &&& 31)) ^^^ (-1)))))
                refine go hX 1 (gs := [True]) (z' := (104, [some (.ref 0), some (.int x), some (.int y), some (.int o), some (.int 1)], [.int 1], (hI (hI h 5 ((x * 14) + 12) ((h.1 5 ((x * 14) + 12)) &&& ((1 <<< (y &&& 31)) ^^^ (-1)))) 5 ((y * 14) + 12) (((hI h 5 ((x * 14) + 12) ((h.1 5 ((x * 14) + 12)) &&& ((1 <<< (y &&& 31)) ^^^ (-1)))).1 5 ((y * 14) + 12)) &&& ((1 <<< (x &&& 31)) ^^^ (-1)))))) rfl ⟨trivial, trivial⟩ ?_
                refine rt_ hX (G := True) (r := some (.int 1)) rfl trivial ?_
                exact k10 ⟨b1, b2, b3, b4⟩ b5 b6
          ·
            show X (54, [some (.ref 0), some (.int x), some (.int y), some (.int o), none], [.int 0], h)
            refine go hX 10 (gs := [True, True, True, True, True, True, True, True, True, True]) (z' := (if o = 1 then 75 else 79, [some (.ref 0), some (.int x), some (.int y), some (.int o), some (.int 0)], [.int y, .int x, .ref 1], h)) rfl ⟨trivial, trivial, trivial, trivial, trivial, trivial, trivial, trivial, trivial, trivial, trivial⟩ ?_
            refine br (fun b9 => ?_) (fun b9 => ?_)
            ·
              refine go hX 2 (gs := [True, True]) (z' := (80, [some (.ref 0), some (.int x), some (.int y), some (.int o), some (.int 0)], [.int 1, .int y, .int x, .ref 1], h)) rfl ⟨trivial, trivial, trivial⟩ ?_
              refine cl hX 65 4 [.ref 1, .int x, .int y, .int 1] [] rfl rfl rfl rfl ?_
              refine c_setB1 b1.1 b1.2 xm ?_
              show X (83, [some (.ref 0), some (.int x), some (.int y), some (.int o), some (.int 0)], [], (hI h 5 ((x * 14) + 12) ((h.1 5 ((x * 14) + 12)) ||| (1 <<< (y &&& 31)))))
              refine go hX 7 (gs := [True, True, True, True, True, True, True]) (z' := (if o = 1 then 94 else 98, [some (.ref 0), some (.int x), some (.int y), some (.int o), some (.int 0)], [.int x, .int y, .ref 1], (hI h 5 ((x * 14) + 12) ((h.1 5 ((x * 14) + 12)) ||| (1 <<< (y &&& 31)))))) rfl ⟨trivial, trivial, trivial, trivial, trivial, trivial, trivial, trivial⟩ ?_
              refine br (fun b10 => ?_) (fun b10 => ?_)
              ·
                refine go hX 2 (gs := [True, True]) (z' := (99, [some (.ref 0), some (.int x), some (.int y), some (.int o), some (.int 0)], [.int 1, .int x, .int y, .ref 1], (hI h 5 ((x * 14) + 12) ((h.1 5 ((x * 14) + 12)) ||| (1 <<< (y &&& 31)))))) rfl ⟨trivial, trivial, trivial⟩ ?_
                refine cl hX 65 4 [.ref 1, .int y, .int x, .int 1] [] rfl rfl rfl rfl ?_
                refine c_setB1 b2.1 (by rw [hI_ne (by decide)]; exact b2.2) (by rw [hI_ne (by decide)]; exact xm) ?_
                show X (102, [some (.ref 0), some (.int x), some (.int y), some (.int o), some (.int 0)], [], (hI (hI h 5 ((x * 14) + 12) ((h.1 5 ((x * 14) + 12)) ||| (1 <<< (y &&& 31)))) 5 ((y * 14) + 12) (((hI h 5 ((x * 14) + 12) ((h.1 5 ((x * 14) + 12)) ||| (1 <<< (y &&& 31)))).1 5 ((y * 14) + 12)) ||| (1 <<< (x &&& 31)))))
                refine go hX 1 (gs := [True]) (z' := (104, [some (.ref 0), some (.int x), some (.int y), some (.int o), some (.int 0)], [.int 0], (hI (hI h 5 ((x * 14) + 12) ((h.1 5 ((x * 14) + 12)) ||| (1 <<< (y &&& 31)))) 5 ((y * 14) + 12) (((hI h 5 ((x * 14) + 12) ((h.1 5 ((x * 14) + 12)) ||| (1 <<< (y &&& 31)))).1 5 ((y * 14) + 12)) ||| (1 <<< (x &&& 31)))))) rfl ⟨trivial, trivial⟩ ?_
                refine rt_ hX (G := True) (r := some (.int 0)) rfl trivial ?_
                exact k01 ⟨b1, b2, b3, b4⟩ b5 b9
              ·
                refine go hX 1 (gs := [True]) (z' := (99, [some (.ref 0), some (.int x), some (.int y), some (.int o), some (.int 0)], [.int 0, .int x, .int y, .ref 1], (hI h 5 ((x * 14) + 12) ((h.1 5 ((x * 14) + 12)) ||| (1 <<< (y &&& 31)))))) rfl ⟨trivial, trivial⟩ ?_
                refine cl hX 65 4 [.ref 1, .int y, .int x, .int 0] [] rfl rfl rfl rfl ?_
                refine c_setB0 b2.1 (by rw [hI_ne (by decide)]; exact b2.2) (by rw [hI_ne (by decide)]; exact xm) ?_
                show X (102, [some (.ref 0), some (.int x), some (.int y), some (.int o), some (.int 0)], [], (hI (hI h 5 ((x * 14) + 12) ((h.1 5 ((x * 14) + 12)) ||| (1 <<< (y &&& 31)))) 5 ((y * 14) + 12) (((hI h 5 ((x * 14) + 12) ((h.1 5 ((x * 14) + 12)) ||| (1 <<< (y &&& 31)))).1 5 ((y * 14) + 12)) &&& ((1 <<< (x &&& 31)) ^^^ (-1)))))
                refine go hX 1 (gs := [True]) (z' := (104, [some (.ref 0), some (.int x), some (.int y), some (.int o), some (.int 0)], [.int 0], (hI (hI h 5 ((x * 14) + 12) ((h.1 5 ((x * 14) + 12)) ||| (1 <<< (y &&& 31)))) 5 ((y * 14) + 12) (((hI h 5 ((x * 14) + 12) ((h.1 5 ((x * 14) + 12)) ||| (1 <<< (y &&& 31)))).1 5 ((y * 14) + 12)) &&& ((1 <<< (x &&& 31)) ^^^ (-1)))))) rfl ⟨trivial, trivial⟩ ?_
                refine rt_ hX (G := True) (r := some (.int 0)) rfl trivial ?_
                exact absurd b9 b10
            ·
              refine go hX 1 (gs := [True]) (z' := (80, [some (.ref 0), some (.int x), some (.int y), some (.int o), some (.int 0)], [.int 0, .int y, .int x, .ref 1], h)) rfl ⟨trivial, trivial⟩ ?_
              refine cl hX 65 4 [.ref 1, .int x, .int y, .int 0] [] rfl rfl rfl rfl ?_
              refine c_setB0 b1.1 b1.2 xm ?_
              show X (83, [some (.ref 0), some (.int x), some (.int y), some (.int o), some (.int 0)], [], (hI h 5 ((x * 14) + 12) ((h.1 5 ((x * 14) + 12)) &&& ((1 <<< (y &&& 31)) ^^^ (-1)))))
              refine go hX 7 (gs := [True, True, True, True, True, True, True]) (z' := (if o = 1 then 94 else 98, [some (.ref 0), some (.int x), some (.int y), some (.int o), some (.int 0)], [.int x, .int y, .ref 1], (hI h 5 ((x * 14) + 12) ((h.1 5 ((x * 14) + 12)) &&& ((1 <<< (y &&& 31)) ^^^ (-1)))))) rfl ⟨trivial, trivial, trivial, trivial, trivial, trivial, trivial, trivial⟩ ?_
              refine br (fun b11 => ?_) (fun b11 => ?_)
              ·
                refine go hX 2 (gs := [True, True]) (z' := (99, [some (.ref 0), some (.int x), some (.int y), some (.int o), some (.int 0)], [.int 1, .int x, .int y, .ref 1], (hI h 5 ((x * 14) + 12) ((h.1 5 ((x * 14) + 12)) &&& ((1 <<< (y &&& 31)) ^^^ (-1)))))) rfl ⟨trivial, trivial, trivial⟩ ?_
                refine cl hX 65 4 [.ref 1, .int y, .int x, .int 1] [] rfl rfl rfl rfl ?_
                refine c_setB1 b2.1 (by rw [hI_ne (by decide)]; exact b2.2) (by rw [hI_ne (by decide)]; exact xm) ?_
                show X (102, [some (.ref 0), some (.int x), some (.int y), some (.int o), some (.int 0)], [], (hI (hI h 5 ((x * 14) + 12) ((h.1 5 ((x * 14) + 12)) &&& ((1 <<< (y &&& 31)) ^^^ (-1)))) 5 ((y * 14) + 12) (((hI h 5 ((x * 14) + 12) ((h.1 5 ((x * 14) + 12)) &&& ((1 <<< (y &&& 31)) ^^^ (-1)))).1 5 ((y * 14) + 12)) ||| (1 <<< (x &&& 31)))))
                refine go hX 1 (gs := [True]) (z' := (104, [some (.ref 0), some (.int x), some (.int y), some (.int o), some (.int 0)], [.int 0], (hI (hI h 5 ((x * 14) + 12) ((h.1 5 ((x * 14) + 12)) &&& ((1 <<< (y &&& 31)) ^^^ (-1)))) 5 ((y * 14) + 12) (((hI h 5 ((x * 14) + 12) ((h.1 5 ((x * 14) + 12)) &&& ((1 <<< (y &&& 31)) ^^^ (-1)))).1 5 ((y * 14) + 12)) ||| (1 <<< (x &&& 31)))))) rfl ⟨trivial, trivial⟩ ?_
                refine rt_ hX (G := True) (r := some (.int 0)) rfl trivial ?_
                exact absurd b11 b9
              ·
                refine go hX 1 (gs := [True]) (z' := (99, [some (.ref 0), some (.int x), some (.int y), some (.int o), some (.int 0)], [.int 0, .int x, .int y, .ref 1], (hI h 5 ((x * 14) + 12) ((h.1 5 ((x * 14) + 12)) &&& ((1 <<< (y &&& 31)) ^^^ (-1)))))) rfl ⟨trivial, trivial⟩ ?_
                refine cl hX 65 4 [.ref 1, .int y, .int x, .int 0] [] rfl rfl rfl rfl ?_
                refine c_setB0 b2.1 (by rw [hI_ne (by decide)]; exact b2.2) (by rw [hI_ne (by decide)]; exact xm) ?_
                show X (102, [some (.ref 0), some (.int x), some (.int y), some (.int o), some (.int 0)], [], (hI (hI h 5 ((x * 14) + 12) ((h.1 5 ((x * 14) + 12)) &&& ((1 <<< (y &&& 31)) ^^^ (-1)))) 5 ((y * 14) + 12) (((hI h 5 ((x * 14) + 12) ((h.1 5 ((x * 14) + 12)) &&& ((1 <<< (y &&& 31)) ^^^ (-1)))).1 5 ((y * 14) + 12)) &&& ((1 <<< (x &&& 31)) ^^^ (-1)))))
                refine go hX 1 (gs := [True]) (z' := (104, [some (.ref 0), some (.int x), some (.int y), some (.int o), some (.int 0)], [.int 0], (hI (hI h 5 ((x * 14) + 12) ((h.1 5 ((x * 14) + 12)) &&& ((1 <<< (y &&& 31)) ^^^ (-1)))) 5 ((y * 14) + 12) (((hI h 5 ((x * 14) + 12) ((h.1 5 ((x * 14) + 12)) &&& ((1 <<< (y &&& 31)) ^^^ (-1)))).1 5 ((y * 14) + 12)) &&& ((1 <<< (x &&& 31)) ^^^ (-1)))))) rfl ⟨trivial, trivial⟩ ?_
                refine rt_ hX (G := True) (r := some (.int 0)) rfl trivial ?_
                exact k00 ⟨b1, b2, b3, b4⟩ b5 b9
        ·
          show X (39, [some (.ref 0), some (.int x), some (.int y), some (.int o), none], [.int 0], h)
          refine go hX 2 (gs := [True, True]) (z' := (44, [some (.ref 0), some (.int x), some (.int y), some (.int o), none], [.int (-1000000001)], h)) rfl ⟨trivial, trivial, trivial⟩ ?_
          refine rt_ hX (G := True) (r := some (.int (-1000000001))) rfl trivial ?_
          exact k0 (by grind)
    ·
      show X (25, [some (.ref 0), some (.int x), some (.int y), some (.int o), none], [.int 0], h)
      refine go hX 2 (gs := [True, True]) (z' := (44, [some (.ref 0), some (.int x), some (.int y), some (.int o), none], [.int (-1000000001)], h)) rfl ⟨trivial, trivial, trivial⟩ ?_
      refine rt_ hX (G := True) (r := some (.int (-1000000001))) rfl trivial ?_
      exact k0 (by grind)
  ·
    show X (11, [some (.ref 0), some (.int x), some (.int y), some (.int o), none], [.int 0], h)
    refine go hX 2 (gs := [True, True]) (z' := (44, [some (.ref 0), some (.int x), some (.int y), some (.int o), none], [.int (-1000000001)], h)) rfl ⟨trivial, trivial, trivial⟩ ?_
    refine rt_ hX (G := True) (r := some (.int (-1000000001))) rfl trivial ?_
    exact k0 (by grind)
theorem c_barB {d : Nat} {Q : Option Value → Hp → Prop} {h : Hp} {x y o : Int32} (xn : 0 ≤ h.1 66 2) (xm : h.1 66 2 ≤ 10) (k0 : ¬ ((0 ≤ x ∧ x ≤ h.1 66 2 - 1) ∧ (0 ≤ y ∧ y ≤ h.1 66 2 - 1) ∧ ¬ x = y ∧ (0 ≤ o ∧ o ≤ 1)) → Q (some (.int (-1000000001))) h) (k1 : ((0 ≤ x ∧ x ≤ h.1 66 2 - 1) ∧ (0 ≤ y ∧ y ≤ h.1 66 2 - 1) ∧ ¬ x = y ∧ (0 ≤ o ∧ o ≤ 1)) → Q (some (.int ((hI h 66 ((200 + (10 * y)) + x) o).1 66 ((200 + (10 * x)) + y)))) (hI (hI h 66 ((200 + (10 * y)) + x) o) 66 ((200 + (10 * x)) + y) o)) : Call (d + 3) 185 [.ref 65, .int x, .int y, .int o] h Q := by
  refine call_of (rfl : psM[185]? = some _) rfl rfl (rcvV rfl) (fun X hX => ?_)
  show X (0, [some (.ref 65), some (.int x), some (.int y), some (.int o)], [], h)
  refine go hX 2 (gs := [True, True]) (z' := (2, [some (.ref 65), some (.int x), some (.int y), some (.int o)], [.int x, .ref 65], h)) rfl ⟨trivial, trivial, trivial⟩ ?_
  refine cl hX 169 2 [.ref 65, .int x] [] rfl rfl rfl rfl ?_
  refine c_isHand (fun b1 => ?_) (fun b1 => ?_)
  ·
    show X (5, [some (.ref 65), some (.int x), some (.int y), some (.int o)], [.int 1], h)
    refine go hX 3 (gs := [True, True, True]) (z' := (10, [some (.ref 65), some (.int x), some (.int y), some (.int o)], [.int y, .ref 65], h)) rfl ⟨trivial, trivial, trivial, trivial⟩ ?_
    refine cl hX 169 2 [.ref 65, .int y] [] rfl rfl rfl rfl ?_
    refine c_isHand (fun b2 => ?_) (fun b2 => ?_)
    ·
      show X (13, [some (.ref 65), some (.int x), some (.int y), some (.int o)], [.int 1], h)
      refine go hX 4 (gs := [True, True, True, True]) (z' := (if x = y then 31 else 21, [some (.ref 65), some (.int x), some (.int y), some (.int o)], [], h)) rfl ⟨trivial, trivial, trivial, trivial, trivial⟩ ?_
      refine br (fun b3 => ?_) (fun b3 => ?_)
      ·
        refine go hX 1 (gs := [True]) (z' := (33, [some (.ref 65), some (.int x), some (.int y), some (.int o)], [.int (-1000000001)], h)) rfl ⟨trivial, trivial⟩ ?_
        refine rt_ hX (G := True) (r := some (.int (-1000000001))) rfl trivial ?_
        exact k0 (fun q => q.2.2.1 b3)
      ·
        refine go hX 4 (gs := [True, True, True, True]) (z' := (25, [some (.ref 65), some (.int x), some (.int y), some (.int o)], [.long 1, .long 0, .long (Int32.toInt64 o)], h)) rfl ⟨trivial, trivial, trivial, trivial, trivial⟩ ?_
        refine cl hX 159 3 [.long (Int32.toInt64 o), .long 0, .long 1] [] rfl rfl rfl rfl ?_
        refine c_isIn (fun b4 => ?_) (fun b4 => ?_)
        ·
          show X (28, [some (.ref 65), some (.int x), some (.int y), some (.int o)], [.int 1], h)
          refine go hX 21 (gs := [True, True, True, True, True, True, True, True, True, ibd ((200 + (10 * y)) + x) 3400, True, True, True, True, True, True, True, True, True, True, True]) (z' := (62, [some (.ref 65), some (.int x), some (.int y), some (.int o)], [.int o, .int ((200 + (10 * x)) + y), .ref 65], (hI h 66 ((200 + (10 * y)) + x) o))) rfl ⟨trivial, trivial, trivial, trivial, trivial, trivial, trivial, trivial, trivial, ?_, trivial, trivial, trivial, trivial, trivial, trivial, trivial, trivial, trivial, trivial, trivial, trivial⟩ ?_
          · exact ibd_of (B := 3400) rfl (by grind) (by grind)
          refine cl hX 162 3 [.ref 65, .int ((200 + (10 * x)) + y), .int o] [] rfl rfl rfl rfl ?_
          refine c_becomes (ibd_of (B := 3400) rfl (by grind) (by grind)) ?_
          show X (65, [some (.ref 65), some (.int x), some (.int y), some (.int o)], [.int ((hI h 66 ((200 + (10 * y)) + x) o).1 66 ((200 + (10 * x)) + y))], (hI (hI h 66 ((200 + (10 * y)) + x) o) 66 ((200 + (10 * x)) + y) o))
          refine rt_ hX (G := True) (r := some (.int ((hI h 66 ((200 + (10 * y)) + x) o).1 66 ((200 + (10 * x)) + y)))) rfl trivial ?_
          exact k1 ⟨b1, b2, b3, ⟨(i64_0 o).mp b4.1, (i64_le o 1).mp b4.2⟩⟩
        ·
          show X (28, [some (.ref 65), some (.int x), some (.int y), some (.int o)], [.int 0], h)
          refine go hX 2 (gs := [True, True]) (z' := (33, [some (.ref 65), some (.int x), some (.int y), some (.int o)], [.int (-1000000001)], h)) rfl ⟨trivial, trivial, trivial⟩ ?_
          refine rt_ hX (G := True) (r := some (.int (-1000000001))) rfl trivial ?_
          exact k0 (fun q => b4 ⟨(i64_0 o).mpr q.2.2.2.1, (i64_le o 1).mpr q.2.2.2.2⟩)
    ·
      show X (13, [some (.ref 65), some (.int x), some (.int y), some (.int o)], [.int 0], h)
      refine go hX 2 (gs := [True, True]) (z' := (33, [some (.ref 65), some (.int x), some (.int y), some (.int o)], [.int (-1000000001)], h)) rfl ⟨trivial, trivial, trivial⟩ ?_
      refine rt_ hX (G := True) (r := some (.int (-1000000001))) rfl trivial ?_
      exact k0 (fun q => b2 q.2.1)
  ·
    show X (5, [some (.ref 65), some (.int x), some (.int y), some (.int o)], [.int 0], h)
    refine go hX 2 (gs := [True, True]) (z' := (33, [some (.ref 65), some (.int x), some (.int y), some (.int o)], [.int (-1000000001)], h)) rfl ⟨trivial, trivial, trivial⟩ ?_
    refine rt_ hX (G := True) (r := some (.int (-1000000001))) rfl trivial ?_
    exact k0 (fun q => b1 q.1)
theorem bz_0 {v b : Int} : bitZ v b = 0 ∨ bitZ v b = 1 := by
  unfold bitZ
  split
  · exact Or.inr rfl
  · exact Or.inl rfl
set_option maxRecDepth 100000 in
/-- bits of so few, one by one -/
theorem bar_all : ∀ v : Nat, v < 1024 → ∀ b : Nat, b < 10 → (((nI v >>> (nI b &&& 31)) &&& 1 = 1 ↔ v.testBit b = true) ∧ (nI v ||| (1 <<< (nI b &&& 31))) = nI (v ||| 2 ^ b) ∧ (nI v &&& ((1 <<< (nI b &&& 31)) ^^^ (-1))) = nI (v &&& (1023 - 2 ^ b))) := by decide +kernel
theorem bar_or {v b c : Nat} : (v ||| 2 ^ b).testBit c = (v.testBit c || decide (b = c)) := by
  rw [Nat.testBit_or, Nat.testBit_two_pow]
set_option maxRecDepth 100000 in
theorem bar_an : ∀ b : Nat, b < 10 → ∀ c : Nat, c < 10 → (1023 - 2 ^ b).testBit c = !(decide (b = c)) := by decide +kernel
/-- one bit is set or not -/
noncomputable def nbN (v b : Nat) (o : Bool) : Nat := if o = true then v ||| 2 ^ b else v &&& (1023 - 2 ^ b)
theorem nbN_lt {v b : Nat} {o : Bool} (hv : v < 1024) (hb : b < 10) : nbN v b o < 1024 := by
  unfold nbN
  split
  · exact Nat.or_lt_two_pow (n := 10) hv (by have := Nat.pow_lt_pow_right (a := 2) (by decide) hb; exact this)
  · exact Nat.lt_of_le_of_lt Nat.and_le_left hv
theorem nbN_bit {v b c : Nat} {o : Bool} (hb : b < 10) (hc : c < 10) : (nbN v b o).testBit c = if b = c then o else v.testBit c := by
  unfold nbN
  cases o
  · rw [if_neg (by decide), Nat.testBit_and, bar_an b hb c hc]
    by_cases h : b = c
    · rw [if_pos h, decide_eq_true h]; simp
    · rw [if_neg h, decide_eq_false h]; simp
  · rw [if_pos rfl, bar_or]
    by_cases h : b = c
    · rw [if_pos h, decide_eq_true h]; simp
    · rw [if_neg h, decide_eq_false h]; simp
theorem bar_bg {h H : Hp} {w : Int} {X Y : Nat} {o : Bool} (hX : X < 10) (hY : Y < 10) (hne : X ≠ Y) (w1 : (X : Int) < w) (w2 : (Y : Int) < w) (B : BG h 0 w) (e1 : ∀ i : Int, 0 ≤ i → i ≤ 100000 → rlV H 0 5 i = if i = 12 + 14 * (Y : Int) then (nbN (rlV h 0 5 (12 + 14 * (Y : Int))).toNat X o : Int) else if i = 12 + 14 * (X : Int) then (nbN (rlV h 0 5 (12 + 14 * (X : Int))).toNat Y o : Int) else rlV h 0 5 i) (e2 : ∀ i : Int, 0 ≤ i → i ≤ 100000 → rlV H 0 66 i = if i = 200 + 10 * (X : Int) + Y ∨ i = 200 + 10 * (Y : Int) + X then (if o = true then 1 else 0) else rlV h 0 66 i) : BG H 0 w := by
  refine ⟨by decide, fun a b a0 a1 b0 b1 => ?_⟩
  obtain ⟨-, B⟩ := B
  have B := B a b a0 a1 b0 b1
  rw [show bgC 0 = 5 from rfl, show bgR 0 = 66 from rfl] at B ⊢
  obtain ⟨u1, u2, u3, u4, u5⟩ := B
  rw [e1 _ (by omega) (by omega), e2 (200 + 10 * a + b) (by omega) (by omega), e2 (200 + 10 * b + a) (by omega) (by omega)]
  have sym : (if 200 + 10 * a + b = 200 + 10 * (X : Int) + Y ∨ 200 + 10 * a + b = 200 + 10 * (Y : Int) + X then (if o = true then (1 : Int) else 0) else rlV h 0 66 (200 + 10 * a + b)) = (if 200 + 10 * b + a = 200 + 10 * (X : Int) + Y ∨ 200 + 10 * b + a = 200 + 10 * (Y : Int) + X then (if o = true then (1 : Int) else 0) else rlV h 0 66 (200 + 10 * b + a)) := by
    by_cases q : 200 + 10 * a + b = 200 + 10 * (X : Int) + Y ∨ 200 + 10 * a + b = 200 + 10 * (Y : Int) + X
    · have q' : 200 + 10 * b + a = 200 + 10 * (X : Int) + Y ∨ 200 + 10 * b + a = 200 + 10 * (Y : Int) + X := by
        rcases q with q | q
        · have : a = X := by omega
          omega
        · have : a = Y := by omega
          omega
      rw [if_pos q, if_pos q']
    · have q' : ¬ (200 + 10 * b + a = 200 + 10 * (X : Int) + Y ∨ 200 + 10 * b + a = 200 + 10 * (Y : Int) + X) := fun z => q (by
        rcases z with z | z
        · have : b = X := by omega
          omega
        · have : b = Y := by omega
          omega)
      rw [if_neg q, if_neg q']
      exact u5
  suffices main : _ ∧ _ ∧ _ ∧ _ from ⟨main.1, main.2.1, main.2.2.1, main.2.2.2, sym⟩
  have key : ∀ (Z W : Nat), Z < 10 → W < 10 → Z ≠ W → a = Z → (Z : Int) < w → (W : Int) < w → (if 200 + 10 * a + b = 200 + 10 * (X : Int) + Y ∨ 200 + 10 * a + b = 200 + 10 * (Y : Int) + X then (if o = true then (1 : Int) else 0) else rlV h 0 66 (200 + 10 * a + b)) = (if b = W then (if o = true then 1 else 0) else rlV h 0 66 (200 + 10 * a + b)) → 0 ≤ ((nbN (rlV h 0 5 (12 + 14 * (Z : Int))).toNat W o : Nat) : Int) ∧ ((nbN (rlV h 0 5 (12 + 14 * (Z : Int))).toNat W o : Nat) : Int) < 1024 ∧ (if 200 + 10 * a + b = 200 + 10 * (X : Int) + Y ∨ 200 + 10 * a + b = 200 + 10 * (Y : Int) + X then (if o = true then (1 : Int) else 0) else rlV h 0 66 (200 + 10 * a + b)) = bitZ ((nbN (rlV h 0 5 (12 + 14 * (Z : Int))).toNat W o : Nat) : Int) b ∧ (w ≤ a ∨ w ≤ b → bitZ ((nbN (rlV h 0 5 (12 + 14 * (Z : Int))).toNat W o : Nat) : Int) b = 0) := by
    intro Z W hZ hW hZW ha z1 z2 hif
    subst ha
    have hv : (rlV h 0 5 (12 + 14 * (Z : Int))).toNat < 1024 := by omega
    have hb := nbN_bit (v := (rlV h 0 5 (12 + 14 * (Z : Int))).toNat) (o := o) hW (show b.toNat < 10 by omega)
    have ez : bitZ ((nbN (rlV h 0 5 (12 + 14 * (Z : Int))).toNat W o : Nat) : Int) b = if b = W then (if o = true then 1 else 0) else bitZ (rlV h 0 5 (12 + 14 * (Z : Int))) b := by
      show (if (nbN (rlV h 0 5 (12 + 14 * (Z : Int))).toNat W o).testBit b.toNat = true then (1 : Int) else 0) = _
      by_cases hbW : b = W
      · rw [if_pos (show W = b.toNat by omega)] at hb
        rw [hb, if_pos hbW]
      · rw [if_neg (show ¬ W = b.toNat by omega)] at hb
        rw [hb, if_neg hbW]
        rfl
    refine ⟨by omega, by have := nbN_lt (o := o) hv hW; omega, ?_, fun q => ?_⟩
    · rw [hif, ez, u3]
    · rw [ez, if_neg (by omega)]
      exact u4 q
  by_cases hY' : a = Y
  · rw [if_pos (by omega)]
    refine key Y X hY hX (Ne.symm hne) hY' w2 w1 ?_
    by_cases hb : b = X
    · rw [if_pos hb, if_pos (Or.inr (by omega))]
    · rw [if_neg hb, if_neg (by omega)]
  · rw [if_neg (by omega)]
    by_cases hX' : a = X
    · rw [if_pos (by omega)]
      refine key X Y hX hY hne hX' w1 w2 ?_
      by_cases hb : b = Y
      · rw [if_pos hb, if_pos (Or.inl (by omega))]
      · rw [if_neg hb, if_neg (by omega)]
    · rw [if_neg (by omega), if_neg (by omega)]
      exact ⟨u1, u2, u3, u4⟩
theorem ix14 : ∀ X : Nat, X < 10 → nI X * 14 + 12 = nI (12 + 14 * X) := by decide +kernel
theorem ix200 : ∀ X : Nat, X < 10 → ∀ Y : Nat, Y < 10 → 200 + 10 * nI Y + nI X = nI (200 + 10 * Y + X) := by decide +kernel
theorem bar_A {d : Nat} {h : Hp} {X Y : Nat} {o : Int32} {w : Int} (n1 : h.1 4 2 ≤ 10) (hX : X < 10) (hY : Y < 10) (hXY : X ≠ Y) (hv : (0 ≤ nI X ∧ nI X < h.1 4 2) ∧ (0 ≤ nI Y ∧ nI Y < h.1 4 2) ∧ ¬ nI X = nI Y ∧ (0 ≤ o ∧ o ≤ 1)) (B : BG h 0 w) : ∃ (rA : Int32) (hA : Hp), CRun (d + 3) 113 [.ref 0, .int (nI X), .int (nI Y), .int o] h (some (.int rA)) hA ∧ rA.toInt = bitZ (rlV h 0 5 (12 + 14 * (X : Int))) Y ∧ hA = hI (hI h 5 (nI (12 + 14 * X)) (nI (nbN (rlV h 0 5 (12 + 14 * (X : Int))).toNat Y (decide (o = 1))))) 5 (nI (12 + 14 * Y)) (nI (nbN (rlV h 0 5 (12 + 14 * (Y : Int))).toNat X (decide (o = 1)))) := by
  have vl : ∀ Z : Nat, Z < 10 → (h.1 5 (nI (12 + 14 * Z)) = nI (rlV h 0 5 (12 + 14 * (Z : Int))).toNat) ∧ (rlV h 0 5 (12 + 14 * (Z : Int))).toNat < 1024 := fun Z hZ => by
    obtain ⟨u1, u2, -, -⟩ := B.2 Z 0 (by omega) (by omega) (by decide) (by decide)
    have u1 : 0 ≤ rlV h 0 5 (12 + 14 * (Z : Int)) := u1
    have u2 : rlV h 0 5 (12 + 14 * (Z : Int)) < 1024 := u2
    refine ⟨?_, by omega⟩
    have e : Int32.ofInt (12 + 14 * (Z : Int)) = nI (12 + 14 * Z) := by rw [← nI_ofI (by omega)]; congr 1
    have := i_nI (v := h.1 5 (nI (12 + 14 * Z))) (by rw [← e]; exact u1)
    rw [this, ← e]
    rfl
  obtain ⟨vx, bx⟩ := vl X hX
  obtain ⟨vy, byy⟩ := vl Y hY
  obtain ⟨a1, a2, a3⟩ := bar_all _ bx Y hY
  obtain ⟨-, a5, a6⟩ := bar_all _ byy X hX
  have nj : nI (12 + 14 * Y) ≠ nI (12 + 14 * X) := fun q => by
    have := congrArg Int32.toInt q
    rw [nI_i (by omega), nI_i (by omega)] at this
    omega
  have c0 : (0 : Int32).toInt = 0 := rfl
  have c1 : (1 : Int32).toInt = 1 := rfl
  have bt : ((h.1 5 ((nI X * 14) + 12) >>> (nI Y &&& 31)) &&& 1 = 1) ↔ (rlV h 0 5 (12 + 14 * (X : Int))).toNat.testBit Y = true := by rw [ix14 X hX, vx]; exact a1
  have bz : ∀ r : Int32, (r = 1 ∧ (rlV h 0 5 (12 + 14 * (X : Int))).toNat.testBit Y = true ∨ r = 0 ∧ ¬ (rlV h 0 5 (12 + 14 * (X : Int))).toNat.testBit Y = true) → r.toInt = bitZ (rlV h 0 5 (12 + 14 * (X : Int))) Y := fun r q => by
    unfold bitZ
    rw [show ((Y : Nat) : Int).toNat = Y from Int.toNat_natCast Y]
    rcases q with ⟨rfl, q⟩ | ⟨rfl, q⟩
    · rw [if_pos q]; rfl
    · rw [if_neg q]; rfl
  have ht : ∀ on : Bool, on = true → hI (hI h 5 ((nI X * 14) + 12) ((h.1 5 ((nI X * 14) + 12)) ||| (1 <<< (nI Y &&& 31)))) 5 ((nI Y * 14) + 12) (((hI h 5 ((nI X * 14) + 12) ((h.1 5 ((nI X * 14) + 12)) ||| (1 <<< (nI Y &&& 31)))).1 5 ((nI Y * 14) + 12)) ||| (1 <<< (nI X &&& 31))) = hI (hI h 5 (nI (12 + 14 * X)) (nI (nbN (rlV h 0 5 (12 + 14 * (X : Int))).toNat Y on))) 5 (nI (12 + 14 * Y)) (nI (nbN (rlV h 0 5 (12 + 14 * (Y : Int))).toNat X on)) := fun on e => by
    subst e
    rw [ix14 X hX, ix14 Y hY, hI_jn nj, vx, vy, a2, a5]
    rfl
  have hf : ∀ on : Bool, on = false → hI (hI h 5 ((nI X * 14) + 12) ((h.1 5 ((nI X * 14) + 12)) &&& ((1 <<< (nI Y &&& 31)) ^^^ (-1)))) 5 ((nI Y * 14) + 12) (((hI h 5 ((nI X * 14) + 12) ((h.1 5 ((nI X * 14) + 12)) &&& ((1 <<< (nI Y &&& 31)) ^^^ (-1)))).1 5 ((nI Y * 14) + 12)) &&& ((1 <<< (nI X &&& 31)) ^^^ (-1))) = hI (hI h 5 (nI (12 + 14 * X)) (nI (nbN (rlV h 0 5 (12 + 14 * (X : Int))).toNat Y on))) 5 (nI (12 + 14 * Y)) (nI (nbN (rlV h 0 5 (12 + 14 * (Y : Int))).toNat X on)) := fun on e => by
    subst e
    rw [ix14 X hX, ix14 Y hY, hI_jn nj, vx, vy, a3, a6]
    rfl
  by_cases ho : o = 1
  · by_cases hb : (rlV h 0 5 (12 + 14 * (X : Int))).toNat.testBit Y = true
    · exact ⟨1, _, fun Q q => c_barA n1 (fun z => absurd hv z) (fun _ _ _ => q) (fun _ _ z => absurd ho z) (fun _ z _ => absurd (bt.mpr hb) z) (fun _ z _ => absurd (bt.mpr hb) z), bz 1 (Or.inl ⟨rfl, hb⟩), ht _ (decide_eq_true ho)⟩
    · exact ⟨0, _, fun Q q => c_barA n1 (fun z => absurd hv z) (fun _ z _ => absurd (bt.mp z) hb) (fun _ z _ => absurd (bt.mp z) hb) (fun _ _ _ => q) (fun _ _ z => absurd ho z), bz 0 (Or.inr ⟨rfl, hb⟩), ht _ (decide_eq_true ho)⟩
  · by_cases hb : (rlV h 0 5 (12 + 14 * (X : Int))).toNat.testBit Y = true
    · exact ⟨1, _, fun Q q => c_barA n1 (fun z => absurd hv z) (fun _ _ z => absurd z ho) (fun _ _ _ => q) (fun _ z _ => absurd (bt.mpr hb) z) (fun _ z _ => absurd (bt.mpr hb) z), bz 1 (Or.inl ⟨rfl, hb⟩), hf _ (decide_eq_false ho)⟩
    · exact ⟨0, _, fun Q q => c_barA n1 (fun z => absurd hv z) (fun _ z _ => absurd (bt.mp z) hb) (fun _ z _ => absurd (bt.mp z) hb) (fun _ _ z => absurd z ho) (fun _ _ _ => q), bz 0 (Or.inr ⟨rfl, hb⟩), hf _ (decide_eq_false ho)⟩
theorem okP13 : PmOK rgT pm13 := by
  intro d hd ρ as bs h hlen hin hb hc hf hR
  have hd : 6 ≤ d := hd
  have hlen : as.length = 4 := hlen
  generalize hL : as ++ bs = L at hin
  have hin0 := hin
  obtain ⟨v0, s0, rfl, hin⟩ := hin
  rw [if_pos rfl] at hin
  obtain ⟨rfl, -, hin⟩ := hin
  obtain ⟨v1, s1, rfl, hin⟩ := hin
  rw [if_neg (by decide), if_pos rfl] at hin
  obtain ⟨g0, ⟨a0, rfl, e0⟩, hin⟩ := hin
  obtain ⟨v2, s2, rfl, hin⟩ := hin
  rw [if_neg (by decide), if_pos rfl] at hin
  obtain ⟨g1, ⟨a1, rfl, e1⟩, hin⟩ := hin
  obtain ⟨v3, s3, rfl, hin⟩ := hin
  rw [if_neg (by decide), if_pos rfl] at hin
  obtain ⟨g2, ⟨a2, rfl, e2⟩, hin⟩ := hin
  obtain ⟨v4, s4, rfl, hin⟩ := hin
  rw [if_pos rfl] at hin
  obtain ⟨rfl, -, hin⟩ := hin
  obtain ⟨v5, s5, rfl, hin⟩ := hin
  rw [if_neg (by decide), if_pos rfl] at hin
  obtain ⟨g3, ⟨b3, rfl, e3⟩, hin⟩ := hin
  obtain ⟨v6, s6, rfl, hin⟩ := hin
  rw [if_neg (by decide), if_pos rfl] at hin
  obtain ⟨g4, ⟨b4, rfl, e4⟩, hin⟩ := hin
  obtain ⟨v7, s7, rfl, hin⟩ := hin
  rw [if_neg (by decide), if_pos rfl] at hin
  obtain ⟨g5, ⟨b5, rfl, e5⟩, hin⟩ := hin
  cases hin
  obtain ⟨rfl, rfl⟩ := List.append_inj (show as ++ bs = [Value.ref 0, .int a0, .int a1, .int a2] ++ [Value.ref 65, .int b3, .int b4, .int b5] from hL) hlen
  have f0 : (0 : Int) ≤ 0 + (1 * ρ 0 + (-1 * ρ 3 + 0)) := hf _ (List.mem_of_getElem? (i := 0) rfl)
  have f1 : (0 : Int) ≤ 0 + (-1 * ρ 0 + (1 * ρ 3 + 0)) := hf _ (List.mem_of_getElem? (i := 1) rfl)
  have f2 : (0 : Int) ≤ 0 + (1 * ρ 1 + (-1 * ρ 4 + 0)) := hf _ (List.mem_of_getElem? (i := 2) rfl)
  have f3 : (0 : Int) ≤ 0 + (-1 * ρ 1 + (1 * ρ 4 + 0)) := hf _ (List.mem_of_getElem? (i := 3) rfl)
  have f4 : (0 : Int) ≤ 0 + (1 * ρ 2 + (-1 * ρ 5 + 0)) := hf _ (List.mem_of_getElem? (i := 4) rfl)
  have f5 : (0 : Int) ≤ 0 + (-1 * ρ 2 + (1 * ρ 5 + 0)) := hf _ (List.mem_of_getElem? (i := 5) rfl)
  have f6 : (0 : Int) ≤ 0 + (1 * ρ 6 + (-1 * ρ 7 + 0)) := hf _ (List.mem_of_getElem? (i := 6) rfl)
  have f7 : (0 : Int) ≤ 0 + (-1 * ρ 6 + (1 * ρ 7 + 0)) := hf _ (List.mem_of_getElem? (i := 7) rfl)
  have f16 : (0 : Int) ≤ 0 + (1 * ρ 6 + (-1 * ρ 21 + 0)) := hf _ (List.mem_of_getElem? (i := 16) rfl)
  have f17 : (0 : Int) ≤ 0 + (-1 * ρ 6 + (1 * ρ 21 + 0)) := hf _ (List.mem_of_getElem? (i := 17) rfl)
  have e0 : ρ 0 = a0.toInt := e0
  have e3 : ρ 3 = b3.toInt := e3
  have e1 : ρ 1 = a1.toInt := e1
  have e4 : ρ 4 = b4.toInt := e4
  have e2 : ρ 2 = a2.toInt := e2
  have e5 : ρ 5 = b5.toInt := e5
  obtain rfl : a0 = b3 := Int32.toInt_inj.mp (by omega)
  obtain rfl : a1 = b4 := Int32.toInt_inj.mp (by omega)
  obtain rfl : a2 = b5 := Int32.toInt_inj.mp (by omega)
  have g0 : (-2147483648 : Int) ≤ ρ 0 ∧ ρ 0 ≤ 2147483647 := g0
  have g1 : (-2147483648 : Int) ≤ ρ 1 ∧ ρ 1 ≤ 2147483647 := g1
  have g2 : (-2147483648 : Int) ≤ ρ 2 ∧ ρ 2 ≤ 2147483647 := g2
  have g3 : (-2147483648 : Int) ≤ ρ 3 ∧ ρ 3 ≤ 2147483647 := g3
  have g4 : (-2147483648 : Int) ≤ ρ 4 ∧ ρ 4 ≤ 2147483647 := g4
  have g5 : (-2147483648 : Int) ≤ ρ 5 ∧ ρ 5 ≤ 2147483647 := g5
  have r6 : (0 : Int) ≤ ρ 6 ∧ ρ 6 ≤ 10 := hb (6, 0, 10) (List.mem_of_getElem? (i := 0) rfl)
  have c6 : ρ 6 = (h.1 4 2).toInt := hc_i (hc (0, 4, (2, []), leX 6) (List.mem_of_getElem? (i := 0) rfl)) rfl
  have r7 : (0 : Int) ≤ ρ 7 ∧ ρ 7 ≤ 10 := hb (7, 0, 10) (List.mem_of_getElem? (i := 1) rfl)
  have c7 : ρ 7 = (h.1 66 2).toInt := hc_i (hc (0, 66, (2, []), leX 7) (List.mem_of_getElem? (i := 1) rfl)) rfl
  have r8 : (0 : Int) ≤ ρ 8 ∧ ρ 8 ≤ 0 := hb (8, 0, 0) (List.mem_of_getElem? (i := 2) rfl)
  have c8 : KC h 9 112 0 (ρ 8) := kc_at (hc (9, 112, (0, []), leX 8) (List.mem_of_getElem? (i := 2) rfl))
  have r9 : (0 : Int) ≤ ρ 9 ∧ ρ 9 ≤ 0 := hb (9, 0, 0) (List.mem_of_getElem? (i := 3) rfl)
  have c9 : KC h 9 128 0 (ρ 9) := kc_at (hc (9, 128, (0, []), leX 9) (List.mem_of_getElem? (i := 3) rfl))
  have r10 : (0 : Int) ≤ ρ 10 ∧ ρ 10 ≤ 0 := hb (10, 0, 0) (List.mem_of_getElem? (i := 4) rfl)
  have c10 : KC h 9 144 0 (ρ 10) := kc_at (hc (9, 144, (0, []), leX 10) (List.mem_of_getElem? (i := 4) rfl))
  have r11 : (0 : Int) ≤ ρ 11 ∧ ρ 11 ≤ 0 := hb (11, 0, 0) (List.mem_of_getElem? (i := 5) rfl)
  have c11 : KC h 9 208 0 (ρ 11) := kc_at (hc (9, 208, (0, []), leX 11) (List.mem_of_getElem? (i := 5) rfl))
  have r12 : (0 : Int) ≤ ρ 12 ∧ ρ 12 ≤ 0 := hb (12, 0, 0) (List.mem_of_getElem? (i := 6) rfl)
  have c12 : KC h 9 224 0 (ρ 12) := kc_at (hc (9, 224, (0, []), leX 12) (List.mem_of_getElem? (i := 6) rfl))
  have r13 : (0 : Int) ≤ ρ 13 ∧ ρ 13 ≤ 0 := hb (13, 0, 0) (List.mem_of_getElem? (i := 7) rfl)
  have c13 : KC h 9 240 0 (ρ 13) := kc_at (hc (9, 240, (0, []), leX 13) (List.mem_of_getElem? (i := 7) rfl))
  have r14 : (0 : Int) ≤ ρ 14 ∧ ρ 14 ≤ 0 := hb (14, 0, 0) (List.mem_of_getElem? (i := 8) rfl)
  have c14 : KC h 9 256 0 (ρ 14) := kc_at (hc (9, 256, (0, []), leX 14) (List.mem_of_getElem? (i := 8) rfl))
  have r15 : (0 : Int) ≤ ρ 15 ∧ ρ 15 ≤ 0 := hb (15, 0, 0) (List.mem_of_getElem? (i := 9) rfl)
  have c15 : KC h 9 288 0 (ρ 15) := kc_at (hc (9, 288, (0, []), leX 15) (List.mem_of_getElem? (i := 9) rfl))
  have r16 : (0 : Int) ≤ ρ 16 ∧ ρ 16 ≤ 0 := hb (16, 0, 0) (List.mem_of_getElem? (i := 10) rfl)
  have c16 : KC h 9 304 0 (ρ 16) := kc_at (hc (9, 304, (0, []), leX 16) (List.mem_of_getElem? (i := 10) rfl))
  have r17 : (0 : Int) ≤ ρ 17 ∧ ρ 17 ≤ 10 := hb (17, 0, 10) (List.mem_of_getElem? (i := 11) rfl)
  have c17 : KC h 11 208 0 (ρ 17) := kc_at (hc (11, 208, (0, []), leX 17) (List.mem_of_getElem? (i := 11) rfl))
  have r18 : (0 : Int) ≤ ρ 18 ∧ ρ 18 ≤ 10 := hb (18, 0, 10) (List.mem_of_getElem? (i := 12) rfl)
  have c18 : KC h 11 224 0 (ρ 18) := kc_at (hc (11, 224, (0, []), leX 18) (List.mem_of_getElem? (i := 12) rfl))
  have r19 : (0 : Int) ≤ ρ 19 ∧ ρ 19 ≤ 10 := hb (19, 0, 10) (List.mem_of_getElem? (i := 13) rfl)
  have c19 : KC h 11 288 0 (ρ 19) := kc_at (hc (11, 288, (0, []), leX 19) (List.mem_of_getElem? (i := 13) rfl))
  have r20 : (0 : Int) ≤ ρ 20 ∧ ρ 20 ≤ 10 := hb (20, 0, 10) (List.mem_of_getElem? (i := 14) rfl)
  have c20 : KC h 11 304 0 (ρ 20) := kc_at (hc (11, 304, (0, []), leX 20) (List.mem_of_getElem? (i := 14) rfl))
  have r21 : (0 : Int) ≤ ρ 21 ∧ ρ 21 ≤ 10 := hb (21, 0, 10) (List.mem_of_getElem? (i := 15) rfl)
  have c21 : KC h 12 0 0 (ρ 21) := kc_at (hc (12, 0, (0, []), leX 21) (List.mem_of_getElem? (i := 15) rfl))
  have M0 := hand_M (rg := rgT) (s := pm13.2.2.1) (h := h) (ρ := ρ) (by decide +kernel) (by decide +kernel) hin0 hb hc hf hR
  obtain ⟨d', rfl⟩ : ∃ d', d = d' + 3 := ⟨d - 3, by omega⟩
  have B : BG h 0 (ρ 6) := by rw [show ρ 6 = ρ 21 by omega]; exact c21
  have en : h.1 66 2 = h.1 4 2 := Int32.toInt_inj.mp (by omega)
  have c0 : (0 : Int32).toInt = 0 := rfl
  have c1 : (1 : Int32).toInt = 1 := rfl
  have c10 : (10 : Int32).toInt = 10 := rfl
  have n1 : h.1 4 2 ≤ 10 := by rw [Int32.le_iff_toInt_le, c10]; omega
  have n0 : 0 ≤ h.1 4 2 := by rw [Int32.le_iff_toInt_le, c0]; omega
  have m1 : (h.1 4 2 - 1).toInt = (h.1 4 2).toInt - 1 := by rw [Int32.toInt_sub, c1, b32 (by omega) (by omega)]
  have dec : ∀ z : Int32, (0 ≤ z ∧ z < h.1 4 2) ↔ (0 ≤ z ∧ z ≤ h.1 66 2 - 1) := fun z => by
    rw [en, Int32.le_iff_toInt_le, Int32.lt_iff_toInt_lt, Int32.le_iff_toInt_le, m1]
    omega
  have ssA : sS true [Value.ref 0, .int a0, .int a1, .int a2] := List.forall_mem_cons.mpr ⟨fun _ => rfl, List.forall_mem_cons.mpr ⟨trivial, List.forall_mem_cons.mpr ⟨trivial, List.forall_mem_cons.mpr ⟨trivial, fun _ h => absurd h List.not_mem_nil⟩⟩⟩⟩
  have ssB : sS false [Value.ref 65, .int a0, .int a1, .int a2] := List.forall_mem_cons.mpr ⟨fun _ => rfl, List.forall_mem_cons.mpr ⟨trivial, List.forall_mem_cons.mpr ⟨trivial, List.forall_mem_cons.mpr ⟨trivial, fun _ h => absurd h List.not_mem_nil⟩⟩⟩⟩
  by_cases hv : (0 ≤ a0 ∧ a0 < h.1 4 2) ∧ (0 ≤ a1 ∧ a1 < h.1 4 2) ∧ ¬ a0 = a1 ∧ (0 ≤ a2 ∧ a2 ≤ 1)
  case neg =>
    refine pm_mk (p := pm13) (rA := some (.int (-1000000001))) (hA := h) (rB := some (.int (-1000000001))) (hB := h) (fun Q q => c_barA n1 (fun _ => q) (fun z => absurd z hv) (fun z => absurd z hv) (fun z => absurd z hv) (fun z => absurd z hv)) (fun Q q => c_barB (by rw [en]; exact n0) (by rw [en]; exact n1) (fun _ => q) (fun z => absurd ⟨(dec _).mpr z.1, (dec _).mpr z.2.1, z.2.2⟩ hv)) ssA ssB ?_
    rw [mx_self]
    exact hand_post M0 Ag.rf (Nat.le_refl _) (hand_r (e := leC (-1000000001)) ⟨leS_C, leV_C _ _⟩) (hand_r (e := leC (-1000000001)) ⟨leS_C, leV_C _ _⟩) (by decide +kernel)
  have hx : 0 ≤ a0.toInt ∧ a0.toInt < (h.1 4 2).toInt := ⟨by have := hv.1.1; rw [Int32.le_iff_toInt_le, c0] at this; exact this, by have := hv.1.2; rw [Int32.lt_iff_toInt_lt] at this; exact this⟩
  have hy : 0 ≤ a1.toInt ∧ a1.toInt < (h.1 4 2).toInt := ⟨by have := hv.2.1.1; rw [Int32.le_iff_toInt_le, c0] at this; exact this, by have := hv.2.1.2; rw [Int32.lt_iff_toInt_lt] at this; exact this⟩
  obtain ⟨X, hX, rfl⟩ : ∃ X : Nat, (X : Int) = a0.toInt ∧ a0 = nI X := ⟨a0.toInt.toNat, by omega, i_nI hx.1⟩
  obtain ⟨Y, hY, rfl⟩ : ∃ Y : Nat, (Y : Int) = a1.toInt ∧ a1 = nI Y := ⟨a1.toInt.toNat, by omega, i_nI hy.1⟩
  have hX9 : X < 10 := by omega
  have hY9 : Y < 10 := by omega
  have hXY : X ≠ Y := fun q => hv.2.2.1 (by rw [q])
  obtain ⟨rA, hA, cA, ra, eA⟩ := bar_A n1 hX9 hY9 hXY hv B
  have ne : ((200 : Int32) + (10 * nI X)) + nI Y ≠ (200 + (10 * nI Y)) + nI X := fun q => by
    rw [ix200 Y hY9 X hX9, ix200 X hX9 Y hY9] at q
    have := congrArg Int32.toInt q
    rw [nI_i (by omega), nI_i (by omega)] at this
    omega
  have eB := ix200 X hX9 Y hY9
  have eC := ix200 Y hY9 X hX9
  have hrB : (hI h 66 ((200 + (10 * nI Y)) + nI X) a2).1 66 ((200 + (10 * nI X)) + nI Y) = rA := by
    rw [hI_jn ne]
    apply Int32.toInt_inj.mp
    rw [ra]
    obtain ⟨-, -, u3, -, -⟩ := B.2 X Y (by omega) (by omega) (by omega) (by omega)
    have u3 : rlV h 0 66 (200 + 10 * (X : Int) + Y) = bitZ (rlV h 0 5 (12 + 14 * (X : Int))) Y := u3
    rw [← u3, eC, ← nI_ofI (by omega)]
    show _ = (h.1 66 (Int32.ofInt (200 + 10 * (X : Int) + Y))).toInt
    congr 3
  have cB : CRun (d' + 3) 185 [.ref 65, .int (nI X), .int (nI Y), .int a2] h (some (.int rA)) (hI (hI h 66 ((200 + (10 * nI Y)) + nI X) a2) 66 ((200 + (10 * nI X)) + nI Y) a2) := fun Q q => by
    refine c_barB (by rw [en]; exact n0) (by rw [en]; exact n1) (fun z => absurd ⟨(dec _).mp hv.1, (dec _).mp hv.2.1, hv.2.2⟩ z) (fun _ => ?_)
    rw [hrB]
    exact q
  have ov : a2.toInt = if decide (a2 = 1) = true then 1 else 0 := by
    have h1 := hv.2.2.2.1
    have h2 := hv.2.2.2.2
    rw [Int32.le_iff_toInt_le] at h1 h2
    by_cases q : a2 = 1
    · rw [if_pos (decide_eq_true q), q]; rfl
    · rw [if_neg (by simp [q])]
      have : a2.toInt ≠ 1 := fun z => q (Int32.toInt_inj.mp z)
      omega
  have ob : 0 ≤ ρ 2 ∧ ρ 2 ≤ 1 := by
    rw [e2, ov]
    split <;> omega
  refine pm_mk (p := pm13) cA cB ssA ssB ?_
  obtain ⟨v1, hv1⟩ : ∃ v, v = nbN (rlV h 0 5 (12 + 14 * (X : Int))).toNat Y (decide (a2 = 1)) := ⟨_, rfl⟩
  obtain ⟨v2, hv2⟩ : ∃ v, v = nbN (rlV h 0 5 (12 + 14 * (Y : Int))).toNat X (decide (a2 = 1)) := ⟨_, rfl⟩
  have l1 : v1 < 1024 := by
    obtain ⟨u1, u2, -⟩ := B.2 X 0 (by omega) (by omega) (by decide) (by decide)
    have u2 : rlV h 0 5 (12 + 14 * (X : Int)) < 1024 := u2
    rw [hv1]
    exact nbN_lt (by omega) hY9
  have l2 : v2 < 1024 := by
    obtain ⟨u1, u2, -⟩ := B.2 Y 0 (by omega) (by omega) (by decide) (by decide)
    have u2 : rlV h 0 5 (12 + 14 * (Y : Int)) < 1024 := u2
    rw [hv2]
    exact nbN_lt (by omega) hX9
  rw [← hv1, ← hv2] at eA
  have eH : mxH true hA (hI (hI h 66 ((200 + (10 * nI Y)) + nI X) a2) 66 ((200 + (10 * nI X)) + nI Y) a2) = hI (hI (hI (hI h 5 (nI (12 + 14 * X)) (nI v1)) 5 (nI (12 + 14 * Y)) (nI v2)) 66 (nI (200 + 10 * Y + X)) a2) 66 (nI (200 + 10 * X + Y)) a2 := by
    rw [mx_wB (by decide), mx_wB (by decide), ← (cA.off ssA).1, eA, eB, eC]
  rw [eH]
  have fX : ρ 0 = (X : Int) := by omega
  have fY : ρ 1 = (Y : Int) := by omega
  have M1 := M0.fc [(0, 0, 9), (1, 0, 9), (2, 0, 1)] (fun q hq => by
    rcases List.mem_cons.mp hq with rfl | hq
    · exact ⟨by decide +kernel, by dsimp only; omega, by dsimp only; omega⟩
    rcases List.mem_cons.mp hq with rfl | hq
    · exact ⟨by decide +kernel, by dsimp only; omega, by dsimp only; omega⟩
    rcases List.mem_cons.mp hq with rfl | hq
    · exact ⟨by decide +kernel, ob.1, ob.2⟩
    cases hq)
  have M2 := (M1.nw (x := (v1 : Int)) (l := 0) (u := 1023) (by omega) (by omega)).nw (x := (v2 : Int)) (l := 0) (u := 1023) (by omega) (by omega)
  have n22 : (cnS pm13.2.2.1).1 = 22 := by decide +kernel
  obtain ⟨ρ', hρ⟩ : ∃ ρ', ρ' = updS (updS ρ 22 (v1 : Int)) 23 (v2 : Int) := ⟨_, rfl⟩
  have M2 : Mo rgT pm13.2.2.1.2.2.2.2.2.1 h ρ' (nwS (nwS ((cnS pm13.2.2.1).1, ([(0, 0, 9), (1, 0, 9), (2, 0, 1)] ++ (cnS pm13.2.2.1).2.1.1, (cnS pm13.2.2.1).2.1.2), (cnS pm13.2.2.1).2.2) 0 1023) 0 1023) h := by rw [hρ]; exact M2
  have q0 : ρ' 0 = (X : Int) := by rw [hρ, updS_lt (by decide), updS_lt (by decide)]; exact fX
  have q1 : ρ' 1 = (Y : Int) := by rw [hρ, updS_lt (by decide), updS_lt (by decide)]; exact fY
  have q2 : ρ' 2 = a2.toInt := by rw [hρ, updS_lt (by decide), updS_lt (by decide)]; exact e2
  have q22 : ρ' 22 = (v1 : Int) := by rw [hρ, updS_lt (by decide), updS_at]
  have q23 : ρ' 23 = (v2 : Int) := by rw [hρ, updS_at]
  have ag : Ag ρ ρ' 22 := fun k hk => by rw [hρ, updS_lt (by omega), updS_lt hk]
  have M3 := (M2.wr (o := 5) (i := (12, [(0, 14)])) (e := leX 22) (j := nI (12 + 14 * X)) (v := nI v1) ⟨scB_S (by decide +kernel), by rw [nI_i (by omega)]; show (12 : Int) + (14 * ρ' 0 + 0) = _; omega⟩ ⟨leS_X (by decide +kernel), by rw [leV_X, q22, nI_i (by omega)]⟩ (by decide +kernel)).1
  have M4 := (M3.wr (o := 5) (i := (12, [(1, 14)])) (e := leX 23) (j := nI (12 + 14 * Y)) (v := nI v2) ⟨scB_S (by decide +kernel), by rw [nI_i (by omega)]; show (12 : Int) + (14 * ρ' 1 + 0) = _; omega⟩ ⟨leS_X (by decide +kernel), by rw [leV_X, q23, nI_i (by omega)]⟩ (by decide +kernel)).1
  have M5 := (M4.wr (o := 66) (i := (200, [(0, 1), (1, 10)])) (e := leX 2) (j := nI (200 + 10 * Y + X)) (v := a2) ⟨scB_S (by decide +kernel), by rw [nI_i (by omega)]; show (200 : Int) + (1 * ρ' 0 + (10 * ρ' 1 + 0)) = _; omega⟩ ⟨leS_X (by decide +kernel), by rw [leV_X, q2]⟩ (by decide +kernel)).1
  have M6 := (M5.wr (o := 66) (i := (200, [(0, 10), (1, 1)])) (e := leX 2) (j := nI (200 + 10 * X + Y)) (v := a2) ⟨scB_S (by decide +kernel), by rw [nI_i (by omega)]; show (200 : Int) + (10 * ρ' 0 + (1 * ρ' 1 + 0)) = _; omega⟩ ⟨leS_X (by decide +kernel), by rw [leV_X, q2]⟩ (by decide +kernel)).1
  have BB : BG (hI (hI (hI (hI h 5 (nI (12 + 14 * X)) (nI v1)) 5 (nI (12 + 14 * Y)) (nI v2)) 66 (nI (200 + 10 * Y + X)) a2) 66 (nI (200 + 10 * X + Y)) a2) 0 (ρ 6) := by
    refine bar_bg hX9 hY9 hXY (by omega) (by omega) (o := decide (a2 = 1)) B (fun i i0 i1 => ?_) (fun i i0 i1 => ?_)
    · rw [WE_I 5 i i0 i1, WE_I 5 i i0 i1, WE_I 5 i i0 i1, WE_I 5 i i0 i1, if_neg (fun z => absurd z.1 (by decide)), if_neg (fun z => absurd z.1 (by decide)), nI_i (by omega), nI_i (by omega), nI_i (by omega), nI_i (by omega), ← hv1, ← hv2]
      by_cases q1 : i = 12 + 14 * (Y : Int)
      · rw [if_pos q1, if_pos ⟨rfl, by omega⟩]
      · rw [if_neg q1, if_neg (fun z => q1 (by omega))]
        by_cases q2 : i = 12 + 14 * (X : Int)
        · rw [if_pos q2, if_pos ⟨rfl, by omega⟩]
        · rw [if_neg q2, if_neg (fun z => q2 (by omega))]
    · rw [WE_I 66 i i0 i1, WE_I 66 i i0 i1, WE_I 66 i i0 i1, WE_I 66 i i0 i1, if_neg (c := (66 = 5 ∧ i = (nI (12 + 14 * Y)).toInt)) (fun z => absurd z.1 (by decide)), if_neg (c := (66 = 5 ∧ i = (nI (12 + 14 * X)).toInt)) (fun z => absurd z.1 (by decide)), nI_i (by omega), nI_i (by omega), ov]
      by_cases q1 : i = 200 + 10 * (X : Int) + Y
      · rw [if_pos (Or.inl q1), if_pos ⟨rfl, by omega⟩]
      · rw [if_neg (fun z => q1 (by omega))]
        by_cases q2 : i = 200 + 10 * (Y : Int) + X
        · rw [if_pos (Or.inr q2), if_pos ⟨rfl, by omega⟩]
        · rw [if_neg (by omega), if_neg (fun z => q2 (by omega))]
  have M7 := M6.kc (c := (12, 0, leC 0, leX 6)) ⟨leS_C, leS_X (by decide +kernel), by
    show BG _ 0 (leV ρ' (leX 6))
    rw [leV_X, ag 6 (by decide)]
    exact BB⟩
  have M8 := M7.nw (x := rA.toInt) (l := -2147483648) (u := 2147483647) (i32b rA).1 (i32b rA).2
  refine hand_post (r := some (0, leX 24)) (r' := some (0, leX 24)) M8 (ag.tr (upd_ag (n := 24)) (by decide)) (by decide +kernel) (hand_r ⟨leS_X (by decide +kernel), ?_⟩) (hand_r ⟨leS_X (by decide +kernel), ?_⟩) (by decide +kernel)
  · rw [leV_X]
    unfold updS
    rw [if_pos (by decide +kernel)]
  · rw [leV_X]
    unfold updS
    rw [if_pos (by decide +kernel)]
