/-! By hand (contracts printed by wip/se/m35.py). -/
theorem c_tg0 {d : Nat} {Q : Option Value → Hp → Prop} {h : Hp} {x : Int32} (x0 : 0 ≤ x) (x1 : x < h.1 6 2) (xm : h.1 6 2 ≤ 30) (k : Q (some (.int (h.1 7 ((x * 8) + 0)))) h) : Call (d + 1) 94 [.ref 6, .int x, .int 0] h Q := by
  refine call_of (rfl : psM[94]? = some _) rfl rfl (rcvV rfl) (fun X hX => ?_)
  show X (0, [some (.ref 6), some (.int x), some (.int 0)], [], h)
  refine go hX 2 (gs := [True, True]) (z' := (if x < 0 then 24 else 4, [some (.ref 6), some (.int x), some (.int 0)], [], h)) rfl ⟨trivial, trivial, trivial⟩ ?_
  refine br (fun b1 => ?_) (fun b1 => ?_)
  ·
    refine go hX 1 (gs := [True]) (z' := (25, [some (.ref 6), some (.int x), some (.int 0)], [.int 0], h)) rfl ⟨trivial, trivial⟩ ?_
    refine rt_ hX (G := True) (r := some (.int 0)) rfl trivial ?_
    exfalso; grind
  ·
    refine go hX 4 (gs := [True, True, True, True]) (z' := (if (h.1 6 2) ≤ x then 24 else 12, [some (.ref 6), some (.int x), some (.int 0)], [], h)) rfl ⟨trivial, trivial, trivial, trivial, trivial⟩ ?_
    refine br (fun b2 => ?_) (fun b2 => ?_)
    ·
      refine go hX 1 (gs := [True]) (z' := (25, [some (.ref 6), some (.int x), some (.int 0)], [.int 0], h)) rfl ⟨trivial, trivial⟩ ?_
      refine rt_ hX (G := True) (r := some (.int 0)) rfl trivial ?_
      exfalso; grind
    ·
      refine go hX 15 (gs := [ibd ((x * 8) + 0) 240, True, True, True, True, True, True, True, True, True, True, True, True, True, True]) (z' := (39, [some (.ref 6), some (.int x), some (.int 0)], [.int (h.1 7 ((x * 8) + 0))], h)) rfl ⟨?_, trivial, trivial, trivial, trivial, trivial, trivial, trivial, trivial, trivial, trivial, trivial, trivial, trivial, trivial, trivial⟩ ?_
      · exact ibd_of (B := 240) rfl (by grind) (by grind)
      refine rt_ hX (G := True) (r := some (.int (h.1 7 ((x * 8) + 0)))) rfl trivial ?_
      exact k
theorem c_tg1 {d : Nat} {Q : Option Value → Hp → Prop} {h : Hp} {x : Int32} (x0 : 0 ≤ x) (x1 : x < h.1 6 2) (xm : h.1 6 2 ≤ 30) (k : Q (some (.int (h.1 7 ((x * 8) + 1)))) h) : Call (d + 1) 94 [.ref 6, .int x, .int 1] h Q := by
  refine call_of (rfl : psM[94]? = some _) rfl rfl (rcvV rfl) (fun X hX => ?_)
  show X (0, [some (.ref 6), some (.int x), some (.int 1)], [], h)
  refine go hX 2 (gs := [True, True]) (z' := (if x < 0 then 24 else 4, [some (.ref 6), some (.int x), some (.int 1)], [], h)) rfl ⟨trivial, trivial, trivial⟩ ?_
  refine br (fun b1 => ?_) (fun b1 => ?_)
  ·
    refine go hX 1 (gs := [True]) (z' := (25, [some (.ref 6), some (.int x), some (.int 1)], [.int 0], h)) rfl ⟨trivial, trivial⟩ ?_
    refine rt_ hX (G := True) (r := some (.int 0)) rfl trivial ?_
    exfalso; grind
  ·
    refine go hX 4 (gs := [True, True, True, True]) (z' := (if (h.1 6 2) ≤ x then 24 else 12, [some (.ref 6), some (.int x), some (.int 1)], [], h)) rfl ⟨trivial, trivial, trivial, trivial, trivial⟩ ?_
    refine br (fun b2 => ?_) (fun b2 => ?_)
    ·
      refine go hX 1 (gs := [True]) (z' := (25, [some (.ref 6), some (.int x), some (.int 1)], [.int 0], h)) rfl ⟨trivial, trivial⟩ ?_
      refine rt_ hX (G := True) (r := some (.int 0)) rfl trivial ?_
      exfalso; grind
    ·
      refine go hX 15 (gs := [ibd ((x * 8) + 1) 240, True, True, True, True, True, True, True, True, True, True, True, True, True, True]) (z' := (39, [some (.ref 6), some (.int x), some (.int 1)], [.int (h.1 7 ((x * 8) + 1))], h)) rfl ⟨?_, trivial, trivial, trivial, trivial, trivial, trivial, trivial, trivial, trivial, trivial, trivial, trivial, trivial, trivial, trivial⟩ ?_
      · exact ibd_of (B := 240) rfl (by grind) (by grind)
      refine rt_ hX (G := True) (r := some (.int (h.1 7 ((x * 8) + 1)))) rfl trivial ?_
      exact k
theorem c_tg4 {d : Nat} {Q : Option Value → Hp → Prop} {h : Hp} {x : Int32} (x0 : 0 ≤ x) (x1 : x < h.1 6 2) (xm : h.1 6 2 ≤ 30) (k : Q (some (.int (h.1 7 ((x * 8) + 4)))) h) : Call (d + 1) 94 [.ref 6, .int x, .int 4] h Q := by
  refine call_of (rfl : psM[94]? = some _) rfl rfl (rcvV rfl) (fun X hX => ?_)
  show X (0, [some (.ref 6), some (.int x), some (.int 4)], [], h)
  refine go hX 2 (gs := [True, True]) (z' := (if x < 0 then 24 else 4, [some (.ref 6), some (.int x), some (.int 4)], [], h)) rfl ⟨trivial, trivial, trivial⟩ ?_
  refine br (fun b1 => ?_) (fun b1 => ?_)
  ·
    refine go hX 1 (gs := [True]) (z' := (25, [some (.ref 6), some (.int x), some (.int 4)], [.int 0], h)) rfl ⟨trivial, trivial⟩ ?_
    refine rt_ hX (G := True) (r := some (.int 0)) rfl trivial ?_
    exfalso; grind
  ·
    refine go hX 4 (gs := [True, True, True, True]) (z' := (if (h.1 6 2) ≤ x then 24 else 12, [some (.ref 6), some (.int x), some (.int 4)], [], h)) rfl ⟨trivial, trivial, trivial, trivial, trivial⟩ ?_
    refine br (fun b2 => ?_) (fun b2 => ?_)
    ·
      refine go hX 1 (gs := [True]) (z' := (25, [some (.ref 6), some (.int x), some (.int 4)], [.int 0], h)) rfl ⟨trivial, trivial⟩ ?_
      refine rt_ hX (G := True) (r := some (.int 0)) rfl trivial ?_
      exfalso; grind
    ·
      refine go hX 15 (gs := [ibd ((x * 8) + 4) 240, True, True, True, True, True, True, True, True, True, True, True, True, True, True]) (z' := (39, [some (.ref 6), some (.int x), some (.int 4)], [.int (h.1 7 ((x * 8) + 4))], h)) rfl ⟨?_, trivial, trivial, trivial, trivial, trivial, trivial, trivial, trivial, trivial, trivial, trivial, trivial, trivial, trivial, trivial⟩ ?_
      · exact ibd_of (B := 240) rfl (by grind) (by grind)
      refine rt_ hX (G := True) (r := some (.int (h.1 7 ((x * 8) + 4)))) rfl trivial ?_
      exact k
theorem c_ts4 {d : Nat} {Q : Option Value → Hp → Prop} {h : Hp} {x v : Int32} (x0 : 0 ≤ x) (x1 : x < h.1 6 2) (xm : h.1 6 2 ≤ 30) (k : Q none (hI h 7 ((x * 8) + 4) v)) : Call (d + 1) 95 [.ref 6, .int x, .int 4, .int v] h Q := by
  refine call_of (rfl : psM[95]? = some _) rfl rfl (rcvV rfl) (fun X hX => ?_)
  show X (0, [some (.ref 6), some (.int x), some (.int 4), some (.int v)], [], h)
  refine go hX 2 (gs := [True, True]) (z' := (if x < 0 then 24 else 4, [some (.ref 6), some (.int x), some (.int 4), some (.int v)], [], h)) rfl ⟨trivial, trivial, trivial⟩ ?_
  refine br (fun b1 => ?_) (fun b1 => ?_)
  ·
    refine rt_ hX (G := True) (r := none) rfl trivial ?_
    exfalso; grind
  ·
    refine go hX 4 (gs := [True, True, True, True]) (z' := (if (h.1 6 2) ≤ x then 24 else 12, [some (.ref 6), some (.int x), some (.int 4), some (.int v)], [], h)) rfl ⟨trivial, trivial, trivial, trivial, trivial⟩ ?_
    refine br (fun b2 => ?_) (fun b2 => ?_)
    ·
      refine rt_ hX (G := True) (r := none) rfl trivial ?_
      exfalso; grind
    ·
      refine go hX 16 (gs := [ibd ((x * 8) + 4) 240, True, True, True, True, True, True, True, True, True, True, True, True, True, True, True]) (z' := (39, [some (.ref 6), some (.int x), some (.int 4), some (.int v)], [], (hI h 7 ((x * 8) + 4) v))) rfl ⟨?_, trivial, trivial, trivial, trivial, trivial, trivial, trivial, trivial, trivial, trivial, trivial, trivial, trivial, trivial, trivial, trivial⟩ ?_
      · exact ibd_of (B := 240) rfl (by grind) (by grind)
      refine rt_ hX (G := True) (r := none) rfl trivial ?_
      exact k
theorem c_tg7 {d : Nat} {Q : Option Value → Hp → Prop} {h : Hp} {x : Int32} (x0 : 0 ≤ x) (x1 : x < h.1 6 2) (xm : h.1 6 2 ≤ 30) (k : Q (some (.int (h.1 7 ((x * 8) + 7)))) h) : Call (d + 1) 94 [.ref 6, .int x, .int 7] h Q := by
  refine call_of (rfl : psM[94]? = some _) rfl rfl (rcvV rfl) (fun X hX => ?_)
  show X (0, [some (.ref 6), some (.int x), some (.int 7)], [], h)
  refine go hX 2 (gs := [True, True]) (z' := (if x < 0 then 24 else 4, [some (.ref 6), some (.int x), some (.int 7)], [], h)) rfl ⟨trivial, trivial, trivial⟩ ?_
  refine br (fun b1 => ?_) (fun b1 => ?_)
  ·
    refine go hX 1 (gs := [True]) (z' := (25, [some (.ref 6), some (.int x), some (.int 7)], [.int 0], h)) rfl ⟨trivial, trivial⟩ ?_
    refine rt_ hX (G := True) (r := some (.int 0)) rfl trivial ?_
    exfalso; grind
  ·
    refine go hX 4 (gs := [True, True, True, True]) (z' := (if (h.1 6 2) ≤ x then 24 else 12, [some (.ref 6), some (.int x), some (.int 7)], [], h)) rfl ⟨trivial, trivial, trivial, trivial, trivial⟩ ?_
    refine br (fun b2 => ?_) (fun b2 => ?_)
    ·
      refine go hX 1 (gs := [True]) (z' := (25, [some (.ref 6), some (.int x), some (.int 7)], [.int 0], h)) rfl ⟨trivial, trivial⟩ ?_
      refine rt_ hX (G := True) (r := some (.int 0)) rfl trivial ?_
      exfalso; grind
    ·
      refine go hX 15 (gs := [ibd ((x * 8) + 7) 240, True, True, True, True, True, True, True, True, True, True, True, True, True, True]) (z' := (39, [some (.ref 6), some (.int x), some (.int 7)], [.int (h.1 7 ((x * 8) + 7))], h)) rfl ⟨?_, trivial, trivial, trivial, trivial, trivial, trivial, trivial, trivial, trivial, trivial, trivial, trivial, trivial, trivial, trivial⟩ ?_
      · exact ibd_of (B := 240) rfl (by grind) (by grind)
      refine rt_ hX (G := True) (r := some (.int (h.1 7 ((x * 8) + 7)))) rfl trivial ?_
      exact k
theorem c_ts7 {d : Nat} {Q : Option Value → Hp → Prop} {h : Hp} {x v : Int32} (x0 : 0 ≤ x) (x1 : x < h.1 6 2) (xm : h.1 6 2 ≤ 30) (k : Q none (hI h 7 ((x * 8) + 7) v)) : Call (d + 1) 95 [.ref 6, .int x, .int 7, .int v] h Q := by
  refine call_of (rfl : psM[95]? = some _) rfl rfl (rcvV rfl) (fun X hX => ?_)
  show X (0, [some (.ref 6), some (.int x), some (.int 7), some (.int v)], [], h)
  refine go hX 2 (gs := [True, True]) (z' := (if x < 0 then 24 else 4, [some (.ref 6), some (.int x), some (.int 7), some (.int v)], [], h)) rfl ⟨trivial, trivial, trivial⟩ ?_
  refine br (fun b1 => ?_) (fun b1 => ?_)
  ·
    refine rt_ hX (G := True) (r := none) rfl trivial ?_
    exfalso; grind
  ·
    refine go hX 4 (gs := [True, True, True, True]) (z' := (if (h.1 6 2) ≤ x then 24 else 12, [some (.ref 6), some (.int x), some (.int 7), some (.int v)], [], h)) rfl ⟨trivial, trivial, trivial, trivial, trivial⟩ ?_
    refine br (fun b2 => ?_) (fun b2 => ?_)
    ·
      refine rt_ hX (G := True) (r := none) rfl trivial ?_
      exfalso; grind
    ·
      refine go hX 16 (gs := [ibd ((x * 8) + 7) 240, True, True, True, True, True, True, True, True, True, True, True, True, True, True, True]) (z' := (39, [some (.ref 6), some (.int x), some (.int 7), some (.int v)], [], (hI h 7 ((x * 8) + 7) v))) rfl ⟨?_, trivial, trivial, trivial, trivial, trivial, trivial, trivial, trivial, trivial, trivial, trivial, trivial, trivial, trivial, trivial, trivial⟩ ?_
      · exact ibd_of (B := 240) rfl (by grind) (by grind)
      refine rt_ hX (G := True) (r := none) rfl trivial ?_
      exact k
theorem c_rowsT {d : Nat} {Q : Option Value → Hp → Prop} {h : Hp} (k : Q (some (.int (h.1 6 2))) h) : Call (d + 1) 91 [.ref 6] h Q := by
  refine call_of (rfl : psM[91]? = some _) rfl rfl (rcvV rfl) (fun X hX => ?_)
  show X (0, [some (.ref 6)], [], h)
  refine go hX 2 (gs := [True, True]) (z' := (4, [some (.ref 6)], [.int (h.1 6 2)], h)) rfl ⟨trivial, trivial, trivial⟩ ?_
  refine rt_ hX (G := True) (r := some (.int (h.1 6 2))) rfl trivial ?_
  exact k
theorem c_iok0 {d : Nat} {Q : Option Value → Hp → Prop} {h : Hp} {x : Int32} (x0 : 0 ≤ x) (x1 : x < h.1 6 2) (xm : h.1 6 2 ≤ 30) (kc : h.1 7 ((x * 8) + 0) = 0) (k : Q (some (.int 0)) h) : Call (d + 2) 74 [.ref 1, .int x, .int 1] h Q := by
  refine call_of (rfl : psM[74]? = some _) rfl rfl (rcvV rfl) (fun X hX => ?_)
  show X (0, [some (.ref 1), some (.int x), some (.int 1), none, none], [], h)
  refine go hX 4 (gs := [True, True, True, True]) (z' := (6, [some (.ref 1), some (.int x), some (.int 1), none, none], [.int 0, .int x, .ref 6], h)) rfl ⟨trivial, trivial, trivial, trivial, trivial⟩ ?_
  refine cl hX 94 3 [.ref 6, .int x, .int 0] [] rfl rfl rfl rfl ?_
  refine c_tg0 x0 x1 xm ?_
  rw [kc]
  show X (9, [some (.ref 1), some (.int x), some (.int 1), none, none], [.int 0], h)
  refine go hX 12 (gs := [True, True, True, True, True, True, True, True, True, True, True, True]) (z' := (if (nI 6) ≤ 0 then 51 else 32, [some (.ref 1), some (.int x), some (.int 1), some (.int 0), some (.int 0)], [], h)) rfl ⟨trivial, trivial, trivial, trivial, trivial, trivial, trivial, trivial, trivial, trivial, trivial, trivial, trivial⟩ ?_
  refine br (fun b1 => ?_) (fun b1 => ?_)
  ·
    refine go hX 1 (gs := [True]) (z' := (52, [some (.ref 1), some (.int x), some (.int 1), some (.int 0), some (.int 0)], [.int 0], h)) rfl ⟨trivial, trivial⟩ ?_
    refine rt_ hX (G := isB 0) (r := some (.int 0)) rfl isB0 ?_
    exact absurd b1 (by decide)
  ·
    refine go hX 15 (gs := [True, True, True, True, True, True, True, True, True, ibd 0 6, True, True, True, True, True]) (z' := (52, [some (.ref 1), some (.int x), some (.int 1), some (.int (-1)), some (.int 1)], [.int 0], h)) rfl ⟨trivial, trivial, trivial, trivial, trivial, trivial, trivial, trivial, trivial, ?_, trivial, trivial, trivial, trivial, trivial, trivial⟩ ?_
    · exact ⟨by decide, by decide⟩
    refine rt_ hX (G := isB 0) (r := some (.int 0)) rfl isB0 ?_
    exact k
theorem c_iok1 {d : Nat} {Q : Option Value → Hp → Prop} {h : Hp} {x : Int32} (x0 : 0 ≤ x) (x1 : x < h.1 6 2) (xm : h.1 6 2 ≤ 30) (kc : h.1 7 ((x * 8) + 0) = 1) (k : Q (some (.int 1)) h) : Call (d + 2) 74 [.ref 1, .int x, .int 1] h Q := by
  refine call_of (rfl : psM[74]? = some _) rfl rfl (rcvV rfl) (fun X hX => ?_)
  show X (0, [some (.ref 1), some (.int x), some (.int 1), none, none], [], h)
  refine go hX 4 (gs := [True, True, True, True]) (z' := (6, [some (.ref 1), some (.int x), some (.int 1), none, none], [.int 0, .int x, .ref 6], h)) rfl ⟨trivial, trivial, trivial, trivial, trivial⟩ ?_
  refine cl hX 94 3 [.ref 6, .int x, .int 0] [] rfl rfl rfl rfl ?_
  refine c_tg0 x0 x1 xm ?_
  rw [kc]
  show X (9, [some (.ref 1), some (.int x), some (.int 1), none, none], [.int 1], h)
  refine go hX 12 (gs := [True, True, True, True, True, True, True, True, True, True, True, True]) (z' := (if (nI 6) ≤ 1 then 51 else 32, [some (.ref 1), some (.int x), some (.int 1), some (.int 1), some (.int 0)], [], h)) rfl ⟨trivial, trivial, trivial, trivial, trivial, trivial, trivial, trivial, trivial, trivial, trivial, trivial, trivial⟩ ?_
  refine br (fun b1 => ?_) (fun b1 => ?_)
  ·
    refine go hX 1 (gs := [True]) (z' := (52, [some (.ref 1), some (.int x), some (.int 1), some (.int 1), some (.int 0)], [.int 0], h)) rfl ⟨trivial, trivial⟩ ?_
    refine rt_ hX (G := isB 0) (r := some (.int 0)) rfl isB0 ?_
    exact absurd b1 (by decide)
  ·
    refine go hX 4 (gs := [True, True, True, True]) (z' := (38, [some (.ref 1), some (.int x), some (.int 1), some (.int 1), some (.int 0)], [.int 1], h)) rfl ⟨trivial, trivial, trivial, trivial, trivial⟩ ?_
    refine rt_ hX (G := isB 1) (r := some (.int 1)) rfl isB1 ?_
    exact k
theorem c_iok2 {d : Nat} {Q : Option Value → Hp → Prop} {h : Hp} {x : Int32} (x0 : 0 ≤ x) (x1 : x < h.1 6 2) (xm : h.1 6 2 ≤ 30) (kc : h.1 7 ((x * 8) + 0) = 2) (k : Q (some (.int 1)) h) : Call (d + 2) 74 [.ref 1, .int x, .int 1] h Q := by
  refine call_of (rfl : psM[74]? = some _) rfl rfl (rcvV rfl) (fun X hX => ?_)
  show X (0, [some (.ref 1), some (.int x), some (.int 1), none, none], [], h)
  refine go hX 4 (gs := [True, True, True, True]) (z' := (6, [some (.ref 1), some (.int x), some (.int 1), none, none], [.int 0, .int x, .ref 6], h)) rfl ⟨trivial, trivial, trivial, trivial, trivial⟩ ?_
  refine cl hX 94 3 [.ref 6, .int x, .int 0] [] rfl rfl rfl rfl ?_
  refine c_tg0 x0 x1 xm ?_
  rw [kc]
  show X (9, [some (.ref 1), some (.int x), some (.int 1), none, none], [.int 2], h)
  refine go hX 12 (gs := [True, True, True, True, True, True, True, True, True, True, True, True]) (z' := (if (nI 6) ≤ 2 then 51 else 32, [some (.ref 1), some (.int x), some (.int 1), some (.int 2), some (.int 0)], [], h)) rfl ⟨trivial, trivial, trivial, trivial, trivial, trivial, trivial, trivial, trivial, trivial, trivial, trivial, trivial⟩ ?_
  refine br (fun b1 => ?_) (fun b1 => ?_)
  ·
    refine go hX 1 (gs := [True]) (z' := (52, [some (.ref 1), some (.int x), some (.int 1), some (.int 2), some (.int 0)], [.int 0], h)) rfl ⟨trivial, trivial⟩ ?_
    refine rt_ hX (G := isB 0) (r := some (.int 0)) rfl isB0 ?_
    exact absurd b1 (by decide)
  ·
    refine go hX 18 (gs := [True, True, True, True, True, True, True, True, True, True, True, True, ibd 2 6, True, True, True, True, True]) (z' := (if (nI 6) ≤ 1 then 51 else 32, [some (.ref 1), some (.int x), some (.int 1), some (.int 1), some (.int 1)], [], h)) rfl ⟨trivial, trivial, trivial, trivial, trivial, trivial, trivial, trivial, trivial, trivial, trivial, trivial, ?_, trivial, trivial, trivial, trivial, trivial, trivial⟩ ?_
    · exact ⟨by decide, by decide⟩
    refine br (fun b2 => ?_) (fun b2 => ?_)
    ·
      refine go hX 1 (gs := [True]) (z' := (52, [some (.ref 1), some (.int x), some (.int 1), some (.int 1), some (.int 1)], [.int 0], h)) rfl ⟨trivial, trivial⟩ ?_
      refine rt_ hX (G := isB 0) (r := some (.int 0)) rfl isB0 ?_
      exact absurd b2 (by decide)
    ·
      refine go hX 4 (gs := [True, True, True, True]) (z' := (38, [some (.ref 1), some (.int x), some (.int 1), some (.int 1), some (.int 1)], [.int 1], h)) rfl ⟨trivial, trivial, trivial, trivial, trivial⟩ ?_
      refine rt_ hX (G := isB 1) (r := some (.int 1)) rfl isB1 ?_
      exact k
theorem c_iok3 {d : Nat} {Q : Option Value → Hp → Prop} {h : Hp} {x : Int32} (x0 : 0 ≤ x) (x1 : x < h.1 6 2) (xm : h.1 6 2 ≤ 30) (kc : h.1 7 ((x * 8) + 0) = 3) (k : Q (some (.int 1)) h) : Call (d + 2) 74 [.ref 1, .int x, .int 1] h Q := by
  refine call_of (rfl : psM[74]? = some _) rfl rfl (rcvV rfl) (fun X hX => ?_)
  show X (0, [some (.ref 1), some (.int x), some (.int 1), none, none], [], h)
  refine go hX 4 (gs := [True, True, True, True]) (z' := (6, [some (.ref 1), some (.int x), some (.int 1), none, none], [.int 0, .int x, .ref 6], h)) rfl ⟨trivial, trivial, trivial, trivial, trivial⟩ ?_
  refine cl hX 94 3 [.ref 6, .int x, .int 0] [] rfl rfl rfl rfl ?_
  refine c_tg0 x0 x1 xm ?_
  rw [kc]
  show X (9, [some (.ref 1), some (.int x), some (.int 1), none, none], [.int 3], h)
  refine go hX 12 (gs := [True, True, True, True, True, True, True, True, True, True, True, True]) (z' := (if (nI 6) ≤ 3 then 51 else 32, [some (.ref 1), some (.int x), some (.int 1), some (.int 3), some (.int 0)], [], h)) rfl ⟨trivial, trivial, trivial, trivial, trivial, trivial, trivial, trivial, trivial, trivial, trivial, trivial, trivial⟩ ?_
  refine br (fun b1 => ?_) (fun b1 => ?_)
  ·
    refine go hX 1 (gs := [True]) (z' := (52, [some (.ref 1), some (.int x), some (.int 1), some (.int 3), some (.int 0)], [.int 0], h)) rfl ⟨trivial, trivial⟩ ?_
    refine rt_ hX (G := isB 0) (r := some (.int 0)) rfl isB0 ?_
    exact absurd b1 (by decide)
  ·
    refine go hX 18 (gs := [True, True, True, True, True, True, True, True, True, True, True, True, ibd 3 6, True, True, True, True, True]) (z' := (if (nI 6) ≤ 2 then 51 else 32, [some (.ref 1), some (.int x), some (.int 1), some (.int 2), some (.int 1)], [], h)) rfl ⟨trivial, trivial, trivial, trivial, trivial, trivial, trivial, trivial, trivial, trivial, trivial, trivial, ?_, trivial, trivial, trivial, trivial, trivial, trivial⟩ ?_
    · exact ⟨by decide, by decide⟩
    refine br (fun b2 => ?_) (fun b2 => ?_)
    ·
      refine go hX 1 (gs := [True]) (z' := (52, [some (.ref 1), some (.int x), some (.int 1), some (.int 2), some (.int 1)], [.int 0], h)) rfl ⟨trivial, trivial⟩ ?_
      refine rt_ hX (G := isB 0) (r := some (.int 0)) rfl isB0 ?_
      exact absurd b2 (by decide)
    ·
      refine go hX 18 (gs := [True, True, True, True, True, True, True, True, True, True, True, True, ibd 2 6, True, True, True, True, True]) (z' := (if (nI 6) ≤ 1 then 51 else 32, [some (.ref 1), some (.int x), some (.int 1), some (.int 1), some (.int 2)], [], h)) rfl ⟨trivial, trivial, trivial, trivial, trivial, trivial, trivial, trivial, trivial, trivial, trivial, trivial, ?_, trivial, trivial, trivial, trivial, trivial, trivial⟩ ?_
      · exact ⟨by decide, by decide⟩
      refine br (fun b3 => ?_) (fun b3 => ?_)
      ·
        refine go hX 1 (gs := [True]) (z' := (52, [some (.ref 1), some (.int x), some (.int 1), some (.int 1), some (.int 2)], [.int 0], h)) rfl ⟨trivial, trivial⟩ ?_
        refine rt_ hX (G := isB 0) (r := some (.int 0)) rfl isB0 ?_
        exact absurd b3 (by decide)
      ·
        refine go hX 4 (gs := [True, True, True, True]) (z' := (38, [some (.ref 1), some (.int x), some (.int 1), some (.int 1), some (.int 2)], [.int 1], h)) rfl ⟨trivial, trivial, trivial, trivial, trivial⟩ ?_
        refine rt_ hX (G := isB 1) (r := some (.int 1)) rfl isB1 ?_
        exact k
theorem c_iok4 {d : Nat} {Q : Option Value → Hp → Prop} {h : Hp} {x : Int32} (x0 : 0 ≤ x) (x1 : x < h.1 6 2) (xm : h.1 6 2 ≤ 30) (kc : h.1 7 ((x * 8) + 0) = 4) (k : Q (some (.int 0)) h) : Call (d + 2) 74 [.ref 1, .int x, .int 1] h Q := by
  refine call_of (rfl : psM[74]? = some _) rfl rfl (rcvV rfl) (fun X hX => ?_)
  show X (0, [some (.ref 1), some (.int x), some (.int 1), none, none], [], h)
  refine go hX 4 (gs := [True, True, True, True]) (z' := (6, [some (.ref 1), some (.int x), some (.int 1), none, none], [.int 0, .int x, .ref 6], h)) rfl ⟨trivial, trivial, trivial, trivial, trivial⟩ ?_
  refine cl hX 94 3 [.ref 6, .int x, .int 0] [] rfl rfl rfl rfl ?_
  refine c_tg0 x0 x1 xm ?_
  rw [kc]
  show X (9, [some (.ref 1), some (.int x), some (.int 1), none, none], [.int 4], h)
  refine go hX 12 (gs := [True, True, True, True, True, True, True, True, True, True, True, True]) (z' := (if (nI 6) ≤ 4 then 51 else 32, [some (.ref 1), some (.int x), some (.int 1), some (.int 4), some (.int 0)], [], h)) rfl ⟨trivial, trivial, trivial, trivial, trivial, trivial, trivial, trivial, trivial, trivial, trivial, trivial, trivial⟩ ?_
  refine br (fun b1 => ?_) (fun b1 => ?_)
  ·
    refine go hX 1 (gs := [True]) (z' := (52, [some (.ref 1), some (.int x), some (.int 1), some (.int 4), some (.int 0)], [.int 0], h)) rfl ⟨trivial, trivial⟩ ?_
    refine rt_ hX (G := isB 0) (r := some (.int 0)) rfl isB0 ?_
    exact absurd b1 (by decide)
  ·
    refine go hX 18 (gs := [True, True, True, True, True, True, True, True, True, True, True, True, ibd 4 6, True, True, True, True, True]) (z' := (if (nI 6) ≤ 0 then 51 else 32, [some (.ref 1), some (.int x), some (.int 1), some (.int 0), some (.int 1)], [], h)) rfl ⟨trivial, trivial, trivial, trivial, trivial, trivial, trivial, trivial, trivial, trivial, trivial, trivial, ?_, trivial, trivial, trivial, trivial, trivial, trivial⟩ ?_
    · exact ⟨by decide, by decide⟩
    refine br (fun b2 => ?_) (fun b2 => ?_)
    ·
      refine go hX 1 (gs := [True]) (z' := (52, [some (.ref 1), some (.int x), some (.int 1), some (.int 0), some (.int 1)], [.int 0], h)) rfl ⟨trivial, trivial⟩ ?_
      refine rt_ hX (G := isB 0) (r := some (.int 0)) rfl isB0 ?_
      exact absurd b2 (by decide)
    ·
      refine go hX 15 (gs := [True, True, True, True, True, True, True, True, True, ibd 0 6, True, True, True, True, True]) (z' := (52, [some (.ref 1), some (.int x), some (.int 1), some (.int (-1)), some (.int 2)], [.int 0], h)) rfl ⟨trivial, trivial, trivial, trivial, trivial, trivial, trivial, trivial, trivial, ?_, trivial, trivial, trivial, trivial, trivial, trivial⟩ ?_
      · exact ⟨by decide, by decide⟩
      refine rt_ hX (G := isB 0) (r := some (.int 0)) rfl isB0 ?_
      exact k
theorem c_iok5 {d : Nat} {Q : Option Value → Hp → Prop} {h : Hp} {x : Int32} (x0 : 0 ≤ x) (x1 : x < h.1 6 2) (xm : h.1 6 2 ≤ 30) (kc : h.1 7 ((x * 8) + 0) = 5) (k : Q (some (.int 0)) h) : Call (d + 2) 74 [.ref 1, .int x, .int 1] h Q := by
  refine call_of (rfl : psM[74]? = some _) rfl rfl (rcvV rfl) (fun X hX => ?_)
  show X (0, [some (.ref 1), some (.int x), some (.int 1), none, none], [], h)
  refine go hX 4 (gs := [True, True, True, True]) (z' := (6, [some (.ref 1), some (.int x), some (.int 1), none, none], [.int 0, .int x, .ref 6], h)) rfl ⟨trivial, trivial, trivial, trivial, trivial⟩ ?_
  refine cl hX 94 3 [.ref 6, .int x, .int 0] [] rfl rfl rfl rfl ?_
  refine c_tg0 x0 x1 xm ?_
  rw [kc]
  show X (9, [some (.ref 1), some (.int x), some (.int 1), none, none], [.int 5], h)
  refine go hX 12 (gs := [True, True, True, True, True, True, True, True, True, True, True, True]) (z' := (if (nI 6) ≤ 5 then 51 else 32, [some (.ref 1), some (.int x), some (.int 1), some (.int 5), some (.int 0)], [], h)) rfl ⟨trivial, trivial, trivial, trivial, trivial, trivial, trivial, trivial, trivial, trivial, trivial, trivial, trivial⟩ ?_
  refine br (fun b1 => ?_) (fun b1 => ?_)
  ·
    refine go hX 1 (gs := [True]) (z' := (52, [some (.ref 1), some (.int x), some (.int 1), some (.int 5), some (.int 0)], [.int 0], h)) rfl ⟨trivial, trivial⟩ ?_
    refine rt_ hX (G := isB 0) (r := some (.int 0)) rfl isB0 ?_
    exact absurd b1 (by decide)
  ·
    refine go hX 18 (gs := [True, True, True, True, True, True, True, True, True, True, True, True, ibd 5 6, True, True, True, True, True]) (z' := (if (nI 6) ≤ 4 then 51 else 32, [some (.ref 1), some (.int x), some (.int 1), some (.int 4), some (.int 1)], [], h)) rfl ⟨trivial, trivial, trivial, trivial, trivial, trivial, trivial, trivial, trivial, trivial, trivial, trivial, ?_, trivial, trivial, trivial, trivial, trivial, trivial⟩ ?_
    · exact ⟨by decide, by decide⟩
    refine br (fun b2 => ?_) (fun b2 => ?_)
    ·
      refine go hX 1 (gs := [True]) (z' := (52, [some (.ref 1), some (.int x), some (.int 1), some (.int 4), some (.int 1)], [.int 0], h)) rfl ⟨trivial, trivial⟩ ?_
      refine rt_ hX (G := isB 0) (r := some (.int 0)) rfl isB0 ?_
      exact absurd b2 (by decide)
    ·
      refine go hX 18 (gs := [True, True, True, True, True, True, True, True, True, True, True, True, ibd 4 6, True, True, True, True, True]) (z' := (if (nI 6) ≤ 0 then 51 else 32, [some (.ref 1), some (.int x), some (.int 1), some (.int 0), some (.int 2)], [], h)) rfl ⟨trivial, trivial, trivial, trivial, trivial, trivial, trivial, trivial, trivial, trivial, trivial, trivial, ?_, trivial, trivial, trivial, trivial, trivial, trivial⟩ ?_
      · exact ⟨by decide, by decide⟩
      refine br (fun b3 => ?_) (fun b3 => ?_)
      ·
        refine go hX 1 (gs := [True]) (z' := (52, [some (.ref 1), some (.int x), some (.int 1), some (.int 0), some (.int 2)], [.int 0], h)) rfl ⟨trivial, trivial⟩ ?_
        refine rt_ hX (G := isB 0) (r := some (.int 0)) rfl isB0 ?_
        exact absurd b3 (by decide)
      ·
        refine go hX 15 (gs := [True, True, True, True, True, True, True, True, True, ibd 0 6, True, True, True, True, True]) (z' := (52, [some (.ref 1), some (.int x), some (.int 1), some (.int (-1)), some (.int 3)], [.int 0], h)) rfl ⟨trivial, trivial, trivial, trivial, trivial, trivial, trivial, trivial, trivial, ?_, trivial, trivial, trivial, trivial, trivial, trivial⟩ ?_
        · exact ⟨by decide, by decide⟩
        refine rt_ hX (G := isB 0) (r := some (.int 0)) rfl isB0 ?_
        exact k
theorem c_iok {d : Nat} {Q : Option Value → Hp → Prop} {h : Hp} {x : Int32} (x0 : 0 ≤ x) (x1 : x < h.1 6 2) (xm : h.1 6 2 ≤ 30) (kb : 0 ≤ (h.1 7 ((x * 8) + 0)).toInt ∧ (h.1 7 ((x * 8) + 0)).toInt ≤ 5) (k1 : (1 ≤ (h.1 7 ((x * 8) + 0)).toInt ∧ (h.1 7 ((x * 8) + 0)).toInt ≤ 3) → Q (some (.int 1)) h) (k0 : ¬ (1 ≤ (h.1 7 ((x * 8) + 0)).toInt ∧ (h.1 7 ((x * 8) + 0)).toInt ≤ 3) → Q (some (.int 0)) h) : Call (d + 2) 74 [.ref 1, .int x, .int 1] h Q := by
  have e : ∀ K : Nat, K < 6 → (h.1 7 ((x * 8) + 0)).toInt = (K : Int) → h.1 7 ((x * 8) + 0) = nI K := fun K hK q => Int32.toInt_inj.mp (by rw [q, nI_i (by omega)])
  have c : (h.1 7 ((x * 8) + 0)).toInt = ((0 : Nat) : Int) ∨ (h.1 7 ((x * 8) + 0)).toInt = ((1 : Nat) : Int) ∨ (h.1 7 ((x * 8) + 0)).toInt = ((2 : Nat) : Int) ∨ (h.1 7 ((x * 8) + 0)).toInt = ((3 : Nat) : Int) ∨ (h.1 7 ((x * 8) + 0)).toInt = ((4 : Nat) : Int) ∨ (h.1 7 ((x * 8) + 0)).toInt = ((5 : Nat) : Int) := by omega
  rcases c with c | c | c | c | c | c
  · exact c_iok0 x0 x1 xm (e 0 (by decide) c) (k0 (by omega))
  · exact c_iok1 x0 x1 xm (e 1 (by decide) c) (k1 (by omega))
  · exact c_iok2 x0 x1 xm (e 2 (by decide) c) (k1 (by omega))
  · exact c_iok3 x0 x1 xm (e 3 (by decide) c) (k1 (by omega))
  · exact c_iok4 x0 x1 xm (e 4 (by decide) c) (k0 (by omega))
  · exact c_iok5 x0 x1 xm (e 5 (by decide) c) (k0 (by omega))
theorem c_tool {d : Nat} {Q : Option Value → Hp → Prop} {h : Hp} {x s : Int32} (x0 : 0 ≤ x) (x1 : x < h.1 6 2) (xm : h.1 6 2 ≤ 30) (kb : 0 ≤ (h.1 7 ((x * 8) + 0)).toInt ∧ (h.1 7 ((x * 8) + 0)).toInt ≤ 5) (k1 : (h.1 7 ((x * 8) + 1) = s ∧ (1 ≤ (h.1 7 ((x * 8) + 0)).toInt ∧ (h.1 7 ((x * 8) + 0)).toInt ≤ 3)) → Q (some (.int 1)) h) (k0 : ¬ (h.1 7 ((x * 8) + 1) = s ∧ (1 ≤ (h.1 7 ((x * 8) + 0)).toInt ∧ (h.1 7 ((x * 8) + 0)).toInt ≤ 3)) → Q (some (.int 0)) h) : Call (d + 3) 75 [.ref 1, .int x, .int s] h Q := by
  refine call_of (rfl : psM[75]? = some _) rfl rfl (rcvV rfl) (fun X hX => ?_)
  show X (0, [some (.ref 1), some (.int x), some (.int s)], [], h)
  refine go hX 4 (gs := [True, True, True, True]) (z' := (6, [some (.ref 1), some (.int x), some (.int s)], [.int 1, .int x, .ref 6], h)) rfl ⟨trivial, trivial, trivial, trivial, trivial⟩ ?_
  refine cl hX 94 3 [.ref 6, .int x, .int 1] [] rfl rfl rfl rfl ?_
  refine c_tg1 x0 x1 xm ?_
  show X (9, [some (.ref 1), some (.int x), some (.int s)], [.int (h.1 7 ((x * 8) + 1))], h)
  refine go hX 2 (gs := [True, True]) (z' := (if (h.1 7 ((x * 8) + 1)) = s then 13 else 26, [some (.ref 1), some (.int x), some (.int s)], [], h)) rfl ⟨trivial, trivial, trivial⟩ ?_
  refine br (fun b1 => ?_) (fun b1 => ?_)
  ·
    refine go hX 3 (gs := [True, True, True]) (z' := (16, [some (.ref 1), some (.int x), some (.int s)], [.int 1, .int x, .ref 1], h)) rfl ⟨trivial, trivial, trivial, trivial⟩ ?_
    refine cl hX 74 3 [.ref 1, .int x, .int 1] [] rfl rfl rfl rfl ?_
    refine c_iok x0 x1 xm kb (fun bk => ?_) (fun bk => ?_)
    ·
      show X (19, [some (.ref 1), some (.int x), some (.int s)], [.int 1], h)
      refine go hX 3 (gs := [True, True, True]) (z' := (27, [some (.ref 1), some (.int x), some (.int s)], [.int 1], h)) rfl ⟨trivial, trivial, trivial, trivial⟩ ?_
      refine rt_ hX (G := isB 1) (r := some (.int 1)) rfl isB1 ?_
      exact k1 ⟨b1, bk⟩
    ·
      show X (19, [some (.ref 1), some (.int x), some (.int s)], [.int 0], h)
      refine go hX 2 (gs := [True, True]) (z' := (27, [some (.ref 1), some (.int x), some (.int s)], [.int 0], h)) rfl ⟨trivial, trivial, trivial⟩ ?_
      refine rt_ hX (G := isB 0) (r := some (.int 0)) rfl isB0 ?_
      exact k0 (fun z => bk z.2)
  ·
    refine go hX 1 (gs := [True]) (z' := (27, [some (.ref 1), some (.int x), some (.int s)], [.int 0], h)) rfl ⟨trivial, trivial⟩ ?_
    refine rt_ hX (G := isB 0) (r := some (.int 0)) rfl isB0 ?_
    exact k0 (fun z => b1 z.1)
/-- how many of the first k are such -/
noncomputable def ixTk (T : Nat → Bool) : Nat → Nat
  | 0 => 0
  | k + 1 => ixTk T k + (if T k = true then 1 else 0)
theorem ixTk_le {T : Nat → Bool} : ∀ k, ixTk T k ≤ k
  | 0 => Nat.le_refl 0
  | k + 1 => by
    have := ixTk_le (T := T) k
    unfold ixTk
    split <;> omega
theorem lp_cntT {d : Nat} {Q : Option Value → Hp → Prop} {X : Cf → Prop} (hX : Clo (Call (d + 2)) cd76 (some .int) Q X) {h : Hp} {n : Nat} (n30 : n ≤ 30) (en : h.1 6 2 = nI n) {s : Int32} (sn : ¬ s = -1000000005) {T : Nat → Bool} (hT : ∀ k, k < n → ((h.1 7 ((nI k * 8) + 1) = s ∧ (1 ≤ (h.1 7 ((nI k * 8) + 0)).toInt ∧ (h.1 7 ((nI k * 8) + 0)).toInt ≤ 3)) ↔ T k = true)) (hK : ∀ k, k < n → 0 ≤ (h.1 7 ((nI k * 8) + 0)).toInt ∧ (h.1 7 ((nI k * 8) + 0)).toInt ≤ 5) (K : Q (some (.int (nI (ixTk T n)))) h) {k : Nat} (hk : k ≤ n) : ∀ {l5 : Option Value}, (l5 = none ∨ ∃ x5, l5 = some (.int x5)) → X (5, [some (.ref 1), some (.int s), some (.int (-1000000005)), some (.int (nI (ixTk T k))), some (.int (nI k)), l5], [], h) := by
  refine dn_ind (P := fun k => ∀ {l5 : Option Value}, (l5 = none ∨ ∃ x5, l5 = some (.int x5)) → X (5, [some (.ref 1), some (.int s), some (.int (-1000000005)), some (.int (nI (ixTk T k))), some (.int (nI k)), l5], [], h)) (fun k hk ih => ?_) hk
  intro l5 hl
  have ib := ixTk_le (T := T) k
  rcases hl with rfl | ⟨x5, rfl⟩
  ·
    refine go hX 3 (gs := [True, True, True]) (z' := (11, [some (.ref 1), some (.int s), some (.int (-1000000005)), some (.int (nI (ixTk T k))), some (.int (nI k)), none], [.ref 6, .int (nI k)], h)) rfl ⟨trivial, trivial, trivial, trivial⟩ ?_
    refine cl hX 91 1 [.ref 6] [.int (nI k)] rfl rfl rfl rfl ?_
    refine c_rowsT ?_
    show X (14, [some (.ref 1), some (.int s), some (.int (-1000000005)), some (.int (nI (ixTk T k))), some (.int (nI k)), none], [.int (h.1 6 2), .int (nI k)], h)
    refine go hX 1 (gs := [True]) (z' := (if (h.1 6 2) ≤ (nI k) then 93 else 17, [some (.ref 1), some (.int s), some (.int (-1000000005)), some (.int (nI (ixTk T k))), some (.int (nI k)), none], [], h)) rfl ⟨trivial, trivial⟩ ?_
    refine br (fun b1 => ?_) (fun b1 => ?_)
    ·
      refine go hX 1 (gs := [True]) (z' := (94, [some (.ref 1), some (.int s), some (.int (-1000000005)), some (.int (nI (ixTk T k))), some (.int (nI k)), none], [.int (nI (ixTk T k))], h)) rfl ⟨trivial, trivial⟩ ?_
      refine rt_ hX (G := True) (r := some (.int (nI (ixTk T k)))) rfl trivial ?_
      have e : k = n := Nat.le_antisymm hk ((tx_le (by omega) (by omega)).mp (by rw [← en]; exact b1))
      subst e
      exact K
    ·
      have kx : k < n := Nat.lt_of_not_le (fun z => b1 (by rw [en]; exact (tx_le (by omega) (by omega)).mpr z))
      refine go hX 3 (gs := [True, True, True]) (z' := (if s = (-1000000005) then 37 else 23, [some (.ref 1), some (.int s), some (.int (-1000000005)), some (.int (nI (ixTk T k))), some (.int (nI k)), none], [], h)) rfl ⟨trivial, trivial, trivial, trivial⟩ ?_
      refine br (fun b2 => ?_) (fun b2 => ?_)
      ·
        refine go hX 12 (gs := [True, True, True, True, True, True, True, True, True, True, True, True]) (z' := (74, [some (.ref 1), some (.int s), some (.int (-1000000005)), some (.int (nI (ixTk T k))), some (.int (nI k)), some (.int 1)], [.int 1, .int (nI k), .ref 1, .int (nI (ixTk T k))], h)) rfl ⟨trivial, trivial, trivial, trivial, trivial, trivial, trivial, trivial, trivial, trivial, trivial, trivial, trivial⟩ ?_
        refine cl hX 74 3 [.ref 1, .int (nI k), .int 1] [.int (nI (ixTk T k))] rfl rfl rfl rfl ?_
        refine c_iok (tx_0 k (by omega)) (by rw [en]; exact (tx_lt (by omega) (by omega)).mpr kx) (by rw [en]; exact (tx_le (b := 30) (by omega) (by decide)).mpr n30) (hK k kx) (fun bk => ?_) (fun bk => ?_)
        ·
          show X (77, [some (.ref 1), some (.int s), some (.int (-1000000005)), some (.int (nI (ixTk T k))), some (.int (nI k)), some (.int 1)], [.int 1, .int (nI (ixTk T k))], h)
          refine go hX 7 (gs := [True, True, True, True, True, True, True]) (z' := (5, [some (.ref 1), some (.int s), some (.int (-1000000005)), some (.int ((nI (ixTk T k)) + 1)), some (.int ((nI k) + 1)), some (.int 1)], [], h)) rfl ⟨trivial, trivial, trivial, trivial, trivial, trivial, trivial, trivial⟩ ?_
          exact absurd b2 sn
        ·
          show X (77, [some (.ref 1), some (.int s), some (.int (-1000000005)), some (.int (nI (ixTk T k))), some (.int (nI k)), some (.int 1)], [.int 0, .int (nI (ixTk T k))], h)
          refine go hX 6 (gs := [True, True, True, True, True, True]) (z' := (5, [some (.ref 1), some (.int s), some (.int (-1000000005)), some (.int ((nI (ixTk T k)) + 0)), some (.int ((nI k) + 1)), some (.int 1)], [], h)) rfl ⟨trivial, trivial, trivial, trivial, trivial, trivial, trivial⟩ ?_
          exact absurd b2 sn
      ·
        refine go hX 4 (gs := [True, True, True, True]) (z' := (30, [some (.ref 1), some (.int s), some (.int (-1000000005)), some (.int (nI (ixTk T k))), some (.int (nI k)), none], [.int 1, .int (nI k), .ref 6], h)) rfl ⟨trivial, trivial, trivial, trivial, trivial⟩ ?_
        refine cl hX 94 3 [.ref 6, .int (nI k), .int 1] [] rfl rfl rfl rfl ?_
        refine c_tg1 (tx_0 k (by omega)) (by rw [en]; exact (tx_lt (by omega) (by omega)).mpr kx) (by rw [en]; exact (tx_le (b := 30) (by omega) (by decide)).mpr n30) ?_
        show X (33, [some (.ref 1), some (.int s), some (.int (-1000000005)), some (.int (nI (ixTk T k))), some (.int (nI k)), none], [.int (h.1 7 ((nI k * 8) + 1))], h)
        refine go hX 2 (gs := [True, True]) (z' := (if (h.1 7 ((nI k * 8) + 1)) = s then 37 else 61, [some (.ref 1), some (.int s), some (.int (-1000000005)), some (.int (nI (ixTk T k))), some (.int (nI k)), none], [], h)) rfl ⟨trivial, trivial, trivial⟩ ?_
        refine br (fun b3 => ?_) (fun b3 => ?_)
        ·
          refine go hX 12 (gs := [True, True, True, True, True, True, True, True, True, True, True, True]) (z' := (74, [some (.ref 1), some (.int s), some (.int (-1000000005)), some (.int (nI (ixTk T k))), some (.int (nI k)), some (.int 1)], [.int 1, .int (nI k), .ref 1, .int (nI (ixTk T k))], h)) rfl ⟨trivial, trivial, trivial, trivial, trivial, trivial, trivial, trivial, trivial, trivial, trivial, trivial, trivial⟩ ?_
          refine cl hX 74 3 [.ref 1, .int (nI k), .int 1] [.int (nI (ixTk T k))] rfl rfl rfl rfl ?_
          refine c_iok (tx_0 k (by omega)) (by rw [en]; exact (tx_lt (by omega) (by omega)).mpr kx) (by rw [en]; exact (tx_le (b := 30) (by omega) (by decide)).mpr n30) (hK k kx) (fun bk => ?_) (fun bk => ?_)
          ·
            show X (77, [some (.ref 1), some (.int s), some (.int (-1000000005)), some (.int (nI (ixTk T k))), some (.int (nI k)), some (.int 1)], [.int 1, .int (nI (ixTk T k))], h)
            refine go hX 7 (gs := [True, True, True, True, True, True, True]) (z' := (5, [some (.ref 1), some (.int s), some (.int (-1000000005)), some (.int ((nI (ixTk T k)) + 1)), some (.int ((nI k) + 1)), some (.int 1)], [], h)) rfl ⟨trivial, trivial, trivial, trivial, trivial, trivial, trivial, trivial⟩ ?_
            rw [tx_1]
            rw [tx_1, show ixTk T k + 1 = ixTk T (k + 1) from (by show _ = ixTk T k + (if T k = true then 1 else 0); rw [if_pos ((hT k kx).mp ⟨b3, bk⟩)])]
            exact ih (k + 1) (Nat.lt_succ_self k) (by omega) (Or.inr ⟨_, rfl⟩)
          ·
            show X (77, [some (.ref 1), some (.int s), some (.int (-1000000005)), some (.int (nI (ixTk T k))), some (.int (nI k)), some (.int 1)], [.int 0, .int (nI (ixTk T k))], h)
            refine go hX 6 (gs := [True, True, True, True, True, True]) (z' := (5, [some (.ref 1), some (.int s), some (.int (-1000000005)), some (.int ((nI (ixTk T k)) + 0)), some (.int ((nI k) + 1)), some (.int 1)], [], h)) rfl ⟨trivial, trivial, trivial, trivial, trivial, trivial, trivial⟩ ?_
            rw [tx_1]
            rw [show nI (ixTk T k) + 0 = nI (ixTk T (k + 1)) from (by rw [Int32.add_zero]; congr 1; show _ = ixTk T k + (if T k = true then 1 else 0); rw [if_neg (fun z => bk ((hT k kx).mpr z).2), Nat.add_zero])]
            exact ih (k + 1) (Nat.lt_succ_self k) (by omega) (Or.inr ⟨_, rfl⟩)
        ·
          refine go hX 10 (gs := [True, True, True, True, True, True, True, True, True, True]) (z' := (5, [some (.ref 1), some (.int s), some (.int (-1000000005)), some (.int ((nI (ixTk T k)) + 0)), some (.int ((nI k) + 1)), some (.int 0)], [], h)) rfl ⟨trivial, trivial, trivial, trivial, trivial, trivial, trivial, trivial, trivial, trivial, trivial⟩ ?_
          rw [tx_1]
          rw [show nI (ixTk T k) + 0 = nI (ixTk T (k + 1)) from (by rw [Int32.add_zero]; congr 1; show _ = ixTk T k + (if T k = true then 1 else 0); rw [if_neg (fun z => b3 ((hT k kx).mpr z).1), Nat.add_zero])]
          exact ih (k + 1) (Nat.lt_succ_self k) (by omega) (Or.inr ⟨_, rfl⟩)
  ·
    refine go hX 3 (gs := [True, True, True]) (z' := (11, [some (.ref 1), some (.int s), some (.int (-1000000005)), some (.int (nI (ixTk T k))), some (.int (nI k)), some (.int x5)], [.ref 6, .int (nI k)], h)) rfl ⟨trivial, trivial, trivial, trivial⟩ ?_
    refine cl hX 91 1 [.ref 6] [.int (nI k)] rfl rfl rfl rfl ?_
    refine c_rowsT ?_
    show X (14, [some (.ref 1), some (.int s), some (.int (-1000000005)), some (.int (nI (ixTk T k))), some (.int (nI k)), some (.int x5)], [.int (h.1 6 2), .int (nI k)], h)
    refine go hX 1 (gs := [True]) (z' := (if (h.1 6 2) ≤ (nI k) then 93 else 17, [some (.ref 1), some (.int s), some (.int (-1000000005)), some (.int (nI (ixTk T k))), some (.int (nI k)), some (.int x5)], [], h)) rfl ⟨trivial, trivial⟩ ?_
    refine br (fun b1 => ?_) (fun b1 => ?_)
    ·
      refine go hX 1 (gs := [True]) (z' := (94, [some (.ref 1), some (.int s), some (.int (-1000000005)), some (.int (nI (ixTk T k))), some (.int (nI k)), some (.int x5)], [.int (nI (ixTk T k))], h)) rfl ⟨trivial, trivial⟩ ?_
      refine rt_ hX (G := True) (r := some (.int (nI (ixTk T k)))) rfl trivial ?_
      have e : k = n := Nat.le_antisymm hk ((tx_le (by omega) (by omega)).mp (by rw [← en]; exact b1))
      subst e
      exact K
    ·
      have kx : k < n := Nat.lt_of_not_le (fun z => b1 (by rw [en]; exact (tx_le (by omega) (by omega)).mpr z))
      refine go hX 3 (gs := [True, True, True]) (z' := (if s = (-1000000005) then 37 else 23, [some (.ref 1), some (.int s), some (.int (-1000000005)), some (.int (nI (ixTk T k))), some (.int (nI k)), some (.int x5)], [], h)) rfl ⟨trivial, trivial, trivial, trivial⟩ ?_
      refine br (fun b2 => ?_) (fun b2 => ?_)
      ·
        refine go hX 12 (gs := [True, True, True, True, True, True, True, True, True, True, True, True]) (z' := (74, [some (.ref 1), some (.int s), some (.int (-1000000005)), some (.int (nI (ixTk T k))), some (.int (nI k)), some (.int 1)], [.int 1, .int (nI k), .ref 1, .int (nI (ixTk T k))], h)) rfl ⟨trivial, trivial, trivial, trivial, trivial, trivial, trivial, trivial, trivial, trivial, trivial, trivial, trivial⟩ ?_
        refine cl hX 74 3 [.ref 1, .int (nI k), .int 1] [.int (nI (ixTk T k))] rfl rfl rfl rfl ?_
        refine c_iok (tx_0 k (by omega)) (by rw [en]; exact (tx_lt (by omega) (by omega)).mpr kx) (by rw [en]; exact (tx_le (b := 30) (by omega) (by decide)).mpr n30) (hK k kx) (fun bk => ?_) (fun bk => ?_)
        ·
          show X (77, [some (.ref 1), some (.int s), some (.int (-1000000005)), some (.int (nI (ixTk T k))), some (.int (nI k)), some (.int 1)], [.int 1, .int (nI (ixTk T k))], h)
          refine go hX 7 (gs := [True, True, True, True, True, True, True]) (z' := (5, [some (.ref 1), some (.int s), some (.int (-1000000005)), some (.int ((nI (ixTk T k)) + 1)), some (.int ((nI k) + 1)), some (.int 1)], [], h)) rfl ⟨trivial, trivial, trivial, trivial, trivial, trivial, trivial, trivial⟩ ?_
          exact absurd b2 sn
        ·
          show X (77, [some (.ref 1), some (.int s), some (.int (-1000000005)), some (.int (nI (ixTk T k))), some (.int (nI k)), some (.int 1)], [.int 0, .int (nI (ixTk T k))], h)
          refine go hX 6 (gs := [True, True, True, True, True, True]) (z' := (5, [some (.ref 1), some (.int s), some (.int (-1000000005)), some (.int ((nI (ixTk T k)) + 0)), some (.int ((nI k) + 1)), some (.int 1)], [], h)) rfl ⟨trivial, trivial, trivial, trivial, trivial, trivial, trivial⟩ ?_
          exact absurd b2 sn
      ·
        refine go hX 4 (gs := [True, True, True, True]) (z' := (30, [some (.ref 1), some (.int s), some (.int (-1000000005)), some (.int (nI (ixTk T k))), some (.int (nI k)), some (.int x5)], [.int 1, .int (nI k), .ref 6], h)) rfl ⟨trivial, trivial, trivial, trivial, trivial⟩ ?_
        refine cl hX 94 3 [.ref 6, .int (nI k), .int 1] [] rfl rfl rfl rfl ?_
        refine c_tg1 (tx_0 k (by omega)) (by rw [en]; exact (tx_lt (by omega) (by omega)).mpr kx) (by rw [en]; exact (tx_le (b := 30) (by omega) (by decide)).mpr n30) ?_
        show X (33, [some (.ref 1), some (.int s), some (.int (-1000000005)), some (.int (nI (ixTk T k))), some (.int (nI k)), some (.int x5)], [.int (h.1 7 ((nI k * 8) + 1))], h)
        refine go hX 2 (gs := [True, True]) (z' := (if (h.1 7 ((nI k * 8) + 1)) = s then 37 else 61, [some (.ref 1), some (.int s), some (.int (-1000000005)), some (.int (nI (ixTk T k))), some (.int (nI k)), some (.int x5)], [], h)) rfl ⟨trivial, trivial, trivial⟩ ?_
        refine br (fun b3 => ?_) (fun b3 => ?_)
        ·
          refine go hX 12 (gs := [True, True, True, True, True, True, True, True, True, True, True, True]) (z' := (74, [some (.ref 1), some (.int s), some (.int (-1000000005)), some (.int (nI (ixTk T k))), some (.int (nI k)), some (.int 1)], [.int 1, .int (nI k), .ref 1, .int (nI (ixTk T k))], h)) rfl ⟨trivial, trivial, trivial, trivial, trivial, trivial, trivial, trivial, trivial, trivial, trivial, trivial, trivial⟩ ?_
          refine cl hX 74 3 [.ref 1, .int (nI k), .int 1] [.int (nI (ixTk T k))] rfl rfl rfl rfl ?_
          refine c_iok (tx_0 k (by omega)) (by rw [en]; exact (tx_lt (by omega) (by omega)).mpr kx) (by rw [en]; exact (tx_le (b := 30) (by omega) (by decide)).mpr n30) (hK k kx) (fun bk => ?_) (fun bk => ?_)
          ·
            show X (77, [some (.ref 1), some (.int s), some (.int (-1000000005)), some (.int (nI (ixTk T k))), some (.int (nI k)), some (.int 1)], [.int 1, .int (nI (ixTk T k))], h)
            refine go hX 7 (gs := [True, True, True, True, True, True, True]) (z' := (5, [some (.ref 1), some (.int s), some (.int (-1000000005)), some (.int ((nI (ixTk T k)) + 1)), some (.int ((nI k) + 1)), some (.int 1)], [], h)) rfl ⟨trivial, trivial, trivial, trivial, trivial, trivial, trivial, trivial⟩ ?_
            rw [tx_1]
            rw [tx_1, show ixTk T k + 1 = ixTk T (k + 1) from (by show _ = ixTk T k + (if T k = true then 1 else 0); rw [if_pos ((hT k kx).mp ⟨b3, bk⟩)])]
            exact ih (k + 1) (Nat.lt_succ_self k) (by omega) (Or.inr ⟨_, rfl⟩)
          ·
            show X (77, [some (.ref 1), some (.int s), some (.int (-1000000005)), some (.int (nI (ixTk T k))), some (.int (nI k)), some (.int 1)], [.int 0, .int (nI (ixTk T k))], h)
            refine go hX 6 (gs := [True, True, True, True, True, True]) (z' := (5, [some (.ref 1), some (.int s), some (.int (-1000000005)), some (.int ((nI (ixTk T k)) + 0)), some (.int ((nI k) + 1)), some (.int 1)], [], h)) rfl ⟨trivial, trivial, trivial, trivial, trivial, trivial, trivial⟩ ?_
            rw [tx_1]
            rw [show nI (ixTk T k) + 0 = nI (ixTk T (k + 1)) from (by rw [Int32.add_zero]; congr 1; show _ = ixTk T k + (if T k = true then 1 else 0); rw [if_neg (fun z => bk ((hT k kx).mpr z).2), Nat.add_zero])]
            exact ih (k + 1) (Nat.lt_succ_self k) (by omega) (Or.inr ⟨_, rfl⟩)
        ·
          refine go hX 10 (gs := [True, True, True, True, True, True, True, True, True, True]) (z' := (5, [some (.ref 1), some (.int s), some (.int (-1000000005)), some (.int ((nI (ixTk T k)) + 0)), some (.int ((nI k) + 1)), some (.int 0)], [], h)) rfl ⟨trivial, trivial, trivial, trivial, trivial, trivial, trivial, trivial, trivial, trivial, trivial⟩ ?_
          rw [tx_1]
          rw [show nI (ixTk T k) + 0 = nI (ixTk T (k + 1)) from (by rw [Int32.add_zero]; congr 1; show _ = ixTk T k + (if T k = true then 1 else 0); rw [if_neg (fun z => b3 ((hT k kx).mpr z).1), Nat.add_zero])]
          exact ih (k + 1) (Nat.lt_succ_self k) (by omega) (Or.inr ⟨_, rfl⟩)
theorem c_cntT {d : Nat} {Q : Option Value → Hp → Prop} {h : Hp} {n : Nat} (n30 : n ≤ 30) (en : h.1 6 2 = nI n) {s : Int32} (sn : ¬ s = -1000000005) {T : Nat → Bool} (hT : ∀ k, k < n → ((h.1 7 ((nI k * 8) + 1) = s ∧ (1 ≤ (h.1 7 ((nI k * 8) + 0)).toInt ∧ (h.1 7 ((nI k * 8) + 0)).toInt ≤ 3)) ↔ T k = true)) (hK : ∀ k, k < n → 0 ≤ (h.1 7 ((nI k * 8) + 0)).toInt ∧ (h.1 7 ((nI k * 8) + 0)).toInt ≤ 5) (K : Q (some (.int (nI (ixTk T n)))) h) : Call (d + 3) 76 [.ref 1, .int s, .int (-1000000005)] h Q := by
  refine call_of (rfl : psM[76]? = some _) rfl rfl (rcvV rfl) (fun X hX => ?_)
  show X (0, [some (.ref 1), some (.int s), some (.int (-1000000005)), none, none, none], [], h)
  refine go hX 4 (gs := [True, True, True, True]) (z' := (5, [some (.ref 1), some (.int s), some (.int (-1000000005)), some (.int 0), some (.int 0), none], [], h)) rfl ⟨trivial, trivial, trivial, trivial, trivial⟩ ?_
  exact lp_cntT hX n30 en sn hT hK K (Nat.zero_le n) (Or.inl rfl)
theorem nI_ij {a b : Nat} (ha : a < 2147483648) (hb : b < 2147483648) (h : nI a = nI b) : a = b := by
  have := congrArg Int32.toInt h
  rw [nI_i ha, nI_i hb] at this
  omega
/-- missed: it hangs and is not seen -/
noncomputable def mssB (T : Nat → Bool) (W : Nat → Int32) (v k : Nat) : Bool := decide (W k = 0) && !(v.testBit (ixTk T k))
noncomputable def wrB (T : Nat → Bool) (W : Nat → Int32) (v k : Nat) : Bool := mssB T W v k || (decide (W k = 1) && v.testBit (ixTk T k))
noncomputable def wrT (T : Nat → Bool) (W : Nat → Int32) (v : Nat) : Nat → Nat
  | 0 => 0
  | k + 1 => wrT T W v k + (if (T k && wrB T W v k) = true then 1 else 0)
theorem wrT_le {T : Nat → Bool} {W : Nat → Int32} {v : Nat} : ∀ k, wrT T W v k ≤ k
  | 0 => Nat.le_refl 0
  | k + 1 => by
    have := wrT_le (T := T) (W := W) (v := v) k
    unfold wrT
    split <;> omega
noncomputable def bWn (T : Nat → Bool) (W M : Nat → Int32) (v k : Nat) : Int32 := if (T k && (mssB T W v k && decide (M k = 1))) = true then 2 else W k
noncomputable def bMn (T : Nat → Bool) (W M : Nat → Int32) (v k : Nat) : Int32 := if T k = true then (if mssB T W v k = true then 1 else 0) else M k
/-- the things at a bell, the first k of them done -/
noncomputable def Bl (o b st : Nat) (h h' : Hp) (T : Nat → Bool) (W M : Nat → Int32) (v k : Nat) : Prop := (∀ a (j : Int32), a ≠ o → h'.1 a j = h.1 a j) ∧ h'.2 = h.2 ∧ (∀ i, i < 30 → h'.1 o (nI (b + st * i + 4)) = (if i < k then bWn T W M v i else W i) ∧ h'.1 o (nI (b + st * i + 7)) = (if i < k then bMn T W M v i else M i)) ∧ (∀ j : Int32, (∀ i, i < 30 → j ≠ nI (b + st * i + 4) ∧ j ≠ nI (b + st * i + 7)) → h'.1 o j = h.1 o j)
theorem Bl.st {o b st : Nat} {h : Hp} {T : Nat → Bool} {W M : Nat → Int32} {v : Nat} (hW : ∀ i, i < 30 → h.1 o (nI (b + st * i + 4)) = W i) (hM : ∀ i, i < 30 → h.1 o (nI (b + st * i + 7)) = M i) : Bl o b st h h T W M v 0 := ⟨fun _ _ _ => rfl, rfl, fun i hi => ⟨by rw [if_neg (by omega)]; exact hW i hi, by rw [if_neg (by omega)]; exact hM i hi⟩, fun _ _ => rfl⟩
theorem Bl.no {o b st : Nat} {h h' : Hp} {T : Nat → Bool} {W M : Nat → Int32} {v k : Nat} (B : Bl o b st h h' T W M v k) (t : ¬ T k = true) : Bl o b st h h' T W M v (k + 1) := by
  refine ⟨B.1, B.2.1, fun i hi => ?_, B.2.2.2⟩
  obtain ⟨b1, b2⟩ := B.2.2.1 i hi
  have t : T k = false := (Bool.not_eq_true _).mp t
  by_cases e : i = k
  · subst e
    rw [if_neg (by omega)] at b1 b2
    rw [b1, b2, if_pos (by omega), if_pos (by omega)]
    unfold bWn bMn
    rw [t]
    exact ⟨rfl, rfl⟩
  · rw [b1, b2]
    by_cases q : i < k
    · rw [if_pos q, if_pos q, if_pos (by omega), if_pos (by omega)]; exact ⟨rfl, rfl⟩
    · rw [if_neg q, if_neg q, if_neg (by omega), if_neg (by omega)]; exact ⟨rfl, rfl⟩
theorem Bl.w2 {o b st : Nat} {h h' : Hp} {T : Nat → Bool} {W M : Nat → Int32} {v k : Nat} (hst : st = 8 ∨ st = 9) (hb : b ≤ 1000) (B : Bl o b st h h' T W M v k) (hk : k < 30) {x y : Int32} (hx : x = bWn T W M v k) (hy : y = bMn T W M v k) : Bl o b st h (hI (hI h' o (nI (b + st * k + 4)) x) o (nI (b + st * k + 7)) y) T W M v (k + 1) := by
  have le : ∀ i, i < 30 → st * i ≤ 270 := fun i hi => by rcases hst with rfl | rfl <;> omega
  have dj : ∀ i, i < 30 → b + st * i + 4 ≠ b + st * k + 7 ∧ b + st * i + 7 ≠ b + st * k + 4 ∧ (b + st * i + 4 = b + st * k + 4 → i = k) ∧ (b + st * i + 7 = b + st * k + 7 → i = k) := fun i hi => by rcases hst with rfl | rfl <;> omega
  have lk := le k hk
  refine ⟨fun a j q => by rw [hI_ne q, hI_ne q]; exact B.1 a j q, B.2.1, fun i hi => ?_, fun j q => ?_⟩
  · obtain ⟨b1, b2⟩ := B.2.2.1 i hi
    obtain ⟨d1, d2, d3, d4⟩ := dj i hi
    have li := le i hi
    by_cases e : i = k
    · subst e
      rw [if_pos (by omega), if_pos (by omega), hI_j (fun z => d1 (nI_ij (by omega) (by omega) z)), hI_eq, hI_eq]
      exact ⟨hx, hy⟩
    · rw [hI_j (fun z => d1 (nI_ij (by omega) (by omega) z)), hI_j (fun z => e (d3 (nI_ij (by omega) (by omega) z))), hI_j (fun z => e (d4 (nI_ij (by omega) (by omega) z))), hI_j (fun z => d2 (nI_ij (by omega) (by omega) z)), b1, b2]
      by_cases q : i < k
      · rw [if_pos q, if_pos q, if_pos (by omega), if_pos (by omega)]; exact ⟨rfl, rfl⟩
      · rw [if_neg q, if_neg q, if_neg (by omega), if_neg (by omega)]; exact ⟨rfl, rfl⟩
  · rw [hI_j (q k hk).2, hI_j (q k hk).1]
    exact B.2.2.2 j q
theorem Bl.w1 {o b st : Nat} {h h' : Hp} {T : Nat → Bool} {W M : Nat → Int32} {v k : Nat} (hst : st = 8 ∨ st = 9) (hb : b ≤ 1000) (B : Bl o b st h h' T W M v k) (hk : k < 30) {y : Int32} (hx : W k = bWn T W M v k) (hy : y = bMn T W M v k) : Bl o b st h (hI h' o (nI (b + st * k + 7)) y) T W M v (k + 1) := by
  have z := Bl.w2 hst hb B hk hx hy
  have e : hI h' o (nI (b + st * k + 4)) (W k) = h' := by
    refine mx_ext (fun a j => ?_) (fun _ _ => rfl) rfl
    by_cases q : a = o ∧ j = nI (b + st * k + 4)
    · rw [q.1, q.2, hI_eq, (B.2.2.1 k hk).1, if_neg (by omega)]
    · by_cases p : a = o
      · subst p; exact hI_j (fun y => q ⟨rfl, y⟩)
      · exact hI_ne p
  rw [e] at z
  exact z
theorem shr_n {v i : Nat} (hv : v < 2147483648) (hi : i < 32) : (nI v >>> (nI i &&& 31)) = nI (v / 2 ^ i) := by
  have hm : ∀ i : Nat, i < 32 → (nI i &&& 31) = nI i := by decide +kernel
  rw [hm i hi]
  apply Int32.toBitVec_inj.mp
  rw [Int32.toBitVec_shiftRight]
  have e1 : (nI i).toBitVec.smod 32 = BitVec.ofNat 32 i := by
    have : ∀ i : Nat, i < 32 → (nI i).toBitVec.smod 32 = BitVec.ofNat 32 i := by decide +kernel
    exact this i hi
  rw [e1]
  have e2 : (BitVec.ofNat 32 i).toNat = i := by rw [BitVec.toNat_ofNat]; omega
  show (BitVec.ofNat 32 v).sshiftRight' (BitVec.ofNat 32 i) = BitVec.ofNat 32 (v / 2 ^ i)
  rw [BitVec.sshiftRight', e2]
  have ms : (BitVec.ofNat 32 v).msb = false := by
    rw [BitVec.msb_eq_decide, BitVec.toNat_ofNat]
    exact decide_eq_false (by omega)
  rw [BitVec.sshiftRight_eq_of_msb_false ms]
  apply BitVec.eq_of_toNat_eq
  rw [BitVec.toNat_ushiftRight, BitVec.toNat_ofNat, BitVec.toNat_ofNat, Nat.shiftRight_eq_div_pow]
  have : v / 2 ^ i ≤ v := Nat.div_le_self _ _
  rw [Nat.mod_eq_of_lt (by omega), Nat.mod_eq_of_lt (by omega)]
theorem and1_n {v : Nat} (hv : v < 2147483648) : (nI v &&& 1) = (if v.testBit 0 = true then 1 else 0) := by
  apply Int32.toBitVec_inj.mp
  rw [Int32.toBitVec_and]
  apply BitVec.eq_of_toNat_eq
  show ((BitVec.ofNat 32 v) &&& (BitVec.ofNat 32 1)).toNat = _
  rw [BitVec.toNat_and, BitVec.toNat_ofNat, BitVec.toNat_ofNat, Nat.mod_eq_of_lt (by omega), show (1 % 2 ^ 32 : Nat) = 1 from rfl, Nat.and_one_is_mod, Nat.testBit_zero]
  rcases Nat.mod_two_eq_zero_or_one v with q | q
  · rw [q]; rfl
  · rw [q]; rfl
theorem tb_div {v i : Nat} : (v / 2 ^ i).testBit 0 = v.testBit i := by
  rw [← Nat.shiftRight_eq_div_pow, Nat.testBit_shiftRight]
  rfl
theorem c_agr1 {d : Nat} {Q : Option Value → Hp → Prop} {h : Hp} {x w m : Int32} (x0 : 0 ≤ x) (x1 : x < h.1 6 2) (xm : h.1 6 2 ≤ 30) (ew : h.1 7 ((x * 8) + 4) = w) (em : h.1 7 ((x * 8) + 7) = m) (k1 : w = 1 → Q (some (.int 0)) (hI h 7 ((x * 8) + 7) 0)) (k2 : ¬ w = 1 → Q (some (.int 1)) (hI h 7 ((x * 8) + 7) 0)) : Call (d + 2) 78 [.ref 1, .int x, .int 1] h Q := by
  refine call_of (rfl : psM[78]? = some _) rfl rfl (rcvV rfl) (fun X hX => ?_)
  show X (0, [some (.ref 1), some (.int x), some (.int 1), none, none], [], h)
  refine go hX 4 (gs := [True, True, True, True]) (z' := (6, [some (.ref 1), some (.int x), some (.int 1), none, none], [.int 4, .int x, .ref 6], h)) rfl ⟨trivial, trivial, trivial, trivial, trivial⟩ ?_
  refine cl hX 94 3 [.ref 6, .int x, .int 4] [] rfl rfl rfl rfl ?_
  refine c_tg4 x0 x1 xm ?_
  rw [ew]
  show X (9, [some (.ref 1), some (.int x), some (.int 1), none, none], [.int w], h)
  refine go hX 3 (gs := [True, True, True]) (z' := (if w = 0 then 14 else 22, [some (.ref 1), some (.int x), some (.int 1), some (.int w), none], [], h)) rfl ⟨trivial, trivial, trivial, trivial⟩ ?_
  refine br (fun b1 => ?_) (fun b1 => ?_)
  ·
    refine go hX 13 (gs := [True, True, True, True, True, True, True, True, True, True, True, True, True]) (z' := (71, [some (.ref 1), some (.int x), some (.int 1), some (.int w), some (.int 0)], [.int 0, .int 7, .int x, .ref 6], h)) rfl ⟨trivial, trivial, trivial, trivial, trivial, trivial, trivial, trivial, trivial, trivial, trivial, trivial, trivial, trivial⟩ ?_
    refine cl hX 95 4 [.ref 6, .int x, .int 7, .int 0] [] rfl rfl rfl rfl ?_
    refine c_ts7 x0 x1 xm ?_
    show X (74, [some (.ref 1), some (.int x), some (.int 1), some (.int w), some (.int 0)], [], (hI h 7 ((x * 8) + 7) 0))
    refine go hX 5 (gs := [True, True, True, True, True]) (z' := (if w = 1 then 84 else 88, [some (.ref 1), some (.int x), some (.int 1), some (.int w), some (.int 0)], [], (hI h 7 ((x * 8) + 7) 0))) rfl ⟨trivial, trivial, trivial, trivial, trivial, trivial⟩ ?_
    refine br (fun b2 => ?_) (fun b2 => ?_)
    ·
      refine go hX 3 (gs := [True, True, True]) (z' := (93, [some (.ref 1), some (.int x), some (.int 1), some (.int w), some (.int 0)], [.int 0], (hI h 7 ((x * 8) + 7) 0))) rfl ⟨trivial, trivial, trivial, trivial⟩ ?_
      refine rt_ hX (G := isB 0) (r := some (.int 0)) rfl isB0 ?_
      exact k1 b2
    ·
      refine go hX 2 (gs := [True, True]) (z' := (93, [some (.ref 1), some (.int x), some (.int 1), some (.int w), some (.int 0)], [.int 1], (hI h 7 ((x * 8) + 7) 0))) rfl ⟨trivial, trivial, trivial⟩ ?_
      refine rt_ hX (G := isB 1) (r := some (.int 1)) rfl isB1 ?_
      exact k2 b2
  ·
    refine go hX 11 (gs := [True, True, True, True, True, True, True, True, True, True, True]) (z' := (71, [some (.ref 1), some (.int x), some (.int 1), some (.int w), some (.int 0)], [.int 0, .int 7, .int x, .ref 6], h)) rfl ⟨trivial, trivial, trivial, trivial, trivial, trivial, trivial, trivial, trivial, trivial, trivial, trivial⟩ ?_
    refine cl hX 95 4 [.ref 6, .int x, .int 7, .int 0] [] rfl rfl rfl rfl ?_
    refine c_ts7 x0 x1 xm ?_
    show X (74, [some (.ref 1), some (.int x), some (.int 1), some (.int w), some (.int 0)], [], (hI h 7 ((x * 8) + 7) 0))
    refine go hX 5 (gs := [True, True, True, True, True]) (z' := (if w = 1 then 84 else 88, [some (.ref 1), some (.int x), some (.int 1), some (.int w), some (.int 0)], [], (hI h 7 ((x * 8) + 7) 0))) rfl ⟨trivial, trivial, trivial, trivial, trivial, trivial⟩ ?_
    refine br (fun b3 => ?_) (fun b3 => ?_)
    ·
      refine go hX 3 (gs := [True, True, True]) (z' := (93, [some (.ref 1), some (.int x), some (.int 1), some (.int w), some (.int 0)], [.int 0], (hI h 7 ((x * 8) + 7) 0))) rfl ⟨trivial, trivial, trivial, trivial⟩ ?_
      refine rt_ hX (G := isB 0) (r := some (.int 0)) rfl isB0 ?_
      exact k1 b3
    ·
      refine go hX 2 (gs := [True, True]) (z' := (93, [some (.ref 1), some (.int x), some (.int 1), some (.int w), some (.int 0)], [.int 1], (hI h 7 ((x * 8) + 7) 0))) rfl ⟨trivial, trivial, trivial⟩ ?_
      refine rt_ hX (G := isB 1) (r := some (.int 1)) rfl isB1 ?_
      exact k2 b3
theorem c_agr0 {d : Nat} {Q : Option Value → Hp → Prop} {h : Hp} {x w m : Int32} (x0 : 0 ≤ x) (x1 : x < h.1 6 2) (xm : h.1 6 2 ≤ 30) (ew : h.1 7 ((x * 8) + 4) = w) (em : h.1 7 ((x * 8) + 7) = m) (k1 : w = 0 → m = 1 → Q (some (.int 0)) (hI (hI h 7 ((x * 8) + 4) 2) 7 ((x * 8) + 7) 1)) (k2 : w = 0 → ¬ m = 1 → Q (some (.int 0)) (hI h 7 ((x * 8) + 7) 1)) (k3 : ¬ w = 0 → Q (some (.int 1)) (hI h 7 ((x * 8) + 7) 0)) : Call (d + 2) 78 [.ref 1, .int x, .int 0] h Q := by
  refine call_of (rfl : psM[78]? = some _) rfl rfl (rcvV rfl) (fun X hX => ?_)
  show X (0, [some (.ref 1), some (.int x), some (.int 0), none, none], [], h)
  refine go hX 4 (gs := [True, True, True, True]) (z' := (6, [some (.ref 1), some (.int x), some (.int 0), none, none], [.int 4, .int x, .ref 6], h)) rfl ⟨trivial, trivial, trivial, trivial, trivial⟩ ?_
  refine cl hX 94 3 [.ref 6, .int x, .int 4] [] rfl rfl rfl rfl ?_
  refine c_tg4 x0 x1 xm ?_
  rw [ew]
  show X (9, [some (.ref 1), some (.int x), some (.int 0), none, none], [.int w], h)
  refine go hX 3 (gs := [True, True, True]) (z' := (if w = 0 then 14 else 22, [some (.ref 1), some (.int x), some (.int 0), some (.int w), none], [], h)) rfl ⟨trivial, trivial, trivial, trivial⟩ ?_
  refine br (fun b1 => ?_) (fun b1 => ?_)
  ·
    refine go hX 11 (gs := [True, True, True, True, True, True, True, True, True, True, True]) (z' := (37, [some (.ref 1), some (.int x), some (.int 0), some (.int w), some (.int 1)], [.int 7, .int x, .ref 6], h)) rfl ⟨trivial, trivial, trivial, trivial, trivial, trivial, trivial, trivial, trivial, trivial, trivial, trivial⟩ ?_
    refine cl hX 94 3 [.ref 6, .int x, .int 7] [] rfl rfl rfl rfl ?_
    refine c_tg7 x0 x1 xm ?_
    rw [em]
    show X (40, [some (.ref 1), some (.int x), some (.int 0), some (.int w), some (.int 1)], [.int m], h)
    refine go hX 2 (gs := [True, True]) (z' := (if m = 1 then 44 else 54, [some (.ref 1), some (.int x), some (.int 0), some (.int w), some (.int 1)], [], h)) rfl ⟨trivial, trivial, trivial⟩ ?_
    refine br (fun b2 => ?_) (fun b2 => ?_)
    ·
      refine go hX 5 (gs := [True, True, True, True, True]) (z' := (51, [some (.ref 1), some (.int x), some (.int 0), some (.int w), some (.int 1)], [.int 2, .int 4, .int x, .ref 6], h)) rfl ⟨trivial, trivial, trivial, trivial, trivial, trivial⟩ ?_
      refine cl hX 95 4 [.ref 6, .int x, .int 4, .int 2] [] rfl rfl rfl rfl ?_
      refine c_ts4 x0 x1 xm ?_
      show X (54, [some (.ref 1), some (.int x), some (.int 0), some (.int w), some (.int 1)], [], (hI h 7 ((x * 8) + 4) 2))
      refine go hX 8 (gs := [True, True, True, True, True, True, True, True]) (z' := (71, [some (.ref 1), some (.int x), some (.int 0), some (.int w), some (.int 1)], [.int 1, .int 7, .int x, .ref 6], (hI h 7 ((x * 8) + 4) 2))) rfl ⟨trivial, trivial, trivial, trivial, trivial, trivial, trivial, trivial, trivial⟩ ?_
      refine cl hX 95 4 [.ref 6, .int x, .int 7, .int 1] [] rfl rfl rfl rfl ?_
      refine c_ts7 x0 (by rw [hI_ne (by decide)]; exact x1) (by rw [hI_ne (by decide)]; exact xm) ?_
      show X (74, [some (.ref 1), some (.int x), some (.int 0), some (.int w), some (.int 1)], [], (hI (hI h 7 ((x * 8) + 4) 2) 7 ((x * 8) + 7) 1))
      refine go hX 3 (gs := [True, True, True]) (z' := (93, [some (.ref 1), some (.int x), some (.int 0), some (.int w), some (.int 1)], [.int 0], (hI (hI h 7 ((x * 8) + 4) 2) 7 ((x * 8) + 7) 1))) rfl ⟨trivial, trivial, trivial, trivial⟩ ?_
      refine rt_ hX (G := isB 0) (r := some (.int 0)) rfl isB0 ?_
      exact k1 b1 b2
    ·
      refine go hX 8 (gs := [True, True, True, True, True, True, True, True]) (z' := (71, [some (.ref 1), some (.int x), some (.int 0), some (.int w), some (.int 1)], [.int 1, .int 7, .int x, .ref 6], h)) rfl ⟨trivial, trivial, trivial, trivial, trivial, trivial, trivial, trivial, trivial⟩ ?_
      refine cl hX 95 4 [.ref 6, .int x, .int 7, .int 1] [] rfl rfl rfl rfl ?_
      refine c_ts7 x0 x1 xm ?_
      show X (74, [some (.ref 1), some (.int x), some (.int 0), some (.int w), some (.int 1)], [], (hI h 7 ((x * 8) + 7) 1))
      refine go hX 3 (gs := [True, True, True]) (z' := (93, [some (.ref 1), some (.int x), some (.int 0), some (.int w), some (.int 1)], [.int 0], (hI h 7 ((x * 8) + 7) 1))) rfl ⟨trivial, trivial, trivial, trivial⟩ ?_
      refine rt_ hX (G := isB 0) (r := some (.int 0)) rfl isB0 ?_
      exact k2 b1 b2
  ·
    refine go hX 11 (gs := [True, True, True, True, True, True, True, True, True, True, True]) (z' := (71, [some (.ref 1), some (.int x), some (.int 0), some (.int w), some (.int 0)], [.int 0, .int 7, .int x, .ref 6], h)) rfl ⟨trivial, trivial, trivial, trivial, trivial, trivial, trivial, trivial, trivial, trivial, trivial, trivial⟩ ?_
    refine cl hX 95 4 [.ref 6, .int x, .int 7, .int 0] [] rfl rfl rfl rfl ?_
    refine c_ts7 x0 x1 xm ?_
    show X (74, [some (.ref 1), some (.int x), some (.int 0), some (.int w), some (.int 0)], [], (hI h 7 ((x * 8) + 7) 0))
    refine go hX 5 (gs := [True, True, True, True, True]) (z' := (if w = 1 then 84 else 88, [some (.ref 1), some (.int x), some (.int 0), some (.int w), some (.int 0)], [], (hI h 7 ((x * 8) + 7) 0))) rfl ⟨trivial, trivial, trivial, trivial, trivial, trivial⟩ ?_
    refine br (fun b3 => ?_) (fun b3 => ?_)
    ·
      refine go hX 4 (gs := [True, True, True, True]) (z' := (93, [some (.ref 1), some (.int x), some (.int 0), some (.int w), some (.int 0)], [.int 1], (hI h 7 ((x * 8) + 7) 0))) rfl ⟨trivial, trivial, trivial, trivial, trivial⟩ ?_
      refine rt_ hX (G := isB 1) (r := some (.int 1)) rfl isB1 ?_
      exact k3 b1
    ·
      refine go hX 2 (gs := [True, True]) (z' := (93, [some (.ref 1), some (.int x), some (.int 0), some (.int w), some (.int 0)], [.int 1], (hI h 7 ((x * 8) + 7) 0))) rfl ⟨trivial, trivial, trivial⟩ ?_
      refine rt_ hX (G := isB 1) (r := some (.int 1)) rfl isB1 ?_
      exact k3 b1
theorem ix8 {i f : Nat} (hi : i < 30) (hf : f < 8) : (nI i * 8) + nI f = nI (0 + 8 * i + f) := by
  have e : nI i * 8 = nI (i * 8) := (Int32.ofNat_mul i 8).symm
  rw [e, nI_add]
  congr 1
  omega
theorem ix9 {i f : Nat} (hi : i < 30) (hf : f < 9) : (300 + (9 * nI i)) + nI f = nI (300 + 9 * i + f) := by
  have e : 9 * nI i = nI (9 * i) := (Int32.ofNat_mul 9 i).symm
  rw [e, show (300 : Int32) = nI 300 from rfl, nI_add, nI_add]
theorem Bl.c01 {o b st : Nat} {h h' : Hp} {T : Nat → Bool} {W M : Nat → Int32} {v k j f : Nat} (hst : st = 8 ∨ st = 9) (hb : b ≤ 1000) (B : Bl o b st h h' T W M v k) (hj : j < 30) (hf : f = 0 ∨ f = 1) : h'.1 o (nI (b + st * j + f)) = h.1 o (nI (b + st * j + f)) := B.2.2.2 _ (fun i hi => ⟨fun z => by
  have := nI_ij (by rcases hst with rfl | rfl <;> omega) (by rcases hst with rfl | rfl <;> omega) z
  rcases hst with rfl | rfl <;> omega, fun z => by
  have := nI_ij (by rcases hst with rfl | rfl <;> omega) (by rcases hst with rfl | rfl <;> omega) z
  rcases hst with rfl | rfl <;> omega⟩)
theorem Bl.c4 {o b st : Nat} {h h' : Hp} {T : Nat → Bool} {W M : Nat → Int32} {v k : Nat} (B : Bl o b st h h' T W M v k) (hk : k < 30) : h'.1 o (nI (b + st * k + 4)) = W k ∧ h'.1 o (nI (b + st * k + 7)) = M k := by
  obtain ⟨b1, b2⟩ := B.2.2.1 k hk
  rw [if_neg (by omega)] at b1 b2
  exact ⟨b1, b2⟩
theorem sb_of {T : Nat → Bool} {v k : Nat} (hv : v < 2147483648) : (nI (v / 2 ^ ixTk T k) &&& 1) = 1 ↔ v.testBit (ixTk T k) = true := by
  have le : v / 2 ^ ixTk T k ≤ v := Nat.div_le_self _ _
  rw [and1_n (by omega), tb_div]
  constructor
  · intro z
    by_cases q : v.testBit (ixTk T k) = true
    · exact q
    · rw [if_neg q] at z; exact absurd z (by decide)
  · intro z; rw [if_pos z]
theorem half_n {T : Nat → Bool} {v k : Nat} (hv : v < 2147483648) (t : T k = true) : (nI (v / 2 ^ ixTk T k) >>> (1 &&& 31)) = nI (v / 2 ^ ixTk T (k + 1)) := by
  have le : v / 2 ^ ixTk T k ≤ v := Nat.div_le_self _ _
  rw [show ((1 : Int32) &&& 31) = (nI 1 &&& 31) from rfl, shr_n (by omega) (by decide), Nat.div_div_eq_div_mul]
  congr 2
  show _ = 2 ^ (ixTk T k + (if T k = true then 1 else 0))
  rw [if_pos t, Nat.pow_succ]
  rfl
theorem ix_t {T : Nat → Bool} {k : Nat} (t : T k = true) : ixTk T (k + 1) = ixTk T k + 1 := by
  show ixTk T k + (if T k = true then 1 else 0) = _
  rw [if_pos t]
theorem ix_f {T : Nat → Bool} {k : Nat} (t : ¬ T k = true) : ixTk T (k + 1) = ixTk T k := by
  show ixTk T k + (if T k = true then 1 else 0) = _
  rw [if_neg t]; rfl
theorem wr_t {T : Nat → Bool} {W : Nat → Int32} {v k : Nat} (t : T k = true) (w : wrB T W v k = true) : nI (wrT T W v k) + 1 = nI (wrT T W v (k + 1)) := by
  rw [tx_1]
  congr 1
  show _ = wrT T W v k + (if (T k && wrB T W v k) = true then 1 else 0)
  rw [t, w]; rfl
theorem wr_f {T : Nat → Bool} {W : Nat → Int32} {v k : Nat} (w : (T k && wrB T W v k) = false) : wrT T W v k = wrT T W v (k + 1) := by
  show _ = wrT T W v k + (if (T k && wrB T W v k) = true then 1 else 0)
  rw [w]; rfl
theorem c_shS {d : Nat} {Q : Option Value → Hp → Prop} {h : Hp} {x v : Int32} (x0 : 0 ≤ x) (x1 : x < h.1 2 2) (xm : h.1 2 2 ≤ 3) (k : Q none (hI h 3 ((x * 8) + 7) v)) : Call (d + 1) 95 [.ref 2, .int x, .int 7, .int v] h Q := by
  refine call_of (rfl : psM[95]? = some _) rfl rfl (rcvV rfl) (fun X hX => ?_)
  show X (0, [some (.ref 2), some (.int x), some (.int 7), some (.int v)], [], h)
  refine go hX 2 (gs := [True, True]) (z' := (if x < 0 then 24 else 4, [some (.ref 2), some (.int x), some (.int 7), some (.int v)], [], h)) rfl ⟨trivial, trivial, trivial⟩ ?_
  refine br (fun b1 => ?_) (fun b1 => ?_)
  ·
    refine rt_ hX (G := True) (r := none) rfl trivial ?_
    exfalso; grind
  ·
    refine go hX 4 (gs := [True, True, True, True]) (z' := (if (h.1 2 2) ≤ x then 24 else 12, [some (.ref 2), some (.int x), some (.int 7), some (.int v)], [], h)) rfl ⟨trivial, trivial, trivial, trivial, trivial⟩ ?_
    refine br (fun b2 => ?_) (fun b2 => ?_)
    ·
      refine rt_ hX (G := True) (r := none) rfl trivial ?_
      exfalso; grind
    ·
      refine go hX 16 (gs := [ibd ((x * 8) + 7) 24, True, True, True, True, True, True, True, True, True, True, True, True, True, True, True]) (z' := (39, [some (.ref 2), some (.int x), some (.int 7), some (.int v)], [], (hI h 3 ((x * 8) + 7) v))) rfl ⟨?_, trivial, trivial, trivial, trivial, trivial, trivial, trivial, trivial, trivial, trivial, trivial, trivial, trivial, trivial, trivial, trivial⟩ ?_
      · exact ibd_of (B := 24) rfl (by grind) (by grind)
      refine rt_ hX (G := True) (r := none) rfl trivial ?_
      exact k
theorem lp_bellA {d : Nat} {Q : Option Value → Hp → Prop} {X : Cf → Prop} (hX : Clo (Call (d + 3)) cd124 (some .int) Q X) {h : Hp} {n v : Nat} (n30 : n ≤ 30) (en : h.1 6 2 = nI n) (hv : v < 2147483648) {s : Int32} (s0 : 0 ≤ s) (s1 : s < h.1 2 2) (sm : h.1 2 2 ≤ 3) {T : Nat → Bool} {W M : Nat → Int32} (hT : ∀ k, k < n → ((h.1 7 ((nI k * 8) + 1) = s ∧ (1 ≤ (h.1 7 ((nI k * 8) + 0)).toInt ∧ (h.1 7 ((nI k * 8) + 0)).toInt ≤ 3)) ↔ T k = true)) (hK : ∀ k, k < n → 0 ≤ (h.1 7 ((nI k * 8) + 0)).toInt ∧ (h.1 7 ((nI k * 8) + 0)).toInt ≤ 5) (K : ∀ h1, Bl 7 0 8 h h1 T W M v n → Q (some (.int (nI (wrT T W v n)))) (hI h1 3 ((s * 8) + 7) (if nI (wrT T W v n) ≤ 0 then 0 else 1))) {k : Nat} (hk : k ≤ n) : ∀ {h1 : Hp}, Bl 7 0 8 h h1 T W M v k → X (44, [some (.ref 0), some (.int s), some (.int (nI v)), some (.int (nI (v / 2 ^ ixTk T k))), some (.int (nI (wrT T W v k))), some (.int (nI k))], [], h1) := by
  refine dn_ind (P := fun k => ∀ {h1 : Hp}, Bl 7 0 8 h h1 T W M v k → X (44, [some (.ref 0), some (.int s), some (.int (nI v)), some (.int (nI (v / 2 ^ ixTk T k))), some (.int (nI (wrT T W v k))), some (.int (nI k))], [], h1)) (fun k hk ih => ?_) hk
  intro h1 B
  have e6 : h1.1 6 2 = nI n := (B.1 6 2 (by decide)).trans en
  have e2 : h1.1 2 2 = h.1 2 2 := B.1 2 2 (by decide)
  refine go hX 4 (gs := [True, True, True, True]) (z' := (53, [some (.ref 0), some (.int s), some (.int (nI v)), some (.int (nI (v / 2 ^ ixTk T k))), some (.int (nI (wrT T W v k))), some (.int (nI k))], [.ref 6, .int (nI k)], h1)) rfl ⟨trivial, trivial, trivial, trivial, trivial⟩ ?_
  refine cl hX 91 1 [.ref 6] [.int (nI k)] rfl rfl rfl rfl ?_
  refine c_rowsT ?_
  rw [e6]
  show X (56, [some (.ref 0), some (.int s), some (.int (nI v)), some (.int (nI (v / 2 ^ ixTk T k))), some (.int (nI (wrT T W v k))), some (.int (nI k))], [.int (nI n), .int (nI k)], h1)
  refine go hX 1 (gs := [True]) (z' := (if (nI n) ≤ (nI k) then 116 else 59, [some (.ref 0), some (.int s), some (.int (nI v)), some (.int (nI (v / 2 ^ ixTk T k))), some (.int (nI (wrT T W v k))), some (.int (nI k))], [], h1)) rfl ⟨trivial, trivial⟩ ?_
  refine br (fun b1 => ?_) (fun b1 => ?_)
  ·
    refine go hX 7 (gs := [True, True, True, True, True, True, True]) (z' := (if (nI (wrT T W v k)) ≤ 0 then 135 else 131, [some (.ref 0), some (.int s), some (.int (nI v)), some (.int (nI (v / 2 ^ ixTk T k))), some (.int (nI (wrT T W v k))), some (.int (nI k))], [.int 7, .int s, .ref 2], h1)) rfl ⟨trivial, trivial, trivial, trivial, trivial, trivial, trivial, trivial⟩ ?_
    refine br (fun b2 => ?_) (fun b2 => ?_)
    ·
      refine go hX 1 (gs := [True]) (z' := (136, [some (.ref 0), some (.int s), some (.int (nI v)), some (.int (nI (v / 2 ^ ixTk T k))), some (.int (nI (wrT T W v k))), some (.int (nI k))], [.int 0, .int 7, .int s, .ref 2], h1)) rfl ⟨trivial, trivial⟩ ?_
      refine cl hX 95 4 [.ref 2, .int s, .int 7, .int 0] [] rfl rfl rfl rfl ?_
      refine c_shS s0 (by rw [e2]; exact s1) (by rw [e2]; exact sm) ?_
      show X (139, [some (.ref 0), some (.int s), some (.int (nI v)), some (.int (nI (v / 2 ^ ixTk T k))), some (.int (nI (wrT T W v k))), some (.int (nI k))], [], (hI h1 3 ((s * 8) + 7) 0))
      refine go hX 1 (gs := [True]) (z' := (141, [some (.ref 0), some (.int s), some (.int (nI v)), some (.int (nI (v / 2 ^ ixTk T k))), some (.int (nI (wrT T W v k))), some (.int (nI k))], [.int (nI (wrT T W v k))], (hI h1 3 ((s * 8) + 7) 0))) rfl ⟨trivial, trivial⟩ ?_
      refine rt_ hX (G := True) (r := some (.int (nI (wrT T W v k)))) rfl trivial ?_
      have e : k = n := Nat.le_antisymm hk ((tx_le (by omega) (by omega)).mp b1)
      subst e
      have q := K h1 B
      rw [if_pos b2] at q
      exact q
    ·
      refine go hX 2 (gs := [True, True]) (z' := (136, [some (.ref 0), some (.int s), some (.int (nI v)), some (.int (nI (v / 2 ^ ixTk T k))), some (.int (nI (wrT T W v k))), some (.int (nI k))], [.int 1, .int 7, .int s, .ref 2], h1)) rfl ⟨trivial, trivial, trivial⟩ ?_
      refine cl hX 95 4 [.ref 2, .int s, .int 7, .int 1] [] rfl rfl rfl rfl ?_
      refine c_shS s0 (by rw [e2]; exact s1) (by rw [e2]; exact sm) ?_
      show X (139, [some (.ref 0), some (.int s), some (.int (nI v)), some (.int (nI (v / 2 ^ ixTk T k))), some (.int (nI (wrT T W v k))), some (.int (nI k))], [], (hI h1 3 ((s * 8) + 7) 1))
      refine go hX 1 (gs := [True]) (z' := (141, [some (.ref 0), some (.int s), some (.int (nI v)), some (.int (nI (v / 2 ^ ixTk T k))), some (.int (nI (wrT T W v k))), some (.int (nI k))], [.int (nI (wrT T W v k))], (hI h1 3 ((s * 8) + 7) 1))) rfl ⟨trivial, trivial⟩ ?_
      refine rt_ hX (G := True) (r := some (.int (nI (wrT T W v k)))) rfl trivial ?_
      have e : k = n := Nat.le_antisymm hk ((tx_le (by omega) (by omega)).mp b1)
      subst e
      have q := K h1 B
      rw [if_neg b2] at q
      exact q
  ·
    have kx : k < n := Nat.lt_of_not_le (fun z => b1 ((tx_le (by omega) (by omega)).mpr z))
    have k30 : k < 30 := by omega
    have e0 : h1.1 7 ((nI k * 8) + 0) = h.1 7 ((nI k * 8) + 0) := by rw [show (nI k * 8) + 0 = nI (0 + 8 * k + 0) from ix8 (f := 0) k30 (by decide)]; exact B.c01 (Or.inl rfl) (by decide) k30 (Or.inl rfl)
    have e1 : h1.1 7 ((nI k * 8) + 1) = h.1 7 ((nI k * 8) + 1) := by rw [show (nI k * 8) + 1 = nI (0 + 8 * k + 1) from ix8 (f := 1) k30 (by decide)]; exact B.c01 (Or.inl rfl) (by decide) k30 (Or.inr rfl)
    have i4 : (nI k * 8) + 4 = nI (0 + 8 * k + 4) := ix8 (f := 4) k30 (by decide)
    have i7 : (nI k * 8) + 7 = nI (0 + 8 * k + 7) := ix8 (f := 7) k30 (by decide)
    have ew : h1.1 7 ((nI k * 8) + 4) = W k := by rw [i4]; exact (B.c4 k30).1
    have em : h1.1 7 ((nI k * 8) + 7) = M k := by rw [i7]; exact (B.c4 k30).2
    have kb := hK k kx
    rw [← e0] at kb
    refine go hX 4 (gs := [True, True, True, True]) (z' := (66, [some (.ref 0), some (.int s), some (.int (nI v)), some (.int (nI (v / 2 ^ ixTk T k))), some (.int (nI (wrT T W v k))), some (.int (nI k))], [.int s, .int (nI k), .ref 1], h1)) rfl ⟨trivial, trivial, trivial, trivial, trivial⟩ ?_
    refine cl hX 75 3 [.ref 1, .int (nI k), .int s] [] rfl rfl rfl rfl ?_
    refine c_tool (tx_0 k (by omega)) (by rw [e6]; exact (tx_lt (by omega) (by omega)).mpr kx) (by rw [e6]; exact (tx_le (b := 30) (by omega) (by decide)).mpr n30) kb (fun bt => ?_) (fun bt => ?_)
    ·
      show X (69, [some (.ref 0), some (.int s), some (.int (nI v)), some (.int (nI (v / 2 ^ ixTk T k))), some (.int (nI (wrT T W v k))), some (.int (nI k))], [.int 1], h1)
      have t : T k = true := (hT k kx).mp (by rw [← e1, ← e0]; exact bt)
      refine go hX 10 (gs := [True, True, True, True, True, True, True, True, True, True]) (z' := (if ((nI (v / 2 ^ ixTk T k)) &&& 1) = 1 then 87 else 91, [some (.ref 0), some (.int s), some (.int (nI v)), some (.int (nI (v / 2 ^ ixTk T k))), some (.int (nI (wrT T W v k))), some (.int (nI k))], [.int (nI k), .ref 1, .int (nI (wrT T W v k))], h1)) rfl ⟨trivial, trivial, trivial, trivial, trivial, trivial, trivial, trivial, trivial, trivial, trivial⟩ ?_
      refine br (fun b3 => ?_) (fun b3 => ?_)
      ·
        refine go hX 2 (gs := [True, True]) (z' := (92, [some (.ref 0), some (.int s), some (.int (nI v)), some (.int (nI (v / 2 ^ ixTk T k))), some (.int (nI (wrT T W v k))), some (.int (nI k))], [.int 1, .int (nI k), .ref 1, .int (nI (wrT T W v k))], h1)) rfl ⟨trivial, trivial, trivial⟩ ?_
        refine cl hX 78 3 [.ref 1, .int (nI k), .int 1] [.int (nI (wrT T W v k))] rfl rfl rfl rfl ?_
        refine c_agr1 (tx_0 k (by omega)) (by rw [e6]; exact (tx_lt (by omega) (by omega)).mpr kx) (by rw [e6]; exact (tx_le (b := 30) (by omega) (by decide)).mpr n30) ew em (fun q1 => ?_) (fun q1 => ?_)
        ·
          show X (95, [some (.ref 0), some (.int s), some (.int (nI v)), some (.int (nI (v / 2 ^ ixTk T k))), some (.int (nI (wrT T W v k))), some (.int (nI k))], [.int 0, .int (nI (wrT T W v k))], (hI h1 7 ((nI k * 8) + 7) 0))
          refine go hX 10 (gs := [True, True, True, True, True, True, True, True, True, True]) (z' := (44, [some (.ref 0), some (.int s), some (.int (nI v)), some (.int ((nI (v / 2 ^ ixTk T k)) >>> (1 &&& 31))), some (.int ((nI (wrT T W v k)) + 1)), some (.int ((nI k) + 1))], [], (hI h1 7 ((nI k * 8) + 7) 0))) rfl ⟨trivial, trivial, trivial, trivial, trivial, trivial, trivial, trivial, trivial, trivial, trivial⟩ ?_
          have sb : v.testBit (ixTk T k) = true := (sb_of hv).mp b3
          have wb : wrB T W v k = true := by unfold wrB mssB; simp [q1, sb, t]
          have bx : W k = bWn T W M v k := by unfold bWn mssB; simp [q1, sb, t]
          have by_ : 0 = bMn T W M v k := by unfold bMn mssB; simp [q1, sb, t]
          have B1 := Bl.w1 (Or.inl rfl) (by decide) B (by omega) bx by_
          rw [← i7] at B1
          rw [half_n hv t]
          rw [wr_t t wb, tx_1]
          exact ih (k + 1) (Nat.lt_succ_self k) (by omega) B1
        ·
          show X (95, [some (.ref 0), some (.int s), some (.int (nI v)), some (.int (nI (v / 2 ^ ixTk T k))), some (.int (nI (wrT T W v k))), some (.int (nI k))], [.int 1, .int (nI (wrT T W v k))], (hI h1 7 ((nI k * 8) + 7) 0))
          refine go hX 11 (gs := [True, True, True, True, True, True, True, True, True, True, True]) (z' := (44, [some (.ref 0), some (.int s), some (.int (nI v)), some (.int ((nI (v / 2 ^ ixTk T k)) >>> (1 &&& 31))), some (.int ((nI (wrT T W v k)) + 0)), some (.int ((nI k) + 1))], [], (hI h1 7 ((nI k * 8) + 7) 0))) rfl ⟨trivial, trivial, trivial, trivial, trivial, trivial, trivial, trivial, trivial, trivial, trivial, trivial⟩ ?_
          have sb : v.testBit (ixTk T k) = true := (sb_of hv).mp b3
          have wb : wrB T W v k = false := by unfold wrB mssB; simp [q1, sb, t]
          have bx : W k = bWn T W M v k := by unfold bWn mssB; simp [q1, sb, t]
          have by_ : 0 = bMn T W M v k := by unfold bMn mssB; simp [q1, sb, t]
          have B1 := Bl.w1 (Or.inl rfl) (by decide) B (by omega) bx by_
          rw [← i7] at B1
          rw [half_n hv t]
          rw [Int32.add_zero, wr_f (T := T) (W := W) (v := v) (k := k) (by rw [wb, Bool.and_false]), tx_1]
          exact ih (k + 1) (Nat.lt_succ_self k) (by omega) B1
      ·
        refine go hX 1 (gs := [True]) (z' := (92, [some (.ref 0), some (.int s), some (.int (nI v)), some (.int (nI (v / 2 ^ ixTk T k))), some (.int (nI (wrT T W v k))), some (.int (nI k))], [.int 0, .int (nI k), .ref 1, .int (nI (wrT T W v k))], h1)) rfl ⟨trivial, trivial⟩ ?_
        refine cl hX 78 3 [.ref 1, .int (nI k), .int 0] [.int (nI (wrT T W v k))] rfl rfl rfl rfl ?_
        refine c_agr0 (tx_0 k (by omega)) (by rw [e6]; exact (tx_lt (by omega) (by omega)).mpr kx) (by rw [e6]; exact (tx_le (b := 30) (by omega) (by decide)).mpr n30) ew em (fun q0 q1 => ?_) (fun q0 q1 => ?_) (fun q0 => ?_)
        ·
          show X (95, [some (.ref 0), some (.int s), some (.int (nI v)), some (.int (nI (v / 2 ^ ixTk T k))), some (.int (nI (wrT T W v k))), some (.int (nI k))], [.int 0, .int (nI (wrT T W v k))], (hI (hI h1 7 ((nI k * 8) + 4) 2) 7 ((nI k * 8) + 7) 1))
          refine go hX 10 (gs := [True, True, True, True, True, True, True, True, True, True]) (z' := (44, [some (.ref 0), some (.int s), some (.int (nI v)), some (.int ((nI (v / 2 ^ ixTk T k)) >>> (1 &&& 31))), some (.int ((nI (wrT T W v k)) + 1)), some (.int ((nI k) + 1))], [], (hI (hI h1 7 ((nI k * 8) + 4) 2) 7 ((nI k * 8) + 7) 1))) rfl ⟨trivial, trivial, trivial, trivial, trivial, trivial, trivial, trivial, trivial, trivial, trivial⟩ ?_
          have sb : v.testBit (ixTk T k) = false := (Bool.not_eq_true _).mp (fun z => b3 ((sb_of hv).mpr z))
          have wb : wrB T W v k = true := by unfold wrB mssB; simp [q0, q1, sb, t]
          have bx : 2 = bWn T W M v k := by unfold bWn mssB; simp [q0, q1, sb, t]
          have by_ : 1 = bMn T W M v k := by unfold bMn mssB; simp [q0, q1, sb, t]
          have B1 := Bl.w2 (Or.inl rfl) (by decide) B (by omega) bx by_
          rw [← i7, ← i4] at B1
          rw [half_n hv t]
          rw [wr_t t wb, tx_1]
          exact ih (k + 1) (Nat.lt_succ_self k) (by omega) B1
        ·
          show X (95, [some (.ref 0), some (.int s), some (.int (nI v)), some (.int (nI (v / 2 ^ ixTk T k))), some (.int (nI (wrT T W v k))), some (.int (nI k))], [.int 0, .int (nI (wrT T W v k))], (hI h1 7 ((nI k * 8) + 7) 1))
          refine go hX 10 (gs := [True, True, True, True, True, True, True, True, True, True]) (z' := (44, [some (.ref 0), some (.int s), some (.int (nI v)), some (.int ((nI (v / 2 ^ ixTk T k)) >>> (1 &&& 31))), some (.int ((nI (wrT T W v k)) + 1)), some (.int ((nI k) + 1))], [], (hI h1 7 ((nI k * 8) + 7) 1))) rfl ⟨trivial, trivial, trivial, trivial, trivial, trivial, trivial, trivial, trivial, trivial, trivial⟩ ?_
          have sb : v.testBit (ixTk T k) = false := (Bool.not_eq_true _).mp (fun z => b3 ((sb_of hv).mpr z))
          have wb : wrB T W v k = true := by unfold wrB mssB; simp [q0, q1, sb, t]
          have bx : W k = bWn T W M v k := by unfold bWn mssB; simp [q0, q1, sb, t]
          have by_ : 1 = bMn T W M v k := by unfold bMn mssB; simp [q0, q1, sb, t]
          have B1 := Bl.w1 (Or.inl rfl) (by decide) B (by omega) bx by_
          rw [← i7] at B1
          rw [half_n hv t]
          rw [wr_t t wb, tx_1]
          exact ih (k + 1) (Nat.lt_succ_self k) (by omega) B1
        ·
          show X (95, [some (.ref 0), some (.int s), some (.int (nI v)), some (.int (nI (v / 2 ^ ixTk T k))), some (.int (nI (wrT T W v k))), some (.int (nI k))], [.int 1, .int (nI (wrT T W v k))], (hI h1 7 ((nI k * 8) + 7) 0))
          refine go hX 11 (gs := [True, True, True, True, True, True, True, True, True, True, True]) (z' := (44, [some (.ref 0), some (.int s), some (.int (nI v)), some (.int ((nI (v / 2 ^ ixTk T k)) >>> (1 &&& 31))), some (.int ((nI (wrT T W v k)) + 0)), some (.int ((nI k) + 1))], [], (hI h1 7 ((nI k * 8) + 7) 0))) rfl ⟨trivial, trivial, trivial, trivial, trivial, trivial, trivial, trivial, trivial, trivial, trivial, trivial⟩ ?_
          have sb : v.testBit (ixTk T k) = false := (Bool.not_eq_true _).mp (fun z => b3 ((sb_of hv).mpr z))
          have wb : wrB T W v k = false := by unfold wrB mssB; simp [q0, sb, t]
          have bx : W k = bWn T W M v k := by unfold bWn mssB; simp [q0, sb, t]
          have by_ : 0 = bMn T W M v k := by unfold bMn mssB; simp [q0, sb, t]
          have B1 := Bl.w1 (Or.inl rfl) (by decide) B (by omega) bx by_
          rw [← i7] at B1
          rw [half_n hv t]
          rw [Int32.add_zero, wr_f (T := T) (W := W) (v := v) (k := k) (by rw [wb, Bool.and_false]), tx_1]
          exact ih (k + 1) (Nat.lt_succ_self k) (by omega) B1
    ·
      show X (69, [some (.ref 0), some (.int s), some (.int (nI v)), some (.int (nI (v / 2 ^ ixTk T k))), some (.int (nI (wrT T W v k))), some (.int (nI k))], [.int 0], h1)
      have t : ¬ T k = true := fun z => bt (by rw [e1, e0]; exact (hT k kx).mpr z)
      refine go hX 3 (gs := [True, True, True]) (z' := (44, [some (.ref 0), some (.int s), some (.int (nI v)), some (.int (nI (v / 2 ^ ixTk T k))), some (.int (nI (wrT T W v k))), some (.int ((nI k) + 1))], [], h1)) rfl ⟨trivial, trivial, trivial, trivial⟩ ?_
      rw [tx_1]
      have ih1 := ih (k + 1) (Nat.lt_succ_self k) (by omega) (B.no t)
      rw [ix_f t, ← wr_f (W := W) (v := v) (T := T) (k := k) (by rw [(Bool.not_eq_true _).mp t]; rfl)] at ih1
      exact ih1
theorem c_bellA {d : Nat} {Q : Option Value → Hp → Prop} {h : Hp} {n : Nat} (n30 : n ≤ 30) (en : h.1 6 2 = nI n) {s z : Int32} (sm : h.1 2 2 ≤ 3) (sn : (0 ≤ s ∧ s < h.1 2 2) → ¬ s = -1000000005) {T : Nat → Bool} {W M : Nat → Int32} (hT : ∀ k, k < n → ((h.1 7 ((nI k * 8) + 1) = s ∧ (1 ≤ (h.1 7 ((nI k * 8) + 0)).toInt ∧ (h.1 7 ((nI k * 8) + 0)).toInt ≤ 3)) ↔ T k = true)) (hK : ∀ k, k < n → 0 ≤ (h.1 7 ((nI k * 8) + 0)).toInt ∧ (h.1 7 ((nI k * 8) + 0)).toInt ≤ 5) (hW : ∀ i, i < 30 → h.1 7 (nI (0 + 8 * i + 4)) = W i) (hM : ∀ i, i < 30 → h.1 7 (nI (0 + 8 * i + 7)) = M i) (gG : (0 ≤ s ∧ s < h.1 2 2) → ¬ z < 0 → (z >>> (nI (ixTk T n) &&& 31)) = 0 → ∃ v : Nat, v < 2147483648 ∧ z = nI v) (kB : ¬ ((0 ≤ s ∧ s < h.1 2 2) ∧ ¬ z < 0 ∧ (z >>> (nI (ixTk T n) &&& 31)) = 0) → Q (some (.int (-1000000001))) h) (K : (0 ≤ s ∧ s < h.1 2 2) → ∀ v, v < 2147483648 → z = nI v → (z >>> (nI (ixTk T n) &&& 31)) = 0 → ∀ h1, Bl 7 0 8 h h1 T W M v n → Q (some (.int (nI (wrT T W v n)))) (hI h1 3 ((s * 8) + 7) (if nI (wrT T W v n) ≤ 0 then 0 else 1))) : Call (d + 4) 124 [.ref 0, .int s, .int z] h Q := by
  refine call_of (rfl : psM[124]? = some _) rfl rfl (rcvV rfl) (fun X hX => ?_)
  show X (0, [some (.ref 0), some (.int s), some (.int z), none, none, none], [], h)
  refine go hX 4 (gs := [True, True, True, True]) (z' := (8, [some (.ref 0), some (.int s), some (.int z), none, none, none], [.int s, .ref 2], h)) rfl ⟨trivial, trivial, trivial, trivial, trivial⟩ ?_
  refine cl hX 93 2 [.ref 2, .int s] [] rfl rfl rfl rfl ?_
  refine c_holdsP (fun hP => ?_) (fun hP => ?_)
  ·
    show X (11, [some (.ref 0), some (.int s), some (.int z), none, none, none], [.int 1], h)
    refine go hX 3 (gs := [True, True, True]) (z' := (if z < 0 then 33 else 18, [some (.ref 0), some (.int s), some (.int z), none, none, none], [], h)) rfl ⟨trivial, trivial, trivial, trivial⟩ ?_
    refine br (fun b1 => ?_) (fun b1 => ?_)
    ·
      refine go hX 1 (gs := [True]) (z' := (35, [some (.ref 0), some (.int s), some (.int z), none, none, none], [.int (-1000000001)], h)) rfl ⟨trivial, trivial⟩ ?_
      refine rt_ hX (G := True) (r := some (.int (-1000000001))) rfl trivial ?_
      exact kB (fun y => y.2.1 b1)
    ·
      refine go hX 5 (gs := [True, True, True, True, True]) (z' := (26, [some (.ref 0), some (.int s), some (.int z), none, none, none], [.int (-1000000005), .int s, .ref 1, .int z], h)) rfl ⟨trivial, trivial, trivial, trivial, trivial, trivial⟩ ?_
      refine cl hX 76 3 [.ref 1, .int s, .int (-1000000005)] [.int z] rfl rfl rfl rfl ?_
      refine c_cntT n30 en (sn hP) hT hK ?_
      show X (29, [some (.ref 0), some (.int s), some (.int z), none, none, none], [.int (nI (ixTk T n)), .int z], h)
      refine go hX 2 (gs := [True, True]) (z' := (if (z >>> ((nI (ixTk T n)) &&& 31)) = 0 then 36 else 33, [some (.ref 0), some (.int s), some (.int z), none, none, none], [], h)) rfl ⟨trivial, trivial, trivial⟩ ?_
      refine br (fun b2 => ?_) (fun b2 => ?_)
      ·
        refine go hX 6 (gs := [True, True, True, True, True, True]) (z' := (44, [some (.ref 0), some (.int s), some (.int z), some (.int z), some (.int 0), some (.int 0)], [], h)) rfl ⟨trivial, trivial, trivial, trivial, trivial, trivial, trivial⟩ ?_
        have zb := gG hP b1 b2
        obtain ⟨v, hv, rfl⟩ : ∃ v : Nat, v < 2147483648 ∧ z = nI v := zb
        have q0 := K hP v hv rfl b2
        have l0 := lp_bellA hX n30 en hv hP.1 hP.2 sm hT hK q0 (Nat.zero_le n) (Bl.st hW hM)
        rw [show v / 2 ^ ixTk T 0 = v from Nat.div_one v] at l0
        exact l0
      ·
        refine go hX 1 (gs := [True]) (z' := (35, [some (.ref 0), some (.int s), some (.int z), none, none, none], [.int (-1000000001)], h)) rfl ⟨trivial, trivial⟩ ?_
        refine rt_ hX (G := True) (r := some (.int (-1000000001))) rfl trivial ?_
        exact kB (fun y => b2 y.2.2)
  ·
    show X (11, [some (.ref 0), some (.int s), some (.int z), none, none, none], [.int 0], h)
    refine go hX 2 (gs := [True, True]) (z' := (35, [some (.ref 0), some (.int s), some (.int z), none, none, none], [.int (-1000000001)], h)) rfl ⟨trivial, trivial, trivial⟩ ?_
    refine rt_ hX (G := True) (r := some (.int (-1000000001))) rfl trivial ?_
    exact kB (fun z => hP z.1)
theorem ix90 {i : Nat} (hi : i < 30) : (300 + (9 * nI i)) = nI (300 + 9 * i + 0) := by
  have := ix9 (f := 0) hi (by decide)
  rw [← this]
  exact (Int32.add_zero _).symm
theorem c_itB {d : Nat} {Q : Option Value → Hp → Prop} {h : Hp} {k : Nat} (k30 : k < 30) (k1 : (1 ≤ (h.1 66 (300 + (9 * (nI k)))) ∧ (h.1 66 (300 + (9 * (nI k)))) ≤ 3) → Q (some (.int 1)) h) (k0 : ¬ (1 ≤ (h.1 66 (300 + (9 * (nI k)))) ∧ (h.1 66 (300 + (9 * (nI k)))) ≤ 3) → Q (some (.int 0)) h) : Call (d + 2) 173 [.ref 65, .int (nI k)] h Q := by
  refine call_of (rfl : psM[173]? = some _) rfl rfl (rcvV rfl) (fun X hX => ?_)
  show X (0, [some (.ref 65), some (.int (nI k))], [], h)
  refine go hX 4 (gs := [True, True, True, True]) (z' := (6, [some (.ref 65), some (.int (nI k))], [.int (nI k), .ref 65, .ref 66], h)) rfl ⟨trivial, trivial, trivial, trivial, trivial⟩ ?_
  refine cl hX 165 2 [.ref 65, .int (nI k)] [.ref 66] rfl rfl rfl rfl ?_
  refine c_thingAtP ?_
  show X (9, [some (.ref 65), some (.int (nI k))], [.int (300 + (9 * (nI k))), .ref 66], h)
  refine go hX 4 (gs := [True, True, True, ibd (300 + (9 * (nI k))) 3400]) (z' := (15, [some (.ref 65), some (.int (nI k))], [.long 3, .long 1, .long (Int32.toInt64 (h.1 66 (300 + (9 * (nI k)))))], h)) rfl ⟨trivial, trivial, trivial, ?_, trivial⟩ ?_
  · rw [ix90 (by omega)]; exact ibd_of (B := 3400) rfl (tx_0 _ (by omega)) ((tx_lt (b := 3400) (by omega) (by decide)).mpr (by omega))
  refine cl hX 159 3 [.long (Int32.toInt64 (h.1 66 (300 + (9 * (nI k))))), .long 1, .long 3] [] rfl rfl rfl rfl ?_
  refine c_isInP (fun bw => ?_) (fun bw => ?_)
  ·
    show X (18, [some (.ref 65), some (.int (nI k))], [.int 1], h)
    refine rt_ hX (G := isB 1) (r := some (.int 1)) rfl isB1 ?_
    exact k1 ((i64_bd (lo := 1) (hi := 3) rfl rfl).mp bw)
  ·
    show X (18, [some (.ref 65), some (.int (nI k))], [.int 0], h)
    refine rt_ hX (G := isB 0) (r := some (.int 0)) rfl isB0 ?_
    exact k0 (fun z => bw ((i64_bd (lo := 1) (hi := 3) rfl rfl).mpr z))
theorem lp_toolsB {d : Nat} {Q : Option Value → Hp → Prop} {X : Cf → Prop} (hX : Clo (Call (d + 2)) cd179 (some .int) Q X) {h : Hp} {n : Nat} (n30 : n ≤ 30) (en : h.1 66 3 = nI n) {s : Int32} {T : Nat → Bool} (hT : ∀ k, k < n → (((1 ≤ (h.1 66 (300 + (9 * (nI k)))) ∧ (h.1 66 (300 + (9 * (nI k)))) ≤ 3) ∧ h.1 66 ((300 + (9 * (nI k))) + 1) = s) ↔ T k = true)) (K : Q (some (.int (nI (ixTk T n)))) h) {k : Nat} (hk : k ≤ n) : X (5, [some (.ref 65), some (.int s), some (.int (-1)), some (.int (nI (ixTk T k))), some (.int (nI k))], [], h) := by
  refine dn_ind (P := fun k => X (5, [some (.ref 65), some (.int s), some (.int (-1)), some (.int (nI (ixTk T k))), some (.int (nI k))], [], h)) (fun k hk ih => ?_) hk
  have ib := ixTk_le (T := T) k
  refine go hX 6 (gs := [True, ibd 3 3400, True, True, True, True]) (z' := (if (h.1 66 3) ≤ (nI k) then 77 else 16, [some (.ref 65), some (.int s), some (.int (-1)), some (.int (nI (ixTk T k))), some (.int (nI k))], [], h)) rfl ⟨trivial, ?_, trivial, trivial, trivial, trivial, trivial⟩ ?_
  · exact ⟨by decide, by decide⟩
  refine br (fun b1 => ?_) (fun b1 => ?_)
  ·
    refine go hX 1 (gs := [True]) (z' := (78, [some (.ref 65), some (.int s), some (.int (-1)), some (.int (nI (ixTk T k))), some (.int (nI k))], [.int (nI (ixTk T k))], h)) rfl ⟨trivial, trivial⟩ ?_
    refine rt_ hX (G := True) (r := some (.int (nI (ixTk T k)))) rfl trivial ?_
    have e : k = n := Nat.le_antisymm hk ((tx_le (by omega) (by omega)).mp (by rw [← en]; exact b1))
    subst e
    exact K
  ·
    have kx : k < n := Nat.lt_of_not_le (fun z => b1 (by rw [en]; exact (tx_le (by omega) (by omega)).mpr z))
    refine go hX 3 (gs := [True, True, True]) (z' := (20, [some (.ref 65), some (.int s), some (.int (-1)), some (.int (nI (ixTk T k))), some (.int (nI k))], [.int (nI k), .ref 65, .int (nI (ixTk T k))], h)) rfl ⟨trivial, trivial, trivial, trivial⟩ ?_
    refine cl hX 173 2 [.ref 65, .int (nI k)] [.int (nI (ixTk T k))] rfl rfl rfl rfl ?_
    refine c_itB (by omega) (fun bk => ?_) (fun bk => ?_)
    ·
      show X (23, [some (.ref 65), some (.int s), some (.int (-1)), some (.int (nI (ixTk T k))), some (.int (nI k))], [.int 1, .int (nI (ixTk T k))], h)
      refine go hX 5 (gs := [True, True, True, True, True]) (z' := (33, [some (.ref 65), some (.int s), some (.int (-1)), some (.int (nI (ixTk T k))), some (.int (nI k))], [.int (nI k), .ref 65, .ref 66, .int (nI (ixTk T k))], h)) rfl ⟨trivial, trivial, trivial, trivial, trivial, trivial⟩ ?_
      refine cl hX 165 2 [.ref 65, .int (nI k)] [.ref 66, .int (nI (ixTk T k))] rfl rfl rfl rfl ?_
      refine c_thingAtP ?_
      show X (36, [some (.ref 65), some (.int s), some (.int (-1)), some (.int (nI (ixTk T k))), some (.int (nI k))], [.int (300 + (9 * (nI k))), .ref 66, .int (nI (ixTk T k))], h)
      refine go hX 5 (gs := [True, True, ibd ((300 + (9 * (nI k))) + 1) 3400, True, True]) (z' := (if (h.1 66 ((300 + (9 * (nI k))) + 1)) = s then 43 else 68, [some (.ref 65), some (.int s), some (.int (-1)), some (.int (nI (ixTk T k))), some (.int (nI k))], [.int (nI (ixTk T k))], h)) rfl ⟨trivial, trivial, ?_, trivial, trivial, trivial⟩ ?_
      · rw [show (300 + (9 * (nI k))) + 1 = nI (300 + 9 * k + 1) from ix9 (f := 1) (by omega) (by decide)]; exact ibd_of (B := 3400) rfl (tx_0 _ (by omega)) ((tx_lt (b := 3400) (by omega) (by decide)).mpr (by omega))
      refine br (fun b2 => ?_) (fun b2 => ?_)
      ·
        refine go hX 8 (gs := [True, True, True, True, True, True, True, True]) (z' := (5, [some (.ref 65), some (.int s), some (.int (-1)), some (.int ((nI (ixTk T k)) + 1)), some (.int ((nI k) + 1))], [], h)) rfl ⟨trivial, trivial, trivial, trivial, trivial, trivial, trivial, trivial, trivial⟩ ?_
        rw [tx_1]
        rw [tx_1, show ixTk T k + 1 = ixTk T (k + 1) from (ix_t ((hT k kx).mp ⟨bk, b2⟩)).symm]
        exact ih (k + 1) (Nat.lt_succ_self k) (by omega)
      ·
        refine go hX 5 (gs := [True, True, True, True, True]) (z' := (5, [some (.ref 65), some (.int s), some (.int (-1)), some (.int ((nI (ixTk T k)) + 0)), some (.int ((nI k) + 1))], [], h)) rfl ⟨trivial, trivial, trivial, trivial, trivial, trivial⟩ ?_
        rw [tx_1]
        rw [show nI (ixTk T k) + 0 = nI (ixTk T (k + 1)) from (by rw [Int32.add_zero, ix_f (fun z => b2 ((hT k kx).mpr z).2)])]
        exact ih (k + 1) (Nat.lt_succ_self k) (by omega)
    ·
      show X (23, [some (.ref 65), some (.int s), some (.int (-1)), some (.int (nI (ixTk T k))), some (.int (nI k))], [.int 0, .int (nI (ixTk T k))], h)
      refine go hX 6 (gs := [True, True, True, True, True, True]) (z' := (5, [some (.ref 65), some (.int s), some (.int (-1)), some (.int ((nI (ixTk T k)) + 0)), some (.int ((nI k) + 1))], [], h)) rfl ⟨trivial, trivial, trivial, trivial, trivial, trivial, trivial⟩ ?_
      rw [tx_1]
      rw [show nI (ixTk T k) + 0 = nI (ixTk T (k + 1)) from (by rw [Int32.add_zero, ix_f (fun z => bk ((hT k kx).mpr z).1)])]
      exact ih (k + 1) (Nat.lt_succ_self k) (by omega)
theorem c_toolsB {d : Nat} {Q : Option Value → Hp → Prop} {h : Hp} {n : Nat} (n30 : n ≤ 30) (en : h.1 66 3 = nI n) {s : Int32} {T : Nat → Bool} (hT : ∀ k, k < n → (((1 ≤ (h.1 66 (300 + (9 * (nI k)))) ∧ (h.1 66 (300 + (9 * (nI k)))) ≤ 3) ∧ h.1 66 ((300 + (9 * (nI k))) + 1) = s) ↔ T k = true)) (K : Q (some (.int (nI (ixTk T n)))) h) : Call (d + 3) 179 [.ref 65, .int s, .int (-1)] h Q := by
  refine call_of (rfl : psM[179]? = some _) rfl rfl (rcvV rfl) (fun X hX => ?_)
  show X (0, [some (.ref 65), some (.int s), some (.int (-1)), none, none], [], h)
  refine go hX 4 (gs := [True, True, True, True]) (z' := (5, [some (.ref 65), some (.int s), some (.int (-1)), some (.int 0), some (.int 0)], [], h)) rfl ⟨trivial, trivial, trivial, trivial, trivial⟩ ?_
  exact lp_toolsB hX n30 en hT K (Nat.zero_le n)
theorem Bl.lo {b st : Nat} {h h' : Hp} {T : Nat → Bool} {W M : Nat → Int32} {v k j : Nat} (hb : b = 300) (B : Bl 66 b st h h' T W M v k) (hj : j < 300) (hst : st = 9) : h'.1 66 (nI j) = h.1 66 (nI j) := B.2.2.2 _ (fun i hi => ⟨fun z => by
  have := nI_ij (by omega) (by subst hst; omega) z
  omega, fun z => by
  have := nI_ij (by omega) (by subst hst; omega) z
  omega⟩)
theorem lp_bellB {d : Nat} {Q : Option Value → Hp → Prop} {X : Cf → Prop} (hX : Clo (Call (d + 3)) cd202 (some .int) Q X) {h : Hp} {n v : Nat} (n30 : n ≤ 30) (en : h.1 66 3 = nI n) (hv : v < 2147483648) {s : Int32} (s0 : 0 ≤ s) (s1 : s < 3) {T : Nat → Bool} {W M : Nat → Int32} (hT : ∀ k, k < n → (((1 ≤ (h.1 66 (300 + (9 * (nI k)))) ∧ (h.1 66 (300 + (9 * (nI k)))) ≤ 3) ∧ h.1 66 ((300 + (9 * (nI k))) + 1) = s) ↔ T k = true)) (K : ∀ h1, Bl 66 300 9 h h1 T W M v n → Q (some (.int (nI (wrT T W v n)))) (hI h1 66 ((10 + (10 * s)) + 7) (if nI (wrT T W v n) ≤ 0 then 0 else 1))) {k : Nat} (hk : k ≤ n) : ∀ {h1 : Hp} {l6 l7 l8 : Option Value}, Bl 66 300 9 h h1 T W M v k → (l6 = none ∧ l7 = none ∧ l8 = none ∨ (∃ x6, l6 = some (.int x6) ∧ l7 = none ∧ l8 = none) ∨ ∃ x6 x7 x8, l6 = some (.int x6) ∧ l7 = some (.int x7) ∧ l8 = some (.int x8)) → X (38, [some (.ref 65), some (.int s), some (.int (nI v)), some (.int (nI (ixTk T k))), some (.int (nI (wrT T W v k))), some (.int (nI k)), l6, l7, l8], [], h1) := by
  refine dn_ind (P := fun k => ∀ {h1 : Hp} {l6 l7 l8 : Option Value}, Bl 66 300 9 h h1 T W M v k → (l6 = none ∧ l7 = none ∧ l8 = none ∨ (∃ x6, l6 = some (.int x6) ∧ l7 = none ∧ l8 = none) ∨ ∃ x6 x7 x8, l6 = some (.int x6) ∧ l7 = some (.int x7) ∧ l8 = some (.int x8)) → X (38, [some (.ref 65), some (.int s), some (.int (nI v)), some (.int (nI (ixTk T k))), some (.int (nI (wrT T W v k))), some (.int (nI k)), l6, l7, l8], [], h1)) (fun k hk ih => ?_) hk
  intro h1 l6 l7 l8 B hl
  have ib := ixTk_le (T := T) k
  have e3 : h1.1 66 3 = nI n := (B.lo rfl (j := 3) (by decide) rfl).trans en
  rcases hl with ⟨rfl, rfl, rfl⟩ | ⟨x6, rfl, rfl, rfl⟩ | ⟨x6, x7, x8, rfl, rfl, rfl⟩
  ·
    refine go hX 6 (gs := [True, ibd 3 3400, True, True, True, True]) (z' := (if (h1.1 66 3) ≤ (nI k) then 225 else 49, [some (.ref 65), some (.int s), some (.int (nI v)), some (.int (nI (ixTk T k))), some (.int (nI (wrT T W v k))), some (.int (nI k)), none, none, none], [], h1)) rfl ⟨trivial, ?_, trivial, trivial, trivial, trivial, trivial⟩ ?_
    · exact ⟨by decide, by decide⟩
    refine br (fun b1 => ?_) (fun b1 => ?_)
    ·
      refine go hX 4 (gs := [True, True, True, True]) (z' := (231, [some (.ref 65), some (.int s), some (.int (nI v)), some (.int (nI (ixTk T k))), some (.int (nI (wrT T W v k))), some (.int (nI k)), none, none, none], [.int s, .ref 65, .ref 66], h1)) rfl ⟨trivial, trivial, trivial, trivial, trivial⟩ ?_
      refine cl hX 163 2 [.ref 65, .int s] [.ref 66] rfl rfl rfl rfl ?_
      refine c_shopAtP ?_
      show X (234, [some (.ref 65), some (.int s), some (.int (nI v)), some (.int (nI (ixTk T k))), some (.int (nI (wrT T W v k))), some (.int (nI k)), none, none, none], [.int (10 + (10 * s)), .ref 66], h1)
      refine go hX 4 (gs := [True, True, True, True]) (z' := (if (nI (wrT T W v k)) ≤ 0 then 246 else 242, [some (.ref 65), some (.int s), some (.int (nI v)), some (.int (nI (ixTk T k))), some (.int (nI (wrT T W v k))), some (.int (nI k)), none, none, none], [.int ((10 + (10 * s)) + 7), .ref 66], h1)) rfl ⟨trivial, trivial, trivial, trivial, trivial⟩ ?_
      refine br (fun b2 => ?_) (fun b2 => ?_)
      ·
        refine go hX 3 (gs := [True, ibd ((10 + (10 * s)) + 7) 3400, True]) (z' := (250, [some (.ref 65), some (.int s), some (.int (nI v)), some (.int (nI (ixTk T k))), some (.int (nI (wrT T W v k))), some (.int (nI k)), none, none, none], [.int (nI (wrT T W v k))], (hI h1 66 ((10 + (10 * s)) + 7) 0))) rfl ⟨trivial, ?_, trivial, trivial⟩ ?_
        · exact ibd_of (B := 3400) rfl (by grind) (by grind)
        refine rt_ hX (G := True) (r := some (.int (nI (wrT T W v k)))) rfl trivial ?_
        have e : k = n := Nat.le_antisymm hk ((tx_le (by omega) (by omega)).mp (by rw [← e3]; exact b1))
        subst e
        have q := K h1 B
        rw [if_pos b2] at q
        exact q
      ·
        refine go hX 4 (gs := [True, ibd ((10 + (10 * s)) + 7) 3400, True, True]) (z' := (250, [some (.ref 65), some (.int s), some (.int (nI v)), some (.int (nI (ixTk T k))), some (.int (nI (wrT T W v k))), some (.int (nI k)), none, none, none], [.int (nI (wrT T W v k))], (hI h1 66 ((10 + (10 * s)) + 7) 1))) rfl ⟨trivial, ?_, trivial, trivial, trivial⟩ ?_
        · exact ibd_of (B := 3400) rfl (by grind) (by grind)
        refine rt_ hX (G := True) (r := some (.int (nI (wrT T W v k)))) rfl trivial ?_
        have e : k = n := Nat.le_antisymm hk ((tx_le (by omega) (by omega)).mp (by rw [← e3]; exact b1))
        subst e
        have q := K h1 B
        rw [if_neg b2] at q
        exact q
    ·
      have kx : k < n := Nat.lt_of_not_le (fun z => b1 (by rw [e3]; exact (tx_le (by omega) (by omega)).mpr z))
      have k30 : k < 30 := by omega
      have e0 : h1.1 66 (300 + (9 * (nI k))) = h.1 66 (300 + (9 * (nI k))) := by rw [ix90 k30]; exact B.c01 (Or.inr rfl) (by decide) k30 (Or.inl rfl)
      have e1 : h1.1 66 ((300 + (9 * (nI k))) + 1) = h.1 66 ((300 + (9 * (nI k))) + 1) := by rw [show (300 + (9 * (nI k))) + 1 = nI (300 + 9 * k + 1) from ix9 (f := 1) k30 (by decide)]; exact B.c01 (Or.inr rfl) (by decide) k30 (Or.inr rfl)
      have i4 : (300 + (9 * (nI k))) + 4 = nI (300 + 9 * k + 4) := ix9 (f := 4) k30 (by decide)
      have i7 : (300 + (9 * (nI k))) + 7 = nI (300 + 9 * k + 7) := ix9 (f := 7) k30 (by decide)
      have ew : h1.1 66 ((300 + (9 * (nI k))) + 4) = W k := by rw [i4]; exact (B.c4 k30).1
      have em : h1.1 66 ((300 + (9 * (nI k))) + 7) = M k := by rw [i7]; exact (B.c4 k30).2
      refine go hX 2 (gs := [True, True]) (z' := (52, [some (.ref 65), some (.int s), some (.int (nI v)), some (.int (nI (ixTk T k))), some (.int (nI (wrT T W v k))), some (.int (nI k)), none, none, none], [.int (nI k), .ref 65], h1)) rfl ⟨trivial, trivial, trivial⟩ ?_
      refine cl hX 165 2 [.ref 65, .int (nI k)] [] rfl rfl rfl rfl ?_
      refine c_thingAtP ?_
      show X (55, [some (.ref 65), some (.int s), some (.int (nI v)), some (.int (nI (ixTk T k))), some (.int (nI (wrT T W v k))), some (.int (nI k)), none, none, none], [.int (300 + (9 * (nI k)))], h1)
      refine go hX 3 (gs := [True, True, True]) (z' := (60, [some (.ref 65), some (.int s), some (.int (nI v)), some (.int (nI (ixTk T k))), some (.int (nI (wrT T W v k))), some (.int (nI k)), some (.int (300 + (9 * (nI k)))), none, none], [.int (nI k), .ref 65], h1)) rfl ⟨trivial, trivial, trivial, trivial⟩ ?_
      refine cl hX 173 2 [.ref 65, .int (nI k)] [] rfl rfl rfl rfl ?_
      refine c_itB (by omega) (fun bk => ?_) (fun bk => ?_)
      ·
        show X (63, [some (.ref 65), some (.int s), some (.int (nI v)), some (.int (nI (ixTk T k))), some (.int (nI (wrT T W v k))), some (.int (nI k)), some (.int (300 + (9 * (nI k)))), none, none], [.int 1], h1)
        refine go hX 9 (gs := [True, True, ibd ((300 + (9 * (nI k))) + 1) 3400, True, True, True, True, True, True]) (z' := (if (h1.1 66 ((300 + (9 * (nI k))) + 1)) = s then 82 else 79, [some (.ref 65), some (.int s), some (.int (nI v)), some (.int (nI (ixTk T k))), some (.int (nI (wrT T W v k))), some (.int (nI k)), some (.int (300 + (9 * (nI k)))), none, none], [], h1)) rfl ⟨trivial, trivial, ?_, trivial, trivial, trivial, trivial, trivial, trivial, trivial⟩ ?_
        · rw [show (300 + (9 * (nI k))) + 1 = nI (300 + 9 * k + 1) from ix9 (f := 1) (by omega) (by decide)]; exact ibd_of (B := 3400) rfl (tx_0 _ (by omega)) ((tx_lt (b := 3400) (by omega) (by decide)).mpr (by omega))
        refine br (fun b3 => ?_) (fun b3 => ?_)
        ·
          refine go hX 7 (gs := [True, True, True, True, True, True, True]) (z' := (if (((nI v) >>> ((nI (ixTk T k)) &&& 31)) &&& 1) = 1 then 91 else 95, [some (.ref 65), some (.int s), some (.int (nI v)), some (.int (nI (ixTk T k))), some (.int (nI (wrT T W v k))), some (.int (nI k)), some (.int (300 + (9 * (nI k)))), none, none], [], h1)) rfl ⟨trivial, trivial, trivial, trivial, trivial, trivial, trivial, trivial⟩ ?_
          refine br (fun b4 => ?_) (fun b4 => ?_)
          ·
            refine go hX 10 (gs := [True, ibd ((300 + (9 * (nI k))) + 4) 3400, True, True, True, True, True, True, True, True]) (z' := (if (h1.1 66 ((300 + (9 * (nI k))) + 4)) = 0 then 110 else 119, [some (.ref 65), some (.int s), some (.int (nI v)), some (.int (nI (ixTk T k))), some (.int (nI (wrT T W v k))), some (.int (nI k)), some (.int (300 + (9 * (nI k)))), some (.int 1), none], [], h1)) rfl ⟨trivial, ?_, trivial, trivial, trivial, trivial, trivial, trivial, trivial, trivial, trivial⟩ ?_
            · rw [show (300 + (9 * (nI k))) + 4 = nI (300 + 9 * k + 4) from ix9 (f := 4) (by omega) (by decide)]; exact ibd_of (B := 3400) rfl (tx_0 _ (by omega)) ((tx_lt (b := 3400) (by omega) (by decide)).mpr (by omega))
            refine br (fun b5 => ?_) (fun b5 => ?_)
            ·
              refine go hX 15 (gs := [True, True, ibd ((300 + (9 * (nI k))) + 4) 3400, True, True, True, True, True, True, True, True, True, True, True, True]) (z' := (if (h1.1 66 ((300 + (9 * (nI k))) + 4)) = 1 then 142 else 151, [some (.ref 65), some (.int s), some (.int (nI v)), some (.int (nI (ixTk T k))), some (.int (nI (wrT T W v k))), some (.int (nI k)), some (.int (300 + (9 * (nI k)))), some (.int 1), some (.int 0)], [.int (nI (wrT T W v k))], h1)) rfl ⟨trivial, trivial, ?_, trivial, trivial, trivial, trivial, trivial, trivial, trivial, trivial, trivial, trivial, trivial, trivial, trivial⟩ ?_
              · rw [show (300 + (9 * (nI k))) + 4 = nI (300 + 9 * k + 4) from ix9 (f := 4) (by omega) (by decide)]; exact ibd_of (B := 3400) rfl (tx_0 _ (by omega)) ((tx_lt (b := 3400) (by omega) (by decide)).mpr (by omega))
              refine br (fun b6 => ?_) (fun b6 => ?_)
              ·
                refine go hX 32 (gs := [True, True, True, ibd ((300 + (9 * (nI k))) + 7) 3400, True, True, True, True, True, True, True, True, ibd ((300 + (9 * (nI k))) + 4) 3400, ibd ((300 + (9 * (nI k))) + 4) 3400, True, True, True, True, True, True, True, True, True, True, True, True, True, True, True, True, True, True]) (z' := (38, [some (.ref 65), some (.int s), some (.int (nI v)), some (.int ((nI (ixTk T k)) + 1)), some (.int ((nI (wrT T W v k)) + 1)), some (.int ((nI k) + 1)), some (.int (300 + (9 * (nI k)))), some (.int 1), some (.int 0)], [], (hI (hI h1 66 ((300 + (9 * (nI k))) + 4) (h1.1 66 ((300 + (9 * (nI k))) + 4))) 66 ((300 + (9 * (nI k))) + 7) 0))) rfl ⟨trivial, trivial, trivial, ?_, trivial, trivial, trivial, trivial, trivial, trivial, trivial, trivial, ?_, ?_, trivial, trivial, trivial, trivial, trivial, trivial, trivial, trivial, trivial, trivial, trivial, trivial, trivial, trivial, trivial, trivial, trivial, trivial, trivial⟩ ?_
                · rw [show (300 + (9 * (nI k))) + 7 = nI (300 + 9 * k + 7) from ix9 (f := 7) (by omega) (by decide)]; exact ibd_of (B := 3400) rfl (tx_0 _ (by omega)) ((tx_lt (b := 3400) (by omega) (by decide)).mpr (by omega))
                · rw [show (300 + (9 * (nI k))) + 4 = nI (300 + 9 * k + 4) from ix9 (f := 4) (by omega) (by decide)]; exact ibd_of (B := 3400) rfl (tx_0 _ (by omega)) ((tx_lt (b := 3400) (by omega) (by decide)).mpr (by omega))
                · rw [show (300 + (9 * (nI k))) + 4 = nI (300 + 9 * k + 4) from ix9 (f := 4) (by omega) (by decide)]; exact ibd_of (B := 3400) rfl (tx_0 _ (by omega)) ((tx_lt (b := 3400) (by omega) (by decide)).mpr (by omega))
                have t : T k = true := (hT k kx).mp ⟨by rw [← e0]; exact bk, by rw [← e1]; exact b3⟩
                have sb : v.testBit (ixTk T k) = true := by
                  have z := b4
                  rw [shr_n hv (by omega)] at z
                  exact (sb_of hv).mp z
                have w0 := b5
                rw [ew] at w0
                have w1 := b6
                rw [ew] at w1
                exact absurd (w0.symm.trans w1) (by decide)
              ·
                refine go hX 29 (gs := [True, True, True, ibd ((300 + (9 * (nI k))) + 7) 3400, True, True, True, True, True, True, True, True, ibd ((300 + (9 * (nI k))) + 4) 3400, ibd ((300 + (9 * (nI k))) + 4) 3400, True, True, True, True, True, True, True, True, True, True, True, True, True, True, True]) (z' := (38, [some (.ref 65), some (.int s), some (.int (nI v)), some (.int ((nI (ixTk T k)) + 1)), some (.int ((nI (wrT T W v k)) + 0)), some (.int ((nI k) + 1)), some (.int (300 + (9 * (nI k)))), some (.int 1), some (.int 0)], [], (hI (hI h1 66 ((300 + (9 * (nI k))) + 4) (h1.1 66 ((300 + (9 * (nI k))) + 4))) 66 ((300 + (9 * (nI k))) + 7) 0))) rfl ⟨trivial, trivial, trivial, ?_, trivial, trivial, trivial, trivial, trivial, trivial, trivial, trivial, ?_, ?_, trivial, trivial, trivial, trivial, trivial, trivial, trivial, trivial, trivial, trivial, trivial, trivial, trivial, trivial, trivial, trivial⟩ ?_
                · rw [show (300 + (9 * (nI k))) + 7 = nI (300 + 9 * k + 7) from ix9 (f := 7) (by omega) (by decide)]; exact ibd_of (B := 3400) rfl (tx_0 _ (by omega)) ((tx_lt (b := 3400) (by omega) (by decide)).mpr (by omega))
                · rw [show (300 + (9 * (nI k))) + 4 = nI (300 + 9 * k + 4) from ix9 (f := 4) (by omega) (by decide)]; exact ibd_of (B := 3400) rfl (tx_0 _ (by omega)) ((tx_lt (b := 3400) (by omega) (by decide)).mpr (by omega))
                · rw [show (300 + (9 * (nI k))) + 4 = nI (300 + 9 * k + 4) from ix9 (f := 4) (by omega) (by decide)]; exact ibd_of (B := 3400) rfl (tx_0 _ (by omega)) ((tx_lt (b := 3400) (by omega) (by decide)).mpr (by omega))
                have t : T k = true := (hT k kx).mp ⟨by rw [← e0]; exact bk, by rw [← e1]; exact b3⟩
                have sb : v.testBit (ixTk T k) = true := by
                  have z := b4
                  rw [shr_n hv (by omega)] at z
                  exact (sb_of hv).mp z
                have w0 := b5
                rw [ew] at w0
                have w1 := b6
                rw [ew] at w1
                have wb : wrB T W v k = false := by unfold wrB mssB; simp [sb, t, w0, w1]
                have bx : (h1.1 66 ((300 + (9 * (nI k))) + 4)) = bWn T W M v k := by rw [ew]; unfold bWn mssB; simp [sb, t, w0, w1]
                have by_ : 0 = bMn T W M v k := by unfold bMn mssB; simp [sb, t, w0, w1]
                have B1 := Bl.w2 (Or.inr rfl) (by decide) B (by omega) bx by_
                rw [← i7, ← i4] at B1
                rw [show nI (ixTk T k) + 1 = nI (ixTk T (k + 1)) by rw [ix_t t, tx_1]]
                rw [Int32.add_zero, wr_f (T := T) (W := W) (v := v) (k := k) (by rw [wb, Bool.and_false]), tx_1]
                exact ih (k + 1) (Nat.lt_succ_self k) (by omega) B1 (Or.inr (Or.inr ⟨_, _, _, rfl, rfl, rfl⟩))
            ·
              refine go hX 13 (gs := [True, True, ibd ((300 + (9 * (nI k))) + 4) 3400, True, True, True, True, True, True, True, True, True, True]) (z' := (if (h1.1 66 ((300 + (9 * (nI k))) + 4)) = 1 then 142 else 151, [some (.ref 65), some (.int s), some (.int (nI v)), some (.int (nI (ixTk T k))), some (.int (nI (wrT T W v k))), some (.int (nI k)), some (.int (300 + (9 * (nI k)))), some (.int 1), some (.int 0)], [.int (nI (wrT T W v k))], h1)) rfl ⟨trivial, trivial, ?_, trivial, trivial, trivial, trivial, trivial, trivial, trivial, trivial, trivial, trivial, trivial⟩ ?_
              · rw [show (300 + (9 * (nI k))) + 4 = nI (300 + 9 * k + 4) from ix9 (f := 4) (by omega) (by decide)]; exact ibd_of (B := 3400) rfl (tx_0 _ (by omega)) ((tx_lt (b := 3400) (by omega) (by decide)).mpr (by omega))
              refine br (fun b7 => ?_) (fun b7 => ?_)
              ·
                refine go hX 32 (gs := [True, True, True, ibd ((300 + (9 * (nI k))) + 7) 3400, True, True, True, True, True, True, True, True, ibd ((300 + (9 * (nI k))) + 4) 3400, ibd ((300 + (9 * (nI k))) + 4) 3400, True, True, True, True, True, True, True, True, True, True, True, True, True, True, True, True, True, True]) (z' := (38, [some (.ref 65), some (.int s), some (.int (nI v)), some (.int ((nI (ixTk T k)) + 1)), some (.int ((nI (wrT T W v k)) + 1)), some (.int ((nI k) + 1)), some (.int (300 + (9 * (nI k)))), some (.int 1), some (.int 0)], [], (hI (hI h1 66 ((300 + (9 * (nI k))) + 4) (h1.1 66 ((300 + (9 * (nI k))) + 4))) 66 ((300 + (9 * (nI k))) + 7) 0))) rfl ⟨trivial, trivial, trivial, ?_, trivial, trivial, trivial, trivial, trivial, trivial, trivial, trivial, ?_, ?_, trivial, trivial, trivial, trivial, trivial, trivial, trivial, trivial, trivial, trivial, trivial, trivial, trivial, trivial, trivial, trivial, trivial, trivial, trivial⟩ ?_
                · rw [show (300 + (9 * (nI k))) + 7 = nI (300 + 9 * k + 7) from ix9 (f := 7) (by omega) (by decide)]; exact ibd_of (B := 3400) rfl (tx_0 _ (by omega)) ((tx_lt (b := 3400) (by omega) (by decide)).mpr (by omega))
                · rw [show (300 + (9 * (nI k))) + 4 = nI (300 + 9 * k + 4) from ix9 (f := 4) (by omega) (by decide)]; exact ibd_of (B := 3400) rfl (tx_0 _ (by omega)) ((tx_lt (b := 3400) (by omega) (by decide)).mpr (by omega))
                · rw [show (300 + (9 * (nI k))) + 4 = nI (300 + 9 * k + 4) from ix9 (f := 4) (by omega) (by decide)]; exact ibd_of (B := 3400) rfl (tx_0 _ (by omega)) ((tx_lt (b := 3400) (by omega) (by decide)).mpr (by omega))
                have t : T k = true := (hT k kx).mp ⟨by rw [← e0]; exact bk, by rw [← e1]; exact b3⟩
                have sb : v.testBit (ixTk T k) = true := by
                  have z := b4
                  rw [shr_n hv (by omega)] at z
                  exact (sb_of hv).mp z
                have w0 := b5
                rw [ew] at w0
                have w1 := b7
                rw [ew] at w1
                have wb : wrB T W v k = true := by unfold wrB mssB; simp [sb, t, w0, w1]
                have bx : (h1.1 66 ((300 + (9 * (nI k))) + 4)) = bWn T W M v k := by rw [ew]; unfold bWn mssB; simp [sb, t, w0, w1]
                have by_ : 0 = bMn T W M v k := by unfold bMn mssB; simp [sb, t, w0, w1]
                have B1 := Bl.w2 (Or.inr rfl) (by decide) B (by omega) bx by_
                rw [← i7, ← i4] at B1
                rw [show nI (ixTk T k) + 1 = nI (ixTk T (k + 1)) by rw [ix_t t, tx_1]]
                rw [wr_t t wb, tx_1]
                exact ih (k + 1) (Nat.lt_succ_self k) (by omega) B1 (Or.inr (Or.inr ⟨_, _, _, rfl, rfl, rfl⟩))
              ·
                refine go hX 29 (gs := [True, True, True, ibd ((300 + (9 * (nI k))) + 7) 3400, True, True, True, True, True, True, True, True, ibd ((300 + (9 * (nI k))) + 4) 3400, ibd ((300 + (9 * (nI k))) + 4) 3400, True, True, True, True, True, True, True, True, True, True, True, True, True, True, True]) (z' := (38, [some (.ref 65), some (.int s), some (.int (nI v)), some (.int ((nI (ixTk T k)) + 1)), some (.int ((nI (wrT T W v k)) + 0)), some (.int ((nI k) + 1)), some (.int (300 + (9 * (nI k)))), some (.int 1), some (.int 0)], [], (hI (hI h1 66 ((300 + (9 * (nI k))) + 4) (h1.1 66 ((300 + (9 * (nI k))) + 4))) 66 ((300 + (9 * (nI k))) + 7) 0))) rfl ⟨trivial, trivial, trivial, ?_, trivial, trivial, trivial, trivial, trivial, trivial, trivial, trivial, ?_, ?_, trivial, trivial, trivial, trivial, trivial, trivial, trivial, trivial, trivial, trivial, trivial, trivial, trivial, trivial, trivial, trivial⟩ ?_
                · rw [show (300 + (9 * (nI k))) + 7 = nI (300 + 9 * k + 7) from ix9 (f := 7) (by omega) (by decide)]; exact ibd_of (B := 3400) rfl (tx_0 _ (by omega)) ((tx_lt (b := 3400) (by omega) (by decide)).mpr (by omega))
                · rw [show (300 + (9 * (nI k))) + 4 = nI (300 + 9 * k + 4) from ix9 (f := 4) (by omega) (by decide)]; exact ibd_of (B := 3400) rfl (tx_0 _ (by omega)) ((tx_lt (b := 3400) (by omega) (by decide)).mpr (by omega))
                · rw [show (300 + (9 * (nI k))) + 4 = nI (300 + 9 * k + 4) from ix9 (f := 4) (by omega) (by decide)]; exact ibd_of (B := 3400) rfl (tx_0 _ (by omega)) ((tx_lt (b := 3400) (by omega) (by decide)).mpr (by omega))
                have t : T k = true := (hT k kx).mp ⟨by rw [← e0]; exact bk, by rw [← e1]; exact b3⟩
                have sb : v.testBit (ixTk T k) = true := by
                  have z := b4
                  rw [shr_n hv (by omega)] at z
                  exact (sb_of hv).mp z
                have w0 := b5
                rw [ew] at w0
                have w1 := b7
                rw [ew] at w1
                have wb : wrB T W v k = false := by unfold wrB mssB; simp [sb, t, w0, w1]
                have bx : (h1.1 66 ((300 + (9 * (nI k))) + 4)) = bWn T W M v k := by rw [ew]; unfold bWn mssB; simp [sb, t, w0, w1]
                have by_ : 0 = bMn T W M v k := by unfold bMn mssB; simp [sb, t, w0, w1]
                have B1 := Bl.w2 (Or.inr rfl) (by decide) B (by omega) bx by_
                rw [← i7, ← i4] at B1
                rw [show nI (ixTk T k) + 1 = nI (ixTk T (k + 1)) by rw [ix_t t, tx_1]]
                rw [Int32.add_zero, wr_f (T := T) (W := W) (v := v) (k := k) (by rw [wb, Bool.and_false]), tx_1]
                exact ih (k + 1) (Nat.lt_succ_self k) (by omega) B1 (Or.inr (Or.inr ⟨_, _, _, rfl, rfl, rfl⟩))
          ·
            refine go hX 9 (gs := [True, ibd ((300 + (9 * (nI k))) + 4) 3400, True, True, True, True, True, True, True]) (z' := (if (h1.1 66 ((300 + (9 * (nI k))) + 4)) = 0 then 110 else 119, [some (.ref 65), some (.int s), some (.int (nI v)), some (.int (nI (ixTk T k))), some (.int (nI (wrT T W v k))), some (.int (nI k)), some (.int (300 + (9 * (nI k)))), some (.int 0), none], [], h1)) rfl ⟨trivial, ?_, trivial, trivial, trivial, trivial, trivial, trivial, trivial, trivial⟩ ?_
            · rw [show (300 + (9 * (nI k))) + 4 = nI (300 + 9 * k + 4) from ix9 (f := 4) (by omega) (by decide)]; exact ibd_of (B := 3400) rfl (tx_0 _ (by omega)) ((tx_lt (b := 3400) (by omega) (by decide)).mpr (by omega))
            refine br (fun b8 => ?_) (fun b8 => ?_)
            ·
              refine go hX 27 (gs := [True, True, ibd ((300 + (9 * (nI k))) + 7) 3400, True, True, True, True, True, True, True, True, True, True, True, True, True, True, True, True, True, True, True, True, True, True, True, True]) (z' := (if (h1.1 66 ((300 + (9 * (nI k))) + 7)) = 1 then 182 else 186, [some (.ref 65), some (.int s), some (.int (nI v)), some (.int (nI (ixTk T k))), some (.int ((nI (wrT T W v k)) + 1)), some (.int (nI k)), some (.int (300 + (9 * (nI k)))), some (.int 0), some (.int 1)], [.int ((300 + (9 * (nI k))) + 4), .ref 66], h1)) rfl ⟨trivial, trivial, ?_, trivial, trivial, trivial, trivial, trivial, trivial, trivial, trivial, trivial, trivial, trivial, trivial, trivial, trivial, trivial, trivial, trivial, trivial, trivial, trivial, trivial, trivial, trivial, trivial, trivial⟩ ?_
              · rw [show (300 + (9 * (nI k))) + 7 = nI (300 + 9 * k + 7) from ix9 (f := 7) (by omega) (by decide)]; exact ibd_of (B := 3400) rfl (tx_0 _ (by omega)) ((tx_lt (b := 3400) (by omega) (by decide)).mpr (by omega))
              refine br (fun b9 => ?_) (fun b9 => ?_)
              ·
                refine go hX 16 (gs := [True, True, True, ibd ((300 + (9 * (nI k))) + 7) 3400, True, True, True, True, True, True, True, True, True, ibd ((300 + (9 * (nI k))) + 4) 3400, True, True]) (z' := (38, [some (.ref 65), some (.int s), some (.int (nI v)), some (.int ((nI (ixTk T k)) + 1)), some (.int ((nI (wrT T W v k)) + 1)), some (.int ((nI k) + 1)), some (.int (300 + (9 * (nI k)))), some (.int 0), some (.int 1)], [], (hI (hI h1 66 ((300 + (9 * (nI k))) + 4) 2) 66 ((300 + (9 * (nI k))) + 7) 1))) rfl ⟨trivial, trivial, trivial, ?_, trivial, trivial, trivial, trivial, trivial, trivial, trivial, trivial, trivial, ?_, trivial, trivial, trivial⟩ ?_
                · rw [show (300 + (9 * (nI k))) + 7 = nI (300 + 9 * k + 7) from ix9 (f := 7) (by omega) (by decide)]; exact ibd_of (B := 3400) rfl (tx_0 _ (by omega)) ((tx_lt (b := 3400) (by omega) (by decide)).mpr (by omega))
                · rw [show (300 + (9 * (nI k))) + 4 = nI (300 + 9 * k + 4) from ix9 (f := 4) (by omega) (by decide)]; exact ibd_of (B := 3400) rfl (tx_0 _ (by omega)) ((tx_lt (b := 3400) (by omega) (by decide)).mpr (by omega))
                have t : T k = true := (hT k kx).mp ⟨by rw [← e0]; exact bk, by rw [← e1]; exact b3⟩
                have sb : v.testBit (ixTk T k) = false := by
                  have z := b4
                  rw [shr_n hv (by omega)] at z
                  exact (Bool.not_eq_true _).mp (fun y => z ((sb_of hv).mpr y))
                have w0 := b8
                rw [ew] at w0
                have m1 := b9
                rw [em] at m1
                have wb : wrB T W v k = true := by unfold wrB mssB; simp [sb, t, w0, m1]
                have bx : 2 = bWn T W M v k := by unfold bWn mssB; simp [sb, t, w0, m1]
                have by_ : 1 = bMn T W M v k := by unfold bMn mssB; simp [sb, t, w0, m1]
                have B1 := Bl.w2 (Or.inr rfl) (by decide) B (by omega) bx by_
                rw [← i7, ← i4] at B1
                rw [show nI (ixTk T k) + 1 = nI (ixTk T (k + 1)) by rw [ix_t t, tx_1]]
                rw [wr_t t wb, tx_1]
                exact ih (k + 1) (Nat.lt_succ_self k) (by omega) B1 (Or.inr (Or.inr ⟨_, _, _, rfl, rfl, rfl⟩))
              ·
                refine go hX 20 (gs := [True, True, True, ibd ((300 + (9 * (nI k))) + 7) 3400, True, True, True, True, True, True, True, True, True, ibd ((300 + (9 * (nI k))) + 4) 3400, ibd ((300 + (9 * (nI k))) + 4) 3400, True, True, True, True, True]) (z' := (38, [some (.ref 65), some (.int s), some (.int (nI v)), some (.int ((nI (ixTk T k)) + 1)), some (.int ((nI (wrT T W v k)) + 1)), some (.int ((nI k) + 1)), some (.int (300 + (9 * (nI k)))), some (.int 0), some (.int 1)], [], (hI (hI h1 66 ((300 + (9 * (nI k))) + 4) (h1.1 66 ((300 + (9 * (nI k))) + 4))) 66 ((300 + (9 * (nI k))) + 7) 1))) rfl ⟨trivial, trivial, trivial, ?_, trivial, trivial, trivial, trivial, trivial, trivial, trivial, trivial, trivial, ?_, ?_, trivial, trivial, trivial, trivial, trivial, trivial⟩ ?_
                · rw [show (300 + (9 * (nI k))) + 7 = nI (300 + 9 * k + 7) from ix9 (f := 7) (by omega) (by decide)]; exact ibd_of (B := 3400) rfl (tx_0 _ (by omega)) ((tx_lt (b := 3400) (by omega) (by decide)).mpr (by omega))
                · rw [show (300 + (9 * (nI k))) + 4 = nI (300 + 9 * k + 4) from ix9 (f := 4) (by omega) (by decide)]; exact ibd_of (B := 3400) rfl (tx_0 _ (by omega)) ((tx_lt (b := 3400) (by omega) (by decide)).mpr (by omega))
                · rw [show (300 + (9 * (nI k))) + 4 = nI (300 + 9 * k + 4) from ix9 (f := 4) (by omega) (by decide)]; exact ibd_of (B := 3400) rfl (tx_0 _ (by omega)) ((tx_lt (b := 3400) (by omega) (by decide)).mpr (by omega))
                have t : T k = true := (hT k kx).mp ⟨by rw [← e0]; exact bk, by rw [← e1]; exact b3⟩
                have sb : v.testBit (ixTk T k) = false := by
                  have z := b4
                  rw [shr_n hv (by omega)] at z
                  exact (Bool.not_eq_true _).mp (fun y => z ((sb_of hv).mpr y))
                have w0 := b8
                rw [ew] at w0
                have m1 := b9
                rw [em] at m1
                have wb : wrB T W v k = true := by unfold wrB mssB; simp [sb, t, w0, m1]
                have bx : (h1.1 66 ((300 + (9 * (nI k))) + 4)) = bWn T W M v k := by rw [ew]; unfold bWn mssB; simp [sb, t, w0, m1]
                have by_ : 1 = bMn T W M v k := by unfold bMn mssB; simp [sb, t, w0, m1]
                have B1 := Bl.w2 (Or.inr rfl) (by decide) B (by omega) bx by_
                rw [← i7, ← i4] at B1
                rw [show nI (ixTk T k) + 1 = nI (ixTk T (k + 1)) by rw [ix_t t, tx_1]]
                rw [wr_t t wb, tx_1]
                exact ih (k + 1) (Nat.lt_succ_self k) (by omega) B1 (Or.inr (Or.inr ⟨_, _, _, rfl, rfl, rfl⟩))
            ·
              refine go hX 13 (gs := [True, True, ibd ((300 + (9 * (nI k))) + 4) 3400, True, True, True, True, True, True, True, True, True, True]) (z' := (if (h1.1 66 ((300 + (9 * (nI k))) + 4)) = 1 then 142 else 151, [some (.ref 65), some (.int s), some (.int (nI v)), some (.int (nI (ixTk T k))), some (.int (nI (wrT T W v k))), some (.int (nI k)), some (.int (300 + (9 * (nI k)))), some (.int 0), some (.int 0)], [.int (nI (wrT T W v k))], h1)) rfl ⟨trivial, trivial, ?_, trivial, trivial, trivial, trivial, trivial, trivial, trivial, trivial, trivial, trivial, trivial⟩ ?_
              · rw [show (300 + (9 * (nI k))) + 4 = nI (300 + 9 * k + 4) from ix9 (f := 4) (by omega) (by decide)]; exact ibd_of (B := 3400) rfl (tx_0 _ (by omega)) ((tx_lt (b := 3400) (by omega) (by decide)).mpr (by omega))
              refine br (fun b10 => ?_) (fun b10 => ?_)
              ·
                refine go hX 31 (gs := [True, True, True, ibd ((300 + (9 * (nI k))) + 7) 3400, True, True, True, True, True, True, True, True, ibd ((300 + (9 * (nI k))) + 4) 3400, ibd ((300 + (9 * (nI k))) + 4) 3400, True, True, True, True, True, True, True, True, True, True, True, True, True, True, True, True, True]) (z' := (38, [some (.ref 65), some (.int s), some (.int (nI v)), some (.int ((nI (ixTk T k)) + 1)), some (.int ((nI (wrT T W v k)) + 0)), some (.int ((nI k) + 1)), some (.int (300 + (9 * (nI k)))), some (.int 0), some (.int 0)], [], (hI (hI h1 66 ((300 + (9 * (nI k))) + 4) (h1.1 66 ((300 + (9 * (nI k))) + 4))) 66 ((300 + (9 * (nI k))) + 7) 0))) rfl ⟨trivial, trivial, trivial, ?_, trivial, trivial, trivial, trivial, trivial, trivial, trivial, trivial, ?_, ?_, trivial, trivial, trivial, trivial, trivial, trivial, trivial, trivial, trivial, trivial, trivial, trivial, trivial, trivial, trivial, trivial, trivial, trivial⟩ ?_
                · rw [show (300 + (9 * (nI k))) + 7 = nI (300 + 9 * k + 7) from ix9 (f := 7) (by omega) (by decide)]; exact ibd_of (B := 3400) rfl (tx_0 _ (by omega)) ((tx_lt (b := 3400) (by omega) (by decide)).mpr (by omega))
                · rw [show (300 + (9 * (nI k))) + 4 = nI (300 + 9 * k + 4) from ix9 (f := 4) (by omega) (by decide)]; exact ibd_of (B := 3400) rfl (tx_0 _ (by omega)) ((tx_lt (b := 3400) (by omega) (by decide)).mpr (by omega))
                · rw [show (300 + (9 * (nI k))) + 4 = nI (300 + 9 * k + 4) from ix9 (f := 4) (by omega) (by decide)]; exact ibd_of (B := 3400) rfl (tx_0 _ (by omega)) ((tx_lt (b := 3400) (by omega) (by decide)).mpr (by omega))
                have t : T k = true := (hT k kx).mp ⟨by rw [← e0]; exact bk, by rw [← e1]; exact b3⟩
                have sb : v.testBit (ixTk T k) = false := by
                  have z := b4
                  rw [shr_n hv (by omega)] at z
                  exact (Bool.not_eq_true _).mp (fun y => z ((sb_of hv).mpr y))
                have w0 := b8
                rw [ew] at w0
                have w1 := b10
                rw [ew] at w1
                have wb : wrB T W v k = false := by unfold wrB mssB; simp [sb, t, w0, w1]
                have bx : (h1.1 66 ((300 + (9 * (nI k))) + 4)) = bWn T W M v k := by rw [ew]; unfold bWn mssB; simp [sb, t, w0, w1]
                have by_ : 0 = bMn T W M v k := by unfold bMn mssB; simp [sb, t, w0, w1]
                have B1 := Bl.w2 (Or.inr rfl) (by decide) B (by omega) bx by_
                rw [← i7, ← i4] at B1
                rw [show nI (ixTk T k) + 1 = nI (ixTk T (k + 1)) by rw [ix_t t, tx_1]]
                rw [Int32.add_zero, wr_f (T := T) (W := W) (v := v) (k := k) (by rw [wb, Bool.and_false]), tx_1]
                exact ih (k + 1) (Nat.lt_succ_self k) (by omega) B1 (Or.inr (Or.inr ⟨_, _, _, rfl, rfl, rfl⟩))
              ·
                refine go hX 29 (gs := [True, True, True, ibd ((300 + (9 * (nI k))) + 7) 3400, True, True, True, True, True, True, True, True, ibd ((300 + (9 * (nI k))) + 4) 3400, ibd ((300 + (9 * (nI k))) + 4) 3400, True, True, True, True, True, True, True, True, True, True, True, True, True, True, True]) (z' := (38, [some (.ref 65), some (.int s), some (.int (nI v)), some (.int ((nI (ixTk T k)) + 1)), some (.int ((nI (wrT T W v k)) + 0)), some (.int ((nI k) + 1)), some (.int (300 + (9 * (nI k)))), some (.int 0), some (.int 0)], [], (hI (hI h1 66 ((300 + (9 * (nI k))) + 4) (h1.1 66 ((300 + (9 * (nI k))) + 4))) 66 ((300 + (9 * (nI k))) + 7) 0))) rfl ⟨trivial, trivial, trivial, ?_, trivial, trivial, trivial, trivial, trivial, trivial, trivial, trivial, ?_, ?_, trivial, trivial, trivial, trivial, trivial, trivial, trivial, trivial, trivial, trivial, trivial, trivial, trivial, trivial, trivial, trivial⟩ ?_
                · rw [show (300 + (9 * (nI k))) + 7 = nI (300 + 9 * k + 7) from ix9 (f := 7) (by omega) (by decide)]; exact ibd_of (B := 3400) rfl (tx_0 _ (by omega)) ((tx_lt (b := 3400) (by omega) (by decide)).mpr (by omega))
                · rw [show (300 + (9 * (nI k))) + 4 = nI (300 + 9 * k + 4) from ix9 (f := 4) (by omega) (by decide)]; exact ibd_of (B := 3400) rfl (tx_0 _ (by omega)) ((tx_lt (b := 3400) (by omega) (by decide)).mpr (by omega))
                · rw [show (300 + (9 * (nI k))) + 4 = nI (300 + 9 * k + 4) from ix9 (f := 4) (by omega) (by decide)]; exact ibd_of (B := 3400) rfl (tx_0 _ (by omega)) ((tx_lt (b := 3400) (by omega) (by decide)).mpr (by omega))
                have t : T k = true := (hT k kx).mp ⟨by rw [← e0]; exact bk, by rw [← e1]; exact b3⟩
                have sb : v.testBit (ixTk T k) = false := by
                  have z := b4
                  rw [shr_n hv (by omega)] at z
                  exact (Bool.not_eq_true _).mp (fun y => z ((sb_of hv).mpr y))
                have w0 := b8
                rw [ew] at w0
                have w1 := b10
                rw [ew] at w1
                have wb : wrB T W v k = false := by unfold wrB mssB; simp [sb, t, w0, w1]
                have bx : (h1.1 66 ((300 + (9 * (nI k))) + 4)) = bWn T W M v k := by rw [ew]; unfold bWn mssB; simp [sb, t, w0, w1]
                have by_ : 0 = bMn T W M v k := by unfold bMn mssB; simp [sb, t, w0, w1]
                have B1 := Bl.w2 (Or.inr rfl) (by decide) B (by omega) bx by_
                rw [← i7, ← i4] at B1
                rw [show nI (ixTk T k) + 1 = nI (ixTk T (k + 1)) by rw [ix_t t, tx_1]]
                rw [Int32.add_zero, wr_f (T := T) (W := W) (v := v) (k := k) (by rw [wb, Bool.and_false]), tx_1]
                exact ih (k + 1) (Nat.lt_succ_self k) (by omega) B1 (Or.inr (Or.inr ⟨_, _, _, rfl, rfl, rfl⟩))
        ·
          refine go hX 3 (gs := [True, True, True]) (z' := (38, [some (.ref 65), some (.int s), some (.int (nI v)), some (.int (nI (ixTk T k))), some (.int (nI (wrT T W v k))), some (.int ((nI k) + 1)), some (.int (300 + (9 * (nI k)))), none, none], [], h1)) rfl ⟨trivial, trivial, trivial, trivial⟩ ?_
          have t : ¬ T k = true := fun z => b3 (by rw [e1]; exact ((hT k kx).mpr z).2)
          rw [tx_1]
          have ih1 : X (38, [some (.ref 65), some (.int s), some (.int (nI v)), some (.int (nI (ixTk T (k + 1)))), some (.int (nI (wrT T W v (k + 1)))), some (.int (nI (k + 1))), some (.int (300 + (9 * (nI k)))), none, none], [], h1) := ih (k + 1) (Nat.lt_succ_self k) (by omega) (B.no t) (Or.inr (Or.inl ⟨_, rfl, rfl, rfl⟩))
          rw [ix_f t, ← wr_f (W := W) (v := v) (T := T) (k := k) (by rw [(Bool.not_eq_true _).mp t]; rfl)] at ih1
          exact ih1
      ·
        show X (63, [some (.ref 65), some (.int s), some (.int (nI v)), some (.int (nI (ixTk T k))), some (.int (nI (wrT T W v k))), some (.int (nI k)), some (.int (300 + (9 * (nI k)))), none, none], [.int 0], h1)
        refine go hX 3 (gs := [True, True, True]) (z' := (38, [some (.ref 65), some (.int s), some (.int (nI v)), some (.int (nI (ixTk T k))), some (.int (nI (wrT T W v k))), some (.int ((nI k) + 1)), some (.int (300 + (9 * (nI k)))), none, none], [], h1)) rfl ⟨trivial, trivial, trivial, trivial⟩ ?_
        have t : ¬ T k = true := fun z => bk (by rw [e0]; exact ((hT k kx).mpr z).1)
        rw [tx_1]
        have ih1 : X (38, [some (.ref 65), some (.int s), some (.int (nI v)), some (.int (nI (ixTk T (k + 1)))), some (.int (nI (wrT T W v (k + 1)))), some (.int (nI (k + 1))), some (.int (300 + (9 * (nI k)))), none, none], [], h1) := ih (k + 1) (Nat.lt_succ_self k) (by omega) (B.no t) (Or.inr (Or.inl ⟨_, rfl, rfl, rfl⟩))
        rw [ix_f t, ← wr_f (W := W) (v := v) (T := T) (k := k) (by rw [(Bool.not_eq_true _).mp t]; rfl)] at ih1
        exact ih1
  ·
    refine go hX 6 (gs := [True, ibd 3 3400, True, True, True, True]) (z' := (if (h1.1 66 3) ≤ (nI k) then 225 else 49, [some (.ref 65), some (.int s), some (.int (nI v)), some (.int (nI (ixTk T k))), some (.int (nI (wrT T W v k))), some (.int (nI k)), some (.int x6), none, none], [], h1)) rfl ⟨trivial, ?_, trivial, trivial, trivial, trivial, trivial⟩ ?_
    · exact ⟨by decide, by decide⟩
    refine br (fun b1 => ?_) (fun b1 => ?_)
    ·
      refine go hX 4 (gs := [True, True, True, True]) (z' := (231, [some (.ref 65), some (.int s), some (.int (nI v)), some (.int (nI (ixTk T k))), some (.int (nI (wrT T W v k))), some (.int (nI k)), some (.int x6), none, none], [.int s, .ref 65, .ref 66], h1)) rfl ⟨trivial, trivial, trivial, trivial, trivial⟩ ?_
      refine cl hX 163 2 [.ref 65, .int s] [.ref 66] rfl rfl rfl rfl ?_
      refine c_shopAtP ?_
      show X (234, [some (.ref 65), some (.int s), some (.int (nI v)), some (.int (nI (ixTk T k))), some (.int (nI (wrT T W v k))), some (.int (nI k)), some (.int x6), none, none], [.int (10 + (10 * s)), .ref 66], h1)
      refine go hX 4 (gs := [True, True, True, True]) (z' := (if (nI (wrT T W v k)) ≤ 0 then 246 else 242, [some (.ref 65), some (.int s), some (.int (nI v)), some (.int (nI (ixTk T k))), some (.int (nI (wrT T W v k))), some (.int (nI k)), some (.int x6), none, none], [.int ((10 + (10 * s)) + 7), .ref 66], h1)) rfl ⟨trivial, trivial, trivial, trivial, trivial⟩ ?_
      refine br (fun b2 => ?_) (fun b2 => ?_)
      ·
        refine go hX 3 (gs := [True, ibd ((10 + (10 * s)) + 7) 3400, True]) (z' := (250, [some (.ref 65), some (.int s), some (.int (nI v)), some (.int (nI (ixTk T k))), some (.int (nI (wrT T W v k))), some (.int (nI k)), some (.int x6), none, none], [.int (nI (wrT T W v k))], (hI h1 66 ((10 + (10 * s)) + 7) 0))) rfl ⟨trivial, ?_, trivial, trivial⟩ ?_
        · exact ibd_of (B := 3400) rfl (by grind) (by grind)
        refine rt_ hX (G := True) (r := some (.int (nI (wrT T W v k)))) rfl trivial ?_
        have e : k = n := Nat.le_antisymm hk ((tx_le (by omega) (by omega)).mp (by rw [← e3]; exact b1))
        subst e
        have q := K h1 B
        rw [if_pos b2] at q
        exact q
      ·
        refine go hX 4 (gs := [True, ibd ((10 + (10 * s)) + 7) 3400, True, True]) (z' := (250, [some (.ref 65), some (.int s), some (.int (nI v)), some (.int (nI (ixTk T k))), some (.int (nI (wrT T W v k))), some (.int (nI k)), some (.int x6), none, none], [.int (nI (wrT T W v k))], (hI h1 66 ((10 + (10 * s)) + 7) 1))) rfl ⟨trivial, ?_, trivial, trivial, trivial⟩ ?_
        · exact ibd_of (B := 3400) rfl (by grind) (by grind)
        refine rt_ hX (G := True) (r := some (.int (nI (wrT T W v k)))) rfl trivial ?_
        have e : k = n := Nat.le_antisymm hk ((tx_le (by omega) (by omega)).mp (by rw [← e3]; exact b1))
        subst e
        have q := K h1 B
        rw [if_neg b2] at q
        exact q
    ·
      have kx : k < n := Nat.lt_of_not_le (fun z => b1 (by rw [e3]; exact (tx_le (by omega) (by omega)).mpr z))
      have k30 : k < 30 := by omega
      have e0 : h1.1 66 (300 + (9 * (nI k))) = h.1 66 (300 + (9 * (nI k))) := by rw [ix90 k30]; exact B.c01 (Or.inr rfl) (by decide) k30 (Or.inl rfl)
      have e1 : h1.1 66 ((300 + (9 * (nI k))) + 1) = h.1 66 ((300 + (9 * (nI k))) + 1) := by rw [show (300 + (9 * (nI k))) + 1 = nI (300 + 9 * k + 1) from ix9 (f := 1) k30 (by decide)]; exact B.c01 (Or.inr rfl) (by decide) k30 (Or.inr rfl)
      have i4 : (300 + (9 * (nI k))) + 4 = nI (300 + 9 * k + 4) := ix9 (f := 4) k30 (by decide)
      have i7 : (300 + (9 * (nI k))) + 7 = nI (300 + 9 * k + 7) := ix9 (f := 7) k30 (by decide)
      have ew : h1.1 66 ((300 + (9 * (nI k))) + 4) = W k := by rw [i4]; exact (B.c4 k30).1
      have em : h1.1 66 ((300 + (9 * (nI k))) + 7) = M k := by rw [i7]; exact (B.c4 k30).2
      refine go hX 2 (gs := [True, True]) (z' := (52, [some (.ref 65), some (.int s), some (.int (nI v)), some (.int (nI (ixTk T k))), some (.int (nI (wrT T W v k))), some (.int (nI k)), some (.int x6), none, none], [.int (nI k), .ref 65], h1)) rfl ⟨trivial, trivial, trivial⟩ ?_
      refine cl hX 165 2 [.ref 65, .int (nI k)] [] rfl rfl rfl rfl ?_
      refine c_thingAtP ?_
      show X (55, [some (.ref 65), some (.int s), some (.int (nI v)), some (.int (nI (ixTk T k))), some (.int (nI (wrT T W v k))), some (.int (nI k)), some (.int x6), none, none], [.int (300 + (9 * (nI k)))], h1)
      refine go hX 3 (gs := [True, True, True]) (z' := (60, [some (.ref 65), some (.int s), some (.int (nI v)), some (.int (nI (ixTk T k))), some (.int (nI (wrT T W v k))), some (.int (nI k)), some (.int (300 + (9 * (nI k)))), none, none], [.int (nI k), .ref 65], h1)) rfl ⟨trivial, trivial, trivial, trivial⟩ ?_
      refine cl hX 173 2 [.ref 65, .int (nI k)] [] rfl rfl rfl rfl ?_
      refine c_itB (by omega) (fun bk => ?_) (fun bk => ?_)
      ·
        show X (63, [some (.ref 65), some (.int s), some (.int (nI v)), some (.int (nI (ixTk T k))), some (.int (nI (wrT T W v k))), some (.int (nI k)), some (.int (300 + (9 * (nI k)))), none, none], [.int 1], h1)
        refine go hX 9 (gs := [True, True, ibd ((300 + (9 * (nI k))) + 1) 3400, True, True, True, True, True, True]) (z' := (if (h1.1 66 ((300 + (9 * (nI k))) + 1)) = s then 82 else 79, [some (.ref 65), some (.int s), some (.int (nI v)), some (.int (nI (ixTk T k))), some (.int (nI (wrT T W v k))), some (.int (nI k)), some (.int (300 + (9 * (nI k)))), none, none], [], h1)) rfl ⟨trivial, trivial, ?_, trivial, trivial, trivial, trivial, trivial, trivial, trivial⟩ ?_
        · rw [show (300 + (9 * (nI k))) + 1 = nI (300 + 9 * k + 1) from ix9 (f := 1) (by omega) (by decide)]; exact ibd_of (B := 3400) rfl (tx_0 _ (by omega)) ((tx_lt (b := 3400) (by omega) (by decide)).mpr (by omega))
        refine br (fun b3 => ?_) (fun b3 => ?_)
        ·
          refine go hX 7 (gs := [True, True, True, True, True, True, True]) (z' := (if (((nI v) >>> ((nI (ixTk T k)) &&& 31)) &&& 1) = 1 then 91 else 95, [some (.ref 65), some (.int s), some (.int (nI v)), some (.int (nI (ixTk T k))), some (.int (nI (wrT T W v k))), some (.int (nI k)), some (.int (300 + (9 * (nI k)))), none, none], [], h1)) rfl ⟨trivial, trivial, trivial, trivial, trivial, trivial, trivial, trivial⟩ ?_
          refine br (fun b4 => ?_) (fun b4 => ?_)
          ·
            refine go hX 10 (gs := [True, ibd ((300 + (9 * (nI k))) + 4) 3400, True, True, True, True, True, True, True, True]) (z' := (if (h1.1 66 ((300 + (9 * (nI k))) + 4)) = 0 then 110 else 119, [some (.ref 65), some (.int s), some (.int (nI v)), some (.int (nI (ixTk T k))), some (.int (nI (wrT T W v k))), some (.int (nI k)), some (.int (300 + (9 * (nI k)))), some (.int 1), none], [], h1)) rfl ⟨trivial, ?_, trivial, trivial, trivial, trivial, trivial, trivial, trivial, trivial, trivial⟩ ?_
            · rw [show (300 + (9 * (nI k))) + 4 = nI (300 + 9 * k + 4) from ix9 (f := 4) (by omega) (by decide)]; exact ibd_of (B := 3400) rfl (tx_0 _ (by omega)) ((tx_lt (b := 3400) (by omega) (by decide)).mpr (by omega))
            refine br (fun b5 => ?_) (fun b5 => ?_)
            ·
              refine go hX 15 (gs := [True, True, ibd ((300 + (9 * (nI k))) + 4) 3400, True, True, True, True, True, True, True, True, True, True, True, True]) (z' := (if (h1.1 66 ((300 + (9 * (nI k))) + 4)) = 1 then 142 else 151, [some (.ref 65), some (.int s), some (.int (nI v)), some (.int (nI (ixTk T k))), some (.int (nI (wrT T W v k))), some (.int (nI k)), some (.int (300 + (9 * (nI k)))), some (.int 1), some (.int 0)], [.int (nI (wrT T W v k))], h1)) rfl ⟨trivial, trivial, ?_, trivial, trivial, trivial, trivial, trivial, trivial, trivial, trivial, trivial, trivial, trivial, trivial, trivial⟩ ?_
              · rw [show (300 + (9 * (nI k))) + 4 = nI (300 + 9 * k + 4) from ix9 (f := 4) (by omega) (by decide)]; exact ibd_of (B := 3400) rfl (tx_0 _ (by omega)) ((tx_lt (b := 3400) (by omega) (by decide)).mpr (by omega))
              refine br (fun b6 => ?_) (fun b6 => ?_)
              ·
                refine go hX 32 (gs := [True, True, True, ibd ((300 + (9 * (nI k))) + 7) 3400, True, True, True, True, True, True, True, True, ibd ((300 + (9 * (nI k))) + 4) 3400, ibd ((300 + (9 * (nI k))) + 4) 3400, True, True, True, True, True, True, True, True, True, True, True, True, True, True, True, True, True, True]) (z' := (38, [some (.ref 65), some (.int s), some (.int (nI v)), some (.int ((nI (ixTk T k)) + 1)), some (.int ((nI (wrT T W v k)) + 1)), some (.int ((nI k) + 1)), some (.int (300 + (9 * (nI k)))), some (.int 1), some (.int 0)], [], (hI (hI h1 66 ((300 + (9 * (nI k))) + 4) (h1.1 66 ((300 + (9 * (nI k))) + 4))) 66 ((300 + (9 * (nI k))) + 7) 0))) rfl ⟨trivial, trivial, trivial, ?_, trivial, trivial, trivial, trivial, trivial, trivial, trivial, trivial, ?_, ?_, trivial, trivial, trivial, trivial, trivial, trivial, trivial, trivial, trivial, trivial, trivial, trivial, trivial, trivial, trivial, trivial, trivial, trivial, trivial⟩ ?_
                · rw [show (300 + (9 * (nI k))) + 7 = nI (300 + 9 * k + 7) from ix9 (f := 7) (by omega) (by decide)]; exact ibd_of (B := 3400) rfl (tx_0 _ (by omega)) ((tx_lt (b := 3400) (by omega) (by decide)).mpr (by omega))
                · rw [show (300 + (9 * (nI k))) + 4 = nI (300 + 9 * k + 4) from ix9 (f := 4) (by omega) (by decide)]; exact ibd_of (B := 3400) rfl (tx_0 _ (by omega)) ((tx_lt (b := 3400) (by omega) (by decide)).mpr (by omega))
                · rw [show (300 + (9 * (nI k))) + 4 = nI (300 + 9 * k + 4) from ix9 (f := 4) (by omega) (by decide)]; exact ibd_of (B := 3400) rfl (tx_0 _ (by omega)) ((tx_lt (b := 3400) (by omega) (by decide)).mpr (by omega))
                have t : T k = true := (hT k kx).mp ⟨by rw [← e0]; exact bk, by rw [← e1]; exact b3⟩
                have sb : v.testBit (ixTk T k) = true := by
                  have z := b4
                  rw [shr_n hv (by omega)] at z
                  exact (sb_of hv).mp z
                have w0 := b5
                rw [ew] at w0
                have w1 := b6
                rw [ew] at w1
                exact absurd (w0.symm.trans w1) (by decide)
              ·
                refine go hX 29 (gs := [True, True, True, ibd ((300 + (9 * (nI k))) + 7) 3400, True, True, True, True, True, True, True, True, ibd ((300 + (9 * (nI k))) + 4) 3400, ibd ((300 + (9 * (nI k))) + 4) 3400, True, True, True, True, True, True, True, True, True, True, True, True, True, True, True]) (z' := (38, [some (.ref 65), some (.int s), some (.int (nI v)), some (.int ((nI (ixTk T k)) + 1)), some (.int ((nI (wrT T W v k)) + 0)), some (.int ((nI k) + 1)), some (.int (300 + (9 * (nI k)))), some (.int 1), some (.int 0)], [], (hI (hI h1 66 ((300 + (9 * (nI k))) + 4) (h1.1 66 ((300 + (9 * (nI k))) + 4))) 66 ((300 + (9 * (nI k))) + 7) 0))) rfl ⟨trivial, trivial, trivial, ?_, trivial, trivial, trivial, trivial, trivial, trivial, trivial, trivial, ?_, ?_, trivial, trivial, trivial, trivial, trivial, trivial, trivial, trivial, trivial, trivial, trivial, trivial, trivial, trivial, trivial, trivial⟩ ?_
                · rw [show (300 + (9 * (nI k))) + 7 = nI (300 + 9 * k + 7) from ix9 (f := 7) (by omega) (by decide)]; exact ibd_of (B := 3400) rfl (tx_0 _ (by omega)) ((tx_lt (b := 3400) (by omega) (by decide)).mpr (by omega))
                · rw [show (300 + (9 * (nI k))) + 4 = nI (300 + 9 * k + 4) from ix9 (f := 4) (by omega) (by decide)]; exact ibd_of (B := 3400) rfl (tx_0 _ (by omega)) ((tx_lt (b := 3400) (by omega) (by decide)).mpr (by omega))
                · rw [show (300 + (9 * (nI k))) + 4 = nI (300 + 9 * k + 4) from ix9 (f := 4) (by omega) (by decide)]; exact ibd_of (B := 3400) rfl (tx_0 _ (by omega)) ((tx_lt (b := 3400) (by omega) (by decide)).mpr (by omega))
                have t : T k = true := (hT k kx).mp ⟨by rw [← e0]; exact bk, by rw [← e1]; exact b3⟩
                have sb : v.testBit (ixTk T k) = true := by
                  have z := b4
                  rw [shr_n hv (by omega)] at z
                  exact (sb_of hv).mp z
                have w0 := b5
                rw [ew] at w0
                have w1 := b6
                rw [ew] at w1
                have wb : wrB T W v k = false := by unfold wrB mssB; simp [sb, t, w0, w1]
                have bx : (h1.1 66 ((300 + (9 * (nI k))) + 4)) = bWn T W M v k := by rw [ew]; unfold bWn mssB; simp [sb, t, w0, w1]
                have by_ : 0 = bMn T W M v k := by unfold bMn mssB; simp [sb, t, w0, w1]
                have B1 := Bl.w2 (Or.inr rfl) (by decide) B (by omega) bx by_
                rw [← i7, ← i4] at B1
                rw [show nI (ixTk T k) + 1 = nI (ixTk T (k + 1)) by rw [ix_t t, tx_1]]
                rw [Int32.add_zero, wr_f (T := T) (W := W) (v := v) (k := k) (by rw [wb, Bool.and_false]), tx_1]
                exact ih (k + 1) (Nat.lt_succ_self k) (by omega) B1 (Or.inr (Or.inr ⟨_, _, _, rfl, rfl, rfl⟩))
            ·
              refine go hX 13 (gs := [True, True, ibd ((300 + (9 * (nI k))) + 4) 3400, True, True, True, True, True, True, True, True, True, True]) (z' := (if (h1.1 66 ((300 + (9 * (nI k))) + 4)) = 1 then 142 else 151, [some (.ref 65), some (.int s), some (.int (nI v)), some (.int (nI (ixTk T k))), some (.int (nI (wrT T W v k))), some (.int (nI k)), some (.int (300 + (9 * (nI k)))), some (.int 1), some (.int 0)], [.int (nI (wrT T W v k))], h1)) rfl ⟨trivial, trivial, ?_, trivial, trivial, trivial, trivial, trivial, trivial, trivial, trivial, trivial, trivial, trivial⟩ ?_
              · rw [show (300 + (9 * (nI k))) + 4 = nI (300 + 9 * k + 4) from ix9 (f := 4) (by omega) (by decide)]; exact ibd_of (B := 3400) rfl (tx_0 _ (by omega)) ((tx_lt (b := 3400) (by omega) (by decide)).mpr (by omega))
              refine br (fun b7 => ?_) (fun b7 => ?_)
              ·
                refine go hX 32 (gs := [True, True, True, ibd ((300 + (9 * (nI k))) + 7) 3400, True, True, True, True, True, True, True, True, ibd ((300 + (9 * (nI k))) + 4) 3400, ibd ((300 + (9 * (nI k))) + 4) 3400, True, True, True, True, True, True, True, True, True, True, True, True, True, True, True, True, True, True]) (z' := (38, [some (.ref 65), some (.int s), some (.int (nI v)), some (.int ((nI (ixTk T k)) + 1)), some (.int ((nI (wrT T W v k)) + 1)), some (.int ((nI k) + 1)), some (.int (300 + (9 * (nI k)))), some (.int 1), some (.int 0)], [], (hI (hI h1 66 ((300 + (9 * (nI k))) + 4) (h1.1 66 ((300 + (9 * (nI k))) + 4))) 66 ((300 + (9 * (nI k))) + 7) 0))) rfl ⟨trivial, trivial, trivial, ?_, trivial, trivial, trivial, trivial, trivial, trivial, trivial, trivial, ?_, ?_, trivial, trivial, trivial, trivial, trivial, trivial, trivial, trivial, trivial, trivial, trivial, trivial, trivial, trivial, trivial, trivial, trivial, trivial, trivial⟩ ?_
                · rw [show (300 + (9 * (nI k))) + 7 = nI (300 + 9 * k + 7) from ix9 (f := 7) (by omega) (by decide)]; exact ibd_of (B := 3400) rfl (tx_0 _ (by omega)) ((tx_lt (b := 3400) (by omega) (by decide)).mpr (by omega))
                · rw [show (300 + (9 * (nI k))) + 4 = nI (300 + 9 * k + 4) from ix9 (f := 4) (by omega) (by decide)]; exact ibd_of (B := 3400) rfl (tx_0 _ (by omega)) ((tx_lt (b := 3400) (by omega) (by decide)).mpr (by omega))
                · rw [show (300 + (9 * (nI k))) + 4 = nI (300 + 9 * k + 4) from ix9 (f := 4) (by omega) (by decide)]; exact ibd_of (B := 3400) rfl (tx_0 _ (by omega)) ((tx_lt (b := 3400) (by omega) (by decide)).mpr (by omega))
                have t : T k = true := (hT k kx).mp ⟨by rw [← e0]; exact bk, by rw [← e1]; exact b3⟩
                have sb : v.testBit (ixTk T k) = true := by
                  have z := b4
                  rw [shr_n hv (by omega)] at z
                  exact (sb_of hv).mp z
                have w0 := b5
                rw [ew] at w0
                have w1 := b7
                rw [ew] at w1
                have wb : wrB T W v k = true := by unfold wrB mssB; simp [sb, t, w0, w1]
                have bx : (h1.1 66 ((300 + (9 * (nI k))) + 4)) = bWn T W M v k := by rw [ew]; unfold bWn mssB; simp [sb, t, w0, w1]
                have by_ : 0 = bMn T W M v k := by unfold bMn mssB; simp [sb, t, w0, w1]
                have B1 := Bl.w2 (Or.inr rfl) (by decide) B (by omega) bx by_
                rw [← i7, ← i4] at B1
                rw [show nI (ixTk T k) + 1 = nI (ixTk T (k + 1)) by rw [ix_t t, tx_1]]
                rw [wr_t t wb, tx_1]
                exact ih (k + 1) (Nat.lt_succ_self k) (by omega) B1 (Or.inr (Or.inr ⟨_, _, _, rfl, rfl, rfl⟩))
              ·
                refine go hX 29 (gs := [True, True, True, ibd ((300 + (9 * (nI k))) + 7) 3400, True, True, True, True, True, True, True, True, ibd ((300 + (9 * (nI k))) + 4) 3400, ibd ((300 + (9 * (nI k))) + 4) 3400, True, True, True, True, True, True, True, True, True, True, True, True, True, True, True]) (z' := (38, [some (.ref 65), some (.int s), some (.int (nI v)), some (.int ((nI (ixTk T k)) + 1)), some (.int ((nI (wrT T W v k)) + 0)), some (.int ((nI k) + 1)), some (.int (300 + (9 * (nI k)))), some (.int 1), some (.int 0)], [], (hI (hI h1 66 ((300 + (9 * (nI k))) + 4) (h1.1 66 ((300 + (9 * (nI k))) + 4))) 66 ((300 + (9 * (nI k))) + 7) 0))) rfl ⟨trivial, trivial, trivial, ?_, trivial, trivial, trivial, trivial, trivial, trivial, trivial, trivial, ?_, ?_, trivial, trivial, trivial, trivial, trivial, trivial, trivial, trivial, trivial, trivial, trivial, trivial, trivial, trivial, trivial, trivial⟩ ?_
                · rw [show (300 + (9 * (nI k))) + 7 = nI (300 + 9 * k + 7) from ix9 (f := 7) (by omega) (by decide)]; exact ibd_of (B := 3400) rfl (tx_0 _ (by omega)) ((tx_lt (b := 3400) (by omega) (by decide)).mpr (by omega))
                · rw [show (300 + (9 * (nI k))) + 4 = nI (300 + 9 * k + 4) from ix9 (f := 4) (by omega) (by decide)]; exact ibd_of (B := 3400) rfl (tx_0 _ (by omega)) ((tx_lt (b := 3400) (by omega) (by decide)).mpr (by omega))
                · rw [show (300 + (9 * (nI k))) + 4 = nI (300 + 9 * k + 4) from ix9 (f := 4) (by omega) (by decide)]; exact ibd_of (B := 3400) rfl (tx_0 _ (by omega)) ((tx_lt (b := 3400) (by omega) (by decide)).mpr (by omega))
                have t : T k = true := (hT k kx).mp ⟨by rw [← e0]; exact bk, by rw [← e1]; exact b3⟩
                have sb : v.testBit (ixTk T k) = true := by
                  have z := b4
                  rw [shr_n hv (by omega)] at z
                  exact (sb_of hv).mp z
                have w0 := b5
                rw [ew] at w0
                have w1 := b7
                rw [ew] at w1
                have wb : wrB T W v k = false := by unfold wrB mssB; simp [sb, t, w0, w1]
                have bx : (h1.1 66 ((300 + (9 * (nI k))) + 4)) = bWn T W M v k := by rw [ew]; unfold bWn mssB; simp [sb, t, w0, w1]
                have by_ : 0 = bMn T W M v k := by unfold bMn mssB; simp [sb, t, w0, w1]
                have B1 := Bl.w2 (Or.inr rfl) (by decide) B (by omega) bx by_
                rw [← i7, ← i4] at B1
                rw [show nI (ixTk T k) + 1 = nI (ixTk T (k + 1)) by rw [ix_t t, tx_1]]
                rw [Int32.add_zero, wr_f (T := T) (W := W) (v := v) (k := k) (by rw [wb, Bool.and_false]), tx_1]
                exact ih (k + 1) (Nat.lt_succ_self k) (by omega) B1 (Or.inr (Or.inr ⟨_, _, _, rfl, rfl, rfl⟩))
          ·
            refine go hX 9 (gs := [True, ibd ((300 + (9 * (nI k))) + 4) 3400, True, True, True, True, True, True, True]) (z' := (if (h1.1 66 ((300 + (9 * (nI k))) + 4)) = 0 then 110 else 119, [some (.ref 65), some (.int s), some (.int (nI v)), some (.int (nI (ixTk T k))), some (.int (nI (wrT T W v k))), some (.int (nI k)), some (.int (300 + (9 * (nI k)))), some (.int 0), none], [], h1)) rfl ⟨trivial, ?_, trivial, trivial, trivial, trivial, trivial, trivial, trivial, trivial⟩ ?_
            · rw [show (300 + (9 * (nI k))) + 4 = nI (300 + 9 * k + 4) from ix9 (f := 4) (by omega) (by decide)]; exact ibd_of (B := 3400) rfl (tx_0 _ (by omega)) ((tx_lt (b := 3400) (by omega) (by decide)).mpr (by omega))
            refine br (fun b8 => ?_) (fun b8 => ?_)
            ·
              refine go hX 27 (gs := [True, True, ibd ((300 + (9 * (nI k))) + 7) 3400, True, True, True, True, True, True, True, True, True, True, True, True, True, True, True, True, True, True, True, True, True, True, True, True]) (z' := (if (h1.1 66 ((300 + (9 * (nI k))) + 7)) = 1 then 182 else 186, [some (.ref 65), some (.int s), some (.int (nI v)), some (.int (nI (ixTk T k))), some (.int ((nI (wrT T W v k)) + 1)), some (.int (nI k)), some (.int (300 + (9 * (nI k)))), some (.int 0), some (.int 1)], [.int ((300 + (9 * (nI k))) + 4), .ref 66], h1)) rfl ⟨trivial, trivial, ?_, trivial, trivial, trivial, trivial, trivial, trivial, trivial, trivial, trivial, trivial, trivial, trivial, trivial, trivial, trivial, trivial, trivial, trivial, trivial, trivial, trivial, trivial, trivial, trivial, trivial⟩ ?_
              · rw [show (300 + (9 * (nI k))) + 7 = nI (300 + 9 * k + 7) from ix9 (f := 7) (by omega) (by decide)]; exact ibd_of (B := 3400) rfl (tx_0 _ (by omega)) ((tx_lt (b := 3400) (by omega) (by decide)).mpr (by omega))
              refine br (fun b9 => ?_) (fun b9 => ?_)
              ·
                refine go hX 16 (gs := [True, True, True, ibd ((300 + (9 * (nI k))) + 7) 3400, True, True, True, True, True, True, True, True, True, ibd ((300 + (9 * (nI k))) + 4) 3400, True, True]) (z' := (38, [some (.ref 65), some (.int s), some (.int (nI v)), some (.int ((nI (ixTk T k)) + 1)), some (.int ((nI (wrT T W v k)) + 1)), some (.int ((nI k) + 1)), some (.int (300 + (9 * (nI k)))), some (.int 0), some (.int 1)], [], (hI (hI h1 66 ((300 + (9 * (nI k))) + 4) 2) 66 ((300 + (9 * (nI k))) + 7) 1))) rfl ⟨trivial, trivial, trivial, ?_, trivial, trivial, trivial, trivial, trivial, trivial, trivial, trivial, trivial, ?_, trivial, trivial, trivial⟩ ?_
                · rw [show (300 + (9 * (nI k))) + 7 = nI (300 + 9 * k + 7) from ix9 (f := 7) (by omega) (by decide)]; exact ibd_of (B := 3400) rfl (tx_0 _ (by omega)) ((tx_lt (b := 3400) (by omega) (by decide)).mpr (by omega))
                · rw [show (300 + (9 * (nI k))) + 4 = nI (300 + 9 * k + 4) from ix9 (f := 4) (by omega) (by decide)]; exact ibd_of (B := 3400) rfl (tx_0 _ (by omega)) ((tx_lt (b := 3400) (by omega) (by decide)).mpr (by omega))
                have t : T k = true := (hT k kx).mp ⟨by rw [← e0]; exact bk, by rw [← e1]; exact b3⟩
                have sb : v.testBit (ixTk T k) = false := by
                  have z := b4
                  rw [shr_n hv (by omega)] at z
                  exact (Bool.not_eq_true _).mp (fun y => z ((sb_of hv).mpr y))
                have w0 := b8
                rw [ew] at w0
                have m1 := b9
                rw [em] at m1
                have wb : wrB T W v k = true := by unfold wrB mssB; simp [sb, t, w0, m1]
                have bx : 2 = bWn T W M v k := by unfold bWn mssB; simp [sb, t, w0, m1]
                have by_ : 1 = bMn T W M v k := by unfold bMn mssB; simp [sb, t, w0, m1]
                have B1 := Bl.w2 (Or.inr rfl) (by decide) B (by omega) bx by_
                rw [← i7, ← i4] at B1
                rw [show nI (ixTk T k) + 1 = nI (ixTk T (k + 1)) by rw [ix_t t, tx_1]]
                rw [wr_t t wb, tx_1]
                exact ih (k + 1) (Nat.lt_succ_self k) (by omega) B1 (Or.inr (Or.inr ⟨_, _, _, rfl, rfl, rfl⟩))
              ·
                refine go hX 20 (gs := [True, True, True, ibd ((300 + (9 * (nI k))) + 7) 3400, True, True, True, True, True, True, True, True, True, ibd ((300 + (9 * (nI k))) + 4) 3400, ibd ((300 + (9 * (nI k))) + 4) 3400, True, True, True, True, True]) (z' := (38, [some (.ref 65), some (.int s), some (.int (nI v)), some (.int ((nI (ixTk T k)) + 1)), some (.int ((nI (wrT T W v k)) + 1)), some (.int ((nI k) + 1)), some (.int (300 + (9 * (nI k)))), some (.int 0), some (.int 1)], [], (hI (hI h1 66 ((300 + (9 * (nI k))) + 4) (h1.1 66 ((300 + (9 * (nI k))) + 4))) 66 ((300 + (9 * (nI k))) + 7) 1))) rfl ⟨trivial, trivial, trivial, ?_, trivial, trivial, trivial, trivial, trivial, trivial, trivial, trivial, trivial, ?_, ?_, trivial, trivial, trivial, trivial, trivial, trivial⟩ ?_
                · rw [show (300 + (9 * (nI k))) + 7 = nI (300 + 9 * k + 7) from ix9 (f := 7) (by omega) (by decide)]; exact ibd_of (B := 3400) rfl (tx_0 _ (by omega)) ((tx_lt (b := 3400) (by omega) (by decide)).mpr (by omega))
                · rw [show (300 + (9 * (nI k))) + 4 = nI (300 + 9 * k + 4) from ix9 (f := 4) (by omega) (by decide)]; exact ibd_of (B := 3400) rfl (tx_0 _ (by omega)) ((tx_lt (b := 3400) (by omega) (by decide)).mpr (by omega))
                · rw [show (300 + (9 * (nI k))) + 4 = nI (300 + 9 * k + 4) from ix9 (f := 4) (by omega) (by decide)]; exact ibd_of (B := 3400) rfl (tx_0 _ (by omega)) ((tx_lt (b := 3400) (by omega) (by decide)).mpr (by omega))
                have t : T k = true := (hT k kx).mp ⟨by rw [← e0]; exact bk, by rw [← e1]; exact b3⟩
                have sb : v.testBit (ixTk T k) = false := by
                  have z := b4
                  rw [shr_n hv (by omega)] at z
                  exact (Bool.not_eq_true _).mp (fun y => z ((sb_of hv).mpr y))
                have w0 := b8
                rw [ew] at w0
                have m1 := b9
                rw [em] at m1
                have wb : wrB T W v k = true := by unfold wrB mssB; simp [sb, t, w0, m1]
                have bx : (h1.1 66 ((300 + (9 * (nI k))) + 4)) = bWn T W M v k := by rw [ew]; unfold bWn mssB; simp [sb, t, w0, m1]
                have by_ : 1 = bMn T W M v k := by unfold bMn mssB; simp [sb, t, w0, m1]
                have B1 := Bl.w2 (Or.inr rfl) (by decide) B (by omega) bx by_
                rw [← i7, ← i4] at B1
                rw [show nI (ixTk T k) + 1 = nI (ixTk T (k + 1)) by rw [ix_t t, tx_1]]
                rw [wr_t t wb, tx_1]
                exact ih (k + 1) (Nat.lt_succ_self k) (by omega) B1 (Or.inr (Or.inr ⟨_, _, _, rfl, rfl, rfl⟩))
            ·
              refine go hX 13 (gs := [True, True, ibd ((300 + (9 * (nI k))) + 4) 3400, True, True, True, True, True, True, True, True, True, True]) (z' := (if (h1.1 66 ((300 + (9 * (nI k))) + 4)) = 1 then 142 else 151, [some (.ref 65), some (.int s), some (.int (nI v)), some (.int (nI (ixTk T k))), some (.int (nI (wrT T W v k))), some (.int (nI k)), some (.int (300 + (9 * (nI k)))), some (.int 0), some (.int 0)], [.int (nI (wrT T W v k))], h1)) rfl ⟨trivial, trivial, ?_, trivial, trivial, trivial, trivial, trivial, trivial, trivial, trivial, trivial, trivial, trivial⟩ ?_
              · rw [show (300 + (9 * (nI k))) + 4 = nI (300 + 9 * k + 4) from ix9 (f := 4) (by omega) (by decide)]; exact ibd_of (B := 3400) rfl (tx_0 _ (by omega)) ((tx_lt (b := 3400) (by omega) (by decide)).mpr (by omega))
              refine br (fun b10 => ?_) (fun b10 => ?_)
              ·
                refine go hX 31 (gs := [True, True, True, ibd ((300 + (9 * (nI k))) + 7) 3400, True, True, True, True, True, True, True, True, ibd ((300 + (9 * (nI k))) + 4) 3400, ibd ((300 + (9 * (nI k))) + 4) 3400, True, True, True, True, True, True, True, True, True, True, True, True, True, True, True, True, True]) (z' := (38, [some (.ref 65), some (.int s), some (.int (nI v)), some (.int ((nI (ixTk T k)) + 1)), some (.int ((nI (wrT T W v k)) + 0)), some (.int ((nI k) + 1)), some (.int (300 + (9 * (nI k)))), some (.int 0), some (.int 0)], [], (hI (hI h1 66 ((300 + (9 * (nI k))) + 4) (h1.1 66 ((300 + (9 * (nI k))) + 4))) 66 ((300 + (9 * (nI k))) + 7) 0))) rfl ⟨trivial, trivial, trivial, ?_, trivial, trivial, trivial, trivial, trivial, trivial, trivial, trivial, ?_, ?_, trivial, trivial, trivial, trivial, trivial, trivial, trivial, trivial, trivial, trivial, trivial, trivial, trivial, trivial, trivial, trivial, trivial, trivial⟩ ?_
                · rw [show (300 + (9 * (nI k))) + 7 = nI (300 + 9 * k + 7) from ix9 (f := 7) (by omega) (by decide)]; exact ibd_of (B := 3400) rfl (tx_0 _ (by omega)) ((tx_lt (b := 3400) (by omega) (by decide)).mpr (by omega))
                · rw [show (300 + (9 * (nI k))) + 4 = nI (300 + 9 * k + 4) from ix9 (f := 4) (by omega) (by decide)]; exact ibd_of (B := 3400) rfl (tx_0 _ (by omega)) ((tx_lt (b := 3400) (by omega) (by decide)).mpr (by omega))
                · rw [show (300 + (9 * (nI k))) + 4 = nI (300 + 9 * k + 4) from ix9 (f := 4) (by omega) (by decide)]; exact ibd_of (B := 3400) rfl (tx_0 _ (by omega)) ((tx_lt (b := 3400) (by omega) (by decide)).mpr (by omega))
                have t : T k = true := (hT k kx).mp ⟨by rw [← e0]; exact bk, by rw [← e1]; exact b3⟩
                have sb : v.testBit (ixTk T k) = false := by
                  have z := b4
                  rw [shr_n hv (by omega)] at z
                  exact (Bool.not_eq_true _).mp (fun y => z ((sb_of hv).mpr y))
                have w0 := b8
                rw [ew] at w0
                have w1 := b10
                rw [ew] at w1
                have wb : wrB T W v k = false := by unfold wrB mssB; simp [sb, t, w0, w1]
                have bx : (h1.1 66 ((300 + (9 * (nI k))) + 4)) = bWn T W M v k := by rw [ew]; unfold bWn mssB; simp [sb, t, w0, w1]
                have by_ : 0 = bMn T W M v k := by unfold bMn mssB; simp [sb, t, w0, w1]
                have B1 := Bl.w2 (Or.inr rfl) (by decide) B (by omega) bx by_
                rw [← i7, ← i4] at B1
                rw [show nI (ixTk T k) + 1 = nI (ixTk T (k + 1)) by rw [ix_t t, tx_1]]
                rw [Int32.add_zero, wr_f (T := T) (W := W) (v := v) (k := k) (by rw [wb, Bool.and_false]), tx_1]
                exact ih (k + 1) (Nat.lt_succ_self k) (by omega) B1 (Or.inr (Or.inr ⟨_, _, _, rfl, rfl, rfl⟩))
              ·
                refine go hX 29 (gs := [True, True, True, ibd ((300 + (9 * (nI k))) + 7) 3400, True, True, True, True, True, True, True, True, ibd ((300 + (9 * (nI k))) + 4) 3400, ibd ((300 + (9 * (nI k))) + 4) 3400, True, True, True, True, True, True, True, True, True, True, True, True, True, True, True]) (z' := (38, [some (.ref 65), some (.int s), some (.int (nI v)), some (.int ((nI (ixTk T k)) + 1)), some (.int ((nI (wrT T W v k)) + 0)), some (.int ((nI k) + 1)), some (.int (300 + (9 * (nI k)))), some (.int 0), some (.int 0)], [], (hI (hI h1 66 ((300 + (9 * (nI k))) + 4) (h1.1 66 ((300 + (9 * (nI k))) + 4))) 66 ((300 + (9 * (nI k))) + 7) 0))) rfl ⟨trivial, trivial, trivial, ?_, trivial, trivial, trivial, trivial, trivial, trivial, trivial, trivial, ?_, ?_, trivial, trivial, trivial, trivial, trivial, trivial, trivial, trivial, trivial, trivial, trivial, trivial, trivial, trivial, trivial, trivial⟩ ?_
                · rw [show (300 + (9 * (nI k))) + 7 = nI (300 + 9 * k + 7) from ix9 (f := 7) (by omega) (by decide)]; exact ibd_of (B := 3400) rfl (tx_0 _ (by omega)) ((tx_lt (b := 3400) (by omega) (by decide)).mpr (by omega))
                · rw [show (300 + (9 * (nI k))) + 4 = nI (300 + 9 * k + 4) from ix9 (f := 4) (by omega) (by decide)]; exact ibd_of (B := 3400) rfl (tx_0 _ (by omega)) ((tx_lt (b := 3400) (by omega) (by decide)).mpr (by omega))
                · rw [show (300 + (9 * (nI k))) + 4 = nI (300 + 9 * k + 4) from ix9 (f := 4) (by omega) (by decide)]; exact ibd_of (B := 3400) rfl (tx_0 _ (by omega)) ((tx_lt (b := 3400) (by omega) (by decide)).mpr (by omega))
                have t : T k = true := (hT k kx).mp ⟨by rw [← e0]; exact bk, by rw [← e1]; exact b3⟩
                have sb : v.testBit (ixTk T k) = false := by
                  have z := b4
                  rw [shr_n hv (by omega)] at z
                  exact (Bool.not_eq_true _).mp (fun y => z ((sb_of hv).mpr y))
                have w0 := b8
                rw [ew] at w0
                have w1 := b10
                rw [ew] at w1
                have wb : wrB T W v k = false := by unfold wrB mssB; simp [sb, t, w0, w1]
                have bx : (h1.1 66 ((300 + (9 * (nI k))) + 4)) = bWn T W M v k := by rw [ew]; unfold bWn mssB; simp [sb, t, w0, w1]
                have by_ : 0 = bMn T W M v k := by unfold bMn mssB; simp [sb, t, w0, w1]
                have B1 := Bl.w2 (Or.inr rfl) (by decide) B (by omega) bx by_
                rw [← i7, ← i4] at B1
                rw [show nI (ixTk T k) + 1 = nI (ixTk T (k + 1)) by rw [ix_t t, tx_1]]
                rw [Int32.add_zero, wr_f (T := T) (W := W) (v := v) (k := k) (by rw [wb, Bool.and_false]), tx_1]
                exact ih (k + 1) (Nat.lt_succ_self k) (by omega) B1 (Or.inr (Or.inr ⟨_, _, _, rfl, rfl, rfl⟩))
        ·
          refine go hX 3 (gs := [True, True, True]) (z' := (38, [some (.ref 65), some (.int s), some (.int (nI v)), some (.int (nI (ixTk T k))), some (.int (nI (wrT T W v k))), some (.int ((nI k) + 1)), some (.int (300 + (9 * (nI k)))), none, none], [], h1)) rfl ⟨trivial, trivial, trivial, trivial⟩ ?_
          have t : ¬ T k = true := fun z => b3 (by rw [e1]; exact ((hT k kx).mpr z).2)
          rw [tx_1]
          have ih1 : X (38, [some (.ref 65), some (.int s), some (.int (nI v)), some (.int (nI (ixTk T (k + 1)))), some (.int (nI (wrT T W v (k + 1)))), some (.int (nI (k + 1))), some (.int (300 + (9 * (nI k)))), none, none], [], h1) := ih (k + 1) (Nat.lt_succ_self k) (by omega) (B.no t) (Or.inr (Or.inl ⟨_, rfl, rfl, rfl⟩))
          rw [ix_f t, ← wr_f (W := W) (v := v) (T := T) (k := k) (by rw [(Bool.not_eq_true _).mp t]; rfl)] at ih1
          exact ih1
      ·
        show X (63, [some (.ref 65), some (.int s), some (.int (nI v)), some (.int (nI (ixTk T k))), some (.int (nI (wrT T W v k))), some (.int (nI k)), some (.int (300 + (9 * (nI k)))), none, none], [.int 0], h1)
        refine go hX 3 (gs := [True, True, True]) (z' := (38, [some (.ref 65), some (.int s), some (.int (nI v)), some (.int (nI (ixTk T k))), some (.int (nI (wrT T W v k))), some (.int ((nI k) + 1)), some (.int (300 + (9 * (nI k)))), none, none], [], h1)) rfl ⟨trivial, trivial, trivial, trivial⟩ ?_
        have t : ¬ T k = true := fun z => bk (by rw [e0]; exact ((hT k kx).mpr z).1)
        rw [tx_1]
        have ih1 : X (38, [some (.ref 65), some (.int s), some (.int (nI v)), some (.int (nI (ixTk T (k + 1)))), some (.int (nI (wrT T W v (k + 1)))), some (.int (nI (k + 1))), some (.int (300 + (9 * (nI k)))), none, none], [], h1) := ih (k + 1) (Nat.lt_succ_self k) (by omega) (B.no t) (Or.inr (Or.inl ⟨_, rfl, rfl, rfl⟩))
        rw [ix_f t, ← wr_f (W := W) (v := v) (T := T) (k := k) (by rw [(Bool.not_eq_true _).mp t]; rfl)] at ih1
        exact ih1
  ·
    refine go hX 6 (gs := [True, ibd 3 3400, True, True, True, True]) (z' := (if (h1.1 66 3) ≤ (nI k) then 225 else 49, [some (.ref 65), some (.int s), some (.int (nI v)), some (.int (nI (ixTk T k))), some (.int (nI (wrT T W v k))), some (.int (nI k)), some (.int x6), some (.int x7), some (.int x8)], [], h1)) rfl ⟨trivial, ?_, trivial, trivial, trivial, trivial, trivial⟩ ?_
    · exact ⟨by decide, by decide⟩
    refine br (fun b1 => ?_) (fun b1 => ?_)
    ·
      refine go hX 4 (gs := [True, True, True, True]) (z' := (231, [some (.ref 65), some (.int s), some (.int (nI v)), some (.int (nI (ixTk T k))), some (.int (nI (wrT T W v k))), some (.int (nI k)), some (.int x6), some (.int x7), some (.int x8)], [.int s, .ref 65, .ref 66], h1)) rfl ⟨trivial, trivial, trivial, trivial, trivial⟩ ?_
      refine cl hX 163 2 [.ref 65, .int s] [.ref 66] rfl rfl rfl rfl ?_
      refine c_shopAtP ?_
      show X (234, [some (.ref 65), some (.int s), some (.int (nI v)), some (.int (nI (ixTk T k))), some (.int (nI (wrT T W v k))), some (.int (nI k)), some (.int x6), some (.int x7), some (.int x8)], [.int (10 + (10 * s)), .ref 66], h1)
      refine go hX 4 (gs := [True, True, True, True]) (z' := (if (nI (wrT T W v k)) ≤ 0 then 246 else 242, [some (.ref 65), some (.int s), some (.int (nI v)), some (.int (nI (ixTk T k))), some (.int (nI (wrT T W v k))), some (.int (nI k)), some (.int x6), some (.int x7), some (.int x8)], [.int ((10 + (10 * s)) + 7), .ref 66], h1)) rfl ⟨trivial, trivial, trivial, trivial, trivial⟩ ?_
      refine br (fun b2 => ?_) (fun b2 => ?_)
      ·
        refine go hX 3 (gs := [True, ibd ((10 + (10 * s)) + 7) 3400, True]) (z' := (250, [some (.ref 65), some (.int s), some (.int (nI v)), some (.int (nI (ixTk T k))), some (.int (nI (wrT T W v k))), some (.int (nI k)), some (.int x6), some (.int x7), some (.int x8)], [.int (nI (wrT T W v k))], (hI h1 66 ((10 + (10 * s)) + 7) 0))) rfl ⟨trivial, ?_, trivial, trivial⟩ ?_
        · exact ibd_of (B := 3400) rfl (by grind) (by grind)
        refine rt_ hX (G := True) (r := some (.int (nI (wrT T W v k)))) rfl trivial ?_
        have e : k = n := Nat.le_antisymm hk ((tx_le (by omega) (by omega)).mp (by rw [← e3]; exact b1))
        subst e
        have q := K h1 B
        rw [if_pos b2] at q
        exact q
      ·
        refine go hX 4 (gs := [True, ibd ((10 + (10 * s)) + 7) 3400, True, True]) (z' := (250, [some (.ref 65), some (.int s), some (.int (nI v)), some (.int (nI (ixTk T k))), some (.int (nI (wrT T W v k))), some (.int (nI k)), some (.int x6), some (.int x7), some (.int x8)], [.int (nI (wrT T W v k))], (hI h1 66 ((10 + (10 * s)) + 7) 1))) rfl ⟨trivial, ?_, trivial, trivial, trivial⟩ ?_
        · exact ibd_of (B := 3400) rfl (by grind) (by grind)
        refine rt_ hX (G := True) (r := some (.int (nI (wrT T W v k)))) rfl trivial ?_
        have e : k = n := Nat.le_antisymm hk ((tx_le (by omega) (by omega)).mp (by rw [← e3]; exact b1))
        subst e
        have q := K h1 B
        rw [if_neg b2] at q
        exact q
    ·
      have kx : k < n := Nat.lt_of_not_le (fun z => b1 (by rw [e3]; exact (tx_le (by omega) (by omega)).mpr z))
      have k30 : k < 30 := by omega
      have e0 : h1.1 66 (300 + (9 * (nI k))) = h.1 66 (300 + (9 * (nI k))) := by rw [ix90 k30]; exact B.c01 (Or.inr rfl) (by decide) k30 (Or.inl rfl)
      have e1 : h1.1 66 ((300 + (9 * (nI k))) + 1) = h.1 66 ((300 + (9 * (nI k))) + 1) := by rw [show (300 + (9 * (nI k))) + 1 = nI (300 + 9 * k + 1) from ix9 (f := 1) k30 (by decide)]; exact B.c01 (Or.inr rfl) (by decide) k30 (Or.inr rfl)
      have i4 : (300 + (9 * (nI k))) + 4 = nI (300 + 9 * k + 4) := ix9 (f := 4) k30 (by decide)
      have i7 : (300 + (9 * (nI k))) + 7 = nI (300 + 9 * k + 7) := ix9 (f := 7) k30 (by decide)
      have ew : h1.1 66 ((300 + (9 * (nI k))) + 4) = W k := by rw [i4]; exact (B.c4 k30).1
      have em : h1.1 66 ((300 + (9 * (nI k))) + 7) = M k := by rw [i7]; exact (B.c4 k30).2
      refine go hX 2 (gs := [True, True]) (z' := (52, [some (.ref 65), some (.int s), some (.int (nI v)), some (.int (nI (ixTk T k))), some (.int (nI (wrT T W v k))), some (.int (nI k)), some (.int x6), some (.int x7), some (.int x8)], [.int (nI k), .ref 65], h1)) rfl ⟨trivial, trivial, trivial⟩ ?_
      refine cl hX 165 2 [.ref 65, .int (nI k)] [] rfl rfl rfl rfl ?_
      refine c_thingAtP ?_
      show X (55, [some (.ref 65), some (.int s), some (.int (nI v)), some (.int (nI (ixTk T k))), some (.int (nI (wrT T W v k))), some (.int (nI k)), some (.int x6), some (.int x7), some (.int x8)], [.int (300 + (9 * (nI k)))], h1)
      refine go hX 3 (gs := [True, True, True]) (z' := (60, [some (.ref 65), some (.int s), some (.int (nI v)), some (.int (nI (ixTk T k))), some (.int (nI (wrT T W v k))), some (.int (nI k)), some (.int (300 + (9 * (nI k)))), some (.int x7), some (.int x8)], [.int (nI k), .ref 65], h1)) rfl ⟨trivial, trivial, trivial, trivial⟩ ?_
      refine cl hX 173 2 [.ref 65, .int (nI k)] [] rfl rfl rfl rfl ?_
      refine c_itB (by omega) (fun bk => ?_) (fun bk => ?_)
      ·
        show X (63, [some (.ref 65), some (.int s), some (.int (nI v)), some (.int (nI (ixTk T k))), some (.int (nI (wrT T W v k))), some (.int (nI k)), some (.int (300 + (9 * (nI k)))), some (.int x7), some (.int x8)], [.int 1], h1)
        refine go hX 9 (gs := [True, True, ibd ((300 + (9 * (nI k))) + 1) 3400, True, True, True, True, True, True]) (z' := (if (h1.1 66 ((300 + (9 * (nI k))) + 1)) = s then 82 else 79, [some (.ref 65), some (.int s), some (.int (nI v)), some (.int (nI (ixTk T k))), some (.int (nI (wrT T W v k))), some (.int (nI k)), some (.int (300 + (9 * (nI k)))), some (.int x7), some (.int x8)], [], h1)) rfl ⟨trivial, trivial, ?_, trivial, trivial, trivial, trivial, trivial, trivial, trivial⟩ ?_
        · rw [show (300 + (9 * (nI k))) + 1 = nI (300 + 9 * k + 1) from ix9 (f := 1) (by omega) (by decide)]; exact ibd_of (B := 3400) rfl (tx_0 _ (by omega)) ((tx_lt (b := 3400) (by omega) (by decide)).mpr (by omega))
        refine br (fun b3 => ?_) (fun b3 => ?_)
        ·
          refine go hX 7 (gs := [True, True, True, True, True, True, True]) (z' := (if (((nI v) >>> ((nI (ixTk T k)) &&& 31)) &&& 1) = 1 then 91 else 95, [some (.ref 65), some (.int s), some (.int (nI v)), some (.int (nI (ixTk T k))), some (.int (nI (wrT T W v k))), some (.int (nI k)), some (.int (300 + (9 * (nI k)))), some (.int x7), some (.int x8)], [], h1)) rfl ⟨trivial, trivial, trivial, trivial, trivial, trivial, trivial, trivial⟩ ?_
          refine br (fun b4 => ?_) (fun b4 => ?_)
          ·
            refine go hX 10 (gs := [True, ibd ((300 + (9 * (nI k))) + 4) 3400, True, True, True, True, True, True, True, True]) (z' := (if (h1.1 66 ((300 + (9 * (nI k))) + 4)) = 0 then 110 else 119, [some (.ref 65), some (.int s), some (.int (nI v)), some (.int (nI (ixTk T k))), some (.int (nI (wrT T W v k))), some (.int (nI k)), some (.int (300 + (9 * (nI k)))), some (.int 1), some (.int x8)], [], h1)) rfl ⟨trivial, ?_, trivial, trivial, trivial, trivial, trivial, trivial, trivial, trivial, trivial⟩ ?_
            · rw [show (300 + (9 * (nI k))) + 4 = nI (300 + 9 * k + 4) from ix9 (f := 4) (by omega) (by decide)]; exact ibd_of (B := 3400) rfl (tx_0 _ (by omega)) ((tx_lt (b := 3400) (by omega) (by decide)).mpr (by omega))
            refine br (fun b5 => ?_) (fun b5 => ?_)
            ·
              refine go hX 15 (gs := [True, True, ibd ((300 + (9 * (nI k))) + 4) 3400, True, True, True, True, True, True, True, True, True, True, True, True]) (z' := (if (h1.1 66 ((300 + (9 * (nI k))) + 4)) = 1 then 142 else 151, [some (.ref 65), some (.int s), some (.int (nI v)), some (.int (nI (ixTk T k))), some (.int (nI (wrT T W v k))), some (.int (nI k)), some (.int (300 + (9 * (nI k)))), some (.int 1), some (.int 0)], [.int (nI (wrT T W v k))], h1)) rfl ⟨trivial, trivial, ?_, trivial, trivial, trivial, trivial, trivial, trivial, trivial, trivial, trivial, trivial, trivial, trivial, trivial⟩ ?_
              · rw [show (300 + (9 * (nI k))) + 4 = nI (300 + 9 * k + 4) from ix9 (f := 4) (by omega) (by decide)]; exact ibd_of (B := 3400) rfl (tx_0 _ (by omega)) ((tx_lt (b := 3400) (by omega) (by decide)).mpr (by omega))
              refine br (fun b6 => ?_) (fun b6 => ?_)
              ·
                refine go hX 32 (gs := [True, True, True, ibd ((300 + (9 * (nI k))) + 7) 3400, True, True, True, True, True, True, True, True, ibd ((300 + (9 * (nI k))) + 4) 3400, ibd ((300 + (9 * (nI k))) + 4) 3400, True, True, True, True, True, True, True, True, True, True, True, True, True, True, True, True, True, True]) (z' := (38, [some (.ref 65), some (.int s), some (.int (nI v)), some (.int ((nI (ixTk T k)) + 1)), some (.int ((nI (wrT T W v k)) + 1)), some (.int ((nI k) + 1)), some (.int (300 + (9 * (nI k)))), some (.int 1), some (.int 0)], [], (hI (hI h1 66 ((300 + (9 * (nI k))) + 4) (h1.1 66 ((300 + (9 * (nI k))) + 4))) 66 ((300 + (9 * (nI k))) + 7) 0))) rfl ⟨trivial, trivial, trivial, ?_, trivial, trivial, trivial, trivial, trivial, trivial, trivial, trivial, ?_, ?_, trivial, trivial, trivial, trivial, trivial, trivial, trivial, trivial, trivial, trivial, trivial, trivial, trivial, trivial, trivial, trivial, trivial, trivial, trivial⟩ ?_
                · rw [show (300 + (9 * (nI k))) + 7 = nI (300 + 9 * k + 7) from ix9 (f := 7) (by omega) (by decide)]; exact ibd_of (B := 3400) rfl (tx_0 _ (by omega)) ((tx_lt (b := 3400) (by omega) (by decide)).mpr (by omega))
                · rw [show (300 + (9 * (nI k))) + 4 = nI (300 + 9 * k + 4) from ix9 (f := 4) (by omega) (by decide)]; exact ibd_of (B := 3400) rfl (tx_0 _ (by omega)) ((tx_lt (b := 3400) (by omega) (by decide)).mpr (by omega))
                · rw [show (300 + (9 * (nI k))) + 4 = nI (300 + 9 * k + 4) from ix9 (f := 4) (by omega) (by decide)]; exact ibd_of (B := 3400) rfl (tx_0 _ (by omega)) ((tx_lt (b := 3400) (by omega) (by decide)).mpr (by omega))
                have t : T k = true := (hT k kx).mp ⟨by rw [← e0]; exact bk, by rw [← e1]; exact b3⟩
                have sb : v.testBit (ixTk T k) = true := by
                  have z := b4
                  rw [shr_n hv (by omega)] at z
                  exact (sb_of hv).mp z
                have w0 := b5
                rw [ew] at w0
                have w1 := b6
                rw [ew] at w1
                exact absurd (w0.symm.trans w1) (by decide)
              ·
                refine go hX 29 (gs := [True, True, True, ibd ((300 + (9 * (nI k))) + 7) 3400, True, True, True, True, True, True, True, True, ibd ((300 + (9 * (nI k))) + 4) 3400, ibd ((300 + (9 * (nI k))) + 4) 3400, True, True, True, True, True, True, True, True, True, True, True, True, True, True, True]) (z' := (38, [some (.ref 65), some (.int s), some (.int (nI v)), some (.int ((nI (ixTk T k)) + 1)), some (.int ((nI (wrT T W v k)) + 0)), some (.int ((nI k) + 1)), some (.int (300 + (9 * (nI k)))), some (.int 1), some (.int 0)], [], (hI (hI h1 66 ((300 + (9 * (nI k))) + 4) (h1.1 66 ((300 + (9 * (nI k))) + 4))) 66 ((300 + (9 * (nI k))) + 7) 0))) rfl ⟨trivial, trivial, trivial, ?_, trivial, trivial, trivial, trivial, trivial, trivial, trivial, trivial, ?_, ?_, trivial, trivial, trivial, trivial, trivial, trivial, trivial, trivial, trivial, trivial, trivial, trivial, trivial, trivial, trivial, trivial⟩ ?_
                · rw [show (300 + (9 * (nI k))) + 7 = nI (300 + 9 * k + 7) from ix9 (f := 7) (by omega) (by decide)]; exact ibd_of (B := 3400) rfl (tx_0 _ (by omega)) ((tx_lt (b := 3400) (by omega) (by decide)).mpr (by omega))
                · rw [show (300 + (9 * (nI k))) + 4 = nI (300 + 9 * k + 4) from ix9 (f := 4) (by omega) (by decide)]; exact ibd_of (B := 3400) rfl (tx_0 _ (by omega)) ((tx_lt (b := 3400) (by omega) (by decide)).mpr (by omega))
                · rw [show (300 + (9 * (nI k))) + 4 = nI (300 + 9 * k + 4) from ix9 (f := 4) (by omega) (by decide)]; exact ibd_of (B := 3400) rfl (tx_0 _ (by omega)) ((tx_lt (b := 3400) (by omega) (by decide)).mpr (by omega))
                have t : T k = true := (hT k kx).mp ⟨by rw [← e0]; exact bk, by rw [← e1]; exact b3⟩
                have sb : v.testBit (ixTk T k) = true := by
                  have z := b4
                  rw [shr_n hv (by omega)] at z
                  exact (sb_of hv).mp z
                have w0 := b5
                rw [ew] at w0
                have w1 := b6
                rw [ew] at w1
                have wb : wrB T W v k = false := by unfold wrB mssB; simp [sb, t, w0, w1]
                have bx : (h1.1 66 ((300 + (9 * (nI k))) + 4)) = bWn T W M v k := by rw [ew]; unfold bWn mssB; simp [sb, t, w0, w1]
                have by_ : 0 = bMn T W M v k := by unfold bMn mssB; simp [sb, t, w0, w1]
                have B1 := Bl.w2 (Or.inr rfl) (by decide) B (by omega) bx by_
                rw [← i7, ← i4] at B1
                rw [show nI (ixTk T k) + 1 = nI (ixTk T (k + 1)) by rw [ix_t t, tx_1]]
                rw [Int32.add_zero, wr_f (T := T) (W := W) (v := v) (k := k) (by rw [wb, Bool.and_false]), tx_1]
                exact ih (k + 1) (Nat.lt_succ_self k) (by omega) B1 (Or.inr (Or.inr ⟨_, _, _, rfl, rfl, rfl⟩))
            ·
              refine go hX 13 (gs := [True, True, ibd ((300 + (9 * (nI k))) + 4) 3400, True, True, True, True, True, True, True, True, True, True]) (z' := (if (h1.1 66 ((300 + (9 * (nI k))) + 4)) = 1 then 142 else 151, [some (.ref 65), some (.int s), some (.int (nI v)), some (.int (nI (ixTk T k))), some (.int (nI (wrT T W v k))), some (.int (nI k)), some (.int (300 + (9 * (nI k)))), some (.int 1), some (.int 0)], [.int (nI (wrT T W v k))], h1)) rfl ⟨trivial, trivial, ?_, trivial, trivial, trivial, trivial, trivial, trivial, trivial, trivial, trivial, trivial, trivial⟩ ?_
              · rw [show (300 + (9 * (nI k))) + 4 = nI (300 + 9 * k + 4) from ix9 (f := 4) (by omega) (by decide)]; exact ibd_of (B := 3400) rfl (tx_0 _ (by omega)) ((tx_lt (b := 3400) (by omega) (by decide)).mpr (by omega))
              refine br (fun b7 => ?_) (fun b7 => ?_)
              ·
                refine go hX 32 (gs := [True, True, True, ibd ((300 + (9 * (nI k))) + 7) 3400, True, True, True, True, True, True, True, True, ibd ((300 + (9 * (nI k))) + 4) 3400, ibd ((300 + (9 * (nI k))) + 4) 3400, True, True, True, True, True, True, True, True, True, True, True, True, True, True, True, True, True, True]) (z' := (38, [some (.ref 65), some (.int s), some (.int (nI v)), some (.int ((nI (ixTk T k)) + 1)), some (.int ((nI (wrT T W v k)) + 1)), some (.int ((nI k) + 1)), some (.int (300 + (9 * (nI k)))), some (.int 1), some (.int 0)], [], (hI (hI h1 66 ((300 + (9 * (nI k))) + 4) (h1.1 66 ((300 + (9 * (nI k))) + 4))) 66 ((300 + (9 * (nI k))) + 7) 0))) rfl ⟨trivial, trivial, trivial, ?_, trivial, trivial, trivial, trivial, trivial, trivial, trivial, trivial, ?_, ?_, trivial, trivial, trivial, trivial, trivial, trivial, trivial, trivial, trivial, trivial, trivial, trivial, trivial, trivial, trivial, trivial, trivial, trivial, trivial⟩ ?_
                · rw [show (300 + (9 * (nI k))) + 7 = nI (300 + 9 * k + 7) from ix9 (f := 7) (by omega) (by decide)]; exact ibd_of (B := 3400) rfl (tx_0 _ (by omega)) ((tx_lt (b := 3400) (by omega) (by decide)).mpr (by omega))
                · rw [show (300 + (9 * (nI k))) + 4 = nI (300 + 9 * k + 4) from ix9 (f := 4) (by omega) (by decide)]; exact ibd_of (B := 3400) rfl (tx_0 _ (by omega)) ((tx_lt (b := 3400) (by omega) (by decide)).mpr (by omega))
                · rw [show (300 + (9 * (nI k))) + 4 = nI (300 + 9 * k + 4) from ix9 (f := 4) (by omega) (by decide)]; exact ibd_of (B := 3400) rfl (tx_0 _ (by omega)) ((tx_lt (b := 3400) (by omega) (by decide)).mpr (by omega))
                have t : T k = true := (hT k kx).mp ⟨by rw [← e0]; exact bk, by rw [← e1]; exact b3⟩
                have sb : v.testBit (ixTk T k) = true := by
                  have z := b4
                  rw [shr_n hv (by omega)] at z
                  exact (sb_of hv).mp z
                have w0 := b5
                rw [ew] at w0
                have w1 := b7
                rw [ew] at w1
                have wb : wrB T W v k = true := by unfold wrB mssB; simp [sb, t, w0, w1]
                have bx : (h1.1 66 ((300 + (9 * (nI k))) + 4)) = bWn T W M v k := by rw [ew]; unfold bWn mssB; simp [sb, t, w0, w1]
                have by_ : 0 = bMn T W M v k := by unfold bMn mssB; simp [sb, t, w0, w1]
                have B1 := Bl.w2 (Or.inr rfl) (by decide) B (by omega) bx by_
                rw [← i7, ← i4] at B1
                rw [show nI (ixTk T k) + 1 = nI (ixTk T (k + 1)) by rw [ix_t t, tx_1]]
                rw [wr_t t wb, tx_1]
                exact ih (k + 1) (Nat.lt_succ_self k) (by omega) B1 (Or.inr (Or.inr ⟨_, _, _, rfl, rfl, rfl⟩))
              ·
                refine go hX 29 (gs := [True, True, True, ibd ((300 + (9 * (nI k))) + 7) 3400, True, True, True, True, True, True, True, True, ibd ((300 + (9 * (nI k))) + 4) 3400, ibd ((300 + (9 * (nI k))) + 4) 3400, True, True, True, True, True, True, True, True, True, True, True, True, True, True, True]) (z' := (38, [some (.ref 65), some (.int s), some (.int (nI v)), some (.int ((nI (ixTk T k)) + 1)), some (.int ((nI (wrT T W v k)) + 0)), some (.int ((nI k) + 1)), some (.int (300 + (9 * (nI k)))), some (.int 1), some (.int 0)], [], (hI (hI h1 66 ((300 + (9 * (nI k))) + 4) (h1.1 66 ((300 + (9 * (nI k))) + 4))) 66 ((300 + (9 * (nI k))) + 7) 0))) rfl ⟨trivial, trivial, trivial, ?_, trivial, trivial, trivial, trivial, trivial, trivial, trivial, trivial, ?_, ?_, trivial, trivial, trivial, trivial, trivial, trivial, trivial, trivial, trivial, trivial, trivial, trivial, trivial, trivial, trivial, trivial⟩ ?_
                · rw [show (300 + (9 * (nI k))) + 7 = nI (300 + 9 * k + 7) from ix9 (f := 7) (by omega) (by decide)]; exact ibd_of (B := 3400) rfl (tx_0 _ (by omega)) ((tx_lt (b := 3400) (by omega) (by decide)).mpr (by omega))
                · rw [show (300 + (9 * (nI k))) + 4 = nI (300 + 9 * k + 4) from ix9 (f := 4) (by omega) (by decide)]; exact ibd_of (B := 3400) rfl (tx_0 _ (by omega)) ((tx_lt (b := 3400) (by omega) (by decide)).mpr (by omega))
                · rw [show (300 + (9 * (nI k))) + 4 = nI (300 + 9 * k + 4) from ix9 (f := 4) (by omega) (by decide)]; exact ibd_of (B := 3400) rfl (tx_0 _ (by omega)) ((tx_lt (b := 3400) (by omega) (by decide)).mpr (by omega))
                have t : T k = true := (hT k kx).mp ⟨by rw [← e0]; exact bk, by rw [← e1]; exact b3⟩
                have sb : v.testBit (ixTk T k) = true := by
                  have z := b4
                  rw [shr_n hv (by omega)] at z
                  exact (sb_of hv).mp z
                have w0 := b5
                rw [ew] at w0
                have w1 := b7
                rw [ew] at w1
                have wb : wrB T W v k = false := by unfold wrB mssB; simp [sb, t, w0, w1]
                have bx : (h1.1 66 ((300 + (9 * (nI k))) + 4)) = bWn T W M v k := by rw [ew]; unfold bWn mssB; simp [sb, t, w0, w1]
                have by_ : 0 = bMn T W M v k := by unfold bMn mssB; simp [sb, t, w0, w1]
                have B1 := Bl.w2 (Or.inr rfl) (by decide) B (by omega) bx by_
                rw [← i7, ← i4] at B1
                rw [show nI (ixTk T k) + 1 = nI (ixTk T (k + 1)) by rw [ix_t t, tx_1]]
                rw [Int32.add_zero, wr_f (T := T) (W := W) (v := v) (k := k) (by rw [wb, Bool.and_false]), tx_1]
                exact ih (k + 1) (Nat.lt_succ_self k) (by omega) B1 (Or.inr (Or.inr ⟨_, _, _, rfl, rfl, rfl⟩))
          ·
            refine go hX 9 (gs := [True, ibd ((300 + (9 * (nI k))) + 4) 3400, True, True, True, True, True, True, True]) (z' := (if (h1.1 66 ((300 + (9 * (nI k))) + 4)) = 0 then 110 else 119, [some (.ref 65), some (.int s), some (.int (nI v)), some (.int (nI (ixTk T k))), some (.int (nI (wrT T W v k))), some (.int (nI k)), some (.int (300 + (9 * (nI k)))), some (.int 0), some (.int x8)], [], h1)) rfl ⟨trivial, ?_, trivial, trivial, trivial, trivial, trivial, trivial, trivial, trivial⟩ ?_
            · rw [show (300 + (9 * (nI k))) + 4 = nI (300 + 9 * k + 4) from ix9 (f := 4) (by omega) (by decide)]; exact ibd_of (B := 3400) rfl (tx_0 _ (by omega)) ((tx_lt (b := 3400) (by omega) (by decide)).mpr (by omega))
            refine br (fun b8 => ?_) (fun b8 => ?_)
            ·
              refine go hX 27 (gs := [True, True, ibd ((300 + (9 * (nI k))) + 7) 3400, True, True, True, True, True, True, True, True, True, True, True, True, True, True, True, True, True, True, True, True, True, True, True, True]) (z' := (if (h1.1 66 ((300 + (9 * (nI k))) + 7)) = 1 then 182 else 186, [some (.ref 65), some (.int s), some (.int (nI v)), some (.int (nI (ixTk T k))), some (.int ((nI (wrT T W v k)) + 1)), some (.int (nI k)), some (.int (300 + (9 * (nI k)))), some (.int 0), some (.int 1)], [.int ((300 + (9 * (nI k))) + 4), .ref 66], h1)) rfl ⟨trivial, trivial, ?_, trivial, trivial, trivial, trivial, trivial, trivial, trivial, trivial, trivial, trivial, trivial, trivial, trivial, trivial, trivial, trivial, trivial, trivial, trivial, trivial, trivial, trivial, trivial, trivial, trivial⟩ ?_
              · rw [show (300 + (9 * (nI k))) + 7 = nI (300 + 9 * k + 7) from ix9 (f := 7) (by omega) (by decide)]; exact ibd_of (B := 3400) rfl (tx_0 _ (by omega)) ((tx_lt (b := 3400) (by omega) (by decide)).mpr (by omega))
              refine br (fun b9 => ?_) (fun b9 => ?_)
              ·
                refine go hX 16 (gs := [True, True, True, ibd ((300 + (9 * (nI k))) + 7) 3400, True, True, True, True, True, True, True, True, True, ibd ((300 + (9 * (nI k))) + 4) 3400, True, True]) (z' := (38, [some (.ref 65), some (.int s), some (.int (nI v)), some (.int ((nI (ixTk T k)) + 1)), some (.int ((nI (wrT T W v k)) + 1)), some (.int ((nI k) + 1)), some (.int (300 + (9 * (nI k)))), some (.int 0), some (.int 1)], [], (hI (hI h1 66 ((300 + (9 * (nI k))) + 4) 2) 66 ((300 + (9 * (nI k))) + 7) 1))) rfl ⟨trivial, trivial, trivial, ?_, trivial, trivial, trivial, trivial, trivial, trivial, trivial, trivial, trivial, ?_, trivial, trivial, trivial⟩ ?_
                · rw [show (300 + (9 * (nI k))) + 7 = nI (300 + 9 * k + 7) from ix9 (f := 7) (by omega) (by decide)]; exact ibd_of (B := 3400) rfl (tx_0 _ (by omega)) ((tx_lt (b := 3400) (by omega) (by decide)).mpr (by omega))
                · rw [show (300 + (9 * (nI k))) + 4 = nI (300 + 9 * k + 4) from ix9 (f := 4) (by omega) (by decide)]; exact ibd_of (B := 3400) rfl (tx_0 _ (by omega)) ((tx_lt (b := 3400) (by omega) (by decide)).mpr (by omega))
                have t : T k = true := (hT k kx).mp ⟨by rw [← e0]; exact bk, by rw [← e1]; exact b3⟩
                have sb : v.testBit (ixTk T k) = false := by
                  have z := b4
                  rw [shr_n hv (by omega)] at z
                  exact (Bool.not_eq_true _).mp (fun y => z ((sb_of hv).mpr y))
                have w0 := b8
                rw [ew] at w0
                have m1 := b9
                rw [em] at m1
                have wb : wrB T W v k = true := by unfold wrB mssB; simp [sb, t, w0, m1]
                have bx : 2 = bWn T W M v k := by unfold bWn mssB; simp [sb, t, w0, m1]
                have by_ : 1 = bMn T W M v k := by unfold bMn mssB; simp [sb, t, w0, m1]
                have B1 := Bl.w2 (Or.inr rfl) (by decide) B (by omega) bx by_
                rw [← i7, ← i4] at B1
                rw [show nI (ixTk T k) + 1 = nI (ixTk T (k + 1)) by rw [ix_t t, tx_1]]
                rw [wr_t t wb, tx_1]
                exact ih (k + 1) (Nat.lt_succ_self k) (by omega) B1 (Or.inr (Or.inr ⟨_, _, _, rfl, rfl, rfl⟩))
              ·
                refine go hX 20 (gs := [True, True, True, ibd ((300 + (9 * (nI k))) + 7) 3400, True, True, True, True, True, True, True, True, True, ibd ((300 + (9 * (nI k))) + 4) 3400, ibd ((300 + (9 * (nI k))) + 4) 3400, True, True, True, True, True]) (z' := (38, [some (.ref 65), some (.int s), some (.int (nI v)), some (.int ((nI (ixTk T k)) + 1)), some (.int ((nI (wrT T W v k)) + 1)), some (.int ((nI k) + 1)), some (.int (300 + (9 * (nI k)))), some (.int 0), some (.int 1)], [], (hI (hI h1 66 ((300 + (9 * (nI k))) + 4) (h1.1 66 ((300 + (9 * (nI k))) + 4))) 66 ((300 + (9 * (nI k))) + 7) 1))) rfl ⟨trivial, trivial, trivial, ?_, trivial, trivial, trivial, trivial, trivial, trivial, trivial, trivial, trivial, ?_, ?_, trivial, trivial, trivial, trivial, trivial, trivial⟩ ?_
                · rw [show (300 + (9 * (nI k))) + 7 = nI (300 + 9 * k + 7) from ix9 (f := 7) (by omega) (by decide)]; exact ibd_of (B := 3400) rfl (tx_0 _ (by omega)) ((tx_lt (b := 3400) (by omega) (by decide)).mpr (by omega))
                · rw [show (300 + (9 * (nI k))) + 4 = nI (300 + 9 * k + 4) from ix9 (f := 4) (by omega) (by decide)]; exact ibd_of (B := 3400) rfl (tx_0 _ (by omega)) ((tx_lt (b := 3400) (by omega) (by decide)).mpr (by omega))
                · rw [show (300 + (9 * (nI k))) + 4 = nI (300 + 9 * k + 4) from ix9 (f := 4) (by omega) (by decide)]; exact ibd_of (B := 3400) rfl (tx_0 _ (by omega)) ((tx_lt (b := 3400) (by omega) (by decide)).mpr (by omega))
                have t : T k = true := (hT k kx).mp ⟨by rw [← e0]; exact bk, by rw [← e1]; exact b3⟩
                have sb : v.testBit (ixTk T k) = false := by
                  have z := b4
                  rw [shr_n hv (by omega)] at z
                  exact (Bool.not_eq_true _).mp (fun y => z ((sb_of hv).mpr y))
                have w0 := b8
                rw [ew] at w0
                have m1 := b9
                rw [em] at m1
                have wb : wrB T W v k = true := by unfold wrB mssB; simp [sb, t, w0, m1]
                have bx : (h1.1 66 ((300 + (9 * (nI k))) + 4)) = bWn T W M v k := by rw [ew]; unfold bWn mssB; simp [sb, t, w0, m1]
                have by_ : 1 = bMn T W M v k := by unfold bMn mssB; simp [sb, t, w0, m1]
                have B1 := Bl.w2 (Or.inr rfl) (by decide) B (by omega) bx by_
                rw [← i7, ← i4] at B1
                rw [show nI (ixTk T k) + 1 = nI (ixTk T (k + 1)) by rw [ix_t t, tx_1]]
                rw [wr_t t wb, tx_1]
                exact ih (k + 1) (Nat.lt_succ_self k) (by omega) B1 (Or.inr (Or.inr ⟨_, _, _, rfl, rfl, rfl⟩))
            ·
              refine go hX 13 (gs := [True, True, ibd ((300 + (9 * (nI k))) + 4) 3400, True, True, True, True, True, True, True, True, True, True]) (z' := (if (h1.1 66 ((300 + (9 * (nI k))) + 4)) = 1 then 142 else 151, [some (.ref 65), some (.int s), some (.int (nI v)), some (.int (nI (ixTk T k))), some (.int (nI (wrT T W v k))), some (.int (nI k)), some (.int (300 + (9 * (nI k)))), some (.int 0), some (.int 0)], [.int (nI (wrT T W v k))], h1)) rfl ⟨trivial, trivial, ?_, trivial, trivial, trivial, trivial, trivial, trivial, trivial, trivial, trivial, trivial, trivial⟩ ?_
              · rw [show (300 + (9 * (nI k))) + 4 = nI (300 + 9 * k + 4) from ix9 (f := 4) (by omega) (by decide)]; exact ibd_of (B := 3400) rfl (tx_0 _ (by omega)) ((tx_lt (b := 3400) (by omega) (by decide)).mpr (by omega))
              refine br (fun b10 => ?_) (fun b10 => ?_)
              ·
                refine go hX 31 (gs := [True, True, True, ibd ((300 + (9 * (nI k))) + 7) 3400, True, True, True, True, True, True, True, True, ibd ((300 + (9 * (nI k))) + 4) 3400, ibd ((300 + (9 * (nI k))) + 4) 3400, True, True, True, True, True, True, True, True, True, True, True, True, True, True, True, True, True]) (z' := (38, [some (.ref 65), some (.int s), some (.int (nI v)), some (.int ((nI (ixTk T k)) + 1)), some (.int ((nI (wrT T W v k)) + 0)), some (.int ((nI k) + 1)), some (.int (300 + (9 * (nI k)))), some (.int 0), some (.int 0)], [], (hI (hI h1 66 ((300 + (9 * (nI k))) + 4) (h1.1 66 ((300 + (9 * (nI k))) + 4))) 66 ((300 + (9 * (nI k))) + 7) 0))) rfl ⟨trivial, trivial, trivial, ?_, trivial, trivial, trivial, trivial, trivial, trivial, trivial, trivial, ?_, ?_, trivial, trivial, trivial, trivial, trivial, trivial, trivial, trivial, trivial, trivial, trivial, trivial, trivial, trivial, trivial, trivial, trivial, trivial⟩ ?_
                · rw [show (300 + (9 * (nI k))) + 7 = nI (300 + 9 * k + 7) from ix9 (f := 7) (by omega) (by decide)]; exact ibd_of (B := 3400) rfl (tx_0 _ (by omega)) ((tx_lt (b := 3400) (by omega) (by decide)).mpr (by omega))
                · rw [show (300 + (9 * (nI k))) + 4 = nI (300 + 9 * k + 4) from ix9 (f := 4) (by omega) (by decide)]; exact ibd_of (B := 3400) rfl (tx_0 _ (by omega)) ((tx_lt (b := 3400) (by omega) (by decide)).mpr (by omega))
                · rw [show (300 + (9 * (nI k))) + 4 = nI (300 + 9 * k + 4) from ix9 (f := 4) (by omega) (by decide)]; exact ibd_of (B := 3400) rfl (tx_0 _ (by omega)) ((tx_lt (b := 3400) (by omega) (by decide)).mpr (by omega))
                have t : T k = true := (hT k kx).mp ⟨by rw [← e0]; exact bk, by rw [← e1]; exact b3⟩
                have sb : v.testBit (ixTk T k) = false := by
                  have z := b4
                  rw [shr_n hv (by omega)] at z
                  exact (Bool.not_eq_true _).mp (fun y => z ((sb_of hv).mpr y))
                have w0 := b8
                rw [ew] at w0
                have w1 := b10
                rw [ew] at w1
                have wb : wrB T W v k = false := by unfold wrB mssB; simp [sb, t, w0, w1]
                have bx : (h1.1 66 ((300 + (9 * (nI k))) + 4)) = bWn T W M v k := by rw [ew]; unfold bWn mssB; simp [sb, t, w0, w1]
                have by_ : 0 = bMn T W M v k := by unfold bMn mssB; simp [sb, t, w0, w1]
                have B1 := Bl.w2 (Or.inr rfl) (by decide) B (by omega) bx by_
                rw [← i7, ← i4] at B1
                rw [show nI (ixTk T k) + 1 = nI (ixTk T (k + 1)) by rw [ix_t t, tx_1]]
                rw [Int32.add_zero, wr_f (T := T) (W := W) (v := v) (k := k) (by rw [wb, Bool.and_false]), tx_1]
                exact ih (k + 1) (Nat.lt_succ_self k) (by omega) B1 (Or.inr (Or.inr ⟨_, _, _, rfl, rfl, rfl⟩))
              ·
                refine go hX 29 (gs := [True, True, True, ibd ((300 + (9 * (nI k))) + 7) 3400, True, True, True, True, True, True, True, True, ibd ((300 + (9 * (nI k))) + 4) 3400, ibd ((300 + (9 * (nI k))) + 4) 3400, True, True, True, True, True, True, True, True, True, True, True, True, True, True, True]) (z' := (38, [some (.ref 65), some (.int s), some (.int (nI v)), some (.int ((nI (ixTk T k)) + 1)), some (.int ((nI (wrT T W v k)) + 0)), some (.int ((nI k) + 1)), some (.int (300 + (9 * (nI k)))), some (.int 0), some (.int 0)], [], (hI (hI h1 66 ((300 + (9 * (nI k))) + 4) (h1.1 66 ((300 + (9 * (nI k))) + 4))) 66 ((300 + (9 * (nI k))) + 7) 0))) rfl ⟨trivial, trivial, trivial, ?_, trivial, trivial, trivial, trivial, trivial, trivial, trivial, trivial, ?_, ?_, trivial, trivial, trivial, trivial, trivial, trivial, trivial, trivial, trivial, trivial, trivial, trivial, trivial, trivial, trivial, trivial⟩ ?_
                · rw [show (300 + (9 * (nI k))) + 7 = nI (300 + 9 * k + 7) from ix9 (f := 7) (by omega) (by decide)]; exact ibd_of (B := 3400) rfl (tx_0 _ (by omega)) ((tx_lt (b := 3400) (by omega) (by decide)).mpr (by omega))
                · rw [show (300 + (9 * (nI k))) + 4 = nI (300 + 9 * k + 4) from ix9 (f := 4) (by omega) (by decide)]; exact ibd_of (B := 3400) rfl (tx_0 _ (by omega)) ((tx_lt (b := 3400) (by omega) (by decide)).mpr (by omega))
                · rw [show (300 + (9 * (nI k))) + 4 = nI (300 + 9 * k + 4) from ix9 (f := 4) (by omega) (by decide)]; exact ibd_of (B := 3400) rfl (tx_0 _ (by omega)) ((tx_lt (b := 3400) (by omega) (by decide)).mpr (by omega))
                have t : T k = true := (hT k kx).mp ⟨by rw [← e0]; exact bk, by rw [← e1]; exact b3⟩
                have sb : v.testBit (ixTk T k) = false := by
                  have z := b4
                  rw [shr_n hv (by omega)] at z
                  exact (Bool.not_eq_true _).mp (fun y => z ((sb_of hv).mpr y))
                have w0 := b8
                rw [ew] at w0
                have w1 := b10
                rw [ew] at w1
                have wb : wrB T W v k = false := by unfold wrB mssB; simp [sb, t, w0, w1]
                have bx : (h1.1 66 ((300 + (9 * (nI k))) + 4)) = bWn T W M v k := by rw [ew]; unfold bWn mssB; simp [sb, t, w0, w1]
                have by_ : 0 = bMn T W M v k := by unfold bMn mssB; simp [sb, t, w0, w1]
                have B1 := Bl.w2 (Or.inr rfl) (by decide) B (by omega) bx by_
                rw [← i7, ← i4] at B1
                rw [show nI (ixTk T k) + 1 = nI (ixTk T (k + 1)) by rw [ix_t t, tx_1]]
                rw [Int32.add_zero, wr_f (T := T) (W := W) (v := v) (k := k) (by rw [wb, Bool.and_false]), tx_1]
                exact ih (k + 1) (Nat.lt_succ_self k) (by omega) B1 (Or.inr (Or.inr ⟨_, _, _, rfl, rfl, rfl⟩))
        ·
          refine go hX 3 (gs := [True, True, True]) (z' := (38, [some (.ref 65), some (.int s), some (.int (nI v)), some (.int (nI (ixTk T k))), some (.int (nI (wrT T W v k))), some (.int ((nI k) + 1)), some (.int (300 + (9 * (nI k)))), some (.int x7), some (.int x8)], [], h1)) rfl ⟨trivial, trivial, trivial, trivial⟩ ?_
          have t : ¬ T k = true := fun z => b3 (by rw [e1]; exact ((hT k kx).mpr z).2)
          rw [tx_1]
          have ih1 : X (38, [some (.ref 65), some (.int s), some (.int (nI v)), some (.int (nI (ixTk T (k + 1)))), some (.int (nI (wrT T W v (k + 1)))), some (.int (nI (k + 1))), some (.int (300 + (9 * (nI k)))), some (.int x7), some (.int x8)], [], h1) := ih (k + 1) (Nat.lt_succ_self k) (by omega) (B.no t) (Or.inr (Or.inr ⟨_, _, _, rfl, rfl, rfl⟩))
          rw [ix_f t, ← wr_f (W := W) (v := v) (T := T) (k := k) (by rw [(Bool.not_eq_true _).mp t]; rfl)] at ih1
          exact ih1
      ·
        show X (63, [some (.ref 65), some (.int s), some (.int (nI v)), some (.int (nI (ixTk T k))), some (.int (nI (wrT T W v k))), some (.int (nI k)), some (.int (300 + (9 * (nI k)))), some (.int x7), some (.int x8)], [.int 0], h1)
        refine go hX 3 (gs := [True, True, True]) (z' := (38, [some (.ref 65), some (.int s), some (.int (nI v)), some (.int (nI (ixTk T k))), some (.int (nI (wrT T W v k))), some (.int ((nI k) + 1)), some (.int (300 + (9 * (nI k)))), some (.int x7), some (.int x8)], [], h1)) rfl ⟨trivial, trivial, trivial, trivial⟩ ?_
        have t : ¬ T k = true := fun z => bk (by rw [e0]; exact ((hT k kx).mpr z).1)
        rw [tx_1]
        have ih1 : X (38, [some (.ref 65), some (.int s), some (.int (nI v)), some (.int (nI (ixTk T (k + 1)))), some (.int (nI (wrT T W v (k + 1)))), some (.int (nI (k + 1))), some (.int (300 + (9 * (nI k)))), some (.int x7), some (.int x8)], [], h1) := ih (k + 1) (Nat.lt_succ_self k) (by omega) (B.no t) (Or.inr (Or.inr ⟨_, _, _, rfl, rfl, rfl⟩))
        rw [ix_f t, ← wr_f (W := W) (v := v) (T := T) (k := k) (by rw [(Bool.not_eq_true _).mp t]; rfl)] at ih1
        exact ih1
theorem c_bellB {d : Nat} {Q : Option Value → Hp → Prop} {h : Hp} {n : Nat} (n30 : n ≤ 30) (en : h.1 66 3 = nI n) {s z : Int32} (s3 : (0 ≤ s ∧ s ≤ h.1 66 1 - 1) → s < 3) {T : Nat → Bool} {W M : Nat → Int32} (hT : ∀ k, k < n → (((1 ≤ (h.1 66 (300 + (9 * (nI k)))) ∧ (h.1 66 (300 + (9 * (nI k)))) ≤ 3) ∧ h.1 66 ((300 + (9 * (nI k))) + 1) = s) ↔ T k = true)) (hW : ∀ i, i < 30 → h.1 66 (nI (300 + 9 * i + 4)) = W i) (hM : ∀ i, i < 30 → h.1 66 (nI (300 + 9 * i + 7)) = M i) (gG : (0 ≤ s ∧ s ≤ h.1 66 1 - 1) → ((0 : Int64) ≤ Int32.toInt64 z ∧ Int32.toInt64 z ≤ ((1 <<< ((nI (ixTk T n) : Int32).toInt64 &&& 63)) - 1)) → ∃ v : Nat, v < 2147483648 ∧ z = nI v) (kB : ¬ ((0 ≤ s ∧ s ≤ h.1 66 1 - 1) ∧ ((0 : Int64) ≤ Int32.toInt64 z ∧ Int32.toInt64 z ≤ ((1 <<< ((nI (ixTk T n) : Int32).toInt64 &&& 63)) - 1))) → Q (some (.int (-1000000001))) h) (K : (0 ≤ s ∧ s ≤ h.1 66 1 - 1) → ∀ v, v < 2147483648 → z = nI v → ((0 : Int64) ≤ Int32.toInt64 z ∧ Int32.toInt64 z ≤ ((1 <<< ((nI (ixTk T n) : Int32).toInt64 &&& 63)) - 1)) → ∀ h1, Bl 66 300 9 h h1 T W M v n → Q (some (.int (nI (wrT T W v n)))) (hI h1 66 ((10 + (10 * s)) + 7) (if nI (wrT T W v n) ≤ 0 then 0 else 1))) : Call (d + 4) 202 [.ref 65, .int s, .int z] h Q := by
  refine call_of (rfl : psM[202]? = some _) rfl rfl (rcvV rfl) (fun X hX => ?_)
  show X (0, [some (.ref 65), some (.int s), some (.int z), none, none, none, none, none, none], [], h)
  refine go hX 2 (gs := [True, True]) (z' := (2, [some (.ref 65), some (.int s), some (.int z), none, none, none, none, none, none], [.int s, .ref 65], h)) rfl ⟨trivial, trivial, trivial⟩ ?_
  refine cl hX 168 2 [.ref 65, .int s] [] rfl rfl rfl rfl ?_
  refine c_isShopP (fun hP => ?_) (fun hP => ?_)
  ·
    show X (5, [some (.ref 65), some (.int s), some (.int z), none, none, none, none, none, none], [.int 1], h)
    refine go hX 8 (gs := [True, True, True, True, True, True, True, True]) (z' := (15, [some (.ref 65), some (.int s), some (.int z), none, none, none, none, none, none], [.int (-1), .int s, .ref 65, .long 1, .long 0, .long (Int32.toInt64 z)], h)) rfl ⟨trivial, trivial, trivial, trivial, trivial, trivial, trivial, trivial, trivial⟩ ?_
    refine cl hX 179 3 [.ref 65, .int s, .int (-1)] [.long 1, .long 0, .long (Int32.toInt64 z)] rfl rfl rfl rfl ?_
    refine c_toolsB n30 en hT ?_
    show X (18, [some (.ref 65), some (.int s), some (.int z), none, none, none, none, none, none], [.int (nI (ixTk T n)), .long 1, .long 0, .long (Int32.toInt64 z)], h)
    refine go hX 3 (gs := [True, True, True]) (z' := (21, [some (.ref 65), some (.int s), some (.int z), none, none, none, none, none, none], [.long ((1 <<< (((nI (ixTk T n)) : Int32).toInt64 &&& 63)) - 1), .long 0, .long (Int32.toInt64 z)], h)) rfl ⟨trivial, trivial, trivial, trivial⟩ ?_
    refine cl hX 159 3 [.long (Int32.toInt64 z), .long 0, .long ((1 <<< (((nI (ixTk T n)) : Int32).toInt64 &&& 63)) - 1)] [] rfl rfl rfl rfl ?_
    refine c_isInP (fun bw => ?_) (fun bw => ?_)
    ·
      show X (24, [some (.ref 65), some (.int s), some (.int z), none, none, none, none, none, none], [.int 1], h)
      refine go hX 7 (gs := [True, True, True, True, True, True, True]) (z' := (38, [some (.ref 65), some (.int s), some (.int z), some (.int 0), some (.int 0), some (.int 0), none, none, none], [], h)) rfl ⟨trivial, trivial, trivial, trivial, trivial, trivial, trivial, trivial⟩ ?_
      obtain ⟨v, hv, rfl⟩ : ∃ v : Nat, v < 2147483648 ∧ z = nI v := gG hP bw
      have q0 := K hP v hv rfl bw
      exact lp_bellB hX n30 en hv hP.1 (s3 hP) hT q0 (Nat.zero_le n) (Bl.st hW hM) (Or.inl ⟨rfl, rfl, rfl⟩)
    ·
      show X (24, [some (.ref 65), some (.int s), some (.int z), none, none, none, none, none, none], [.int 0], h)
      refine go hX 2 (gs := [True, True]) (z' := (29, [some (.ref 65), some (.int s), some (.int z), none, none, none, none, none, none], [.int (-1000000001)], h)) rfl ⟨trivial, trivial, trivial⟩ ?_
      refine rt_ hX (G := True) (r := some (.int (-1000000001))) rfl trivial ?_
      exact kB (fun z => bw z.2)
  ·
    show X (5, [some (.ref 65), some (.int s), some (.int z), none, none, none, none, none, none], [.int 0], h)
    refine go hX 2 (gs := [True, True]) (z' := (29, [some (.ref 65), some (.int s), some (.int z), none, none, none, none, none, none], [.int (-1000000001)], h)) rfl ⟨trivial, trivial, trivial⟩ ?_
    refine rt_ hX (G := True) (r := some (.int (-1000000001))) rfl trivial ?_
    exact kB (fun z => hP z.1)
