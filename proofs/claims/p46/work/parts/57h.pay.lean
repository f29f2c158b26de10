/-! By hand (contracts printed by wip/se/m34.py). -/
/-- h, but for what lies in two objects -/
noncomputable def ov (a b : Nat) (h g : Hp) : Hp := (fun o j => bif Nat.beq o a || Nat.beq o b then g.1 o j else h.1 o j, h.2)
noncomputable def shV (e o r4 r2 : Int32) : Int32 := (if (if 0 < (e - r4) then (e - r4) else 0) < (if o < r2 then o else r2) then (if 0 < (e - r4) then (e - r4) else 0) else (if o < r2 then o else r2))
noncomputable def shS (e o r4 r2 r3 : Int32) : Int32 := (if ((if 0 < (e - r4) then (e - r4) else 0) - (if (if 0 < (e - r4) then (e - r4) else 0) < (if o < r2 then o else r2) then (if 0 < (e - r4) then (e - r4) else 0) else (if o < r2 then o else r2))) < r3 then ((if 0 < (e - r4) then (e - r4) else 0) - (if (if 0 < (e - r4) then (e - r4) else 0) < (if o < r2 then o else r2) then (if 0 < (e - r4) then (e - r4) else 0) else (if o < r2 then o else r2))) else r3)
noncomputable def reA (e r4 : Int32) : Int32 := if 0 ≤ e - r4 then e - r4 else 0
noncomputable def reV (e o r4 r2 : Int32) : Int32 := (if reA e r4 < (if o < r2 then o else r2) then reA e r4 else (if o < r2 then o else r2))
noncomputable def reS (e o r4 r2 r3 : Int32) : Int32 := (if (reA e r4 - reV e o r4 r2) < r3 then (reA e r4 - reV e o r4 r2) else r3)
noncomputable def geP (c n : Int32) : Int32 := (if 99999 < (c + n) then 99999 else (c + n))
noncomputable def paP (c n : Int32) : Int32 := (if (c + n) < 99999 then (c + n) else 99999)
theorem c_pg2 {d : Nat} {Q : Option Value → Hp → Prop} {h : Hp} {x : Int32} (x0 : 0 ≤ x) (x1 : x < h.1 4 2) (xm : h.1 4 2 ≤ 10) (k : Q (some (.int (h.1 5 ((x * 14) + 2)))) h) : Call (d + 1) 94 [.ref 4, .int x, .int 2] h Q := by
  refine call_of (rfl : psM[94]? = some _) rfl rfl (rcvV rfl) (fun X hX => ?_)
  show X (0, [some (.ref 4), some (.int x), some (.int 2)], [], h)
  refine go hX 2 (gs := [True, True]) (z' := (if x < 0 then 24 else 4, [some (.ref 4), some (.int x), some (.int 2)], [], h)) rfl ⟨trivial, trivial, trivial⟩ ?_
  refine br (fun b1 => ?_) (fun b1 => ?_)
  ·
    refine go hX 1 (gs := [True]) (z' := (25, [some (.ref 4), some (.int x), some (.int 2)], [.int 0], h)) rfl ⟨trivial, trivial⟩ ?_
    refine rt_ hX (G := True) (r := some (.int 0)) rfl trivial ?_
    exfalso; grind
  ·
    refine go hX 4 (gs := [True, True, True, True]) (z' := (if (h.1 4 2) ≤ x then 24 else 12, [some (.ref 4), some (.int x), some (.int 2)], [], h)) rfl ⟨trivial, trivial, trivial, trivial, trivial⟩ ?_
    refine br (fun b2 => ?_) (fun b2 => ?_)
    ·
      refine go hX 1 (gs := [True]) (z' := (25, [some (.ref 4), some (.int x), some (.int 2)], [.int 0], h)) rfl ⟨trivial, trivial⟩ ?_
      refine rt_ hX (G := True) (r := some (.int 0)) rfl trivial ?_
      exfalso; grind
    ·
      refine go hX 15 (gs := [ibd ((x * 14) + 2) 140, True, True, True, True, True, True, True, True, True, True, True, True, True, True]) (z' := (39, [some (.ref 4), some (.int x), some (.int 2)], [.int (h.1 5 ((x * 14) + 2))], h)) rfl ⟨?_, trivial, trivial, trivial, trivial, trivial, trivial, trivial, trivial, trivial, trivial, trivial, trivial, trivial, trivial, trivial⟩ ?_
      · exact ibd_of (B := 140) rfl (by grind) (by grind)
      refine rt_ hX (G := True) (r := some (.int (h.1 5 ((x * 14) + 2)))) rfl trivial ?_
      exact k
theorem c_pg3 {d : Nat} {Q : Option Value → Hp → Prop} {h : Hp} {x : Int32} (x0 : 0 ≤ x) (x1 : x < h.1 4 2) (xm : h.1 4 2 ≤ 10) (k : Q (some (.int (h.1 5 ((x * 14) + 3)))) h) : Call (d + 1) 94 [.ref 4, .int x, .int 3] h Q := by
  refine call_of (rfl : psM[94]? = some _) rfl rfl (rcvV rfl) (fun X hX => ?_)
  show X (0, [some (.ref 4), some (.int x), some (.int 3)], [], h)
  refine go hX 2 (gs := [True, True]) (z' := (if x < 0 then 24 else 4, [some (.ref 4), some (.int x), some (.int 3)], [], h)) rfl ⟨trivial, trivial, trivial⟩ ?_
  refine br (fun b1 => ?_) (fun b1 => ?_)
  ·
    refine go hX 1 (gs := [True]) (z' := (25, [some (.ref 4), some (.int x), some (.int 3)], [.int 0], h)) rfl ⟨trivial, trivial⟩ ?_
    refine rt_ hX (G := True) (r := some (.int 0)) rfl trivial ?_
    exfalso; grind
  ·
    refine go hX 4 (gs := [True, True, True, True]) (z' := (if (h.1 4 2) ≤ x then 24 else 12, [some (.ref 4), some (.int x), some (.int 3)], [], h)) rfl ⟨trivial, trivial, trivial, trivial, trivial⟩ ?_
    refine br (fun b2 => ?_) (fun b2 => ?_)
    ·
      refine go hX 1 (gs := [True]) (z' := (25, [some (.ref 4), some (.int x), some (.int 3)], [.int 0], h)) rfl ⟨trivial, trivial⟩ ?_
      refine rt_ hX (G := True) (r := some (.int 0)) rfl trivial ?_
      exfalso; grind
    ·
      refine go hX 15 (gs := [ibd ((x * 14) + 3) 140, True, True, True, True, True, True, True, True, True, True, True, True, True, True]) (z' := (39, [some (.ref 4), some (.int x), some (.int 3)], [.int (h.1 5 ((x * 14) + 3))], h)) rfl ⟨?_, trivial, trivial, trivial, trivial, trivial, trivial, trivial, trivial, trivial, trivial, trivial, trivial, trivial, trivial, trivial⟩ ?_
      · exact ibd_of (B := 140) rfl (by grind) (by grind)
      refine rt_ hX (G := True) (r := some (.int (h.1 5 ((x * 14) + 3)))) rfl trivial ?_
      exact k
theorem c_ps3 {d : Nat} {Q : Option Value → Hp → Prop} {h : Hp} {x v : Int32} (x0 : 0 ≤ x) (x1 : x < h.1 4 2) (xm : h.1 4 2 ≤ 10) (k : Q none (hI h 5 ((x * 14) + 3) v)) : Call (d + 1) 95 [.ref 4, .int x, .int 3, .int v] h Q := by
  refine call_of (rfl : psM[95]? = some _) rfl rfl (rcvV rfl) (fun X hX => ?_)
  show X (0, [some (.ref 4), some (.int x), some (.int 3), some (.int v)], [], h)
  refine go hX 2 (gs := [True, True]) (z' := (if x < 0 then 24 else 4, [some (.ref 4), some (.int x), some (.int 3), some (.int v)], [], h)) rfl ⟨trivial, trivial, trivial⟩ ?_
  refine br (fun b1 => ?_) (fun b1 => ?_)
  ·
    refine rt_ hX (G := True) (r := none) rfl trivial ?_
    exfalso; grind
  ·
    refine go hX 4 (gs := [True, True, True, True]) (z' := (if (h.1 4 2) ≤ x then 24 else 12, [some (.ref 4), some (.int x), some (.int 3), some (.int v)], [], h)) rfl ⟨trivial, trivial, trivial, trivial, trivial⟩ ?_
    refine br (fun b2 => ?_) (fun b2 => ?_)
    ·
      refine rt_ hX (G := True) (r := none) rfl trivial ?_
      exfalso; grind
    ·
      refine go hX 16 (gs := [ibd ((x * 14) + 3) 140, True, True, True, True, True, True, True, True, True, True, True, True, True, True, True]) (z' := (39, [some (.ref 4), some (.int x), some (.int 3), some (.int v)], [], (hI h 5 ((x * 14) + 3) v))) rfl ⟨?_, trivial, trivial, trivial, trivial, trivial, trivial, trivial, trivial, trivial, trivial, trivial, trivial, trivial, trivial, trivial, trivial⟩ ?_
      · exact ibd_of (B := 140) rfl (by grind) (by grind)
      refine rt_ hX (G := True) (r := none) rfl trivial ?_
      exact k
theorem c_pg4 {d : Nat} {Q : Option Value → Hp → Prop} {h : Hp} {x : Int32} (x0 : 0 ≤ x) (x1 : x < h.1 4 2) (xm : h.1 4 2 ≤ 10) (k : Q (some (.int (h.1 5 ((x * 14) + 4)))) h) : Call (d + 1) 94 [.ref 4, .int x, .int 4] h Q := by
  refine call_of (rfl : psM[94]? = some _) rfl rfl (rcvV rfl) (fun X hX => ?_)
  show X (0, [some (.ref 4), some (.int x), some (.int 4)], [], h)
  refine go hX 2 (gs := [True, True]) (z' := (if x < 0 then 24 else 4, [some (.ref 4), some (.int x), some (.int 4)], [], h)) rfl ⟨trivial, trivial, trivial⟩ ?_
  refine br (fun b1 => ?_) (fun b1 => ?_)
  ·
    refine go hX 1 (gs := [True]) (z' := (25, [some (.ref 4), some (.int x), some (.int 4)], [.int 0], h)) rfl ⟨trivial, trivial⟩ ?_
    refine rt_ hX (G := True) (r := some (.int 0)) rfl trivial ?_
    exfalso; grind
  ·
    refine go hX 4 (gs := [True, True, True, True]) (z' := (if (h.1 4 2) ≤ x then 24 else 12, [some (.ref 4), some (.int x), some (.int 4)], [], h)) rfl ⟨trivial, trivial, trivial, trivial, trivial⟩ ?_
    refine br (fun b2 => ?_) (fun b2 => ?_)
    ·
      refine go hX 1 (gs := [True]) (z' := (25, [some (.ref 4), some (.int x), some (.int 4)], [.int 0], h)) rfl ⟨trivial, trivial⟩ ?_
      refine rt_ hX (G := True) (r := some (.int 0)) rfl trivial ?_
      exfalso; grind
    ·
      refine go hX 15 (gs := [ibd ((x * 14) + 4) 140, True, True, True, True, True, True, True, True, True, True, True, True, True, True]) (z' := (39, [some (.ref 4), some (.int x), some (.int 4)], [.int (h.1 5 ((x * 14) + 4))], h)) rfl ⟨?_, trivial, trivial, trivial, trivial, trivial, trivial, trivial, trivial, trivial, trivial, trivial, trivial, trivial, trivial, trivial⟩ ?_
      · exact ibd_of (B := 140) rfl (by grind) (by grind)
      refine rt_ hX (G := True) (r := some (.int (h.1 5 ((x * 14) + 4)))) rfl trivial ?_
      exact k
theorem c_ps4 {d : Nat} {Q : Option Value → Hp → Prop} {h : Hp} {x v : Int32} (x0 : 0 ≤ x) (x1 : x < h.1 4 2) (xm : h.1 4 2 ≤ 10) (k : Q none (hI h 5 ((x * 14) + 4) v)) : Call (d + 1) 95 [.ref 4, .int x, .int 4, .int v] h Q := by
  refine call_of (rfl : psM[95]? = some _) rfl rfl (rcvV rfl) (fun X hX => ?_)
  show X (0, [some (.ref 4), some (.int x), some (.int 4), some (.int v)], [], h)
  refine go hX 2 (gs := [True, True]) (z' := (if x < 0 then 24 else 4, [some (.ref 4), some (.int x), some (.int 4), some (.int v)], [], h)) rfl ⟨trivial, trivial, trivial⟩ ?_
  refine br (fun b1 => ?_) (fun b1 => ?_)
  ·
    refine rt_ hX (G := True) (r := none) rfl trivial ?_
    exfalso; grind
  ·
    refine go hX 4 (gs := [True, True, True, True]) (z' := (if (h.1 4 2) ≤ x then 24 else 12, [some (.ref 4), some (.int x), some (.int 4), some (.int v)], [], h)) rfl ⟨trivial, trivial, trivial, trivial, trivial⟩ ?_
    refine br (fun b2 => ?_) (fun b2 => ?_)
    ·
      refine rt_ hX (G := True) (r := none) rfl trivial ?_
      exfalso; grind
    ·
      refine go hX 16 (gs := [ibd ((x * 14) + 4) 140, True, True, True, True, True, True, True, True, True, True, True, True, True, True, True]) (z' := (39, [some (.ref 4), some (.int x), some (.int 4), some (.int v)], [], (hI h 5 ((x * 14) + 4) v))) rfl ⟨?_, trivial, trivial, trivial, trivial, trivial, trivial, trivial, trivial, trivial, trivial, trivial, trivial, trivial, trivial, trivial, trivial⟩ ?_
      · exact ibd_of (B := 140) rfl (by grind) (by grind)
      refine rt_ hX (G := True) (r := none) rfl trivial ?_
      exact k
theorem c_pg5 {d : Nat} {Q : Option Value → Hp → Prop} {h : Hp} {x : Int32} (x0 : 0 ≤ x) (x1 : x < h.1 4 2) (xm : h.1 4 2 ≤ 10) (k : Q (some (.int (h.1 5 ((x * 14) + 5)))) h) : Call (d + 1) 94 [.ref 4, .int x, .int 5] h Q := by
  refine call_of (rfl : psM[94]? = some _) rfl rfl (rcvV rfl) (fun X hX => ?_)
  show X (0, [some (.ref 4), some (.int x), some (.int 5)], [], h)
  refine go hX 2 (gs := [True, True]) (z' := (if x < 0 then 24 else 4, [some (.ref 4), some (.int x), some (.int 5)], [], h)) rfl ⟨trivial, trivial, trivial⟩ ?_
  refine br (fun b1 => ?_) (fun b1 => ?_)
  ·
    refine go hX 1 (gs := [True]) (z' := (25, [some (.ref 4), some (.int x), some (.int 5)], [.int 0], h)) rfl ⟨trivial, trivial⟩ ?_
    refine rt_ hX (G := True) (r := some (.int 0)) rfl trivial ?_
    exfalso; grind
  ·
    refine go hX 4 (gs := [True, True, True, True]) (z' := (if (h.1 4 2) ≤ x then 24 else 12, [some (.ref 4), some (.int x), some (.int 5)], [], h)) rfl ⟨trivial, trivial, trivial, trivial, trivial⟩ ?_
    refine br (fun b2 => ?_) (fun b2 => ?_)
    ·
      refine go hX 1 (gs := [True]) (z' := (25, [some (.ref 4), some (.int x), some (.int 5)], [.int 0], h)) rfl ⟨trivial, trivial⟩ ?_
      refine rt_ hX (G := True) (r := some (.int 0)) rfl trivial ?_
      exfalso; grind
    ·
      refine go hX 15 (gs := [ibd ((x * 14) + 5) 140, True, True, True, True, True, True, True, True, True, True, True, True, True, True]) (z' := (39, [some (.ref 4), some (.int x), some (.int 5)], [.int (h.1 5 ((x * 14) + 5))], h)) rfl ⟨?_, trivial, trivial, trivial, trivial, trivial, trivial, trivial, trivial, trivial, trivial, trivial, trivial, trivial, trivial, trivial⟩ ?_
      · exact ibd_of (B := 140) rfl (by grind) (by grind)
      refine rt_ hX (G := True) (r := some (.int (h.1 5 ((x * 14) + 5)))) rfl trivial ?_
      exact k
theorem c_ps5 {d : Nat} {Q : Option Value → Hp → Prop} {h : Hp} {x v : Int32} (x0 : 0 ≤ x) (x1 : x < h.1 4 2) (xm : h.1 4 2 ≤ 10) (k : Q none (hI h 5 ((x * 14) + 5) v)) : Call (d + 1) 95 [.ref 4, .int x, .int 5, .int v] h Q := by
  refine call_of (rfl : psM[95]? = some _) rfl rfl (rcvV rfl) (fun X hX => ?_)
  show X (0, [some (.ref 4), some (.int x), some (.int 5), some (.int v)], [], h)
  refine go hX 2 (gs := [True, True]) (z' := (if x < 0 then 24 else 4, [some (.ref 4), some (.int x), some (.int 5), some (.int v)], [], h)) rfl ⟨trivial, trivial, trivial⟩ ?_
  refine br (fun b1 => ?_) (fun b1 => ?_)
  ·
    refine rt_ hX (G := True) (r := none) rfl trivial ?_
    exfalso; grind
  ·
    refine go hX 4 (gs := [True, True, True, True]) (z' := (if (h.1 4 2) ≤ x then 24 else 12, [some (.ref 4), some (.int x), some (.int 5), some (.int v)], [], h)) rfl ⟨trivial, trivial, trivial, trivial, trivial⟩ ?_
    refine br (fun b2 => ?_) (fun b2 => ?_)
    ·
      refine rt_ hX (G := True) (r := none) rfl trivial ?_
      exfalso; grind
    ·
      refine go hX 16 (gs := [ibd ((x * 14) + 5) 140, True, True, True, True, True, True, True, True, True, True, True, True, True, True, True]) (z' := (39, [some (.ref 4), some (.int x), some (.int 5), some (.int v)], [], (hI h 5 ((x * 14) + 5) v))) rfl ⟨?_, trivial, trivial, trivial, trivial, trivial, trivial, trivial, trivial, trivial, trivial, trivial, trivial, trivial, trivial, trivial, trivial⟩ ?_
      · exact ibd_of (B := 140) rfl (by grind) (by grind)
      refine rt_ hX (G := True) (r := none) rfl trivial ?_
      exact k
theorem c_pg10 {d : Nat} {Q : Option Value → Hp → Prop} {h : Hp} {x : Int32} (x0 : 0 ≤ x) (x1 : x < h.1 4 2) (xm : h.1 4 2 ≤ 10) (k : Q (some (.int (h.1 5 ((x * 14) + 10)))) h) : Call (d + 1) 94 [.ref 4, .int x, .int 10] h Q := by
  refine call_of (rfl : psM[94]? = some _) rfl rfl (rcvV rfl) (fun X hX => ?_)
  show X (0, [some (.ref 4), some (.int x), some (.int 10)], [], h)
  refine go hX 2 (gs := [True, True]) (z' := (if x < 0 then 24 else 4, [some (.ref 4), some (.int x), some (.int 10)], [], h)) rfl ⟨trivial, trivial, trivial⟩ ?_
  refine br (fun b1 => ?_) (fun b1 => ?_)
  ·
    refine go hX 1 (gs := [True]) (z' := (25, [some (.ref 4), some (.int x), some (.int 10)], [.int 0], h)) rfl ⟨trivial, trivial⟩ ?_
    refine rt_ hX (G := True) (r := some (.int 0)) rfl trivial ?_
    exfalso; grind
  ·
    refine go hX 4 (gs := [True, True, True, True]) (z' := (if (h.1 4 2) ≤ x then 24 else 12, [some (.ref 4), some (.int x), some (.int 10)], [], h)) rfl ⟨trivial, trivial, trivial, trivial, trivial⟩ ?_
    refine br (fun b2 => ?_) (fun b2 => ?_)
    ·
      refine go hX 1 (gs := [True]) (z' := (25, [some (.ref 4), some (.int x), some (.int 10)], [.int 0], h)) rfl ⟨trivial, trivial⟩ ?_
      refine rt_ hX (G := True) (r := some (.int 0)) rfl trivial ?_
      exfalso; grind
    ·
      refine go hX 15 (gs := [ibd ((x * 14) + 10) 140, True, True, True, True, True, True, True, True, True, True, True, True, True, True]) (z' := (39, [some (.ref 4), some (.int x), some (.int 10)], [.int (h.1 5 ((x * 14) + 10))], h)) rfl ⟨?_, trivial, trivial, trivial, trivial, trivial, trivial, trivial, trivial, trivial, trivial, trivial, trivial, trivial, trivial, trivial⟩ ?_
      · exact ibd_of (B := 140) rfl (by grind) (by grind)
      refine rt_ hX (G := True) (r := some (.int (h.1 5 ((x * 14) + 10)))) rfl trivial ?_
      exact k
theorem c_ps10 {d : Nat} {Q : Option Value → Hp → Prop} {h : Hp} {x v : Int32} (x0 : 0 ≤ x) (x1 : x < h.1 4 2) (xm : h.1 4 2 ≤ 10) (k : Q none (hI h 5 ((x * 14) + 10) v)) : Call (d + 1) 95 [.ref 4, .int x, .int 10, .int v] h Q := by
  refine call_of (rfl : psM[95]? = some _) rfl rfl (rcvV rfl) (fun X hX => ?_)
  show X (0, [some (.ref 4), some (.int x), some (.int 10), some (.int v)], [], h)
  refine go hX 2 (gs := [True, True]) (z' := (if x < 0 then 24 else 4, [some (.ref 4), some (.int x), some (.int 10), some (.int v)], [], h)) rfl ⟨trivial, trivial, trivial⟩ ?_
  refine br (fun b1 => ?_) (fun b1 => ?_)
  ·
    refine rt_ hX (G := True) (r := none) rfl trivial ?_
    exfalso; grind
  ·
    refine go hX 4 (gs := [True, True, True, True]) (z' := (if (h.1 4 2) ≤ x then 24 else 12, [some (.ref 4), some (.int x), some (.int 10), some (.int v)], [], h)) rfl ⟨trivial, trivial, trivial, trivial, trivial⟩ ?_
    refine br (fun b2 => ?_) (fun b2 => ?_)
    ·
      refine rt_ hX (G := True) (r := none) rfl trivial ?_
      exfalso; grind
    ·
      refine go hX 16 (gs := [ibd ((x * 14) + 10) 140, True, True, True, True, True, True, True, True, True, True, True, True, True, True, True]) (z' := (39, [some (.ref 4), some (.int x), some (.int 10), some (.int v)], [], (hI h 5 ((x * 14) + 10) v))) rfl ⟨?_, trivial, trivial, trivial, trivial, trivial, trivial, trivial, trivial, trivial, trivial, trivial, trivial, trivial, trivial, trivial, trivial⟩ ?_
      · exact ibd_of (B := 140) rfl (by grind) (by grind)
      refine rt_ hX (G := True) (r := none) rfl trivial ?_
      exact k
theorem c_share {d : Nat} {Q : Option Value → Hp → Prop} {h g : Hp} {x w r4 r2 r3 : Int32} (x0 : 0 ≤ x) (x1 : x < h.1 4 2) (xm : h.1 4 2 ≤ 10) (gA4 : ∀ (g : Hp) (Q : Option Value → Hp → Prop), (∀ g1, Q (some (.int r4)) (ov 35 36 h g1)) → Call (d + 4) 48 [.ref 34, .ref 1, .int 4, .int (h.1 5 ((x * 14) + 10)), .int 0, .int 0] (ov 35 36 h g) Q) (gA2 : ∀ (g : Hp) (Q : Option Value → Hp → Prop), (∀ g1, Q (some (.int r2)) (ov 35 36 h g1)) → Call (d + 4) 48 [.ref 34, .ref 1, .int 2, .int (h.1 5 ((x * 14) + 10)), .int (h.1 5 ((x * 14) + 3)), .int 0] (ov 35 36 h g) Q) (gA3 : ∀ (g : Hp) (Q : Option Value → Hp → Prop), (∀ g1, Q (some (.int r3)) (ov 35 36 h g1)) → Call (d + 4) 48 [.ref 34, .ref 1, .int 3, .int (h.1 5 ((x * 14) + 10)), .int ((h.1 5 ((x * 14) + 2)) - (h.1 1 5)), .int 0] (ov 35 36 h g) Q) (k0 : w = 0 → ∀ g1, Q (some (.int (shV (h.1 5 ((x * 14) + 10)) (h.1 5 ((x * 14) + 3)) r4 r2))) (ov 35 36 h g1)) (k1 : ¬ w = 0 → w = 1 → ∀ g1, Q (some (.int (shS (h.1 5 ((x * 14) + 10)) (h.1 5 ((x * 14) + 3)) r4 r2 r3))) (ov 35 36 h g1)) (k2 : ¬ w = 0 → ¬ w = 1 → ∀ g1, Q (some (.int ((h.1 5 ((x * 14) + 10)) - shV (h.1 5 ((x * 14) + 10)) (h.1 5 ((x * 14) + 3)) r4 r2 - shS (h.1 5 ((x * 14) + 10)) (h.1 5 ((x * 14) + 3)) r4 r2 r3))) (ov 35 36 h g1)) : Call (d + 5) 52 [.ref 34, .ref 1, .int x, .int w] (ov 35 36 h g) Q := by
  refine call_of (rfl : psM[52]? = some _) rfl rfl (rcvV rfl) (fun X hX => ?_)
  show X (0, [some (.ref 34), some (.ref 1), some (.int x), some (.int w), none, none, none, none, none, none], [], (ov 35 36 h g))
  refine go hX 4 (gs := [True, True, True, True]) (z' := (7, [some (.ref 34), some (.ref 1), some (.int x), some (.int w), none, none, none, none, none, none], [.int 10, .int x, .ref 4], (ov 35 36 h g))) rfl ⟨trivial, trivial, trivial, trivial, trivial⟩ ?_
  refine cl hX 94 3 [.ref 4, .int x, .int 10] [] rfl rfl rfl rfl ?_
  refine c_pg10 x0 x1 xm ?_
  show X (10, [some (.ref 34), some (.ref 1), some (.int x), some (.int w), none, none, none, none, none, none], [.int (h.1 5 ((x * 14) + 10))], (ov 35 36 h g))
  refine go hX 5 (gs := [True, True, True, True, True]) (z' := (18, [some (.ref 34), some (.ref 1), some (.int x), some (.int w), some (.int (h.1 5 ((x * 14) + 10))), none, none, none, none, none], [.int 3, .int x, .ref 4], (ov 35 36 h g))) rfl ⟨trivial, trivial, trivial, trivial, trivial, trivial⟩ ?_
  refine cl hX 94 3 [.ref 4, .int x, .int 3] [] rfl rfl rfl rfl ?_
  refine c_pg3 x0 x1 xm ?_
  show X (21, [some (.ref 34), some (.ref 1), some (.int x), some (.int w), some (.int (h.1 5 ((x * 14) + 10))), none, none, none, none, none], [.int (h.1 5 ((x * 14) + 3))], (ov 35 36 h g))
  refine go hX 5 (gs := [True, True, True, True, True]) (z' := (29, [some (.ref 34), some (.ref 1), some (.int x), some (.int w), some (.int (h.1 5 ((x * 14) + 10))), some (.int (h.1 5 ((x * 14) + 3))), none, none, none, none], [.int 2, .int x, .ref 4], (ov 35 36 h g))) rfl ⟨trivial, trivial, trivial, trivial, trivial, trivial⟩ ?_
  refine cl hX 94 3 [.ref 4, .int x, .int 2] [] rfl rfl rfl rfl ?_
  refine c_pg2 x0 x1 xm ?_
  show X (32, [some (.ref 34), some (.ref 1), some (.int x), some (.int w), some (.int (h.1 5 ((x * 14) + 10))), some (.int (h.1 5 ((x * 14) + 3))), none, none, none, none], [.int (h.1 5 ((x * 14) + 2))], (ov 35 36 h g))
  refine go hX 12 (gs := [True, True, True, True, True, True, True, True, True, True, True, True]) (z' := (49, [some (.ref 34), some (.ref 1), some (.int x), some (.int w), some (.int (h.1 5 ((x * 14) + 10))), some (.int (h.1 5 ((x * 14) + 3))), some (.int ((h.1 5 ((x * 14) + 2)) - (h.1 1 5))), none, none, none], [.int 0, .int 0, .int (h.1 5 ((x * 14) + 10)), .int 4, .ref 1, .ref 34, .int (h.1 5 ((x * 14) + 10)), .int 0], (ov 35 36 h g))) rfl ⟨trivial, trivial, trivial, trivial, trivial, trivial, trivial, trivial, trivial, trivial, trivial, trivial, trivial⟩ ?_
  refine cl hX 48 6 [.ref 34, .ref 1, .int 4, .int (h.1 5 ((x * 14) + 10)), .int 0, .int 0] [.int (h.1 5 ((x * 14) + 10)), .int 0] rfl rfl rfl rfl ?_
  refine gA4 _ _ (fun g1 => ?_)
  show X (52, [some (.ref 34), some (.ref 1), some (.int x), some (.int w), some (.int (h.1 5 ((x * 14) + 10))), some (.int (h.1 5 ((x * 14) + 3))), some (.int ((h.1 5 ((x * 14) + 2)) - (h.1 1 5))), none, none, none], [.int r4, .int (h.1 5 ((x * 14) + 10)), .int 0], (ov 35 36 h g1))
  refine go hX 9 (gs := [True, True, True, True, True, True, True, True, True]) (z' := (66, [some (.ref 34), some (.ref 1), some (.int x), some (.int w), some (.int (h.1 5 ((x * 14) + 10))), some (.int (h.1 5 ((x * 14) + 3))), some (.int ((h.1 5 ((x * 14) + 2)) - (h.1 1 5))), some (.int (if 0 < ((h.1 5 ((x * 14) + 10)) - r4) then ((h.1 5 ((x * 14) + 10)) - r4) else 0)), none, none], [.int 0, .int (h.1 5 ((x * 14) + 3)), .int (h.1 5 ((x * 14) + 10)), .int 2, .ref 1, .ref 34], (ov 35 36 h g1))) rfl ⟨trivial, trivial, trivial, trivial, trivial, trivial, trivial, trivial, trivial, trivial⟩ ?_
  refine cl hX 48 6 [.ref 34, .ref 1, .int 2, .int (h.1 5 ((x * 14) + 10)), .int (h.1 5 ((x * 14) + 3)), .int 0] [] rfl rfl rfl rfl ?_
  refine gA2 _ _ (fun g2 => ?_)
  show X (69, [some (.ref 34), some (.ref 1), some (.int x), some (.int w), some (.int (h.1 5 ((x * 14) + 10))), some (.int (h.1 5 ((x * 14) + 3))), some (.int ((h.1 5 ((x * 14) + 2)) - (h.1 1 5))), some (.int (if 0 < ((h.1 5 ((x * 14) + 10)) - r4) then ((h.1 5 ((x * 14) + 10)) - r4) else 0)), none, none], [.int r2], (ov 35 36 h g2))
  refine go hX 11 (gs := [True, True, True, True, True, True, True, True, True, True, True]) (z' := (89, [some (.ref 34), some (.ref 1), some (.int x), some (.int w), some (.int (h.1 5 ((x * 14) + 10))), some (.int (h.1 5 ((x * 14) + 3))), some (.int ((h.1 5 ((x * 14) + 2)) - (h.1 1 5))), some (.int (if 0 < ((h.1 5 ((x * 14) + 10)) - r4) then ((h.1 5 ((x * 14) + 10)) - r4) else 0)), some (.int (if (if 0 < ((h.1 5 ((x * 14) + 10)) - r4) then ((h.1 5 ((x * 14) + 10)) - r4) else 0) < (if (h.1 5 ((x * 14) + 3)) < r2 then (h.1 5 ((x * 14) + 3)) else r2) then (if 0 < ((h.1 5 ((x * 14) + 10)) - r4) then ((h.1 5 ((x * 14) + 10)) - r4) else 0) else (if (h.1 5 ((x * 14) + 3)) < r2 then (h.1 5 ((x * 14) + 3)) else r2))), none], [.int 0, .int ((h.1 5 ((x * 14) + 2)) - (h.1 1 5)), .int (h.1 5 ((x * 14) + 10)), .int 3, .ref 1, .ref 34], (ov 35 36 h g2))) rfl ⟨trivial, trivial, trivial, trivial, trivial, trivial, trivial, trivial, trivial, trivial, trivial, trivial⟩ ?_
  refine cl hX 48 6 [.ref 34, .ref 1, .int 3, .int (h.1 5 ((x * 14) + 10)), .int ((h.1 5 ((x * 14) + 2)) - (h.1 1 5)), .int 0] [] rfl rfl rfl rfl ?_
  refine gA3 _ _ (fun g3 => ?_)
  show X (92, [some (.ref 34), some (.ref 1), some (.int x), some (.int w), some (.int (h.1 5 ((x * 14) + 10))), some (.int (h.1 5 ((x * 14) + 3))), some (.int ((h.1 5 ((x * 14) + 2)) - (h.1 1 5))), some (.int (if 0 < ((h.1 5 ((x * 14) + 10)) - r4) then ((h.1 5 ((x * 14) + 10)) - r4) else 0)), some (.int (if (if 0 < ((h.1 5 ((x * 14) + 10)) - r4) then ((h.1 5 ((x * 14) + 10)) - r4) else 0) < (if (h.1 5 ((x * 14) + 3)) < r2 then (h.1 5 ((x * 14) + 3)) else r2) then (if 0 < ((h.1 5 ((x * 14) + 10)) - r4) then ((h.1 5 ((x * 14) + 10)) - r4) else 0) else (if (h.1 5 ((x * 14) + 3)) < r2 then (h.1 5 ((x * 14) + 3)) else r2))), none], [.int r3], (ov 35 36 h g3))
  refine go hX 7 (gs := [True, True, True, True, True, True, True]) (z' := (if w = 0 then 128 else if w = 1 then 131 else 134, [some (.ref 34), some (.ref 1), some (.int x), some (.int w), some (.int (h.1 5 ((x * 14) + 10))), some (.int (h.1 5 ((x * 14) + 3))), some (.int ((h.1 5 ((x * 14) + 2)) - (h.1 1 5))), some (.int (if 0 < ((h.1 5 ((x * 14) + 10)) - r4) then ((h.1 5 ((x * 14) + 10)) - r4) else 0)), some (.int (if (if 0 < ((h.1 5 ((x * 14) + 10)) - r4) then ((h.1 5 ((x * 14) + 10)) - r4) else 0) < (if (h.1 5 ((x * 14) + 3)) < r2 then (h.1 5 ((x * 14) + 3)) else r2) then (if 0 < ((h.1 5 ((x * 14) + 10)) - r4) then ((h.1 5 ((x * 14) + 10)) - r4) else 0) else (if (h.1 5 ((x * 14) + 3)) < r2 then (h.1 5 ((x * 14) + 3)) else r2))), some (.int (if ((if 0 < ((h.1 5 ((x * 14) + 10)) - r4) then ((h.1 5 ((x * 14) + 10)) - r4) else 0) - (if (if 0 < ((h.1 5 ((x * 14) + 10)) - r4) then ((h.1 5 ((x * 14) + 10)) - r4) else 0) < (if (h.1 5 ((x * 14) + 3)) < r2 then (h.1 5 ((x * 14) + 3)) else r2) then (if 0 < ((h.1 5 ((x * 14) + 10)) - r4) then ((h.1 5 ((x * 14) + 10)) - r4) else 0) else (if (h.1 5 ((x * 14) + 3)) < r2 then (h.1 5 ((x * 14) + 3)) else r2))) < r3 then ((if 0 < ((h.1 5 ((x * 14) + 10)) - r4) then ((h.1 5 ((x * 14) + 10)) - r4) else 0) - (if (if 0 < ((h.1 5 ((x * 14) + 10)) - r4) then ((h.1 5 ((x * 14) + 10)) - r4) else 0) < (if (h.1 5 ((x * 14) + 3)) < r2 then (h.1 5 ((x * 14) + 3)) else r2) then (if 0 < ((h.1 5 ((x * 14) + 10)) - r4) then ((h.1 5 ((x * 14) + 10)) - r4) else 0) else (if (h.1 5 ((x * 14) + 3)) < r2 then (h.1 5 ((x * 14) + 3)) else r2))) else r3))], [], (ov 35 36 h g3))) rfl ⟨trivial, trivial, trivial, trivial, trivial, trivial, trivial, trivial⟩ ?_
  refine br (fun b1 => ?_) (fun b1 => ?_)
  ·
    refine go hX 1 (gs := [True]) (z' := (130, [some (.ref 34), some (.ref 1), some (.int x), some (.int w), some (.int (h.1 5 ((x * 14) + 10))), some (.int (h.1 5 ((x * 14) + 3))), some (.int ((h.1 5 ((x * 14) + 2)) - (h.1 1 5))), some (.int (if 0 < ((h.1 5 ((x * 14) + 10)) - r4) then ((h.1 5 ((x * 14) + 10)) - r4) else 0)), some (.int (if (if 0 < ((h.1 5 ((x * 14) + 10)) - r4) then ((h.1 5 ((x * 14) + 10)) - r4) else 0) < (if (h.1 5 ((x * 14) + 3)) < r2 then (h.1 5 ((x * 14) + 3)) else r2) then (if 0 < ((h.1 5 ((x * 14) + 10)) - r4) then ((h.1 5 ((x * 14) + 10)) - r4) else 0) else (if (h.1 5 ((x * 14) + 3)) < r2 then (h.1 5 ((x * 14) + 3)) else r2))), some (.int (if ((if 0 < ((h.1 5 ((x * 14) + 10)) - r4) then ((h.1 5 ((x * 14) + 10)) - r4) else 0) - (if (if 0 < ((h.1 5 ((x * 14) + 10)) - r4) then ((h.1 5 ((x * 14) + 10)) - r4) else 0) < (if (h.1 5 ((x * 14) + 3)) < r2 then (h.1 5 ((x * 14) + 3)) else r2) then (if 0 < ((h.1 5 ((x * 14) + 10)) - r4) then ((h.1 5 ((x * 14) + 10)) - r4) else 0) else (if (h.1 5 ((x * 14) + 3)) < r2 then (h.1 5 ((x * 14) + 3)) else r2))) < r3 then ((if 0 < ((h.1 5 ((x * 14) + 10)) - r4) then ((h.1 5 ((x * 14) + 10)) - r4) else 0) - (if (if 0 < ((h.1 5 ((x * 14) + 10)) - r4) then ((h.1 5 ((x * 14) + 10)) - r4) else 0) < (if (h.1 5 ((x * 14) + 3)) < r2 then (h.1 5 ((x * 14) + 3)) else r2) then (if 0 < ((h.1 5 ((x * 14) + 10)) - r4) then ((h.1 5 ((x * 14) + 10)) - r4) else 0) else (if (h.1 5 ((x * 14) + 3)) < r2 then (h.1 5 ((x * 14) + 3)) else r2))) else r3))], [.int (if (if 0 < ((h.1 5 ((x * 14) + 10)) - r4) then ((h.1 5 ((x * 14) + 10)) - r4) else 0) < (if (h.1 5 ((x * 14) + 3)) < r2 then (h.1 5 ((x * 14) + 3)) else r2) then (if 0 < ((h.1 5 ((x * 14) + 10)) - r4) then ((h.1 5 ((x * 14) + 10)) - r4) else 0) else (if (h.1 5 ((x * 14) + 3)) < r2 then (h.1 5 ((x * 14) + 3)) else r2))], (ov 35 36 h g3))) rfl ⟨trivial, trivial⟩ ?_
    refine rt_ hX (G := True) (r := some (.int (if (if 0 < ((h.1 5 ((x * 14) + 10)) - r4) then ((h.1 5 ((x * 14) + 10)) - r4) else 0) < (if (h.1 5 ((x * 14) + 3)) < r2 then (h.1 5 ((x * 14) + 3)) else r2) then (if 0 < ((h.1 5 ((x * 14) + 10)) - r4) then ((h.1 5 ((x * 14) + 10)) - r4) else 0) else (if (h.1 5 ((x * 14) + 3)) < r2 then (h.1 5 ((x * 14) + 3)) else r2)))) rfl trivial ?_
    exact k0 b1 g3
  ·
    refine br (fun b2 => ?_) (fun b2 => ?_)
    ·
      refine go hX 1 (gs := [True]) (z' := (133, [some (.ref 34), some (.ref 1), some (.int x), some (.int w), some (.int (h.1 5 ((x * 14) + 10))), some (.int (h.1 5 ((x * 14) + 3))), some (.int ((h.1 5 ((x * 14) + 2)) - (h.1 1 5))), some (.int (if 0 < ((h.1 5 ((x * 14) + 10)) - r4) then ((h.1 5 ((x * 14) + 10)) - r4) else 0)), some (.int (if (if 0 < ((h.1 5 ((x * 14) + 10)) - r4) then ((h.1 5 ((x * 14) + 10)) - r4) else 0) < (if (h.1 5 ((x * 14) + 3)) < r2 then (h.1 5 ((x * 14) + 3)) else r2) then (if 0 < ((h.1 5 ((x * 14) + 10)) - r4) then ((h.1 5 ((x * 14) + 10)) - r4) else 0) else (if (h.1 5 ((x * 14) + 3)) < r2 then (h.1 5 ((x * 14) + 3)) else r2))), some (.int (if ((if 0 < ((h.1 5 ((x * 14) + 10)) - r4) then ((h.1 5 ((x * 14) + 10)) - r4) else 0) - (if (if 0 < ((h.1 5 ((x * 14) + 10)) - r4) then ((h.1 5 ((x * 14) + 10)) - r4) else 0) < (if (h.1 5 ((x * 14) + 3)) < r2 then (h.1 5 ((x * 14) + 3)) else r2) then (if 0 < ((h.1 5 ((x * 14) + 10)) - r4) then ((h.1 5 ((x * 14) + 10)) - r4) else 0) else (if (h.1 5 ((x * 14) + 3)) < r2 then (h.1 5 ((x * 14) + 3)) else r2))) < r3 then ((if 0 < ((h.1 5 ((x * 14) + 10)) - r4) then ((h.1 5 ((x * 14) + 10)) - r4) else 0) - (if (if 0 < ((h.1 5 ((x * 14) + 10)) - r4) then ((h.1 5 ((x * 14) + 10)) - r4) else 0) < (if (h.1 5 ((x * 14) + 3)) < r2 then (h.1 5 ((x * 14) + 3)) else r2) then (if 0 < ((h.1 5 ((x * 14) + 10)) - r4) then ((h.1 5 ((x * 14) + 10)) - r4) else 0) else (if (h.1 5 ((x * 14) + 3)) < r2 then (h.1 5 ((x * 14) + 3)) else r2))) else r3))], [.int (if ((if 0 < ((h.1 5 ((x * 14) + 10)) - r4) then ((h.1 5 ((x * 14) + 10)) - r4) else 0) - (if (if 0 < ((h.1 5 ((x * 14) + 10)) - r4) then ((h.1 5 ((x * 14) + 10)) - r4) else 0) < (if (h.1 5 ((x * 14) + 3)) < r2 then (h.1 5 ((x * 14) + 3)) else r2) then (if 0 < ((h.1 5 ((x * 14) + 10)) - r4) then ((h.1 5 ((x * 14) + 10)) - r4) else 0) else (if (h.1 5 ((x * 14) + 3)) < r2 then (h.1 5 ((x * 14) + 3)) else r2))) < r3 then ((if 0 < ((h.1 5 ((x * 14) + 10)) - r4) then ((h.1 5 ((x * 14) + 10)) - r4) else 0) - (if (if 0 < ((h.1 5 ((x * 14) + 10)) - r4) then ((h.1 5 ((x * 14) + 10)) - r4) else 0) < (if (h.1 5 ((x * 14) + 3)) < r2 then (h.1 5 ((x * 14) + 3)) else r2) then (if 0 < ((h.1 5 ((x * 14) + 10)) - r4) then ((h.1 5 ((x * 14) + 10)) - r4) else 0) else (if (h.1 5 ((x * 14) + 3)) < r2 then (h.1 5 ((x * 14) + 3)) else r2))) else r3)], (ov 35 36 h g3))) rfl ⟨trivial, trivial⟩ ?_
      refine rt_ hX (G := True) (r := some (.int (if ((if 0 < ((h.1 5 ((x * 14) + 10)) - r4) then ((h.1 5 ((x * 14) + 10)) - r4) else 0) - (if (if 0 < ((h.1 5 ((x * 14) + 10)) - r4) then ((h.1 5 ((x * 14) + 10)) - r4) else 0) < (if (h.1 5 ((x * 14) + 3)) < r2 then (h.1 5 ((x * 14) + 3)) else r2) then (if 0 < ((h.1 5 ((x * 14) + 10)) - r4) then ((h.1 5 ((x * 14) + 10)) - r4) else 0) else (if (h.1 5 ((x * 14) + 3)) < r2 then (h.1 5 ((x * 14) + 3)) else r2))) < r3 then ((if 0 < ((h.1 5 ((x * 14) + 10)) - r4) then ((h.1 5 ((x * 14) + 10)) - r4) else 0) - (if (if 0 < ((h.1 5 ((x * 14) + 10)) - r4) then ((h.1 5 ((x * 14) + 10)) - r4) else 0) < (if (h.1 5 ((x * 14) + 3)) < r2 then (h.1 5 ((x * 14) + 3)) else r2) then (if 0 < ((h.1 5 ((x * 14) + 10)) - r4) then ((h.1 5 ((x * 14) + 10)) - r4) else 0) else (if (h.1 5 ((x * 14) + 3)) < r2 then (h.1 5 ((x * 14) + 3)) else r2))) else r3))) rfl trivial ?_
      exact k1 b1 b2 g3
    ·
      refine go hX 5 (gs := [True, True, True, True, True]) (z' := (142, [some (.ref 34), some (.ref 1), some (.int x), some (.int w), some (.int (h.1 5 ((x * 14) + 10))), some (.int (h.1 5 ((x * 14) + 3))), some (.int ((h.1 5 ((x * 14) + 2)) - (h.1 1 5))), some (.int (if 0 < ((h.1 5 ((x * 14) + 10)) - r4) then ((h.1 5 ((x * 14) + 10)) - r4) else 0)), some (.int (if (if 0 < ((h.1 5 ((x * 14) + 10)) - r4) then ((h.1 5 ((x * 14) + 10)) - r4) else 0) < (if (h.1 5 ((x * 14) + 3)) < r2 then (h.1 5 ((x * 14) + 3)) else r2) then (if 0 < ((h.1 5 ((x * 14) + 10)) - r4) then ((h.1 5 ((x * 14) + 10)) - r4) else 0) else (if (h.1 5 ((x * 14) + 3)) < r2 then (h.1 5 ((x * 14) + 3)) else r2))), some (.int (if ((if 0 < ((h.1 5 ((x * 14) + 10)) - r4) then ((h.1 5 ((x * 14) + 10)) - r4) else 0) - (if (if 0 < ((h.1 5 ((x * 14) + 10)) - r4) then ((h.1 5 ((x * 14) + 10)) - r4) else 0) < (if (h.1 5 ((x * 14) + 3)) < r2 then (h.1 5 ((x * 14) + 3)) else r2) then (if 0 < ((h.1 5 ((x * 14) + 10)) - r4) then ((h.1 5 ((x * 14) + 10)) - r4) else 0) else (if (h.1 5 ((x * 14) + 3)) < r2 then (h.1 5 ((x * 14) + 3)) else r2))) < r3 then ((if 0 < ((h.1 5 ((x * 14) + 10)) - r4) then ((h.1 5 ((x * 14) + 10)) - r4) else 0) - (if (if 0 < ((h.1 5 ((x * 14) + 10)) - r4) then ((h.1 5 ((x * 14) + 10)) - r4) else 0) < (if (h.1 5 ((x * 14) + 3)) < r2 then (h.1 5 ((x * 14) + 3)) else r2) then (if 0 < ((h.1 5 ((x * 14) + 10)) - r4) then ((h.1 5 ((x * 14) + 10)) - r4) else 0) else (if (h.1 5 ((x * 14) + 3)) < r2 then (h.1 5 ((x * 14) + 3)) else r2))) else r3))], [.int (((h.1 5 ((x * 14) + 10)) - (if (if 0 < ((h.1 5 ((x * 14) + 10)) - r4) then ((h.1 5 ((x * 14) + 10)) - r4) else 0) < (if (h.1 5 ((x * 14) + 3)) < r2 then (h.1 5 ((x * 14) + 3)) else r2) then (if 0 < ((h.1 5 ((x * 14) + 10)) - r4) then ((h.1 5 ((x * 14) + 10)) - r4) else 0) else (if (h.1 5 ((x * 14) + 3)) < r2 then (h.1 5 ((x * 14) + 3)) else r2))) - (if ((if 0 < ((h.1 5 ((x * 14) + 10)) - r4) then ((h.1 5 ((x * 14) + 10)) - r4) else 0) - (if (if 0 < ((h.1 5 ((x * 14) + 10)) - r4) then ((h.1 5 ((x * 14) + 10)) - r4) else 0) < (if (h.1 5 ((x * 14) + 3)) < r2 then (h.1 5 ((x * 14) + 3)) else r2) then (if 0 < ((h.1 5 ((x * 14) + 10)) - r4) then ((h.1 5 ((x * 14) + 10)) - r4) else 0) else (if (h.1 5 ((x * 14) + 3)) < r2 then (h.1 5 ((x * 14) + 3)) else r2))) < r3 then ((if 0 < ((h.1 5 ((x * 14) + 10)) - r4) then ((h.1 5 ((x * 14) + 10)) - r4) else 0) - (if (if 0 < ((h.1 5 ((x * 14) + 10)) - r4) then ((h.1 5 ((x * 14) + 10)) - r4) else 0) < (if (h.1 5 ((x * 14) + 3)) < r2 then (h.1 5 ((x * 14) + 3)) else r2) then (if 0 < ((h.1 5 ((x * 14) + 10)) - r4) then ((h.1 5 ((x * 14) + 10)) - r4) else 0) else (if (h.1 5 ((x * 14) + 3)) < r2 then (h.1 5 ((x * 14) + 3)) else r2))) else r3))], (ov 35 36 h g3))) rfl ⟨trivial, trivial, trivial, trivial, trivial, trivial⟩ ?_
      refine rt_ hX (G := True) (r := some (.int (((h.1 5 ((x * 14) + 10)) - (if (if 0 < ((h.1 5 ((x * 14) + 10)) - r4) then ((h.1 5 ((x * 14) + 10)) - r4) else 0) < (if (h.1 5 ((x * 14) + 3)) < r2 then (h.1 5 ((x * 14) + 3)) else r2) then (if 0 < ((h.1 5 ((x * 14) + 10)) - r4) then ((h.1 5 ((x * 14) + 10)) - r4) else 0) else (if (h.1 5 ((x * 14) + 3)) < r2 then (h.1 5 ((x * 14) + 3)) else r2))) - (if ((if 0 < ((h.1 5 ((x * 14) + 10)) - r4) then ((h.1 5 ((x * 14) + 10)) - r4) else 0) - (if (if 0 < ((h.1 5 ((x * 14) + 10)) - r4) then ((h.1 5 ((x * 14) + 10)) - r4) else 0) < (if (h.1 5 ((x * 14) + 3)) < r2 then (h.1 5 ((x * 14) + 3)) else r2) then (if 0 < ((h.1 5 ((x * 14) + 10)) - r4) then ((h.1 5 ((x * 14) + 10)) - r4) else 0) else (if (h.1 5 ((x * 14) + 3)) < r2 then (h.1 5 ((x * 14) + 3)) else r2))) < r3 then ((if 0 < ((h.1 5 ((x * 14) + 10)) - r4) then ((h.1 5 ((x * 14) + 10)) - r4) else 0) - (if (if 0 < ((h.1 5 ((x * 14) + 10)) - r4) then ((h.1 5 ((x * 14) + 10)) - r4) else 0) < (if (h.1 5 ((x * 14) + 3)) < r2 then (h.1 5 ((x * 14) + 3)) else r2) then (if 0 < ((h.1 5 ((x * 14) + 10)) - r4) then ((h.1 5 ((x * 14) + 10)) - r4) else 0) else (if (h.1 5 ((x * 14) + 3)) < r2 then (h.1 5 ((x * 14) + 3)) else r2))) else r3)))) rfl trivial ?_
      exact k2 b1 b2 g3
theorem c_takesA {d : Nat} {Q : Option Value → Hp → Prop} {h g : Hp} {x w r4 r2 r3 : Int32} (xm : h.1 4 2 ≤ 10) (gA4 : ∀ (g : Hp) (Q : Option Value → Hp → Prop), (∀ g1, Q (some (.int r4)) (ov 35 36 h g1)) → Call (d + 4) 48 [.ref 34, .ref 1, .int 4, .int (h.1 5 ((x * 14) + 10)), .int 0, .int 0] (ov 35 36 h g) Q) (gA2 : ∀ (g : Hp) (Q : Option Value → Hp → Prop), (∀ g1, Q (some (.int r2)) (ov 35 36 h g1)) → Call (d + 4) 48 [.ref 34, .ref 1, .int 2, .int (h.1 5 ((x * 14) + 10)), .int (h.1 5 ((x * 14) + 3)), .int 0] (ov 35 36 h g) Q) (gA3 : ∀ (g : Hp) (Q : Option Value → Hp → Prop), (∀ g1, Q (some (.int r3)) (ov 35 36 h g1)) → Call (d + 4) 48 [.ref 34, .ref 1, .int 3, .int (h.1 5 ((x * 14) + 10)), .int ((h.1 5 ((x * 14) + 2)) - (h.1 1 5)), .int 0] (ov 35 36 h g) Q) (kB : ¬ ((0 ≤ x ∧ x < h.1 4 2) ∧ (0 ≤ w ∧ w ≤ 2)) → Q (some (.int (-1000000001))) (ov 35 36 h g)) (kN : ((0 ≤ x ∧ x < h.1 4 2) ∧ (0 ≤ w ∧ w ≤ 2)) → h.1 5 ((x * 14) + 11) = 1 → Q (some (.int (-1000000002))) (ov 35 36 h g)) (k0 : ((0 ≤ x ∧ x < h.1 4 2) ∧ (0 ≤ w ∧ w ≤ 2)) → ¬ h.1 5 ((x * 14) + 11) = 1 → w = 0 → ∀ g1, Q (some (.int (shV (h.1 5 ((x * 14) + 10)) (h.1 5 ((x * 14) + 3)) r4 r2))) (ov 35 36 h g1)) (k1 : ((0 ≤ x ∧ x < h.1 4 2) ∧ (0 ≤ w ∧ w ≤ 2)) → ¬ h.1 5 ((x * 14) + 11) = 1 → ¬ w = 0 → w = 1 → ∀ g1, Q (some (.int (shS (h.1 5 ((x * 14) + 10)) (h.1 5 ((x * 14) + 3)) r4 r2 r3))) (ov 35 36 h g1)) (k2 : ((0 ≤ x ∧ x < h.1 4 2) ∧ (0 ≤ w ∧ w ≤ 2)) → ¬ h.1 5 ((x * 14) + 11) = 1 → ¬ w = 0 → ¬ w = 1 → ∀ g1, Q (some (.int ((h.1 5 ((x * 14) + 10)) - shV (h.1 5 ((x * 14) + 10)) (h.1 5 ((x * 14) + 3)) r4 r2 - shS (h.1 5 ((x * 14) + 10)) (h.1 5 ((x * 14) + 3)) r4 r2 r3))) (ov 35 36 h g1)) : Call (d + 6) 135 [.ref 0, .int x, .int w] (ov 35 36 h g) Q := by
  refine call_of (rfl : psM[135]? = some _) rfl rfl (rcvV rfl) (fun X hX => ?_)
  show X (0, [some (.ref 0), some (.int x), some (.int w)], [], (ov 35 36 h g))
  refine go hX 4 (gs := [True, True, True, True]) (z' := (8, [some (.ref 0), some (.int x), some (.int w)], [.int x, .ref 4], (ov 35 36 h g))) rfl ⟨trivial, trivial, trivial, trivial, trivial⟩ ?_
  refine cl hX 93 2 [.ref 4, .int x] [] rfl rfl rfl rfl ?_
  refine c_holdsH (fun hH => ?_) (fun hH => ?_)
  ·
    show X (11, [some (.ref 0), some (.int x), some (.int w)], [.int 1], (ov 35 36 h g))
    refine go hX 4 (gs := [True, True, True, True]) (z' := (17, [some (.ref 0), some (.int x), some (.int w)], [.int 2, .int 0, .int w], (ov 35 36 h g))) rfl ⟨trivial, trivial, trivial, trivial, trivial⟩ ?_
    refine cl hX 156 3 [.int w, .int 0, .int 2] [] rfl rfl rfl rfl ?_
    refine c_within (fun bw => ?_) (fun bw => ?_)
    ·
      show X (20, [some (.ref 0), some (.int x), some (.int w)], [.int 1], (ov 35 36 h g))
      refine go hX 4 (gs := [True, True, True, True]) (z' := (31, [some (.ref 0), some (.int x), some (.int w)], [.int x, .ref 1], (ov 35 36 h g))) rfl ⟨trivial, trivial, trivial, trivial, trivial⟩ ?_
      refine cl hX 62 2 [.ref 1, .int x] [] rfl rfl rfl rfl ?_
      refine c_isFrA hH.1 hH.2 xm (fun bf => ?_) (fun bf => ?_)
      ·
        show X (34, [some (.ref 0), some (.int x), some (.int w)], [.int 1], (ov 35 36 h g))
        refine go hX 3 (gs := [True, True, True]) (z' := (55, [some (.ref 0), some (.int x), some (.int w)], [.int (-1000000002)], (ov 35 36 h g))) rfl ⟨trivial, trivial, trivial, trivial⟩ ?_
        refine rt_ hX (G := True) (r := some (.int (-1000000002))) rfl trivial ?_
        exact kN ⟨hH, bw⟩ bf
      ·
        show X (34, [some (.ref 0), some (.int x), some (.int w)], [.int 0], (ov 35 36 h g))
        refine go hX 7 (gs := [True, True, True, True, True, True, True]) (z' := (52, [some (.ref 0), some (.int x), some (.int w)], [.int w, .int x, .ref 1, .ref 34], (ov 35 36 h g))) rfl ⟨trivial, trivial, trivial, trivial, trivial, trivial, trivial, trivial⟩ ?_
        refine cl hX 52 4 [.ref 34, .ref 1, .int x, .int w] [] rfl rfl rfl rfl ?_
        refine c_share hH.1 hH.2 xm gA4 gA2 gA3 (fun w0 g4 => ?_) (fun w0 w1 g4 => ?_) (fun w0 w1 g4 => ?_)
        ·
          show X (55, [some (.ref 0), some (.int x), some (.int w)], [.int (shV (h.1 5 ((x * 14) + 10)) (h.1 5 ((x * 14) + 3)) r4 r2)], (ov 35 36 h g4))
          refine rt_ hX (G := True) (r := some (.int (shV (h.1 5 ((x * 14) + 10)) (h.1 5 ((x * 14) + 3)) r4 r2))) rfl trivial ?_
          exact k0 ⟨hH, bw⟩ bf w0 g4
        ·
          show X (55, [some (.ref 0), some (.int x), some (.int w)], [.int (shS (h.1 5 ((x * 14) + 10)) (h.1 5 ((x * 14) + 3)) r4 r2 r3)], (ov 35 36 h g4))
          refine rt_ hX (G := True) (r := some (.int (shS (h.1 5 ((x * 14) + 10)) (h.1 5 ((x * 14) + 3)) r4 r2 r3))) rfl trivial ?_
          exact k1 ⟨hH, bw⟩ bf w0 w1 g4
        ·
          show X (55, [some (.ref 0), some (.int x), some (.int w)], [.int ((h.1 5 ((x * 14) + 10)) - shV (h.1 5 ((x * 14) + 10)) (h.1 5 ((x * 14) + 3)) r4 r2 - shS (h.1 5 ((x * 14) + 10)) (h.1 5 ((x * 14) + 3)) r4 r2 r3)], (ov 35 36 h g4))
          refine rt_ hX (G := True) (r := some (.int ((h.1 5 ((x * 14) + 10)) - shV (h.1 5 ((x * 14) + 10)) (h.1 5 ((x * 14) + 3)) r4 r2 - shS (h.1 5 ((x * 14) + 10)) (h.1 5 ((x * 14) + 3)) r4 r2 r3))) rfl trivial ?_
          exact k2 ⟨hH, bw⟩ bf w0 w1 g4
    ·
      show X (20, [some (.ref 0), some (.int x), some (.int w)], [.int 0], (ov 35 36 h g))
      refine go hX 2 (gs := [True, True]) (z' := (25, [some (.ref 0), some (.int x), some (.int w)], [.int (-1000000001)], (ov 35 36 h g))) rfl ⟨trivial, trivial, trivial⟩ ?_
      refine rt_ hX (G := True) (r := some (.int (-1000000001))) rfl trivial ?_
      exact kB (fun z => bw z.2)
  ·
    show X (11, [some (.ref 0), some (.int x), some (.int w)], [.int 0], (ov 35 36 h g))
    refine go hX 2 (gs := [True, True]) (z' := (25, [some (.ref 0), some (.int x), some (.int w)], [.int (-1000000001)], (ov 35 36 h g))) rfl ⟨trivial, trivial, trivial⟩ ?_
    refine rt_ hX (G := True) (r := some (.int (-1000000001))) rfl trivial ?_
    exact kB (fun z => hH z.1)
theorem c_addP4 {d : Nat} {Q : Option Value → Hp → Prop} {h : Hp} {x n : Int32} (x0 : 0 ≤ x) (x1 : x < h.1 4 2) (xm : h.1 4 2 ≤ 10) (k : Q none (hI h 5 ((x * 14) + 4) (if ((h.1 5 ((x * 14) + 4)) + n) < 99999 then ((h.1 5 ((x * 14) + 4)) + n) else 99999))) : Call (d + 2) 84 [.ref 1, .int x, .int 4, .int n] h Q := by
  refine call_of (rfl : psM[84]? = some _) rfl rfl (rcvV rfl) (fun X hX => ?_)
  show X (0, [some (.ref 1), some (.int x), some (.int 4), some (.int n)], [], h)
  refine go hX 9 (gs := [True, True, True, True, True, True, True, True, True]) (z' := (14, [some (.ref 1), some (.int x), some (.int 4), some (.int n)], [.int 4, .int x, .ref 4, .int 99999, .int 4, .int x, .ref 4], h)) rfl ⟨trivial, trivial, trivial, trivial, trivial, trivial, trivial, trivial, trivial, trivial⟩ ?_
  refine cl hX 94 3 [.ref 4, .int x, .int 4] [.int 99999, .int 4, .int x, .ref 4] rfl rfl rfl rfl ?_
  refine c_pg4 x0 x1 xm ?_
  show X (17, [some (.ref 1), some (.int x), some (.int 4), some (.int n)], [.int (h.1 5 ((x * 14) + 4)), .int 99999, .int 4, .int x, .ref 4], h)
  refine go hX 3 (gs := [True, True, True]) (z' := (22, [some (.ref 1), some (.int x), some (.int 4), some (.int n)], [.int (if ((h.1 5 ((x * 14) + 4)) + n) < 99999 then ((h.1 5 ((x * 14) + 4)) + n) else 99999), .int 4, .int x, .ref 4], h)) rfl ⟨trivial, trivial, trivial, trivial⟩ ?_
  refine cl hX 95 4 [.ref 4, .int x, .int 4, .int (if ((h.1 5 ((x * 14) + 4)) + n) < 99999 then ((h.1 5 ((x * 14) + 4)) + n) else 99999)] [] rfl rfl rfl rfl ?_
  refine c_ps4 x0 x1 xm ?_
  show X (25, [some (.ref 1), some (.int x), some (.int 4), some (.int n)], [], (hI h 5 ((x * 14) + 4) (if ((h.1 5 ((x * 14) + 4)) + n) < 99999 then ((h.1 5 ((x * 14) + 4)) + n) else 99999)))
  refine rt_ hX (G := True) (r := none) rfl trivial ?_
  exact k
theorem c_addP5 {d : Nat} {Q : Option Value → Hp → Prop} {h : Hp} {x n : Int32} (x0 : 0 ≤ x) (x1 : x < h.1 4 2) (xm : h.1 4 2 ≤ 10) (k : Q none (hI h 5 ((x * 14) + 5) (if ((h.1 5 ((x * 14) + 5)) + n) < 99999 then ((h.1 5 ((x * 14) + 5)) + n) else 99999))) : Call (d + 2) 84 [.ref 1, .int x, .int 5, .int n] h Q := by
  refine call_of (rfl : psM[84]? = some _) rfl rfl (rcvV rfl) (fun X hX => ?_)
  show X (0, [some (.ref 1), some (.int x), some (.int 5), some (.int n)], [], h)
  refine go hX 9 (gs := [True, True, True, True, True, True, True, True, True]) (z' := (14, [some (.ref 1), some (.int x), some (.int 5), some (.int n)], [.int 5, .int x, .ref 4, .int 99999, .int 5, .int x, .ref 4], h)) rfl ⟨trivial, trivial, trivial, trivial, trivial, trivial, trivial, trivial, trivial, trivial⟩ ?_
  refine cl hX 94 3 [.ref 4, .int x, .int 5] [.int 99999, .int 5, .int x, .ref 4] rfl rfl rfl rfl ?_
  refine c_pg5 x0 x1 xm ?_
  show X (17, [some (.ref 1), some (.int x), some (.int 5), some (.int n)], [.int (h.1 5 ((x * 14) + 5)), .int 99999, .int 5, .int x, .ref 4], h)
  refine go hX 3 (gs := [True, True, True]) (z' := (22, [some (.ref 1), some (.int x), some (.int 5), some (.int n)], [.int (if ((h.1 5 ((x * 14) + 5)) + n) < 99999 then ((h.1 5 ((x * 14) + 5)) + n) else 99999), .int 5, .int x, .ref 4], h)) rfl ⟨trivial, trivial, trivial, trivial⟩ ?_
  refine cl hX 95 4 [.ref 4, .int x, .int 5, .int (if ((h.1 5 ((x * 14) + 5)) + n) < 99999 then ((h.1 5 ((x * 14) + 5)) + n) else 99999)] [] rfl rfl rfl rfl ?_
  refine c_ps5 x0 x1 xm ?_
  show X (25, [some (.ref 1), some (.int x), some (.int 5), some (.int n)], [], (hI h 5 ((x * 14) + 5) (if ((h.1 5 ((x * 14) + 5)) + n) < 99999 then ((h.1 5 ((x * 14) + 5)) + n) else 99999)))
  refine rt_ hX (G := True) (r := none) rfl trivial ?_
  exact k
theorem x14 {x a b : Int32} (h : a ≠ b) : (x * 14) + a ≠ (x * 14) + b := fun z => h ((Int32.add_right_inj (x * 14)).mp z)
theorem x16 {x a b : Int32} (h : a ≠ b) : (40 + (16 * x)) + a ≠ (40 + (16 * x)) + b := fun z => h ((Int32.add_right_inj (40 + 16 * x)).mp z)
theorem c_payA {d : Nat} {Q : Option Value → Hp → Prop} {h g : Hp} {x r4 r2 r3 : Int32} (xm : h.1 4 2 ≤ 10) (gA4 : ∀ (g : Hp) (Q : Option Value → Hp → Prop), (∀ g1, Q (some (.int r4)) (ov 35 36 h g1)) → Call (d + 4) 48 [.ref 34, .ref 1, .int 4, .int (h.1 5 ((x * 14) + 10)), .int 0, .int 0] (ov 35 36 h g) Q) (gA2 : ∀ (g : Hp) (Q : Option Value → Hp → Prop), (∀ g1, Q (some (.int r2)) (ov 35 36 h g1)) → Call (d + 4) 48 [.ref 34, .ref 1, .int 2, .int (h.1 5 ((x * 14) + 10)), .int (h.1 5 ((x * 14) + 3)), .int 0] (ov 35 36 h g) Q) (gA3 : ∀ (g : Hp) (Q : Option Value → Hp → Prop), (∀ g1, Q (some (.int r3)) (ov 35 36 h g1)) → Call (d + 4) 48 [.ref 34, .ref 1, .int 3, .int (h.1 5 ((x * 14) + 10)), .int ((h.1 5 ((x * 14) + 2)) - (h.1 1 5)), .int 0] (ov 35 36 h g) Q) (kB : ¬ (0 ≤ x ∧ x < h.1 4 2) → Q (some (.int (-1000000001))) (ov 35 36 h g)) (kN : (0 ≤ x ∧ x < h.1 4 2) → h.1 5 ((x * 14) + 11) = 1 → Q (some (.int (-1000000002))) (ov 35 36 h g)) (kG : (0 ≤ x ∧ x < h.1 4 2) → ¬ h.1 5 ((x * 14) + 11) = 1 → ∀ g1, Q (some (.int ((h.1 5 ((x * 14) + 10)) - shV (h.1 5 ((x * 14) + 10)) (h.1 5 ((x * 14) + 3)) r4 r2 - shS (h.1 5 ((x * 14) + 10)) (h.1 5 ((x * 14) + 3)) r4 r2 r3))) (hI (hI (hI (hI (ov 35 36 h g1) 5 ((x * 14) + 3) ((h.1 5 ((x * 14) + 3)) - (shV (h.1 5 ((x * 14) + 10)) (h.1 5 ((x * 14) + 3)) r4 r2))) 5 ((x * 14) + 5) (paP (h.1 5 ((x * 14) + 5)) (shS (h.1 5 ((x * 14) + 10)) (h.1 5 ((x * 14) + 3)) r4 r2 r3))) 5 ((x * 14) + 4) (paP (h.1 5 ((x * 14) + 4)) ((h.1 5 ((x * 14) + 10)) - shV (h.1 5 ((x * 14) + 10)) (h.1 5 ((x * 14) + 3)) r4 r2 - shS (h.1 5 ((x * 14) + 10)) (h.1 5 ((x * 14) + 3)) r4 r2 r3))) 5 ((x * 14) + 10) 0)) : Call (d + 6) 134 [.ref 0, .int x] (ov 35 36 h g) Q := by
  refine call_of (rfl : psM[134]? = some _) rfl rfl (rcvV rfl) (fun X hX => ?_)
  show X (0, [some (.ref 0), some (.int x), none, none, none], [], (ov 35 36 h g))
  refine go hX 4 (gs := [True, True, True, True]) (z' := (8, [some (.ref 0), some (.int x), none, none, none], [.int x, .ref 4], (ov 35 36 h g))) rfl ⟨trivial, trivial, trivial, trivial, trivial⟩ ?_
  refine cl hX 93 2 [.ref 4, .int x] [] rfl rfl rfl rfl ?_
  refine c_holdsH (fun hH => ?_) (fun hH => ?_)
  ·
    show X (11, [some (.ref 0), some (.int x), none, none, none], [.int 1], (ov 35 36 h g))
    refine go hX 4 (gs := [True, True, True, True]) (z' := (22, [some (.ref 0), some (.int x), none, none, none], [.int x, .ref 1], (ov 35 36 h g))) rfl ⟨trivial, trivial, trivial, trivial, trivial⟩ ?_
    refine cl hX 62 2 [.ref 1, .int x] [] rfl rfl rfl rfl ?_
    refine c_isFrA hH.1 hH.2 xm (fun bf => ?_) (fun bf => ?_)
    ·
      show X (25, [some (.ref 0), some (.int x), none, none, none], [.int 1], (ov 35 36 h g))
      refine go hX 2 (gs := [True, True]) (z' := (30, [some (.ref 0), some (.int x), none, none, none], [.int (-1000000002)], (ov 35 36 h g))) rfl ⟨trivial, trivial, trivial⟩ ?_
      refine rt_ hX (G := True) (r := some (.int (-1000000002))) rfl trivial ?_
      exact kN hH bf
    ·
      show X (25, [some (.ref 0), some (.int x), none, none, none], [.int 0], (ov 35 36 h g))
      refine go hX 7 (gs := [True, True, True, True, True, True, True]) (z' := (41, [some (.ref 0), some (.int x), none, none, none], [.int 0, .int x, .ref 1, .ref 34], (ov 35 36 h g))) rfl ⟨trivial, trivial, trivial, trivial, trivial, trivial, trivial, trivial⟩ ?_
      refine cl hX 52 4 [.ref 34, .ref 1, .int x, .int 0] [] rfl rfl rfl rfl ?_
      refine c_share hH.1 hH.2 xm gA4 gA2 gA3 (fun _ g5 => ?_) (fun z => absurd rfl z) (fun z => absurd rfl z)
      show X (44, [some (.ref 0), some (.int x), none, none, none], [.int (shV (h.1 5 ((x * 14) + 10)) (h.1 5 ((x * 14) + 3)) r4 r2)], (ov 35 36 h g5))
      refine go hX 7 (gs := [True, True, True, True, True, True, True]) (z' := (55, [some (.ref 0), some (.int x), some (.int (shV (h.1 5 ((x * 14) + 10)) (h.1 5 ((x * 14) + 3)) r4 r2)), none, none], [.int 1, .int x, .ref 1, .ref 34], (ov 35 36 h g5))) rfl ⟨trivial, trivial, trivial, trivial, trivial, trivial, trivial, trivial⟩ ?_
      refine cl hX 52 4 [.ref 34, .ref 1, .int x, .int 1] [] rfl rfl rfl rfl ?_
      refine c_share hH.1 hH.2 xm gA4 gA2 gA3 (fun z => absurd z (by decide)) (fun _ _ g6 => ?_) (fun _ z => absurd rfl z)
      show X (58, [some (.ref 0), some (.int x), some (.int (shV (h.1 5 ((x * 14) + 10)) (h.1 5 ((x * 14) + 3)) r4 r2)), none, none], [.int (shS (h.1 5 ((x * 14) + 10)) (h.1 5 ((x * 14) + 3)) r4 r2 r3)], (ov 35 36 h g6))
      refine go hX 7 (gs := [True, True, True, True, True, True, True]) (z' := (69, [some (.ref 0), some (.int x), some (.int (shV (h.1 5 ((x * 14) + 10)) (h.1 5 ((x * 14) + 3)) r4 r2)), some (.int (shS (h.1 5 ((x * 14) + 10)) (h.1 5 ((x * 14) + 3)) r4 r2 r3)), none], [.int 2, .int x, .ref 1, .ref 34], (ov 35 36 h g6))) rfl ⟨trivial, trivial, trivial, trivial, trivial, trivial, trivial, trivial⟩ ?_
      refine cl hX 52 4 [.ref 34, .ref 1, .int x, .int 2] [] rfl rfl rfl rfl ?_
      refine c_share hH.1 hH.2 xm gA4 gA2 gA3 (fun z => absurd z (by decide)) (fun _ z => absurd z (by decide)) (fun _ _ g7 => ?_)
      show X (72, [some (.ref 0), some (.int x), some (.int (shV (h.1 5 ((x * 14) + 10)) (h.1 5 ((x * 14) + 3)) r4 r2)), some (.int (shS (h.1 5 ((x * 14) + 10)) (h.1 5 ((x * 14) + 3)) r4 r2 r3)), none], [.int ((h.1 5 ((x * 14) + 10)) - shV (h.1 5 ((x * 14) + 10)) (h.1 5 ((x * 14) + 3)) r4 r2 - shS (h.1 5 ((x * 14) + 10)) (h.1 5 ((x * 14) + 3)) r4 r2 r3)], (ov 35 36 h g7))
      refine go hX 11 (gs := [True, True, True, True, True, True, True, True, True, True, True]) (z' := (92, [some (.ref 0), some (.int x), some (.int (shV (h.1 5 ((x * 14) + 10)) (h.1 5 ((x * 14) + 3)) r4 r2)), some (.int (shS (h.1 5 ((x * 14) + 10)) (h.1 5 ((x * 14) + 3)) r4 r2 r3)), some (.int ((h.1 5 ((x * 14) + 10)) - shV (h.1 5 ((x * 14) + 10)) (h.1 5 ((x * 14) + 3)) r4 r2 - shS (h.1 5 ((x * 14) + 10)) (h.1 5 ((x * 14) + 3)) r4 r2 r3))], [.int 3, .int x, .ref 4, .int 3, .int x, .ref 4], (ov 35 36 h g7))) rfl ⟨trivial, trivial, trivial, trivial, trivial, trivial, trivial, trivial, trivial, trivial, trivial, trivial⟩ ?_
      refine cl hX 94 3 [.ref 4, .int x, .int 3] [.int 3, .int x, .ref 4] rfl rfl rfl rfl ?_
      refine c_pg3 hH.1 hH.2 xm ?_
      show X (95, [some (.ref 0), some (.int x), some (.int (shV (h.1 5 ((x * 14) + 10)) (h.1 5 ((x * 14) + 3)) r4 r2)), some (.int (shS (h.1 5 ((x * 14) + 10)) (h.1 5 ((x * 14) + 3)) r4 r2 r3)), some (.int ((h.1 5 ((x * 14) + 10)) - shV (h.1 5 ((x * 14) + 10)) (h.1 5 ((x * 14) + 3)) r4 r2 - shS (h.1 5 ((x * 14) + 10)) (h.1 5 ((x * 14) + 3)) r4 r2 r3))], [.int (h.1 5 ((x * 14) + 3)), .int 3, .int x, .ref 4], (ov 35 36 h g7))
      refine go hX 2 (gs := [True, True]) (z' := (97, [some (.ref 0), some (.int x), some (.int (shV (h.1 5 ((x * 14) + 10)) (h.1 5 ((x * 14) + 3)) r4 r2)), some (.int (shS (h.1 5 ((x * 14) + 10)) (h.1 5 ((x * 14) + 3)) r4 r2 r3)), some (.int ((h.1 5 ((x * 14) + 10)) - shV (h.1 5 ((x * 14) + 10)) (h.1 5 ((x * 14) + 3)) r4 r2 - shS (h.1 5 ((x * 14) + 10)) (h.1 5 ((x * 14) + 3)) r4 r2 r3))], [.int ((h.1 5 ((x * 14) + 3)) - (shV (h.1 5 ((x * 14) + 10)) (h.1 5 ((x * 14) + 3)) r4 r2)), .int 3, .int x, .ref 4], (ov 35 36 h g7))) rfl ⟨trivial, trivial, trivial⟩ ?_
      refine cl hX 95 4 [.ref 4, .int x, .int 3, .int ((h.1 5 ((x * 14) + 3)) - (shV (h.1 5 ((x * 14) + 10)) (h.1 5 ((x * 14) + 3)) r4 r2))] [] rfl rfl rfl rfl ?_
      refine c_ps3 hH.1 (by exact hH.2) (by exact xm) ?_
      show X (100, [some (.ref 0), some (.int x), some (.int (shV (h.1 5 ((x * 14) + 10)) (h.1 5 ((x * 14) + 3)) r4 r2)), some (.int (shS (h.1 5 ((x * 14) + 10)) (h.1 5 ((x * 14) + 3)) r4 r2 r3)), some (.int ((h.1 5 ((x * 14) + 10)) - shV (h.1 5 ((x * 14) + 10)) (h.1 5 ((x * 14) + 3)) r4 r2 - shS (h.1 5 ((x * 14) + 10)) (h.1 5 ((x * 14) + 3)) r4 r2 r3))], [], (hI (ov 35 36 h g7) 5 ((x * 14) + 3) ((h.1 5 ((x * 14) + 3)) - (shV (h.1 5 ((x * 14) + 10)) (h.1 5 ((x * 14) + 3)) r4 r2))))
      refine go hX 5 (gs := [True, True, True, True, True]) (z' := (107, [some (.ref 0), some (.int x), some (.int (shV (h.1 5 ((x * 14) + 10)) (h.1 5 ((x * 14) + 3)) r4 r2)), some (.int (shS (h.1 5 ((x * 14) + 10)) (h.1 5 ((x * 14) + 3)) r4 r2 r3)), some (.int ((h.1 5 ((x * 14) + 10)) - shV (h.1 5 ((x * 14) + 10)) (h.1 5 ((x * 14) + 3)) r4 r2 - shS (h.1 5 ((x * 14) + 10)) (h.1 5 ((x * 14) + 3)) r4 r2 r3))], [.int (shS (h.1 5 ((x * 14) + 10)) (h.1 5 ((x * 14) + 3)) r4 r2 r3), .int 5, .int x, .ref 1], (hI (ov 35 36 h g7) 5 ((x * 14) + 3) ((h.1 5 ((x * 14) + 3)) - (shV (h.1 5 ((x * 14) + 10)) (h.1 5 ((x * 14) + 3)) r4 r2))))) rfl ⟨trivial, trivial, trivial, trivial, trivial, trivial⟩ ?_
      refine cl hX 84 4 [.ref 1, .int x, .int 5, .int (shS (h.1 5 ((x * 14) + 10)) (h.1 5 ((x * 14) + 3)) r4 r2 r3)] [] rfl rfl rfl rfl ?_
      refine c_addP5 (h := (hI (ov 35 36 h g7) 5 ((x * 14) + 3) ((h.1 5 ((x * 14) + 3)) - (shV (h.1 5 ((x * 14) + 10)) (h.1 5 ((x * 14) + 3)) r4 r2)))) hH.1 hH.2 xm ?_
      rw [show ((hI (ov 35 36 h g7) 5 ((x * 14) + 3) ((h.1 5 ((x * 14) + 3)) - (shV (h.1 5 ((x * 14) + 10)) (h.1 5 ((x * 14) + 3)) r4 r2))).1 5 ((x * 14) + 5)) = (h.1 5 ((x * 14) + 5)) from by rw [hI_j (x14 (by decide))]; rfl]
      show X (110, [some (.ref 0), some (.int x), some (.int (shV (h.1 5 ((x * 14) + 10)) (h.1 5 ((x * 14) + 3)) r4 r2)), some (.int (shS (h.1 5 ((x * 14) + 10)) (h.1 5 ((x * 14) + 3)) r4 r2 r3)), some (.int ((h.1 5 ((x * 14) + 10)) - shV (h.1 5 ((x * 14) + 10)) (h.1 5 ((x * 14) + 3)) r4 r2 - shS (h.1 5 ((x * 14) + 10)) (h.1 5 ((x * 14) + 3)) r4 r2 r3))], [], (hI (hI (ov 35 36 h g7) 5 ((x * 14) + 3) ((h.1 5 ((x * 14) + 3)) - (shV (h.1 5 ((x * 14) + 10)) (h.1 5 ((x * 14) + 3)) r4 r2))) 5 ((x * 14) + 5) (paP (h.1 5 ((x * 14) + 5)) (shS (h.1 5 ((x * 14) + 10)) (h.1 5 ((x * 14) + 3)) r4 r2 r3))))
      refine go hX 5 (gs := [True, True, True, True, True]) (z' := (118, [some (.ref 0), some (.int x), some (.int (shV (h.1 5 ((x * 14) + 10)) (h.1 5 ((x * 14) + 3)) r4 r2)), some (.int (shS (h.1 5 ((x * 14) + 10)) (h.1 5 ((x * 14) + 3)) r4 r2 r3)), some (.int ((h.1 5 ((x * 14) + 10)) - shV (h.1 5 ((x * 14) + 10)) (h.1 5 ((x * 14) + 3)) r4 r2 - shS (h.1 5 ((x * 14) + 10)) (h.1 5 ((x * 14) + 3)) r4 r2 r3))], [.int ((h.1 5 ((x * 14) + 10)) - shV (h.1 5 ((x * 14) + 10)) (h.1 5 ((x * 14) + 3)) r4 r2 - shS (h.1 5 ((x * 14) + 10)) (h.1 5 ((x * 14) + 3)) r4 r2 r3), .int 4, .int x, .ref 1], (hI (hI (ov 35 36 h g7) 5 ((x * 14) + 3) ((h.1 5 ((x * 14) + 3)) - (shV (h.1 5 ((x * 14) + 10)) (h.1 5 ((x * 14) + 3)) r4 r2))) 5 ((x * 14) + 5) (paP (h.1 5 ((x * 14) + 5)) (shS (h.1 5 ((x * 14) + 10)) (h.1 5 ((x * 14) + 3)) r4 r2 r3))))) rfl ⟨trivial, trivial, trivial, trivial, trivial, trivial⟩ ?_
      refine cl hX 84 4 [.ref 1, .int x, .int 4, .int ((h.1 5 ((x * 14) + 10)) - shV (h.1 5 ((x * 14) + 10)) (h.1 5 ((x * 14) + 3)) r4 r2 - shS (h.1 5 ((x * 14) + 10)) (h.1 5 ((x * 14) + 3)) r4 r2 r3)] [] rfl rfl rfl rfl ?_
      refine c_addP4 (h := (hI (hI (ov 35 36 h g7) 5 ((x * 14) + 3) ((h.1 5 ((x * 14) + 3)) - (shV (h.1 5 ((x * 14) + 10)) (h.1 5 ((x * 14) + 3)) r4 r2))) 5 ((x * 14) + 5) (paP (h.1 5 ((x * 14) + 5)) (shS (h.1 5 ((x * 14) + 10)) (h.1 5 ((x * 14) + 3)) r4 r2 r3)))) hH.1 hH.2 xm ?_
      rw [show ((hI (hI (ov 35 36 h g7) 5 ((x * 14) + 3) ((h.1 5 ((x * 14) + 3)) - (shV (h.1 5 ((x * 14) + 10)) (h.1 5 ((x * 14) + 3)) r4 r2))) 5 ((x * 14) + 5) (paP (h.1 5 ((x * 14) + 5)) (shS (h.1 5 ((x * 14) + 10)) (h.1 5 ((x * 14) + 3)) r4 r2 r3))).1 5 ((x * 14) + 4)) = (h.1 5 ((x * 14) + 4)) from by rw [hI_j (x14 (by decide)), hI_j (x14 (by decide))]; rfl]
      show X (121, [some (.ref 0), some (.int x), some (.int (shV (h.1 5 ((x * 14) + 10)) (h.1 5 ((x * 14) + 3)) r4 r2)), some (.int (shS (h.1 5 ((x * 14) + 10)) (h.1 5 ((x * 14) + 3)) r4 r2 r3)), some (.int ((h.1 5 ((x * 14) + 10)) - shV (h.1 5 ((x * 14) + 10)) (h.1 5 ((x * 14) + 3)) r4 r2 - shS (h.1 5 ((x * 14) + 10)) (h.1 5 ((x * 14) + 3)) r4 r2 r3))], [], (hI (hI (hI (ov 35 36 h g7) 5 ((x * 14) + 3) ((h.1 5 ((x * 14) + 3)) - (shV (h.1 5 ((x * 14) + 10)) (h.1 5 ((x * 14) + 3)) r4 r2))) 5 ((x * 14) + 5) (paP (h.1 5 ((x * 14) + 5)) (shS (h.1 5 ((x * 14) + 10)) (h.1 5 ((x * 14) + 3)) r4 r2 r3))) 5 ((x * 14) + 4) (paP (h.1 5 ((x * 14) + 4)) ((h.1 5 ((x * 14) + 10)) - shV (h.1 5 ((x * 14) + 10)) (h.1 5 ((x * 14) + 3)) r4 r2 - shS (h.1 5 ((x * 14) + 10)) (h.1 5 ((x * 14) + 3)) r4 r2 r3))))
      refine go hX 6 (gs := [True, True, True, True, True, True]) (z' := (132, [some (.ref 0), some (.int x), some (.int (shV (h.1 5 ((x * 14) + 10)) (h.1 5 ((x * 14) + 3)) r4 r2)), some (.int (shS (h.1 5 ((x * 14) + 10)) (h.1 5 ((x * 14) + 3)) r4 r2 r3)), some (.int ((h.1 5 ((x * 14) + 10)) - shV (h.1 5 ((x * 14) + 10)) (h.1 5 ((x * 14) + 3)) r4 r2 - shS (h.1 5 ((x * 14) + 10)) (h.1 5 ((x * 14) + 3)) r4 r2 r3))], [.int 0, .int 10, .int x, .ref 4], (hI (hI (hI (ov 35 36 h g7) 5 ((x * 14) + 3) ((h.1 5 ((x * 14) + 3)) - (shV (h.1 5 ((x * 14) + 10)) (h.1 5 ((x * 14) + 3)) r4 r2))) 5 ((x * 14) + 5) (paP (h.1 5 ((x * 14) + 5)) (shS (h.1 5 ((x * 14) + 10)) (h.1 5 ((x * 14) + 3)) r4 r2 r3))) 5 ((x * 14) + 4) (paP (h.1 5 ((x * 14) + 4)) ((h.1 5 ((x * 14) + 10)) - shV (h.1 5 ((x * 14) + 10)) (h.1 5 ((x * 14) + 3)) r4 r2 - shS (h.1 5 ((x * 14) + 10)) (h.1 5 ((x * 14) + 3)) r4 r2 r3))))) rfl ⟨trivial, trivial, trivial, trivial, trivial, trivial, trivial⟩ ?_
      refine cl hX 95 4 [.ref 4, .int x, .int 10, .int 0] [] rfl rfl rfl rfl ?_
      refine c_ps10 hH.1 (by exact hH.2) (by exact xm) ?_
      show X (135, [some (.ref 0), some (.int x), some (.int (shV (h.1 5 ((x * 14) + 10)) (h.1 5 ((x * 14) + 3)) r4 r2)), some (.int (shS (h.1 5 ((x * 14) + 10)) (h.1 5 ((x * 14) + 3)) r4 r2 r3)), some (.int ((h.1 5 ((x * 14) + 10)) - shV (h.1 5 ((x * 14) + 10)) (h.1 5 ((x * 14) + 3)) r4 r2 - shS (h.1 5 ((x * 14) + 10)) (h.1 5 ((x * 14) + 3)) r4 r2 r3))], [], (hI (hI (hI (hI (ov 35 36 h g7) 5 ((x * 14) + 3) ((h.1 5 ((x * 14) + 3)) - (shV (h.1 5 ((x * 14) + 10)) (h.1 5 ((x * 14) + 3)) r4 r2))) 5 ((x * 14) + 5) (paP (h.1 5 ((x * 14) + 5)) (shS (h.1 5 ((x * 14) + 10)) (h.1 5 ((x * 14) + 3)) r4 r2 r3))) 5 ((x * 14) + 4) (paP (h.1 5 ((x * 14) + 4)) ((h.1 5 ((x * 14) + 10)) - shV (h.1 5 ((x * 14) + 10)) (h.1 5 ((x * 14) + 3)) r4 r2 - shS (h.1 5 ((x * 14) + 10)) (h.1 5 ((x * 14) + 3)) r4 r2 r3))) 5 ((x * 14) + 10) 0))
      refine go hX 1 (gs := [True]) (z' := (137, [some (.ref 0), some (.int x), some (.int (shV (h.1 5 ((x * 14) + 10)) (h.1 5 ((x * 14) + 3)) r4 r2)), some (.int (shS (h.1 5 ((x * 14) + 10)) (h.1 5 ((x * 14) + 3)) r4 r2 r3)), some (.int ((h.1 5 ((x * 14) + 10)) - shV (h.1 5 ((x * 14) + 10)) (h.1 5 ((x * 14) + 3)) r4 r2 - shS (h.1 5 ((x * 14) + 10)) (h.1 5 ((x * 14) + 3)) r4 r2 r3))], [.int ((h.1 5 ((x * 14) + 10)) - shV (h.1 5 ((x * 14) + 10)) (h.1 5 ((x * 14) + 3)) r4 r2 - shS (h.1 5 ((x * 14) + 10)) (h.1 5 ((x * 14) + 3)) r4 r2 r3)], (hI (hI (hI (hI (ov 35 36 h g7) 5 ((x * 14) + 3) ((h.1 5 ((x * 14) + 3)) - (shV (h.1 5 ((x * 14) + 10)) (h.1 5 ((x * 14) + 3)) r4 r2))) 5 ((x * 14) + 5) (paP (h.1 5 ((x * 14) + 5)) (shS (h.1 5 ((x * 14) + 10)) (h.1 5 ((x * 14) + 3)) r4 r2 r3))) 5 ((x * 14) + 4) (paP (h.1 5 ((x * 14) + 4)) ((h.1 5 ((x * 14) + 10)) - shV (h.1 5 ((x * 14) + 10)) (h.1 5 ((x * 14) + 3)) r4 r2 - shS (h.1 5 ((x * 14) + 10)) (h.1 5 ((x * 14) + 3)) r4 r2 r3))) 5 ((x * 14) + 10) 0))) rfl ⟨trivial, trivial⟩ ?_
      refine rt_ hX (G := True) (r := some (.int ((h.1 5 ((x * 14) + 10)) - shV (h.1 5 ((x * 14) + 10)) (h.1 5 ((x * 14) + 3)) r4 r2 - shS (h.1 5 ((x * 14) + 10)) (h.1 5 ((x * 14) + 3)) r4 r2 r3))) rfl trivial ?_
      exact kG hH bf g7
  ·
    show X (11, [some (.ref 0), some (.int x), none, none, none], [.int 0], (ov 35 36 h g))
    refine go hX 2 (gs := [True, True]) (z' := (16, [some (.ref 0), some (.int x), none, none, none], [.int (-1000000001)], (ov 35 36 h g))) rfl ⟨trivial, trivial, trivial⟩ ?_
    refine rt_ hX (G := True) (r := some (.int (-1000000001))) rfl trivial ?_
    exact kB hH
theorem c_takesA0 {d : Nat} {Q : Option Value → Hp → Prop} {h : Hp} {x w : Int32} (xm : h.1 4 2 ≤ 10) (hv : ¬ ((0 ≤ x ∧ x < h.1 4 2) ∧ (0 ≤ w ∧ w ≤ 2))) (k : Q (some (.int (-1000000001))) h) : Call (d + 4) 135 [.ref 0, .int x, .int w] h Q := by
  refine call_of (rfl : psM[135]? = some _) rfl rfl (rcvV rfl) (fun X hX => ?_)
  show X (0, [some (.ref 0), some (.int x), some (.int w)], [], h)
  refine go hX 4 (gs := [True, True, True, True]) (z' := (8, [some (.ref 0), some (.int x), some (.int w)], [.int x, .ref 4], h)) rfl ⟨trivial, trivial, trivial, trivial, trivial⟩ ?_
  refine cl hX 93 2 [.ref 4, .int x] [] rfl rfl rfl rfl ?_
  refine c_holdsH (fun hH => ?_) (fun hH => ?_)
  ·
    show X (11, [some (.ref 0), some (.int x), some (.int w)], [.int 1], h)
    refine go hX 4 (gs := [True, True, True, True]) (z' := (17, [some (.ref 0), some (.int x), some (.int w)], [.int 2, .int 0, .int w], h)) rfl ⟨trivial, trivial, trivial, trivial, trivial⟩ ?_
    refine cl hX 156 3 [.int w, .int 0, .int 2] [] rfl rfl rfl rfl ?_
    refine c_within (fun bw => ?_) (fun bw => ?_)
    ·
      show X (20, [some (.ref 0), some (.int x), some (.int w)], [.int 1], h)
      refine go hX 4 (gs := [True, True, True, True]) (z' := (31, [some (.ref 0), some (.int x), some (.int w)], [.int x, .ref 1], h)) rfl ⟨trivial, trivial, trivial, trivial, trivial⟩ ?_
      refine cl hX 62 2 [.ref 1, .int x] [] rfl rfl rfl rfl ?_
      exact absurd ⟨hH, bw⟩ hv
    ·
      show X (20, [some (.ref 0), some (.int x), some (.int w)], [.int 0], h)
      refine go hX 2 (gs := [True, True]) (z' := (25, [some (.ref 0), some (.int x), some (.int w)], [.int (-1000000001)], h)) rfl ⟨trivial, trivial, trivial⟩ ?_
      refine rt_ hX (G := True) (r := some (.int (-1000000001))) rfl trivial ?_
      exact k
  ·
    show X (11, [some (.ref 0), some (.int x), some (.int w)], [.int 0], h)
    refine go hX 2 (gs := [True, True]) (z' := (25, [some (.ref 0), some (.int x), some (.int w)], [.int (-1000000001)], h)) rfl ⟨trivial, trivial, trivial⟩ ?_
    refine rt_ hX (G := True) (r := some (.int (-1000000001))) rfl trivial ?_
    exact k
theorem c_payA0 {d : Nat} {Q : Option Value → Hp → Prop} {h : Hp} {x : Int32} (xm : h.1 4 2 ≤ 10) (hv : ¬ (0 ≤ x ∧ x < h.1 4 2)) (k : Q (some (.int (-1000000001))) h) : Call (d + 4) 134 [.ref 0, .int x] h Q := by
  refine call_of (rfl : psM[134]? = some _) rfl rfl (rcvV rfl) (fun X hX => ?_)
  show X (0, [some (.ref 0), some (.int x), none, none, none], [], h)
  refine go hX 4 (gs := [True, True, True, True]) (z' := (8, [some (.ref 0), some (.int x), none, none, none], [.int x, .ref 4], h)) rfl ⟨trivial, trivial, trivial, trivial, trivial⟩ ?_
  refine cl hX 93 2 [.ref 4, .int x] [] rfl rfl rfl rfl ?_
  refine c_holdsH (fun hH => ?_) (fun hH => ?_)
  ·
    show X (11, [some (.ref 0), some (.int x), none, none, none], [.int 1], h)
    refine go hX 4 (gs := [True, True, True, True]) (z' := (22, [some (.ref 0), some (.int x), none, none, none], [.int x, .ref 1], h)) rfl ⟨trivial, trivial, trivial, trivial, trivial⟩ ?_
    refine cl hX 62 2 [.ref 1, .int x] [] rfl rfl rfl rfl ?_
    exact absurd hH hv
  ·
    show X (11, [some (.ref 0), some (.int x), none, none, none], [.int 0], h)
    refine go hX 2 (gs := [True, True]) (z' := (16, [some (.ref 0), some (.int x), none, none, none], [.int (-1000000001)], h)) rfl ⟨trivial, trivial, trivial⟩ ?_
    refine rt_ hX (G := True) (r := some (.int (-1000000001))) rfl trivial ?_
    exact k
theorem c_handAtQ {d : Nat} {Q : Option Value → Hp → Prop} {h : Hp} {x : Int32} (k : Q (some (.int (40 + (16 * x)))) h) : Call (d + 1) 164 [.ref 65, .int x] h Q := by
  refine call_of (rfl : psM[164]? = some _) rfl rfl (rcvV rfl) (fun X hX => ?_)
  show X (0, [some (.ref 65), some (.int x)], [], h)
  refine go hX 5 (gs := [True, True, True, True, True]) (z' := (7, [some (.ref 65), some (.int x)], [.int (40 + (16 * x))], h)) rfl ⟨trivial, trivial, trivial, trivial, trivial, trivial⟩ ?_
  refine rt_ hX (G := True) (r := some (.int (40 + (16 * x)))) rfl trivial ?_
  exact k
theorem c_leastQ {d : Nat} {Q : Option Value → Hp → Prop} {h : Hp} {a b : Int32} (k : Q (some (.int (if a < b then a else b))) h) : Call (d + 1) 161 [.int a, .int b] h Q := by
  refine call_of (rfl : psM[161]? = some _) rfl rfl (rcvS rfl) (fun X hX => ?_)
  show X (0, [some (.int a), some (.int b)], [], h)
  refine go hX 3 (gs := [True, True, True]) (z' := (if b ≤ a then 9 else 5, [some (.int a), some (.int b)], [], h)) rfl ⟨trivial, trivial, trivial, trivial⟩ ?_
  refine br (fun b1 => ?_) (fun b1 => ?_)
  ·
    refine go hX 1 (gs := [True]) (z' := (10, [some (.int a), some (.int b)], [.int b], h)) rfl ⟨trivial, trivial⟩ ?_
    refine rt_ hX (G := True) (r := some (.int b)) rfl trivial ?_
    rw [if_neg (by grind)] at k; exact k
  ·
    refine go hX 2 (gs := [True, True]) (z' := (10, [some (.int a), some (.int b)], [.int a], h)) rfl ⟨trivial, trivial, trivial⟩ ?_
    refine rt_ hX (G := True) (r := some (.int a)) rfl trivial ?_
    rw [if_pos (by grind)] at k; exact k
theorem c_leastV {d : Nat} {Q : Option Value → Hp → Prop} {h : Hp} {a b : Int32} (k : ∀ v, v = (if a < b then a else b) → Q (some (.int v)) h) : Call (d + 1) 161 [.int a, .int b] h Q := c_leastQ (k _ rfl)
theorem c_reckon {d : Nat} {Q : Option Value → Hp → Prop} {h g : Hp} {x r4 r2 r3 : Int32} (x0 : 0 ≤ x) (x1 : x < 10) (gB4 : ∀ (g : Hp) (Q : Option Value → Hp → Prop), (∀ g1, Q (some (.int r4)) (ov 79 80 h g1)) → Call (d + 4) 231 [.ref 65, .int 4, .int (h.1 66 ((40 + (16 * x)) + 10)), .int 0, .int 0] (ov 79 80 h g) Q) (gB2 : ∀ (g : Hp) (Q : Option Value → Hp → Prop), (∀ g1, Q (some (.int r2)) (ov 79 80 h g1)) → Call (d + 4) 231 [.ref 65, .int 2, .int (h.1 66 ((40 + (16 * x)) + 10)), .int (h.1 66 ((40 + (16 * x)) + 3)), .int 0] (ov 79 80 h g) Q) (gB3 : ∀ (g : Hp) (v : Int32) (Q : Option Value → Hp → Prop), (∀ g1, Q (some (.int r3)) (hI (ov 79 80 h g1) 65 29 v)) → Call (d + 4) 231 [.ref 65, .int 3, .int (h.1 66 ((40 + (16 * x)) + 10)), .int ((h.1 66 ((40 + (16 * x)) + 2)) - (h.1 66 0)), .int 0] (hI (ov 79 80 h g) 65 29 v) Q) (k : ∀ g1, Q none (hI (hI (hI (ov 79 80 h g1) 65 29 (reV (h.1 66 ((40 + (16 * x)) + 10)) (h.1 66 ((40 + (16 * x)) + 3)) r4 r2)) 65 30 (reS (h.1 66 ((40 + (16 * x)) + 10)) (h.1 66 ((40 + (16 * x)) + 3)) r4 r2 r3)) 65 31 ((h.1 66 ((40 + (16 * x)) + 10)) - reV (h.1 66 ((40 + (16 * x)) + 10)) (h.1 66 ((40 + (16 * x)) + 3)) r4 r2 - reS (h.1 66 ((40 + (16 * x)) + 10)) (h.1 66 ((40 + (16 * x)) + 3)) r4 r2 r3))) : Call (d + 5) 233 [.ref 65, .int x] (ov 79 80 h g) Q := by
  refine call_of (rfl : psM[233]? = some _) rfl rfl (rcvV rfl) (fun X hX => ?_)
  show X (0, [some (.ref 65), some (.int x), none, none, none], [], (ov 79 80 h g))
  refine go hX 2 (gs := [True, True]) (z' := (2, [some (.ref 65), some (.int x), none, none, none], [.int x, .ref 65], (ov 79 80 h g))) rfl ⟨trivial, trivial, trivial⟩ ?_
  refine cl hX 164 2 [.ref 65, .int x] [] rfl rfl rfl rfl ?_
  refine c_handAtQ ?_
  show X (5, [some (.ref 65), some (.int x), none, none, none], [.int (40 + (16 * x))], (ov 79 80 h g))
  refine go hX 14 (gs := [True, True, True, True, True, True, True, ibd ((40 + (16 * x)) + 10) 3400, True, True, True, True, True, True]) (z' := (22, [some (.ref 65), some (.int x), some (.int (40 + (16 * x))), some (.int (h.1 66 ((40 + (16 * x)) + 10))), none], [.int 0, .int 0, .int (h.1 66 ((40 + (16 * x)) + 10)), .int 4, .ref 65, .int (h.1 66 ((40 + (16 * x)) + 10))], (ov 79 80 h g))) rfl ⟨trivial, trivial, trivial, trivial, trivial, trivial, trivial, ?_, trivial, trivial, trivial, trivial, trivial, trivial, trivial⟩ ?_
  · exact ibd_of (B := 3400) rfl (by grind) (by grind)
  refine cl hX 231 5 [.ref 65, .int 4, .int (h.1 66 ((40 + (16 * x)) + 10)), .int 0, .int 0] [.int (h.1 66 ((40 + (16 * x)) + 10))] rfl rfl rfl rfl ?_
  refine gB4 _ _ (fun g8 => ?_)
  show X (25, [some (.ref 65), some (.int x), some (.int (40 + (16 * x))), some (.int (h.1 66 ((40 + (16 * x)) + 10))), none], [.int r4, .int (h.1 66 ((40 + (16 * x)) + 10))], (ov 79 80 h g8))
  refine go hX 4 (gs := [True, True, True, True]) (z' := (if 0 ≤ ((h.1 66 ((40 + (16 * x)) + 10)) - r4) then 37 else 33, [some (.ref 65), some (.int x), some (.int (40 + (16 * x))), some (.int (h.1 66 ((40 + (16 * x)) + 10))), some (.int ((h.1 66 ((40 + (16 * x)) + 10)) - r4))], [], (ov 79 80 h g8))) rfl ⟨trivial, trivial, trivial, trivial, trivial⟩ ?_
  refine br (fun b1 => ?_) (fun b1 => ?_)
  ·
    refine go hX 20 (gs := [True, ibd ((40 + (16 * x)) + 3) 3400, True, True, True, True, True, True, True, True, ibd ((40 + (16 * x)) + 3) 3400, True, True, True, True, True, True, True, True, True]) (z' := (64, [some (.ref 65), some (.int x), some (.int (40 + (16 * x))), some (.int (h.1 66 ((40 + (16 * x)) + 10))), some (.int ((h.1 66 ((40 + (16 * x)) + 10)) - r4))], [.int 0, .int (h.1 66 ((40 + (16 * x)) + 3)), .int (h.1 66 ((40 + (16 * x)) + 10)), .int 2, .ref 65, .int (h.1 66 ((40 + (16 * x)) + 3)), .int ((h.1 66 ((40 + (16 * x)) + 10)) - r4), .ref 65], (ov 79 80 h g8))) rfl ⟨trivial, ?_, trivial, trivial, trivial, trivial, trivial, trivial, trivial, trivial, ?_, trivial, trivial, trivial, trivial, trivial, trivial, trivial, trivial, trivial, trivial⟩ ?_
    · exact ibd_of (B := 3400) rfl (by grind) (by grind)
    · exact ibd_of (B := 3400) rfl (by grind) (by grind)
    refine cl hX 231 5 [.ref 65, .int 2, .int (h.1 66 ((40 + (16 * x)) + 10)), .int (h.1 66 ((40 + (16 * x)) + 3)), .int 0] [.int (h.1 66 ((40 + (16 * x)) + 3)), .int ((h.1 66 ((40 + (16 * x)) + 10)) - r4), .ref 65] rfl rfl rfl rfl ?_
    refine gB2 _ _ (fun g9 => ?_)
    show X (67, [some (.ref 65), some (.int x), some (.int (40 + (16 * x))), some (.int (h.1 66 ((40 + (16 * x)) + 10))), some (.int ((h.1 66 ((40 + (16 * x)) + 10)) - r4))], [.int r2, .int (h.1 66 ((40 + (16 * x)) + 3)), .int ((h.1 66 ((40 + (16 * x)) + 10)) - r4), .ref 65], (ov 79 80 h g9))
    refine cl hX 161 2 [.int (h.1 66 ((40 + (16 * x)) + 3)), .int r2] [.int ((h.1 66 ((40 + (16 * x)) + 10)) - r4), .ref 65] rfl rfl rfl rfl ?_
    refine c_leastV (fun v10 v10e => ?_)
    show X (70, [some (.ref 65), some (.int x), some (.int (40 + (16 * x))), some (.int (h.1 66 ((40 + (16 * x)) + 10))), some (.int ((h.1 66 ((40 + (16 * x)) + 10)) - r4))], [.int v10, .int ((h.1 66 ((40 + (16 * x)) + 10)) - r4), .ref 65], (ov 79 80 h g9))
    refine cl hX 161 2 [.int ((h.1 66 ((40 + (16 * x)) + 10)) - r4), .int v10] [.ref 65] rfl rfl rfl rfl ?_
    refine c_leastV (fun v11 v11e => ?_)
    show X (73, [some (.ref 65), some (.int x), some (.int (40 + (16 * x))), some (.int (h.1 66 ((40 + (16 * x)) + 10))), some (.int ((h.1 66 ((40 + (16 * x)) + 10)) - r4))], [.int v11, .ref 65], (ov 79 80 h g9))
    refine go hX 23 (gs := [True, True, ibd 0 3400, True, True, True, ibd ((40 + (16 * x)) + 2) 3400, True, True, True, True, True, True, True, True, True, True, True, True, True, True, True, True]) (z' := (107, [some (.ref 65), some (.int x), some (.int (40 + (16 * x))), some (.int (h.1 66 ((40 + (16 * x)) + 10))), some (.int (((h.1 66 ((40 + (16 * x)) + 10)) - r4) - v11))], [.int 0, .int ((h.1 66 ((40 + (16 * x)) + 2)) - (h.1 66 0)), .int (h.1 66 ((40 + (16 * x)) + 10)), .int 3, .ref 65, .int (((h.1 66 ((40 + (16 * x)) + 10)) - r4) - v11), .ref 65], (hI (ov 79 80 h g9) 65 29 v11))) rfl ⟨trivial, trivial, ?_, trivial, trivial, trivial, ?_, trivial, trivial, trivial, trivial, trivial, trivial, trivial, trivial, trivial, trivial, trivial, trivial, trivial, trivial, trivial, trivial, trivial⟩ ?_
    · exact ⟨by decide, by decide⟩
    · exact ibd_of (B := 3400) rfl (by grind) (by grind)
    refine cl hX 231 5 [.ref 65, .int 3, .int (h.1 66 ((40 + (16 * x)) + 10)), .int ((h.1 66 ((40 + (16 * x)) + 2)) - (h.1 66 0)), .int 0] [.int (((h.1 66 ((40 + (16 * x)) + 10)) - r4) - v11), .ref 65] rfl rfl rfl rfl ?_
    refine gB3 _ _ _ (fun g12 => ?_)
    show X (110, [some (.ref 65), some (.int x), some (.int (40 + (16 * x))), some (.int (h.1 66 ((40 + (16 * x)) + 10))), some (.int (((h.1 66 ((40 + (16 * x)) + 10)) - r4) - v11))], [.int r3, .int (((h.1 66 ((40 + (16 * x)) + 10)) - r4) - v11), .ref 65], (hI (ov 79 80 h g12) 65 29 v11))
    refine cl hX 161 2 [.int (((h.1 66 ((40 + (16 * x)) + 10)) - r4) - v11), .int r3] [.ref 65] rfl rfl rfl rfl ?_
    refine c_leastV (fun v13 v13e => ?_)
    show X (113, [some (.ref 65), some (.int x), some (.int (40 + (16 * x))), some (.int (h.1 66 ((40 + (16 * x)) + 10))), some (.int (((h.1 66 ((40 + (16 * x)) + 10)) - r4) - v11))], [.int v13, .ref 65], (hI (ov 79 80 h g12) 65 29 v11))
    refine go hX 10 (gs := [True, True, True, True, True, True, True, True, True, True]) (z' := (131, [some (.ref 65), some (.int x), some (.int (40 + (16 * x))), some (.int (h.1 66 ((40 + (16 * x)) + 10))), some (.int (((h.1 66 ((40 + (16 * x)) + 10)) - r4) - v11))], [], (hI (hI (hI (ov 79 80 h g12) 65 29 v11) 65 30 v13) 65 31 (((h.1 66 ((40 + (16 * x)) + 10)) - v11) - v13)))) rfl ⟨trivial, trivial, trivial, trivial, trivial, trivial, trivial, trivial, trivial, trivial, trivial⟩ ?_
    refine rt_ hX (G := True) (r := none) rfl trivial ?_
    subst v13e
    subst v11e
    subst v10e
    have k := k g12
    unfold reS reV reA at k
    simp only [if_pos b1] at k
    exact k
  ·
    refine go hX 21 (gs := [True, ibd ((40 + (16 * x)) + 3) 3400, True, True, True, True, True, True, True, True, ibd ((40 + (16 * x)) + 3) 3400, True, True, True, True, True, True, True, True, True, True]) (z' := (64, [some (.ref 65), some (.int x), some (.int (40 + (16 * x))), some (.int (h.1 66 ((40 + (16 * x)) + 10))), some (.int 0)], [.int 0, .int (h.1 66 ((40 + (16 * x)) + 3)), .int (h.1 66 ((40 + (16 * x)) + 10)), .int 2, .ref 65, .int (h.1 66 ((40 + (16 * x)) + 3)), .int 0, .ref 65], (ov 79 80 h g8))) rfl ⟨trivial, ?_, trivial, trivial, trivial, trivial, trivial, trivial, trivial, trivial, ?_, trivial, trivial, trivial, trivial, trivial, trivial, trivial, trivial, trivial, trivial, trivial⟩ ?_
    · exact ibd_of (B := 3400) rfl (by grind) (by grind)
    · exact ibd_of (B := 3400) rfl (by grind) (by grind)
    refine cl hX 231 5 [.ref 65, .int 2, .int (h.1 66 ((40 + (16 * x)) + 10)), .int (h.1 66 ((40 + (16 * x)) + 3)), .int 0] [.int (h.1 66 ((40 + (16 * x)) + 3)), .int 0, .ref 65] rfl rfl rfl rfl ?_
    refine gB2 _ _ (fun g14 => ?_)
    show X (67, [some (.ref 65), some (.int x), some (.int (40 + (16 * x))), some (.int (h.1 66 ((40 + (16 * x)) + 10))), some (.int 0)], [.int r2, .int (h.1 66 ((40 + (16 * x)) + 3)), .int 0, .ref 65], (ov 79 80 h g14))
    refine cl hX 161 2 [.int (h.1 66 ((40 + (16 * x)) + 3)), .int r2] [.int 0, .ref 65] rfl rfl rfl rfl ?_
    refine c_leastV (fun v15 v15e => ?_)
    show X (70, [some (.ref 65), some (.int x), some (.int (40 + (16 * x))), some (.int (h.1 66 ((40 + (16 * x)) + 10))), some (.int 0)], [.int v15, .int 0, .ref 65], (ov 79 80 h g14))
    refine cl hX 161 2 [.int 0, .int v15] [.ref 65] rfl rfl rfl rfl ?_
    refine c_leastV (fun v16 v16e => ?_)
    show X (73, [some (.ref 65), some (.int x), some (.int (40 + (16 * x))), some (.int (h.1 66 ((40 + (16 * x)) + 10))), some (.int 0)], [.int v16, .ref 65], (ov 79 80 h g14))
    refine go hX 23 (gs := [True, True, ibd 0 3400, True, True, True, ibd ((40 + (16 * x)) + 2) 3400, True, True, True, True, True, True, True, True, True, True, True, True, True, True, True, True]) (z' := (107, [some (.ref 65), some (.int x), some (.int (40 + (16 * x))), some (.int (h.1 66 ((40 + (16 * x)) + 10))), some (.int (0 - v16))], [.int 0, .int ((h.1 66 ((40 + (16 * x)) + 2)) - (h.1 66 0)), .int (h.1 66 ((40 + (16 * x)) + 10)), .int 3, .ref 65, .int (0 - v16), .ref 65], (hI (ov 79 80 h g14) 65 29 v16))) rfl ⟨trivial, trivial, ?_, trivial, trivial, trivial, ?_, trivial, trivial, trivial, trivial, trivial, trivial, trivial, trivial, trivial, trivial, trivial, trivial, trivial, trivial, trivial, trivial, trivial⟩ ?_
    · exact ⟨by decide, by decide⟩
    · exact ibd_of (B := 3400) rfl (by grind) (by grind)
    refine cl hX 231 5 [.ref 65, .int 3, .int (h.1 66 ((40 + (16 * x)) + 10)), .int ((h.1 66 ((40 + (16 * x)) + 2)) - (h.1 66 0)), .int 0] [.int (0 - v16), .ref 65] rfl rfl rfl rfl ?_
    refine gB3 _ _ _ (fun g17 => ?_)
    show X (110, [some (.ref 65), some (.int x), some (.int (40 + (16 * x))), some (.int (h.1 66 ((40 + (16 * x)) + 10))), some (.int (0 - v16))], [.int r3, .int (0 - v16), .ref 65], (hI (ov 79 80 h g17) 65 29 v16))
    refine cl hX 161 2 [.int (0 - v16), .int r3] [.ref 65] rfl rfl rfl rfl ?_
    refine c_leastV (fun v18 v18e => ?_)
    show X (113, [some (.ref 65), some (.int x), some (.int (40 + (16 * x))), some (.int (h.1 66 ((40 + (16 * x)) + 10))), some (.int (0 - v16))], [.int v18, .ref 65], (hI (ov 79 80 h g17) 65 29 v16))
    refine go hX 10 (gs := [True, True, True, True, True, True, True, True, True, True]) (z' := (131, [some (.ref 65), some (.int x), some (.int (40 + (16 * x))), some (.int (h.1 66 ((40 + (16 * x)) + 10))), some (.int (0 - v16))], [], (hI (hI (hI (ov 79 80 h g17) 65 29 v16) 65 30 v18) 65 31 (((h.1 66 ((40 + (16 * x)) + 10)) - v16) - v18)))) rfl ⟨trivial, trivial, trivial, trivial, trivial, trivial, trivial, trivial, trivial, trivial, trivial⟩ ?_
    refine rt_ hX (G := True) (r := none) rfl trivial ?_
    subst v18e
    subst v16e
    subst v15e
    have k := k g17
    unfold reS reV reA at k
    simp only [if_neg b1] at k
    exact k
theorem c_reckonV {d : Nat} {Q : Option Value → Hp → Prop} {h g : Hp} {x r4 r2 r3 : Int32} (x0 : 0 ≤ x) (x1 : x < 10) (gB4 : ∀ (g : Hp) (Q : Option Value → Hp → Prop), (∀ g1, Q (some (.int r4)) (ov 79 80 h g1)) → Call (d + 4) 231 [.ref 65, .int 4, .int (h.1 66 ((40 + (16 * x)) + 10)), .int 0, .int 0] (ov 79 80 h g) Q) (gB2 : ∀ (g : Hp) (Q : Option Value → Hp → Prop), (∀ g1, Q (some (.int r2)) (ov 79 80 h g1)) → Call (d + 4) 231 [.ref 65, .int 2, .int (h.1 66 ((40 + (16 * x)) + 10)), .int (h.1 66 ((40 + (16 * x)) + 3)), .int 0] (ov 79 80 h g) Q) (gB3 : ∀ (g : Hp) (v : Int32) (Q : Option Value → Hp → Prop), (∀ g1, Q (some (.int r3)) (hI (ov 79 80 h g1) 65 29 v)) → Call (d + 4) 231 [.ref 65, .int 3, .int (h.1 66 ((40 + (16 * x)) + 10)), .int ((h.1 66 ((40 + (16 * x)) + 2)) - (h.1 66 0)), .int 0] (hI (ov 79 80 h g) 65 29 v) Q) (k : ∀ g1 v s c, v = reV (h.1 66 ((40 + (16 * x)) + 10)) (h.1 66 ((40 + (16 * x)) + 3)) r4 r2 → s = reS (h.1 66 ((40 + (16 * x)) + 10)) (h.1 66 ((40 + (16 * x)) + 3)) r4 r2 r3 → c = (h.1 66 ((40 + (16 * x)) + 10)) - reV (h.1 66 ((40 + (16 * x)) + 10)) (h.1 66 ((40 + (16 * x)) + 3)) r4 r2 - reS (h.1 66 ((40 + (16 * x)) + 10)) (h.1 66 ((40 + (16 * x)) + 3)) r4 r2 r3 → Q none (hI (hI (hI (ov 79 80 h g1) 65 29 v) 65 30 s) 65 31 c)) : Call (d + 5) 233 [.ref 65, .int x] (ov 79 80 h g) Q := c_reckon x0 x1 gB4 gB2 gB3 (fun g1 => k g1 _ _ _ rfl rfl rfl)
theorem c_isFrBP {d : Nat} {Q : Option Value → Hp → Prop} {h : Hp} {x : Int32} (x0 : 0 ≤ x) (x1 : x < 10) (k1 : h.1 66 ((40 + (16 * x)) + 11) = 1 → Q (some (.int 1)) h) (k0 : ¬ h.1 66 ((40 + (16 * x)) + 11) = 1 → Q (some (.int 0)) h) : Call (d + 2) 172 [.ref 65, .int x] h Q := by
  refine call_of (rfl : psM[172]? = some _) rfl rfl (rcvV rfl) (fun X hX => ?_)
  show X (0, [some (.ref 65), some (.int x)], [], h)
  refine go hX 4 (gs := [True, True, True, True]) (z' := (6, [some (.ref 65), some (.int x)], [.int x, .ref 65, .ref 66], h)) rfl ⟨trivial, trivial, trivial, trivial, trivial⟩ ?_
  refine cl hX 164 2 [.ref 65, .int x] [.ref 66] rfl rfl rfl rfl ?_
  refine c_handAtQ ?_
  show X (9, [some (.ref 65), some (.int x)], [.int (40 + (16 * x)), .ref 66], h)
  refine go hX 5 (gs := [True, True, ibd ((40 + (16 * x)) + 11) 3400, True, True]) (z' := (if (h.1 66 ((40 + (16 * x)) + 11)) = 1 then 17 else 21, [some (.ref 65), some (.int x)], [], h)) rfl ⟨trivial, trivial, ?_, trivial, trivial, trivial⟩ ?_
  · exact ibd_of (B := 3400) rfl (by grind) (by grind)
  refine br (fun b1 => ?_) (fun b1 => ?_)
  ·
    refine go hX 2 (gs := [True, True]) (z' := (22, [some (.ref 65), some (.int x)], [.int 1], h)) rfl ⟨trivial, trivial, trivial⟩ ?_
    refine rt_ hX (G := isB 1) (r := some (.int 1)) rfl isB1 ?_
    exact k1 (by assumption)
  ·
    refine go hX 1 (gs := [True]) (z' := (22, [some (.ref 65), some (.int x)], [.int 0], h)) rfl ⟨trivial, trivial⟩ ?_
    refine rt_ hX (G := isB 0) (r := some (.int 0)) rfl isB0 ?_
    exact k0 (by assumption)
theorem c_takesB0 {d : Nat} {Q : Option Value → Hp → Prop} {h : Hp} {x w : Int32} (x1 : (0 ≤ x ∧ x ≤ h.1 66 2 - 1) → x < 10) (hv : ¬ ((0 ≤ x ∧ x ≤ h.1 66 2 - 1) ∧ ((0 : Int64) ≤ Int32.toInt64 w ∧ Int32.toInt64 w ≤ 2))) (k : Q (some (.int (-1000000001))) h) : Call (d + 4) 235 [.ref 65, .int x, .int w] h Q := by
  refine call_of (rfl : psM[235]? = some _) rfl rfl (rcvV rfl) (fun X hX => ?_)
  show X (0, [some (.ref 65), some (.int x), some (.int w)], [], h)
  refine go hX 2 (gs := [True, True]) (z' := (2, [some (.ref 65), some (.int x), some (.int w)], [.int x, .ref 65], h)) rfl ⟨trivial, trivial, trivial⟩ ?_
  refine cl hX 169 2 [.ref 65, .int x] [] rfl rfl rfl rfl ?_
  refine c_isHandP (fun hH => ?_) (fun hH => ?_)
  ·
    show X (5, [some (.ref 65), some (.int x), some (.int w)], [.int 1], h)
    refine go hX 5 (gs := [True, True, True, True, True]) (z' := (14, [some (.ref 65), some (.int x), some (.int w)], [.long 2, .long 0, .long (Int32.toInt64 w)], h)) rfl ⟨trivial, trivial, trivial, trivial, trivial, trivial⟩ ?_
    refine cl hX 159 3 [.long (Int32.toInt64 w), .long 0, .long 2] [] rfl rfl rfl rfl ?_
    refine c_isInP (fun bw => ?_) (fun bw => ?_)
    ·
      show X (17, [some (.ref 65), some (.int x), some (.int w)], [.int 1], h)
      refine go hX 3 (gs := [True, True, True]) (z' := (25, [some (.ref 65), some (.int x), some (.int w)], [.int x, .ref 65], h)) rfl ⟨trivial, trivial, trivial, trivial⟩ ?_
      refine cl hX 172 2 [.ref 65, .int x] [] rfl rfl rfl rfl ?_
      exact absurd ⟨hH, bw⟩ hv
    ·
      show X (17, [some (.ref 65), some (.int x), some (.int w)], [.int 0], h)
      refine go hX 2 (gs := [True, True]) (z' := (22, [some (.ref 65), some (.int x), some (.int w)], [.int (-1000000001)], h)) rfl ⟨trivial, trivial, trivial⟩ ?_
      refine rt_ hX (G := True) (r := some (.int (-1000000001))) rfl trivial ?_
      exact k
  ·
    show X (5, [some (.ref 65), some (.int x), some (.int w)], [.int 0], h)
    refine go hX 2 (gs := [True, True]) (z' := (22, [some (.ref 65), some (.int x), some (.int w)], [.int (-1000000001)], h)) rfl ⟨trivial, trivial, trivial⟩ ?_
    refine rt_ hX (G := True) (r := some (.int (-1000000001))) rfl trivial ?_
    exact k
theorem c_payB0 {d : Nat} {Q : Option Value → Hp → Prop} {h : Hp} {x : Int32} (x1 : (0 ≤ x ∧ x ≤ h.1 66 2 - 1) → x < 10) (hv : ¬ (0 ≤ x ∧ x ≤ h.1 66 2 - 1)) (k : Q (some (.int (-1000000001))) h) : Call (d + 4) 234 [.ref 65, .int x] h Q := by
  refine call_of (rfl : psM[234]? = some _) rfl rfl (rcvV rfl) (fun X hX => ?_)
  show X (0, [some (.ref 65), some (.int x)], [], h)
  refine go hX 2 (gs := [True, True]) (z' := (2, [some (.ref 65), some (.int x)], [.int x, .ref 65], h)) rfl ⟨trivial, trivial, trivial⟩ ?_
  refine cl hX 169 2 [.ref 65, .int x] [] rfl rfl rfl rfl ?_
  refine c_isHandP (fun hH => ?_) (fun hH => ?_)
  ·
    show X (5, [some (.ref 65), some (.int x)], [.int 1], h)
    refine go hX 3 (gs := [True, True, True]) (z' := (13, [some (.ref 65), some (.int x)], [.int x, .ref 65], h)) rfl ⟨trivial, trivial, trivial, trivial⟩ ?_
    refine cl hX 172 2 [.ref 65, .int x] [] rfl rfl rfl rfl ?_
    exact absurd hH hv
  ·
    show X (5, [some (.ref 65), some (.int x)], [.int 0], h)
    refine go hX 2 (gs := [True, True]) (z' := (10, [some (.ref 65), some (.int x)], [.int (-1000000001)], h)) rfl ⟨trivial, trivial, trivial⟩ ?_
    refine rt_ hX (G := True) (r := some (.int (-1000000001))) rfl trivial ?_
    exact k
theorem c_takesB {d : Nat} {Q : Option Value → Hp → Prop} {h g : Hp} {x w r4 r2 r3 : Int32} (x1 : (0 ≤ x ∧ x ≤ h.1 66 2 - 1) → x < 10) (gB4 : ∀ (g : Hp) (Q : Option Value → Hp → Prop), (∀ g1, Q (some (.int r4)) (ov 79 80 h g1)) → Call (d + 4) 231 [.ref 65, .int 4, .int (h.1 66 ((40 + (16 * x)) + 10)), .int 0, .int 0] (ov 79 80 h g) Q) (gB2 : ∀ (g : Hp) (Q : Option Value → Hp → Prop), (∀ g1, Q (some (.int r2)) (ov 79 80 h g1)) → Call (d + 4) 231 [.ref 65, .int 2, .int (h.1 66 ((40 + (16 * x)) + 10)), .int (h.1 66 ((40 + (16 * x)) + 3)), .int 0] (ov 79 80 h g) Q) (gB3 : ∀ (g : Hp) (v : Int32) (Q : Option Value → Hp → Prop), (∀ g1, Q (some (.int r3)) (hI (ov 79 80 h g1) 65 29 v)) → Call (d + 4) 231 [.ref 65, .int 3, .int (h.1 66 ((40 + (16 * x)) + 10)), .int ((h.1 66 ((40 + (16 * x)) + 2)) - (h.1 66 0)), .int 0] (hI (ov 79 80 h g) 65 29 v) Q) (kB : ¬ ((0 ≤ x ∧ x ≤ h.1 66 2 - 1) ∧ ((0 : Int64) ≤ Int32.toInt64 w ∧ Int32.toInt64 w ≤ 2)) → Q (some (.int (-1000000001))) (ov 79 80 h g)) (kN : ((0 ≤ x ∧ x ≤ h.1 66 2 - 1) ∧ ((0 : Int64) ≤ Int32.toInt64 w ∧ Int32.toInt64 w ≤ 2)) → h.1 66 ((40 + (16 * x)) + 11) = 1 → Q (some (.int (-1000000002))) (ov 79 80 h g)) (k0 : ((0 ≤ x ∧ x ≤ h.1 66 2 - 1) ∧ ((0 : Int64) ≤ Int32.toInt64 w ∧ Int32.toInt64 w ≤ 2)) → ¬ h.1 66 ((40 + (16 * x)) + 11) = 1 → w = 0 → ∀ g1, Q (some (.int (reV (h.1 66 ((40 + (16 * x)) + 10)) (h.1 66 ((40 + (16 * x)) + 3)) r4 r2))) (hI (hI (hI (ov 79 80 h g1) 65 29 (reV (h.1 66 ((40 + (16 * x)) + 10)) (h.1 66 ((40 + (16 * x)) + 3)) r4 r2)) 65 30 (reS (h.1 66 ((40 + (16 * x)) + 10)) (h.1 66 ((40 + (16 * x)) + 3)) r4 r2 r3)) 65 31 ((h.1 66 ((40 + (16 * x)) + 10)) - reV (h.1 66 ((40 + (16 * x)) + 10)) (h.1 66 ((40 + (16 * x)) + 3)) r4 r2 - reS (h.1 66 ((40 + (16 * x)) + 10)) (h.1 66 ((40 + (16 * x)) + 3)) r4 r2 r3))) (k1 : ((0 ≤ x ∧ x ≤ h.1 66 2 - 1) ∧ ((0 : Int64) ≤ Int32.toInt64 w ∧ Int32.toInt64 w ≤ 2)) → ¬ h.1 66 ((40 + (16 * x)) + 11) = 1 → ¬ w = 0 → w = 1 → ∀ g1, Q (some (.int (reS (h.1 66 ((40 + (16 * x)) + 10)) (h.1 66 ((40 + (16 * x)) + 3)) r4 r2 r3))) (hI (hI (hI (ov 79 80 h g1) 65 29 (reV (h.1 66 ((40 + (16 * x)) + 10)) (h.1 66 ((40 + (16 * x)) + 3)) r4 r2)) 65 30 (reS (h.1 66 ((40 + (16 * x)) + 10)) (h.1 66 ((40 + (16 * x)) + 3)) r4 r2 r3)) 65 31 ((h.1 66 ((40 + (16 * x)) + 10)) - reV (h.1 66 ((40 + (16 * x)) + 10)) (h.1 66 ((40 + (16 * x)) + 3)) r4 r2 - reS (h.1 66 ((40 + (16 * x)) + 10)) (h.1 66 ((40 + (16 * x)) + 3)) r4 r2 r3))) (k2 : ((0 ≤ x ∧ x ≤ h.1 66 2 - 1) ∧ ((0 : Int64) ≤ Int32.toInt64 w ∧ Int32.toInt64 w ≤ 2)) → ¬ h.1 66 ((40 + (16 * x)) + 11) = 1 → ¬ w = 0 → ¬ w = 1 → ∀ g1, Q (some (.int ((h.1 66 ((40 + (16 * x)) + 10)) - reV (h.1 66 ((40 + (16 * x)) + 10)) (h.1 66 ((40 + (16 * x)) + 3)) r4 r2 - reS (h.1 66 ((40 + (16 * x)) + 10)) (h.1 66 ((40 + (16 * x)) + 3)) r4 r2 r3))) (hI (hI (hI (ov 79 80 h g1) 65 29 (reV (h.1 66 ((40 + (16 * x)) + 10)) (h.1 66 ((40 + (16 * x)) + 3)) r4 r2)) 65 30 (reS (h.1 66 ((40 + (16 * x)) + 10)) (h.1 66 ((40 + (16 * x)) + 3)) r4 r2 r3)) 65 31 ((h.1 66 ((40 + (16 * x)) + 10)) - reV (h.1 66 ((40 + (16 * x)) + 10)) (h.1 66 ((40 + (16 * x)) + 3)) r4 r2 - reS (h.1 66 ((40 + (16 * x)) + 10)) (h.1 66 ((40 + (16 * x)) + 3)) r4 r2 r3))) : Call (d + 6) 235 [.ref 65, .int x, .int w] (ov 79 80 h g) Q := by
  refine call_of (rfl : psM[235]? = some _) rfl rfl (rcvV rfl) (fun X hX => ?_)
  show X (0, [some (.ref 65), some (.int x), some (.int w)], [], (ov 79 80 h g))
  refine go hX 2 (gs := [True, True]) (z' := (2, [some (.ref 65), some (.int x), some (.int w)], [.int x, .ref 65], (ov 79 80 h g))) rfl ⟨trivial, trivial, trivial⟩ ?_
  refine cl hX 169 2 [.ref 65, .int x] [] rfl rfl rfl rfl ?_
  refine c_isHandP (fun hH => ?_) (fun hH => ?_)
  ·
    show X (5, [some (.ref 65), some (.int x), some (.int w)], [.int 1], (ov 79 80 h g))
    refine go hX 5 (gs := [True, True, True, True, True]) (z' := (14, [some (.ref 65), some (.int x), some (.int w)], [.long 2, .long 0, .long (Int32.toInt64 w)], (ov 79 80 h g))) rfl ⟨trivial, trivial, trivial, trivial, trivial, trivial⟩ ?_
    refine cl hX 159 3 [.long (Int32.toInt64 w), .long 0, .long 2] [] rfl rfl rfl rfl ?_
    refine c_isInP (fun bw => ?_) (fun bw => ?_)
    ·
      show X (17, [some (.ref 65), some (.int x), some (.int w)], [.int 1], (ov 79 80 h g))
      refine go hX 3 (gs := [True, True, True]) (z' := (25, [some (.ref 65), some (.int x), some (.int w)], [.int x, .ref 65], (ov 79 80 h g))) rfl ⟨trivial, trivial, trivial, trivial⟩ ?_
      refine cl hX 172 2 [.ref 65, .int x] [] rfl rfl rfl rfl ?_
      refine c_isFrBP hH.1 (x1 hH) (fun bf => ?_) (fun bf => ?_)
      ·
        show X (28, [some (.ref 65), some (.int x), some (.int w)], [.int 1], (ov 79 80 h g))
        refine go hX 2 (gs := [True, True]) (z' := (33, [some (.ref 65), some (.int x), some (.int w)], [.int (-1000000002)], (ov 79 80 h g))) rfl ⟨trivial, trivial, trivial⟩ ?_
        refine rt_ hX (G := True) (r := some (.int (-1000000002))) rfl trivial ?_
        exact kN ⟨hH, bw⟩ bf
      ·
        show X (28, [some (.ref 65), some (.int x), some (.int w)], [.int 0], (ov 79 80 h g))
        refine go hX 3 (gs := [True, True, True]) (z' := (36, [some (.ref 65), some (.int x), some (.int w)], [.int x, .ref 65], (ov 79 80 h g))) rfl ⟨trivial, trivial, trivial, trivial⟩ ?_
        refine cl hX 233 2 [.ref 65, .int x] [] rfl rfl rfl rfl ?_
        refine c_reckonV hH.1 (x1 hH) gB4 gB2 gB3 (fun g19 vg19 sg19 cg19 vg19e sg19e cg19e => ?_)
        show X (39, [some (.ref 65), some (.int x), some (.int w)], [], (hI (hI (hI (ov 79 80 h g19) 65 29 vg19) 65 30 sg19) 65 31 cg19))
        refine go hX 2 (gs := [True, True]) (z' := (if w = 0 then 43 else 50, [some (.ref 65), some (.int x), some (.int w)], [], (hI (hI (hI (ov 79 80 h g19) 65 29 vg19) 65 30 sg19) 65 31 cg19))) rfl ⟨trivial, trivial, trivial⟩ ?_
        refine br (fun b1 => ?_) (fun b1 => ?_)
        ·
          refine go hX 3 (gs := [True, True, True]) (z' := (66, [some (.ref 65), some (.int x), some (.int w)], [.int vg19], (hI (hI (hI (ov 79 80 h g19) 65 29 vg19) 65 30 sg19) 65 31 cg19))) rfl ⟨trivial, trivial, trivial, trivial⟩ ?_
          refine rt_ hX (G := True) (r := some (.int vg19)) rfl trivial ?_
          subst cg19e
          subst sg19e
          subst vg19e
          exact k0 ⟨hH, bw⟩ bf b1 g19
        ·
          refine go hX 3 (gs := [True, True, True]) (z' := (if w = 1 then 55 else 62, [some (.ref 65), some (.int x), some (.int w)], [], (hI (hI (hI (ov 79 80 h g19) 65 29 vg19) 65 30 sg19) 65 31 cg19))) rfl ⟨trivial, trivial, trivial, trivial⟩ ?_
          refine br (fun b2 => ?_) (fun b2 => ?_)
          ·
            refine go hX 3 (gs := [True, True, True]) (z' := (66, [some (.ref 65), some (.int x), some (.int w)], [.int sg19], (hI (hI (hI (ov 79 80 h g19) 65 29 vg19) 65 30 sg19) 65 31 cg19))) rfl ⟨trivial, trivial, trivial, trivial⟩ ?_
            refine rt_ hX (G := True) (r := some (.int sg19)) rfl trivial ?_
            subst cg19e
            subst sg19e
            subst vg19e
            exact k1 ⟨hH, bw⟩ bf b1 b2 g19
          ·
            refine go hX 2 (gs := [True, True]) (z' := (66, [some (.ref 65), some (.int x), some (.int w)], [.int cg19], (hI (hI (hI (ov 79 80 h g19) 65 29 vg19) 65 30 sg19) 65 31 cg19))) rfl ⟨trivial, trivial, trivial⟩ ?_
            refine rt_ hX (G := True) (r := some (.int cg19)) rfl trivial ?_
            subst cg19e
            subst sg19e
            subst vg19e
            exact k2 ⟨hH, bw⟩ bf b1 b2 g19
    ·
      show X (17, [some (.ref 65), some (.int x), some (.int w)], [.int 0], (ov 79 80 h g))
      refine go hX 2 (gs := [True, True]) (z' := (22, [some (.ref 65), some (.int x), some (.int w)], [.int (-1000000001)], (ov 79 80 h g))) rfl ⟨trivial, trivial, trivial⟩ ?_
      refine rt_ hX (G := True) (r := some (.int (-1000000001))) rfl trivial ?_
      exact kB (fun z => bw z.2)
  ·
    show X (5, [some (.ref 65), some (.int x), some (.int w)], [.int 0], (ov 79 80 h g))
    refine go hX 2 (gs := [True, True]) (z' := (22, [some (.ref 65), some (.int x), some (.int w)], [.int (-1000000001)], (ov 79 80 h g))) rfl ⟨trivial, trivial, trivial⟩ ?_
    refine rt_ hX (G := True) (r := some (.int (-1000000001))) rfl trivial ?_
    exact kB (fun z => hH z.1)
theorem c_gets4 {d : Nat} {Q : Option Value → Hp → Prop} {h : Hp} {x n : Int32} (x0 : 0 ≤ x) (x1 : x < 10) (k : Q none (hI h 66 ((40 + (16 * x)) + 4) (if 99999 < ((h.1 66 ((40 + (16 * x)) + 4)) + n) then 99999 else ((h.1 66 ((40 + (16 * x)) + 4)) + n)))) : Call (d + 2) 174 [.ref 65, .int x, .int 4, .int n] h Q := by
  refine call_of (rfl : psM[174]? = some _) rfl rfl (rcvV rfl) (fun X hX => ?_)
  show X (0, [some (.ref 65), some (.int x), some (.int 4), some (.int n)], [], h)
  refine go hX 4 (gs := [True, True, True, True]) (z' := (6, [some (.ref 65), some (.int x), some (.int 4), some (.int n)], [.int x, .ref 65, .ref 66], h)) rfl ⟨trivial, trivial, trivial, trivial, trivial⟩ ?_
  refine cl hX 164 2 [.ref 65, .int x] [.ref 66] rfl rfl rfl rfl ?_
  refine c_handAtQ ?_
  show X (9, [some (.ref 65), some (.int x), some (.int 4), some (.int n)], [.int (40 + (16 * x)), .ref 66], h)
  refine go hX 7 (gs := [True, True, True, True, True, True, True]) (z' := (19, [some (.ref 65), some (.int x), some (.int 4), some (.int n)], [.int x, .ref 65, .ref 66, .int 99999, .int ((40 + (16 * x)) + 4), .ref 66], h)) rfl ⟨trivial, trivial, trivial, trivial, trivial, trivial, trivial, trivial⟩ ?_
  refine cl hX 164 2 [.ref 65, .int x] [.ref 66, .int 99999, .int ((40 + (16 * x)) + 4), .ref 66] rfl rfl rfl rfl ?_
  refine c_handAtQ ?_
  show X (22, [some (.ref 65), some (.int x), some (.int 4), some (.int n)], [.int (40 + (16 * x)), .ref 66, .int 99999, .int ((40 + (16 * x)) + 4), .ref 66], h)
  refine go hX 5 (gs := [True, True, ibd ((40 + (16 * x)) + 4) 3400, True, True]) (z' := (27, [some (.ref 65), some (.int x), some (.int 4), some (.int n)], [.int ((h.1 66 ((40 + (16 * x)) + 4)) + n), .int 99999, .int ((40 + (16 * x)) + 4), .ref 66], h)) rfl ⟨trivial, trivial, ?_, trivial, trivial, trivial⟩ ?_
  · exact ibd_of (B := 3400) rfl (by grind) (by grind)
  refine cl hX 161 2 [.int 99999, .int ((h.1 66 ((40 + (16 * x)) + 4)) + n)] [.int ((40 + (16 * x)) + 4), .ref 66] rfl rfl rfl rfl ?_
  refine c_leastQ ?_
  show X (30, [some (.ref 65), some (.int x), some (.int 4), some (.int n)], [.int (if 99999 < ((h.1 66 ((40 + (16 * x)) + 4)) + n) then 99999 else ((h.1 66 ((40 + (16 * x)) + 4)) + n)), .int ((40 + (16 * x)) + 4), .ref 66], h)
  refine go hX 1 (gs := [ibd ((40 + (16 * x)) + 4) 3400]) (z' := (31, [some (.ref 65), some (.int x), some (.int 4), some (.int n)], [], (hI h 66 ((40 + (16 * x)) + 4) (if 99999 < ((h.1 66 ((40 + (16 * x)) + 4)) + n) then 99999 else ((h.1 66 ((40 + (16 * x)) + 4)) + n))))) rfl ⟨?_, trivial⟩ ?_
  · exact ibd_of (B := 3400) rfl (by grind) (by grind)
  refine rt_ hX (G := True) (r := none) rfl trivial ?_
  exact k
theorem c_gets5 {d : Nat} {Q : Option Value → Hp → Prop} {h : Hp} {x n : Int32} (x0 : 0 ≤ x) (x1 : x < 10) (k : Q none (hI h 66 ((40 + (16 * x)) + 5) (if 99999 < ((h.1 66 ((40 + (16 * x)) + 5)) + n) then 99999 else ((h.1 66 ((40 + (16 * x)) + 5)) + n)))) : Call (d + 2) 174 [.ref 65, .int x, .int 5, .int n] h Q := by
  refine call_of (rfl : psM[174]? = some _) rfl rfl (rcvV rfl) (fun X hX => ?_)
  show X (0, [some (.ref 65), some (.int x), some (.int 5), some (.int n)], [], h)
  refine go hX 4 (gs := [True, True, True, True]) (z' := (6, [some (.ref 65), some (.int x), some (.int 5), some (.int n)], [.int x, .ref 65, .ref 66], h)) rfl ⟨trivial, trivial, trivial, trivial, trivial⟩ ?_
  refine cl hX 164 2 [.ref 65, .int x] [.ref 66] rfl rfl rfl rfl ?_
  refine c_handAtQ ?_
  show X (9, [some (.ref 65), some (.int x), some (.int 5), some (.int n)], [.int (40 + (16 * x)), .ref 66], h)
  refine go hX 7 (gs := [True, True, True, True, True, True, True]) (z' := (19, [some (.ref 65), some (.int x), some (.int 5), some (.int n)], [.int x, .ref 65, .ref 66, .int 99999, .int ((40 + (16 * x)) + 5), .ref 66], h)) rfl ⟨trivial, trivial, trivial, trivial, trivial, trivial, trivial, trivial⟩ ?_
  refine cl hX 164 2 [.ref 65, .int x] [.ref 66, .int 99999, .int ((40 + (16 * x)) + 5), .ref 66] rfl rfl rfl rfl ?_
  refine c_handAtQ ?_
  show X (22, [some (.ref 65), some (.int x), some (.int 5), some (.int n)], [.int (40 + (16 * x)), .ref 66, .int 99999, .int ((40 + (16 * x)) + 5), .ref 66], h)
  refine go hX 5 (gs := [True, True, ibd ((40 + (16 * x)) + 5) 3400, True, True]) (z' := (27, [some (.ref 65), some (.int x), some (.int 5), some (.int n)], [.int ((h.1 66 ((40 + (16 * x)) + 5)) + n), .int 99999, .int ((40 + (16 * x)) + 5), .ref 66], h)) rfl ⟨trivial, trivial, ?_, trivial, trivial, trivial⟩ ?_
  · exact ibd_of (B := 3400) rfl (by grind) (by grind)
  refine cl hX 161 2 [.int 99999, .int ((h.1 66 ((40 + (16 * x)) + 5)) + n)] [.int ((40 + (16 * x)) + 5), .ref 66] rfl rfl rfl rfl ?_
  refine c_leastQ ?_
  show X (30, [some (.ref 65), some (.int x), some (.int 5), some (.int n)], [.int (if 99999 < ((h.1 66 ((40 + (16 * x)) + 5)) + n) then 99999 else ((h.1 66 ((40 + (16 * x)) + 5)) + n)), .int ((40 + (16 * x)) + 5), .ref 66], h)
  refine go hX 1 (gs := [ibd ((40 + (16 * x)) + 5) 3400]) (z' := (31, [some (.ref 65), some (.int x), some (.int 5), some (.int n)], [], (hI h 66 ((40 + (16 * x)) + 5) (if 99999 < ((h.1 66 ((40 + (16 * x)) + 5)) + n) then 99999 else ((h.1 66 ((40 + (16 * x)) + 5)) + n))))) rfl ⟨?_, trivial⟩ ?_
  · exact ibd_of (B := 3400) rfl (by grind) (by grind)
  refine rt_ hX (G := True) (r := none) rfl trivial ?_
  exact k
theorem c_payB {d : Nat} {Q : Option Value → Hp → Prop} {h g : Hp} {x r4 r2 r3 : Int32} (x1 : (0 ≤ x ∧ x ≤ h.1 66 2 - 1) → x < 10) (gB4 : ∀ (g : Hp) (Q : Option Value → Hp → Prop), (∀ g1, Q (some (.int r4)) (ov 79 80 h g1)) → Call (d + 4) 231 [.ref 65, .int 4, .int (h.1 66 ((40 + (16 * x)) + 10)), .int 0, .int 0] (ov 79 80 h g) Q) (gB2 : ∀ (g : Hp) (Q : Option Value → Hp → Prop), (∀ g1, Q (some (.int r2)) (ov 79 80 h g1)) → Call (d + 4) 231 [.ref 65, .int 2, .int (h.1 66 ((40 + (16 * x)) + 10)), .int (h.1 66 ((40 + (16 * x)) + 3)), .int 0] (ov 79 80 h g) Q) (gB3 : ∀ (g : Hp) (v : Int32) (Q : Option Value → Hp → Prop), (∀ g1, Q (some (.int r3)) (hI (ov 79 80 h g1) 65 29 v)) → Call (d + 4) 231 [.ref 65, .int 3, .int (h.1 66 ((40 + (16 * x)) + 10)), .int ((h.1 66 ((40 + (16 * x)) + 2)) - (h.1 66 0)), .int 0] (hI (ov 79 80 h g) 65 29 v) Q) (kB : ¬ (0 ≤ x ∧ x ≤ h.1 66 2 - 1) → Q (some (.int (-1000000001))) (ov 79 80 h g)) (kN : (0 ≤ x ∧ x ≤ h.1 66 2 - 1) → h.1 66 ((40 + (16 * x)) + 11) = 1 → Q (some (.int (-1000000002))) (ov 79 80 h g)) (kG : (0 ≤ x ∧ x ≤ h.1 66 2 - 1) → ¬ h.1 66 ((40 + (16 * x)) + 11) = 1 → ∀ g1, Q (some (.int ((h.1 66 ((40 + (16 * x)) + 10)) - reV (h.1 66 ((40 + (16 * x)) + 10)) (h.1 66 ((40 + (16 * x)) + 3)) r4 r2 - reS (h.1 66 ((40 + (16 * x)) + 10)) (h.1 66 ((40 + (16 * x)) + 3)) r4 r2 r3))) (hI (hI (hI (hI (hI (hI (hI (ov 79 80 h g1) 65 29 (reV (h.1 66 ((40 + (16 * x)) + 10)) (h.1 66 ((40 + (16 * x)) + 3)) r4 r2)) 65 30 (reS (h.1 66 ((40 + (16 * x)) + 10)) (h.1 66 ((40 + (16 * x)) + 3)) r4 r2 r3)) 65 31 ((h.1 66 ((40 + (16 * x)) + 10)) - reV (h.1 66 ((40 + (16 * x)) + 10)) (h.1 66 ((40 + (16 * x)) + 3)) r4 r2 - reS (h.1 66 ((40 + (16 * x)) + 10)) (h.1 66 ((40 + (16 * x)) + 3)) r4 r2 r3)) 66 ((40 + (16 * x)) + 3) ((h.1 66 ((40 + (16 * x)) + 3)) - (reV (h.1 66 ((40 + (16 * x)) + 10)) (h.1 66 ((40 + (16 * x)) + 3)) r4 r2))) 66 ((40 + (16 * x)) + 5) (geP (h.1 66 ((40 + (16 * x)) + 5)) (reS (h.1 66 ((40 + (16 * x)) + 10)) (h.1 66 ((40 + (16 * x)) + 3)) r4 r2 r3))) 66 ((40 + (16 * x)) + 4) (geP (h.1 66 ((40 + (16 * x)) + 4)) ((h.1 66 ((40 + (16 * x)) + 10)) - reV (h.1 66 ((40 + (16 * x)) + 10)) (h.1 66 ((40 + (16 * x)) + 3)) r4 r2 - reS (h.1 66 ((40 + (16 * x)) + 10)) (h.1 66 ((40 + (16 * x)) + 3)) r4 r2 r3))) 66 ((40 + (16 * x)) + 10) 0)) : Call (d + 6) 234 [.ref 65, .int x] (ov 79 80 h g) Q := by
  refine call_of (rfl : psM[234]? = some _) rfl rfl (rcvV rfl) (fun X hX => ?_)
  show X (0, [some (.ref 65), some (.int x)], [], (ov 79 80 h g))
  refine go hX 2 (gs := [True, True]) (z' := (2, [some (.ref 65), some (.int x)], [.int x, .ref 65], (ov 79 80 h g))) rfl ⟨trivial, trivial, trivial⟩ ?_
  refine cl hX 169 2 [.ref 65, .int x] [] rfl rfl rfl rfl ?_
  refine c_isHandP (fun hH => ?_) (fun hH => ?_)
  ·
    show X (5, [some (.ref 65), some (.int x)], [.int 1], (ov 79 80 h g))
    refine go hX 3 (gs := [True, True, True]) (z' := (13, [some (.ref 65), some (.int x)], [.int x, .ref 65], (ov 79 80 h g))) rfl ⟨trivial, trivial, trivial, trivial⟩ ?_
    refine cl hX 172 2 [.ref 65, .int x] [] rfl rfl rfl rfl ?_
    refine c_isFrBP hH.1 (x1 hH) (fun bf => ?_) (fun bf => ?_)
    ·
      show X (16, [some (.ref 65), some (.int x)], [.int 1], (ov 79 80 h g))
      refine go hX 2 (gs := [True, True]) (z' := (21, [some (.ref 65), some (.int x)], [.int (-1000000002)], (ov 79 80 h g))) rfl ⟨trivial, trivial, trivial⟩ ?_
      refine rt_ hX (G := True) (r := some (.int (-1000000002))) rfl trivial ?_
      exact kN hH bf
    ·
      show X (16, [some (.ref 65), some (.int x)], [.int 0], (ov 79 80 h g))
      refine go hX 3 (gs := [True, True, True]) (z' := (24, [some (.ref 65), some (.int x)], [.int x, .ref 65], (ov 79 80 h g))) rfl ⟨trivial, trivial, trivial, trivial⟩ ?_
      refine cl hX 233 2 [.ref 65, .int x] [] rfl rfl rfl rfl ?_
      refine c_reckonV hH.1 (x1 hH) gB4 gB2 gB3 (fun g20 vg20 sg20 cg20 vg20e sg20e cg20e => ?_)
      show X (27, [some (.ref 65), some (.int x)], [], (hI (hI (hI (ov 79 80 h g20) 65 29 vg20) 65 30 sg20) 65 31 cg20))
      refine go hX 4 (gs := [True, True, True, True]) (z' := (33, [some (.ref 65), some (.int x)], [.int x, .ref 65, .ref 66], (hI (hI (hI (ov 79 80 h g20) 65 29 vg20) 65 30 sg20) 65 31 cg20))) rfl ⟨trivial, trivial, trivial, trivial, trivial⟩ ?_
      refine cl hX 164 2 [.ref 65, .int x] [.ref 66] rfl rfl rfl rfl ?_
      refine c_handAtQ ?_
      show X (36, [some (.ref 65), some (.int x)], [.int (40 + (16 * x)), .ref 66], (hI (hI (hI (ov 79 80 h g20) 65 29 vg20) 65 30 sg20) 65 31 cg20))
      refine go hX 13 (gs := [True, True, True, True, True, ibd ((40 + (16 * x)) + 3) 3400, True, True, True, ibd ((40 + (16 * x)) + 3) 3400, True, True, True]) (z' := (53, [some (.ref 65), some (.int x)], [.int sg20, .int 5, .int x, .ref 65], (hI (hI (hI (hI (ov 79 80 h g20) 65 29 vg20) 65 30 sg20) 65 31 cg20) 66 ((40 + (16 * x)) + 3) ((h.1 66 ((40 + (16 * x)) + 3)) - vg20)))) rfl ⟨trivial, trivial, trivial, trivial, trivial, ?_, trivial, trivial, trivial, ?_, trivial, trivial, trivial, trivial⟩ ?_
      · exact ibd_of (B := 3400) rfl (by have := x1 hH; have := hH.1; grind) (by have := x1 hH; have := hH.1; grind)
      · exact ibd_of (B := 3400) rfl (by have := x1 hH; have := hH.1; grind) (by have := x1 hH; have := hH.1; grind)
      refine cl hX 174 4 [.ref 65, .int x, .int 5, .int sg20] [] rfl rfl rfl rfl ?_
      refine c_gets5 (h := (hI (hI (hI (hI (ov 79 80 h g20) 65 29 vg20) 65 30 sg20) 65 31 cg20) 66 ((40 + (16 * x)) + 3) ((h.1 66 ((40 + (16 * x)) + 3)) - vg20))) hH.1 (x1 hH) ?_
      rw [show ((hI (hI (hI (hI (ov 79 80 h g20) 65 29 vg20) 65 30 sg20) 65 31 cg20) 66 ((40 + (16 * x)) + 3) ((h.1 66 ((40 + (16 * x)) + 3)) - vg20)).1 66 ((40 + (16 * x)) + 5)) = (h.1 66 ((40 + (16 * x)) + 5)) from by rw [hI_j (x16 (by decide)), hI_ne (by decide), hI_ne (by decide), hI_ne (by decide)]; rfl]
      show X (56, [some (.ref 65), some (.int x)], [], (hI (hI (hI (hI (hI (ov 79 80 h g20) 65 29 vg20) 65 30 sg20) 65 31 cg20) 66 ((40 + (16 * x)) + 3) ((h.1 66 ((40 + (16 * x)) + 3)) - vg20)) 66 ((40 + (16 * x)) + 5) (geP (h.1 66 ((40 + (16 * x)) + 5)) sg20)))
      refine go hX 5 (gs := [True, True, True, True, True]) (z' := (63, [some (.ref 65), some (.int x)], [.int cg20, .int 4, .int x, .ref 65], (hI (hI (hI (hI (hI (ov 79 80 h g20) 65 29 vg20) 65 30 sg20) 65 31 cg20) 66 ((40 + (16 * x)) + 3) ((h.1 66 ((40 + (16 * x)) + 3)) - vg20)) 66 ((40 + (16 * x)) + 5) (geP (h.1 66 ((40 + (16 * x)) + 5)) sg20)))) rfl ⟨trivial, trivial, trivial, trivial, trivial, trivial⟩ ?_
      refine cl hX 174 4 [.ref 65, .int x, .int 4, .int cg20] [] rfl rfl rfl rfl ?_
      refine c_gets4 (h := (hI (hI (hI (hI (hI (ov 79 80 h g20) 65 29 vg20) 65 30 sg20) 65 31 cg20) 66 ((40 + (16 * x)) + 3) ((h.1 66 ((40 + (16 * x)) + 3)) - vg20)) 66 ((40 + (16 * x)) + 5) (geP (h.1 66 ((40 + (16 * x)) + 5)) sg20))) hH.1 (x1 hH) ?_
      rw [show ((hI (hI (hI (hI (hI (ov 79 80 h g20) 65 29 vg20) 65 30 sg20) 65 31 cg20) 66 ((40 + (16 * x)) + 3) ((h.1 66 ((40 + (16 * x)) + 3)) - vg20)) 66 ((40 + (16 * x)) + 5) (geP (h.1 66 ((40 + (16 * x)) + 5)) sg20)).1 66 ((40 + (16 * x)) + 4)) = (h.1 66 ((40 + (16 * x)) + 4)) from by rw [hI_j (x16 (by decide)), hI_j (x16 (by decide)), hI_ne (by decide), hI_ne (by decide), hI_ne (by decide)]; rfl]
      show X (66, [some (.ref 65), some (.int x)], [], (hI (hI (hI (hI (hI (hI (ov 79 80 h g20) 65 29 vg20) 65 30 sg20) 65 31 cg20) 66 ((40 + (16 * x)) + 3) ((h.1 66 ((40 + (16 * x)) + 3)) - vg20)) 66 ((40 + (16 * x)) + 5) (geP (h.1 66 ((40 + (16 * x)) + 5)) sg20)) 66 ((40 + (16 * x)) + 4) (geP (h.1 66 ((40 + (16 * x)) + 4)) cg20)))
      refine go hX 4 (gs := [True, True, True, True]) (z' := (72, [some (.ref 65), some (.int x)], [.int x, .ref 65, .ref 66], (hI (hI (hI (hI (hI (hI (ov 79 80 h g20) 65 29 vg20) 65 30 sg20) 65 31 cg20) 66 ((40 + (16 * x)) + 3) ((h.1 66 ((40 + (16 * x)) + 3)) - vg20)) 66 ((40 + (16 * x)) + 5) (geP (h.1 66 ((40 + (16 * x)) + 5)) sg20)) 66 ((40 + (16 * x)) + 4) (geP (h.1 66 ((40 + (16 * x)) + 4)) cg20)))) rfl ⟨trivial, trivial, trivial, trivial, trivial⟩ ?_
      refine cl hX 164 2 [.ref 65, .int x] [.ref 66] rfl rfl rfl rfl ?_
      refine c_handAtQ ?_
      show X (75, [some (.ref 65), some (.int x)], [.int (40 + (16 * x)), .ref 66], (hI (hI (hI (hI (hI (hI (ov 79 80 h g20) 65 29 vg20) 65 30 sg20) 65 31 cg20) 66 ((40 + (16 * x)) + 3) ((h.1 66 ((40 + (16 * x)) + 3)) - vg20)) 66 ((40 + (16 * x)) + 5) (geP (h.1 66 ((40 + (16 * x)) + 5)) sg20)) 66 ((40 + (16 * x)) + 4) (geP (h.1 66 ((40 + (16 * x)) + 4)) cg20)))
      refine go hX 6 (gs := [True, True, ibd ((40 + (16 * x)) + 10) 3400, True, True, True]) (z' := (84, [some (.ref 65), some (.int x)], [.int cg20], (hI (hI (hI (hI (hI (hI (hI (ov 79 80 h g20) 65 29 vg20) 65 30 sg20) 65 31 cg20) 66 ((40 + (16 * x)) + 3) ((h.1 66 ((40 + (16 * x)) + 3)) - vg20)) 66 ((40 + (16 * x)) + 5) (geP (h.1 66 ((40 + (16 * x)) + 5)) sg20)) 66 ((40 + (16 * x)) + 4) (geP (h.1 66 ((40 + (16 * x)) + 4)) cg20)) 66 ((40 + (16 * x)) + 10) 0))) rfl ⟨trivial, trivial, ?_, trivial, trivial, trivial, trivial⟩ ?_
      · exact ibd_of (B := 3400) rfl (by have := x1 hH; have := hH.1; grind) (by have := x1 hH; have := hH.1; grind)
      refine rt_ hX (G := True) (r := some (.int cg20)) rfl trivial ?_
      subst cg20e
      subst sg20e
      subst vg20e
      exact kG hH bf g20
  ·
    show X (5, [some (.ref 65), some (.int x)], [.int 0], (ov 79 80 h g))
    refine go hX 2 (gs := [True, True]) (z' := (10, [some (.ref 65), some (.int x)], [.int (-1000000001)], (ov 79 80 h g))) rfl ⟨trivial, trivial, trivial⟩ ?_
    refine rt_ hX (G := True) (r := some (.int (-1000000001))) rfl trivial ?_
    exact kB hH
