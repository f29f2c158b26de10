/-! By hand (contracts printed by wip/se/m29.py). -/
noncomputable def bcI (v : Int32) : Int32 := ((((((((v - (((v : Int32).toUInt32 >>> ((1 : Int32).toUInt32 &&& Int32.toUInt32 31)).toInt32 &&& 1431655765)) &&& 858993459) + ((((v - (((v : Int32).toUInt32 >>> ((1 : Int32).toUInt32 &&& Int32.toUInt32 31)).toInt32 &&& 1431655765)) : Int32).toUInt32 >>> ((2 : Int32).toUInt32 &&& Int32.toUInt32 31)).toInt32 &&& 858993459)) + (((((v - (((v : Int32).toUInt32 >>> ((1 : Int32).toUInt32 &&& Int32.toUInt32 31)).toInt32 &&& 1431655765)) &&& 858993459) + ((((v - (((v : Int32).toUInt32 >>> ((1 : Int32).toUInt32 &&& Int32.toUInt32 31)).toInt32 &&& 1431655765)) : Int32).toUInt32 >>> ((2 : Int32).toUInt32 &&& Int32.toUInt32 31)).toInt32 &&& 858993459)) : Int32).toUInt32 >>> ((4 : Int32).toUInt32 &&& Int32.toUInt32 31)).toInt32) &&& 252645135) + (((((((v - (((v : Int32).toUInt32 >>> ((1 : Int32).toUInt32 &&& Int32.toUInt32 31)).toInt32 &&& 1431655765)) &&& 858993459) + ((((v - (((v : Int32).toUInt32 >>> ((1 : Int32).toUInt32 &&& Int32.toUInt32 31)).toInt32 &&& 1431655765)) : Int32).toUInt32 >>> ((2 : Int32).toUInt32 &&& Int32.toUInt32 31)).toInt32 &&& 858993459)) + (((((v - (((v : Int32).toUInt32 >>> ((1 : Int32).toUInt32 &&& Int32.toUInt32 31)).toInt32 &&& 1431655765)) &&& 858993459) + ((((v - (((v : Int32).toUInt32 >>> ((1 : Int32).toUInt32 &&& Int32.toUInt32 31)).toInt32 &&& 1431655765)) : Int32).toUInt32 >>> ((2 : Int32).toUInt32 &&& Int32.toUInt32 31)).toInt32 &&& 858993459)) : Int32).toUInt32 >>> ((4 : Int32).toUInt32 &&& Int32.toUInt32 31)).toInt32) &&& 252645135) : Int32).toUInt32 >>> ((8 : Int32).toUInt32 &&& Int32.toUInt32 31)).toInt32) + ((((((((v - (((v : Int32).toUInt32 >>> ((1 : Int32).toUInt32 &&& Int32.toUInt32 31)).toInt32 &&& 1431655765)) &&& 858993459) + ((((v - (((v : Int32).toUInt32 >>> ((1 : Int32).toUInt32 &&& Int32.toUInt32 31)).toInt32 &&& 1431655765)) : Int32).toUInt32 >>> ((2 : Int32).toUInt32 &&& Int32.toUInt32 31)).toInt32 &&& 858993459)) + (((((v - (((v : Int32).toUInt32 >>> ((1 : Int32).toUInt32 &&& Int32.toUInt32 31)).toInt32 &&& 1431655765)) &&& 858993459) + ((((v - (((v : Int32).toUInt32 >>> ((1 : Int32).toUInt32 &&& Int32.toUInt32 31)).toInt32 &&& 1431655765)) : Int32).toUInt32 >>> ((2 : Int32).toUInt32 &&& Int32.toUInt32 31)).toInt32 &&& 858993459)) : Int32).toUInt32 >>> ((4 : Int32).toUInt32 &&& Int32.toUInt32 31)).toInt32) &&& 252645135) + (((((((v - (((v : Int32).toUInt32 >>> ((1 : Int32).toUInt32 &&& Int32.toUInt32 31)).toInt32 &&& 1431655765)) &&& 858993459) + ((((v - (((v : Int32).toUInt32 >>> ((1 : Int32).toUInt32 &&& Int32.toUInt32 31)).toInt32 &&& 1431655765)) : Int32).toUInt32 >>> ((2 : Int32).toUInt32 &&& Int32.toUInt32 31)).toInt32 &&& 858993459)) + (((((v - (((v : Int32).toUInt32 >>> ((1 : Int32).toUInt32 &&& Int32.toUInt32 31)).toInt32 &&& 1431655765)) &&& 858993459) + ((((v - (((v : Int32).toUInt32 >>> ((1 : Int32).toUInt32 &&& Int32.toUInt32 31)).toInt32 &&& 1431655765)) : Int32).toUInt32 >>> ((2 : Int32).toUInt32 &&& Int32.toUInt32 31)).toInt32 &&& 858993459)) : Int32).toUInt32 >>> ((4 : Int32).toUInt32 &&& Int32.toUInt32 31)).toInt32) &&& 252645135) : Int32).toUInt32 >>> ((8 : Int32).toUInt32 &&& Int32.toUInt32 31)).toInt32) : Int32).toUInt32 >>> ((16 : Int32).toUInt32 &&& Int32.toUInt32 31)).toInt32) &&& 63)
theorem c_bitC {d : Nat} {Q : Option Value → Hp → Prop} {h : Hp} {v : Int32} (k : Q (some (.int (bcI v))) h) : Call (d + 1) 265 [.int v] h Q := by
  refine call_of (rfl : psM[265]? = some _) rfl rfl (rcvS rfl) (fun X hX => ?_)
  show X (0, [some (.int v)], [], h)
  refine go hX 41 (gs := [True, True, True, True, True, True, True, True, True, True, True, True, True, True, True, True, True, True, True, True, True, True, True, True, True, True, True, True, True, True, True, True, True, True, True, True, True, True, True, True, True]) (z' := (52, [some (.int (((((((v - (((v : Int32).toUInt32 >>> ((1 : Int32).toUInt32 &&& Int32.toUInt32 31)).toInt32 &&& 1431655765)) &&& 858993459) + ((((v - (((v : Int32).toUInt32 >>> ((1 : Int32).toUInt32 &&& Int32.toUInt32 31)).toInt32 &&& 1431655765)) : Int32).toUInt32 >>> ((2 : Int32).toUInt32 &&& Int32.toUInt32 31)).toInt32 &&& 858993459)) + (((((v - (((v : Int32).toUInt32 >>> ((1 : Int32).toUInt32 &&& Int32.toUInt32 31)).toInt32 &&& 1431655765)) &&& 858993459) + ((((v - (((v : Int32).toUInt32 >>> ((1 : Int32).toUInt32 &&& Int32.toUInt32 31)).toInt32 &&& 1431655765)) : Int32).toUInt32 >>> ((2 : Int32).toUInt32 &&& Int32.toUInt32 31)).toInt32 &&& 858993459)) : Int32).toUInt32 >>> ((4 : Int32).toUInt32 &&& Int32.toUInt32 31)).toInt32) &&& 252645135) + (((((((v - (((v : Int32).toUInt32 >>> ((1 : Int32).toUInt32 &&& Int32.toUInt32 31)).toInt32 &&& 1431655765)) &&& 858993459) + ((((v - (((v : Int32).toUInt32 >>> ((1 : Int32).toUInt32 &&& Int32.toUInt32 31)).toInt32 &&& 1431655765)) : Int32).toUInt32 >>> ((2 : Int32).toUInt32 &&& Int32.toUInt32 31)).toInt32 &&& 858993459)) + (((((v - (((v : Int32).toUInt32 >>> ((1 : Int32).toUInt32 &&& Int32.toUInt32 31)).toInt32 &&& 1431655765)) &&& 858993459) + ((((v - (((v : Int32).toUInt32 >>> ((1 : Int32).toUInt32 &&& Int32.toUInt32 31)).toInt32 &&& 1431655765)) : Int32).toUInt32 >>> ((2 : Int32).toUInt32 &&& Int32.toUInt32 31)).toInt32 &&& 858993459)) : Int32).toUInt32 >>> ((4 : Int32).toUInt32 &&& Int32.toUInt32 31)).toInt32) &&& 252645135) : Int32).toUInt32 >>> ((8 : Int32).toUInt32 &&& Int32.toUInt32 31)).toInt32) + ((((((((v - (((v : Int32).toUInt32 >>> ((1 : Int32).toUInt32 &&& Int32.toUInt32 31)).toInt32 &&& 1431655765)) &&& 858993459) + ((((v - (((v : Int32).toUInt32 >>> ((1 : Int32).toUInt32 &&& Int32.toUInt32 31)).toInt32 &&& 1431655765)) : Int32).toUInt32 >>> ((2 : Int32).toUInt32 &&& Int32.toUInt32 31)).toInt32 &&& 858993459)) + (((((v - (((v : Int32).toUInt32 >>> ((1 : Int32).toUInt32 &&& Int32.toUInt32 31)).toInt32 &&& 1431655765)) &&& 858993459) + ((((v - (((v : Int32).toUInt32 >>> ((1 : Int32).toUInt32 &&& Int32.toUInt32 31)).toInt32 &&& 1431655765)) : Int32).toUInt32 >>> ((2 : Int32).toUInt32 &&& Int32.toUInt32 31)).toInt32 &&& 858993459)) : Int32).toUInt32 >>> ((4 : Int32).toUInt32 &&& Int32.toUInt32 31)).toInt32) &&& 252645135) + (((((((v - (((v : Int32).toUInt32 >>> ((1 : Int32).toUInt32 &&& Int32.toUInt32 31)).toInt32 &&& 1431655765)) &&& 858993459) + ((((v - (((v : Int32).toUInt32 >>> ((1 : Int32).toUInt32 &&& Int32.toUInt32 31)).toInt32 &&& 1431655765)) : Int32).toUInt32 >>> ((2 : Int32).toUInt32 &&& Int32.toUInt32 31)).toInt32 &&& 858993459)) + (((((v - (((v : Int32).toUInt32 >>> ((1 : Int32).toUInt32 &&& Int32.toUInt32 31)).toInt32 &&& 1431655765)) &&& 858993459) + ((((v - (((v : Int32).toUInt32 >>> ((1 : Int32).toUInt32 &&& Int32.toUInt32 31)).toInt32 &&& 1431655765)) : Int32).toUInt32 >>> ((2 : Int32).toUInt32 &&& Int32.toUInt32 31)).toInt32 &&& 858993459)) : Int32).toUInt32 >>> ((4 : Int32).toUInt32 &&& Int32.toUInt32 31)).toInt32) &&& 252645135) : Int32).toUInt32 >>> ((8 : Int32).toUInt32 &&& Int32.toUInt32 31)).toInt32) : Int32).toUInt32 >>> ((16 : Int32).toUInt32 &&& Int32.toUInt32 31)).toInt32))], [.int ((((((((v - (((v : Int32).toUInt32 >>> ((1 : Int32).toUInt32 &&& Int32.toUInt32 31)).toInt32 &&& 1431655765)) &&& 858993459) + ((((v - (((v : Int32).toUInt32 >>> ((1 : Int32).toUInt32 &&& Int32.toUInt32 31)).toInt32 &&& 1431655765)) : Int32).toUInt32 >>> ((2 : Int32).toUInt32 &&& Int32.toUInt32 31)).toInt32 &&& 858993459)) + (((((v - (((v : Int32).toUInt32 >>> ((1 : Int32).toUInt32 &&& Int32.toUInt32 31)).toInt32 &&& 1431655765)) &&& 858993459) + ((((v - (((v : Int32).toUInt32 >>> ((1 : Int32).toUInt32 &&& Int32.toUInt32 31)).toInt32 &&& 1431655765)) : Int32).toUInt32 >>> ((2 : Int32).toUInt32 &&& Int32.toUInt32 31)).toInt32 &&& 858993459)) : Int32).toUInt32 >>> ((4 : Int32).toUInt32 &&& Int32.toUInt32 31)).toInt32) &&& 252645135) + (((((((v - (((v : Int32).toUInt32 >>> ((1 : Int32).toUInt32 &&& Int32.toUInt32 31)).toInt32 &&& 1431655765)) &&& 858993459) + ((((v - (((v : Int32).toUInt32 >>> ((1 : Int32).toUInt32 &&& Int32.toUInt32 31)).toInt32 &&& 1431655765)) : Int32).toUInt32 >>> ((2 : Int32).toUInt32 &&& Int32.toUInt32 31)).toInt32 &&& 858993459)) + (((((v - (((v : Int32).toUInt32 >>> ((1 : Int32).toUInt32 &&& Int32.toUInt32 31)).toInt32 &&& 1431655765)) &&& 858993459) + ((((v - (((v : Int32).toUInt32 >>> ((1 : Int32).toUInt32 &&& Int32.toUInt32 31)).toInt32 &&& 1431655765)) : Int32).toUInt32 >>> ((2 : Int32).toUInt32 &&& Int32.toUInt32 31)).toInt32 &&& 858993459)) : Int32).toUInt32 >>> ((4 : Int32).toUInt32 &&& Int32.toUInt32 31)).toInt32) &&& 252645135) : Int32).toUInt32 >>> ((8 : Int32).toUInt32 &&& Int32.toUInt32 31)).toInt32) + ((((((((v - (((v : Int32).toUInt32 >>> ((1 : Int32).toUInt32 &&& Int32.toUInt32 31)).toInt32 &&& 1431655765)) &&& 858993459) + ((((v - (((v : Int32).toUInt32 >>> ((1 : Int32).toUInt32 &&& Int32.toUInt32 31)).toInt32 &&& 1431655765)) : Int32).toUInt32 >>> ((2 : Int32).toUInt32 &&& Int32.toUInt32 31)).toInt32 &&& 858993459)) + (((((v - (((v : Int32).toUInt32 >>> ((1 : Int32).toUInt32 &&& Int32.toUInt32 31)).toInt32 &&& 1431655765)) &&& 858993459) + ((((v - (((v : Int32).toUInt32 >>> ((1 : Int32).toUInt32 &&& Int32.toUInt32 31)).toInt32 &&& 1431655765)) : Int32).toUInt32 >>> ((2 : Int32).toUInt32 &&& Int32.toUInt32 31)).toInt32 &&& 858993459)) : Int32).toUInt32 >>> ((4 : Int32).toUInt32 &&& Int32.toUInt32 31)).toInt32) &&& 252645135) + (((((((v - (((v : Int32).toUInt32 >>> ((1 : Int32).toUInt32 &&& Int32.toUInt32 31)).toInt32 &&& 1431655765)) &&& 858993459) + ((((v - (((v : Int32).toUInt32 >>> ((1 : Int32).toUInt32 &&& Int32.toUInt32 31)).toInt32 &&& 1431655765)) : Int32).toUInt32 >>> ((2 : Int32).toUInt32 &&& Int32.toUInt32 31)).toInt32 &&& 858993459)) + (((((v - (((v : Int32).toUInt32 >>> ((1 : Int32).toUInt32 &&& Int32.toUInt32 31)).toInt32 &&& 1431655765)) &&& 858993459) + ((((v - (((v : Int32).toUInt32 >>> ((1 : Int32).toUInt32 &&& Int32.toUInt32 31)).toInt32 &&& 1431655765)) : Int32).toUInt32 >>> ((2 : Int32).toUInt32 &&& Int32.toUInt32 31)).toInt32 &&& 858993459)) : Int32).toUInt32 >>> ((4 : Int32).toUInt32 &&& Int32.toUInt32 31)).toInt32) &&& 252645135) : Int32).toUInt32 >>> ((8 : Int32).toUInt32 &&& Int32.toUInt32 31)).toInt32) : Int32).toUInt32 >>> ((16 : Int32).toUInt32 &&& Int32.toUInt32 31)).toInt32) &&& 63)], h)) rfl ⟨trivial, trivial, trivial, trivial, trivial, trivial, trivial, trivial, trivial, trivial, trivial, trivial, trivial, trivial, trivial, trivial, trivial, trivial, trivial, trivial, trivial, trivial, trivial, trivial, trivial, trivial, trivial, trivial, trivial, trivial, trivial, trivial, trivial, trivial, trivial, trivial, trivial, trivial, trivial, trivial, trivial, trivial⟩ ?_
  refine rt_ hX (G := True) (r := some (.int ((((((((v - (((v : Int32).toUInt32 >>> ((1 : Int32).toUInt32 &&& Int32.toUInt32 31)).toInt32 &&& 1431655765)) &&& 858993459) + ((((v - (((v : Int32).toUInt32 >>> ((1 : Int32).toUInt32 &&& Int32.toUInt32 31)).toInt32 &&& 1431655765)) : Int32).toUInt32 >>> ((2 : Int32).toUInt32 &&& Int32.toUInt32 31)).toInt32 &&& 858993459)) + (((((v - (((v : Int32).toUInt32 >>> ((1 : Int32).toUInt32 &&& Int32.toUInt32 31)).toInt32 &&& 1431655765)) &&& 858993459) + ((((v - (((v : Int32).toUInt32 >>> ((1 : Int32).toUInt32 &&& Int32.toUInt32 31)).toInt32 &&& 1431655765)) : Int32).toUInt32 >>> ((2 : Int32).toUInt32 &&& Int32.toUInt32 31)).toInt32 &&& 858993459)) : Int32).toUInt32 >>> ((4 : Int32).toUInt32 &&& Int32.toUInt32 31)).toInt32) &&& 252645135) + (((((((v - (((v : Int32).toUInt32 >>> ((1 : Int32).toUInt32 &&& Int32.toUInt32 31)).toInt32 &&& 1431655765)) &&& 858993459) + ((((v - (((v : Int32).toUInt32 >>> ((1 : Int32).toUInt32 &&& Int32.toUInt32 31)).toInt32 &&& 1431655765)) : Int32).toUInt32 >>> ((2 : Int32).toUInt32 &&& Int32.toUInt32 31)).toInt32 &&& 858993459)) + (((((v - (((v : Int32).toUInt32 >>> ((1 : Int32).toUInt32 &&& Int32.toUInt32 31)).toInt32 &&& 1431655765)) &&& 858993459) + ((((v - (((v : Int32).toUInt32 >>> ((1 : Int32).toUInt32 &&& Int32.toUInt32 31)).toInt32 &&& 1431655765)) : Int32).toUInt32 >>> ((2 : Int32).toUInt32 &&& Int32.toUInt32 31)).toInt32 &&& 858993459)) : Int32).toUInt32 >>> ((4 : Int32).toUInt32 &&& Int32.toUInt32 31)).toInt32) &&& 252645135) : Int32).toUInt32 >>> ((8 : Int32).toUInt32 &&& Int32.toUInt32 31)).toInt32) + ((((((((v - (((v : Int32).toUInt32 >>> ((1 : Int32).toUInt32 &&& Int32.toUInt32 31)).toInt32 &&& 1431655765)) &&& 858993459) + ((((v - (((v : Int32).toUInt32 >>> ((1 : Int32).toUInt32 &&& Int32.toUInt32 31)).toInt32 &&& 1431655765)) : Int32).toUInt32 >>> ((2 : Int32).toUInt32 &&& Int32.toUInt32 31)).toInt32 &&& 858993459)) + (((((v - (((v : Int32).toUInt32 >>> ((1 : Int32).toUInt32 &&& Int32.toUInt32 31)).toInt32 &&& 1431655765)) &&& 858993459) + ((((v - (((v : Int32).toUInt32 >>> ((1 : Int32).toUInt32 &&& Int32.toUInt32 31)).toInt32 &&& 1431655765)) : Int32).toUInt32 >>> ((2 : Int32).toUInt32 &&& Int32.toUInt32 31)).toInt32 &&& 858993459)) : Int32).toUInt32 >>> ((4 : Int32).toUInt32 &&& Int32.toUInt32 31)).toInt32) &&& 252645135) + (((((((v - (((v : Int32).toUInt32 >>> ((1 : Int32).toUInt32 &&& Int32.toUInt32 31)).toInt32 &&& 1431655765)) &&& 858993459) + ((((v - (((v : Int32).toUInt32 >>> ((1 : Int32).toUInt32 &&& Int32.toUInt32 31)).toInt32 &&& 1431655765)) : Int32).toUInt32 >>> ((2 : Int32).toUInt32 &&& Int32.toUInt32 31)).toInt32 &&& 858993459)) + (((((v - (((v : Int32).toUInt32 >>> ((1 : Int32).toUInt32 &&& Int32.toUInt32 31)).toInt32 &&& 1431655765)) &&& 858993459) + ((((v - (((v : Int32).toUInt32 >>> ((1 : Int32).toUInt32 &&& Int32.toUInt32 31)).toInt32 &&& 1431655765)) : Int32).toUInt32 >>> ((2 : Int32).toUInt32 &&& Int32.toUInt32 31)).toInt32 &&& 858993459)) : Int32).toUInt32 >>> ((4 : Int32).toUInt32 &&& Int32.toUInt32 31)).toInt32) &&& 252645135) : Int32).toUInt32 >>> ((8 : Int32).toUInt32 &&& Int32.toUInt32 31)).toInt32) : Int32).toUInt32 >>> ((16 : Int32).toUInt32 &&& Int32.toUInt32 31)).toInt32) &&& 63))) rfl trivial ?_
  exact k
noncomputable def pcB (v : Nat) : Nat := (List.range 10).countP (fun j => v.testBit j)
set_option maxRecDepth 100000 in
theorem pcB_eq : ∀ v : Nat, v < 1024 → bcI (nI v) = nI (pcB v) := by decide +kernel
set_option maxRecDepth 100000 in
theorem clrB : ∀ v : Nat, v < 1024 → ∀ b : Nat, b < 10 → (nI v &&& ((1 <<< (nI b &&& 31)) ^^^ (-1))) = nI (v &&& (1023 - 2 ^ b)) := by decide +kernel
theorem c_getH8 {d : Nat} {Q : Option Value → Hp → Prop} {h : Hp} {x : Int32} (x0 : 0 ≤ x) (x1 : x < h.1 4 2) (xm : h.1 4 2 ≤ 10) (k : Q (some (.int (h.1 5 ((x * 14) + 8)))) h) : Call (d + 1) 94 [.ref 4, .int x, .int 8] h Q := by
  refine call_of (rfl : psM[94]? = some _) rfl rfl (rcvV rfl) (fun X hX => ?_)
  show X (0, [some (.ref 4), some (.int x), some (.int 8)], [], h)
  refine go hX 2 (gs := [True, True]) (z' := (if x < 0 then 24 else 4, [some (.ref 4), some (.int x), some (.int 8)], [], h)) rfl ⟨trivial, trivial, trivial⟩ ?_
  refine br (fun b1 => ?_) (fun b1 => ?_)
  ·
    refine go hX 1 (gs := [True]) (z' := (25, [some (.ref 4), some (.int x), some (.int 8)], [.int 0], h)) rfl ⟨trivial, trivial⟩ ?_
    refine rt_ hX (G := True) (r := some (.int 0)) rfl trivial ?_
    exfalso; grind
  ·
    refine go hX 4 (gs := [True, True, True, True]) (z' := (if (h.1 4 2) ≤ x then 24 else 12, [some (.ref 4), some (.int x), some (.int 8)], [], h)) rfl ⟨trivial, trivial, trivial, trivial, trivial⟩ ?_
    refine br (fun b2 => ?_) (fun b2 => ?_)
    ·
      refine go hX 1 (gs := [True]) (z' := (25, [some (.ref 4), some (.int x), some (.int 8)], [.int 0], h)) rfl ⟨trivial, trivial⟩ ?_
      refine rt_ hX (G := True) (r := some (.int 0)) rfl trivial ?_
      exfalso; grind
    ·
      refine go hX 15 (gs := [ibd ((x * 14) + 8) 140, True, True, True, True, True, True, True, True, True, True, True, True, True, True]) (z' := (39, [some (.ref 4), some (.int x), some (.int 8)], [.int (h.1 5 ((x * 14) + 8))], h)) rfl ⟨?_, trivial, trivial, trivial, trivial, trivial, trivial, trivial, trivial, trivial, trivial, trivial, trivial, trivial, trivial, trivial⟩ ?_
      · exact ibd_of (B := 140) rfl (by grind) (by grind)
      refine rt_ hX (G := True) (r := some (.int (h.1 5 ((x * 14) + 8)))) rfl trivial ?_
      exact k
theorem c_getB12 {d : Nat} {Q : Option Value → Hp → Prop} {h : Hp} {x : Int32} (x0 : 0 ≤ x) (x1 : x < h.1 4 2) (xm : h.1 4 2 ≤ 10) (k : Q (some (.int (h.1 5 ((x * 14) + 12)))) h) : Call (d + 1) 94 [.ref 4, .int x, .int 12] h Q := by
  refine call_of (rfl : psM[94]? = some _) rfl rfl (rcvV rfl) (fun X hX => ?_)
  show X (0, [some (.ref 4), some (.int x), some (.int 12)], [], h)
  refine go hX 2 (gs := [True, True]) (z' := (if x < 0 then 24 else 4, [some (.ref 4), some (.int x), some (.int 12)], [], h)) rfl ⟨trivial, trivial, trivial⟩ ?_
  refine br (fun b1 => ?_) (fun b1 => ?_)
  ·
    refine go hX 1 (gs := [True]) (z' := (25, [some (.ref 4), some (.int x), some (.int 12)], [.int 0], h)) rfl ⟨trivial, trivial⟩ ?_
    refine rt_ hX (G := True) (r := some (.int 0)) rfl trivial ?_
    exfalso; grind
  ·
    refine go hX 4 (gs := [True, True, True, True]) (z' := (if (h.1 4 2) ≤ x then 24 else 12, [some (.ref 4), some (.int x), some (.int 12)], [], h)) rfl ⟨trivial, trivial, trivial, trivial, trivial⟩ ?_
    refine br (fun b2 => ?_) (fun b2 => ?_)
    ·
      refine go hX 1 (gs := [True]) (z' := (25, [some (.ref 4), some (.int x), some (.int 12)], [.int 0], h)) rfl ⟨trivial, trivial⟩ ?_
      refine rt_ hX (G := True) (r := some (.int 0)) rfl trivial ?_
      exfalso; grind
    ·
      refine go hX 15 (gs := [ibd ((x * 14) + 12) 140, True, True, True, True, True, True, True, True, True, True, True, True, True, True]) (z' := (39, [some (.ref 4), some (.int x), some (.int 12)], [.int (h.1 5 ((x * 14) + 12))], h)) rfl ⟨?_, trivial, trivial, trivial, trivial, trivial, trivial, trivial, trivial, trivial, trivial, trivial, trivial, trivial, trivial, trivial⟩ ?_
      · exact ibd_of (B := 140) rfl (by grind) (by grind)
      refine rt_ hX (G := True) (r := some (.int (h.1 5 ((x * 14) + 12)))) rfl trivial ?_
      exact k
theorem c_getP0 {d : Nat} {Q : Option Value → Hp → Prop} {h : Hp} {x : Int32} (x0 : 0 ≤ x) (x1 : x < h.1 2 2) (xm : h.1 2 2 ≤ 3) (k : Q (some (.int (h.1 3 ((x * 8) + 0)))) h) : Call (d + 1) 94 [.ref 2, .int x, .int 0] h Q := by
  refine call_of (rfl : psM[94]? = some _) rfl rfl (rcvV rfl) (fun X hX => ?_)
  show X (0, [some (.ref 2), some (.int x), some (.int 0)], [], h)
  refine go hX 2 (gs := [True, True]) (z' := (if x < 0 then 24 else 4, [some (.ref 2), some (.int x), some (.int 0)], [], h)) rfl ⟨trivial, trivial, trivial⟩ ?_
  refine br (fun b1 => ?_) (fun b1 => ?_)
  ·
    refine go hX 1 (gs := [True]) (z' := (25, [some (.ref 2), some (.int x), some (.int 0)], [.int 0], h)) rfl ⟨trivial, trivial⟩ ?_
    refine rt_ hX (G := True) (r := some (.int 0)) rfl trivial ?_
    exfalso; grind
  ·
    refine go hX 4 (gs := [True, True, True, True]) (z' := (if (h.1 2 2) ≤ x then 24 else 12, [some (.ref 2), some (.int x), some (.int 0)], [], h)) rfl ⟨trivial, trivial, trivial, trivial, trivial⟩ ?_
    refine br (fun b2 => ?_) (fun b2 => ?_)
    ·
      refine go hX 1 (gs := [True]) (z' := (25, [some (.ref 2), some (.int x), some (.int 0)], [.int 0], h)) rfl ⟨trivial, trivial⟩ ?_
      refine rt_ hX (G := True) (r := some (.int 0)) rfl trivial ?_
      exfalso; grind
    ·
      refine go hX 15 (gs := [ibd ((x * 8) + 0) 24, True, True, True, True, True, True, True, True, True, True, True, True, True, True]) (z' := (39, [some (.ref 2), some (.int x), some (.int 0)], [.int (h.1 3 ((x * 8) + 0))], h)) rfl ⟨?_, trivial, trivial, trivial, trivial, trivial, trivial, trivial, trivial, trivial, trivial, trivial, trivial, trivial, trivial, trivial⟩ ?_
      · exact ibd_of (B := 24) rfl (by grind) (by grind)
      refine rt_ hX (G := True) (r := some (.int (h.1 3 ((x * 8) + 0)))) rfl trivial ?_
      exact k
theorem c_rowsH {d : Nat} {Q : Option Value → Hp → Prop} {h : Hp} (k : Q (some (.int (h.1 4 2))) h) : Call (d + 1) 91 [.ref 4] h Q := by
  refine call_of (rfl : psM[91]? = some _) rfl rfl (rcvV rfl) (fun X hX => ?_)
  show X (0, [some (.ref 4)], [], h)
  refine go hX 2 (gs := [True, True]) (z' := (4, [some (.ref 4)], [.int (h.1 4 2)], h)) rfl ⟨trivial, trivial, trivial⟩ ?_
  refine rt_ hX (G := True) (r := some (.int (h.1 4 2))) rfl trivial ?_
  exact k
theorem lp_mem {d : Nat} {Q : Option Value → Hp → Prop} {X : Cf → Prop} (hX : Clo (Call (d + 1)) cd67 (some .int) Q X) {h : Hp} {n : Nat} (n10 : n ≤ 10) (en : h.1 4 2 = nI n) {s : Int32} {W : Nat → Bool} (hW : ∀ k, k < n → (h.1 5 ((nI k * 14) + 8) = s ↔ W k = true)) (K : Q (some (.int (nI (chB_ W n)))) h) {k : Nat} (hk : k ≤ n) : X (4, [some (.ref 1), some (.int s), some (.int (nI (chB_ W k))), some (.int (nI k))], [], h) := by
  refine dn_ind (P := fun k => X (4, [some (.ref 1), some (.int s), some (.int (nI (chB_ W k))), some (.int (nI k))], [], h)) (fun k hk ih => ?_) hk
  refine go hX 3 (gs := [True, True, True]) (z' := (9, [some (.ref 1), some (.int s), some (.int (nI (chB_ W k))), some (.int (nI k))], [.ref 4, .int (nI k)], h)) rfl ⟨trivial, trivial, trivial, trivial⟩ ?_
  refine cl hX 91 1 [.ref 4] [.int (nI k)] rfl rfl rfl rfl ?_
  refine c_rowsH ?_
  show X (12, [some (.ref 1), some (.int s), some (.int (nI (chB_ W k))), some (.int (nI k))], [.int (h.1 4 2), .int (nI k)], h)
  refine go hX 1 (gs := [True]) (z' := (if (h.1 4 2) ≤ (nI k) then 45 else 15, [some (.ref 1), some (.int s), some (.int (nI (chB_ W k))), some (.int (nI k))], [], h)) rfl ⟨trivial, trivial⟩ ?_
  refine br (fun b1 => ?_) (fun b1 => ?_)
  ·
    refine go hX 1 (gs := [True]) (z' := (46, [some (.ref 1), some (.int s), some (.int (nI (chB_ W k))), some (.int (nI k))], [.int (nI (chB_ W k))], h)) rfl ⟨trivial, trivial⟩ ?_
    refine rt_ hX (G := True) (r := some (.int (nI (chB_ W k)))) rfl trivial ?_
    have e : k = n := Nat.le_antisymm hk ((tx_le (by omega) (by omega)).mp (by rw [← en]; exact b1))
    subst e
    exact K
  ·
    have kx : k < n := Nat.lt_of_not_le (fun z => b1 (by rw [en]; exact (tx_le (by omega) (by omega)).mpr z))
    refine go hX 5 (gs := [True, True, True, True, True]) (z' := (23, [some (.ref 1), some (.int s), some (.int (nI (chB_ W k))), some (.int (nI k))], [.int 8, .int (nI k), .ref 4, .int (nI (chB_ W k))], h)) rfl ⟨trivial, trivial, trivial, trivial, trivial, trivial⟩ ?_
    refine cl hX 94 3 [.ref 4, .int (nI k), .int 8] [.int (nI (chB_ W k))] rfl rfl rfl rfl ?_
    refine c_getH8 (tx_0 k (by omega)) (by rw [en]; exact (tx_lt (by omega) (by omega)).mpr kx) (by rw [en]; exact (tx_le (b := 10) (by omega) (by decide)).mpr n10) ?_
    show X (26, [some (.ref 1), some (.int s), some (.int (nI (chB_ W k))), some (.int (nI k))], [.int (h.1 5 ((nI k * 14) + 8)), .int (nI (chB_ W k))], h)
    refine go hX 2 (gs := [True, True]) (z' := (if (h.1 5 ((nI k * 14) + 8)) = s then 30 else 36, [some (.ref 1), some (.int s), some (.int (nI (chB_ W k))), some (.int (nI k))], [.int (nI (chB_ W k))], h)) rfl ⟨trivial, trivial, trivial⟩ ?_
    refine br (fun b2 => ?_) (fun b2 => ?_)
    ·
      refine go hX 8 (gs := [True, True, True, True, True, True, True, True]) (z' := (4, [some (.ref 1), some (.int s), some (.int ((nI (chB_ W k)) ||| (1 <<< ((nI k) &&& 31)))), some (.int ((nI k) + 1))], [], h)) rfl ⟨trivial, trivial, trivial, trivial, trivial, trivial, trivial, trivial, trivial⟩ ?_
      rw [tx_1]
      rw [show (nI (chB_ W k) ||| (1 <<< (nI k &&& 31))) = nI (chB_ W (k + 1)) by rw [chB_1 ((hW k kx).mp b2)]; exact (mbS _ (chB_lt (by omega)) k (by omega)).1]
      exact ih (k + 1) (Nat.lt_succ_self k) (by omega)
    ·
      refine go hX 5 (gs := [True, True, True, True, True]) (z' := (4, [some (.ref 1), some (.int s), some (.int ((nI (chB_ W k)) ||| 0)), some (.int ((nI k) + 1))], [], h)) rfl ⟨trivial, trivial, trivial, trivial, trivial, trivial⟩ ?_
      rw [tx_1]
      rw [show nI (chB_ W k) ||| 0 = nI (chB_ W (k + 1)) by rw [chB_0 (fun z => b2 ((hW k kx).mpr z)), Int32.or_zero]]
      exact ih (k + 1) (Nat.lt_succ_self k) (by omega)
theorem c_membersOf {d : Nat} {Q : Option Value → Hp → Prop} {h : Hp} {n : Nat} (n10 : n ≤ 10) (en : h.1 4 2 = nI n) {s : Int32} {W : Nat → Bool} (hW : ∀ k, k < n → (h.1 5 ((nI k * 14) + 8) = s ↔ W k = true)) (K : Q (some (.int (nI (chB_ W n)))) h) : Call (d + 2) 67 [.ref 1, .int s] h Q := by
  refine call_of (rfl : psM[67]? = some _) rfl rfl (rcvV rfl) (fun X hX => ?_)
  show X (0, [some (.ref 1), some (.int s), none, none], [], h)
  refine go hX 4 (gs := [True, True, True, True]) (z' := (4, [some (.ref 1), some (.int s), some (.int 0), some (.int 0)], [], h)) rfl ⟨trivial, trivial, trivial, trivial, trivial⟩ ?_
  exact lp_mem hX n10 en hW K (Nat.zero_le n)
theorem c_hasRoom {d : Nat} {Q : Option Value → Hp → Prop} {h : Hp} {n x : Nat} (hx : x < 10) (n10 : n ≤ 10) (en : h.1 4 2 = nI n) {s : Int32} (x0 : 0 ≤ nI x) (x1 : nI x < h.1 4 2) (xm : h.1 4 2 ≤ 10) (y0 : 0 ≤ s) (y1 : s < h.1 2 2) (ym : h.1 2 2 ≤ 3) {W : Nat → Bool} (hW : ∀ k, k < n → (h.1 5 ((nI k * 14) + 8) = s ↔ W k = true)) {O : Nat} (hO : O = chB_ W n &&& (1023 - 2 ^ x)) (k1 : (nI (pcB O) < h.1 3 ((s * 8) + 0) ∧ nI O &&& h.1 5 ((nI x * 14) + 12) = 0) → Q (some (.int 1)) h) (k0 : ¬ (nI (pcB O) < h.1 3 ((s * 8) + 0) ∧ nI O &&& h.1 5 ((nI x * 14) + 12) = 0) → Q (some (.int 0)) h) : Call (d + 3) 68 [.ref 1, .int (nI x), .int s] h Q := by
  have Olt : O < 1024 := by rw [hO]; exact Nat.lt_of_le_of_lt Nat.and_le_left (chB_lt n10)
  have eO : ((nI (chB_ W n)) &&& ((1 <<< ((nI x) &&& 31)) ^^^ (-1))) = nI O := by rw [clrB _ (chB_lt n10) x hx, ← hO]
  refine call_of (rfl : psM[68]? = some _) rfl rfl (rcvV rfl) (fun X hX => ?_)
  show X (0, [some (.ref 1), some (.int (nI x)), some (.int s), none], [], h)
  refine go hX 2 (gs := [True, True]) (z' := (2, [some (.ref 1), some (.int (nI x)), some (.int s), none], [.int s, .ref 1], h)) rfl ⟨trivial, trivial, trivial⟩ ?_
  refine cl hX 67 2 [.ref 1, .int s] [] rfl rfl rfl rfl ?_
  refine c_membersOf n10 en hW ?_
  show X (5, [some (.ref 1), some (.int (nI x)), some (.int s), none], [.int (nI (chB_ W n))], h)
  refine go hX 8 (gs := [True, True, True, True, True, True, True, True]) (z' := (13, [some (.ref 1), some (.int (nI x)), some (.int s), some (.int ((nI (chB_ W n)) &&& ((1 <<< ((nI x) &&& 31)) ^^^ (-1))))], [.int ((nI (chB_ W n)) &&& ((1 <<< ((nI x) &&& 31)) ^^^ (-1)))], h)) rfl ⟨trivial, trivial, trivial, trivial, trivial, trivial, trivial, trivial, trivial⟩ ?_
  refine cl hX 265 1 [.int ((nI (chB_ W n)) &&& ((1 <<< ((nI x) &&& 31)) ^^^ (-1)))] [] rfl rfl rfl rfl ?_
  rw [eO]
  refine c_bitC ?_
  rw [pcB_eq _ Olt]
  show X (16, [some (.ref 1), some (.int (nI x)), some (.int s), some (.int (nI O))], [.int (nI (pcB O))], h)
  refine go hX 4 (gs := [True, True, True, True]) (z' := (22, [some (.ref 1), some (.int (nI x)), some (.int s), some (.int (nI O))], [.int 0, .int s, .ref 2, .int (nI (pcB O))], h)) rfl ⟨trivial, trivial, trivial, trivial, trivial⟩ ?_
  refine cl hX 94 3 [.ref 2, .int s, .int 0] [.int (nI (pcB O))] rfl rfl rfl rfl ?_
  refine c_getP0 y0 y1 ym ?_
  show X (25, [some (.ref 1), some (.int (nI x)), some (.int s), some (.int (nI O))], [.int (h.1 3 ((s * 8) + 0)), .int (nI (pcB O))], h)
  refine go hX 1 (gs := [True]) (z' := (if (h.1 3 ((s * 8) + 0)) ≤ (nI (pcB O)) then 47 else 28, [some (.ref 1), some (.int (nI x)), some (.int s), some (.int (nI O))], [], h)) rfl ⟨trivial, trivial⟩ ?_
  refine br (fun b1 => ?_) (fun b1 => ?_)
  ·
    refine go hX 1 (gs := [True]) (z' := (48, [some (.ref 1), some (.int (nI x)), some (.int s), some (.int (nI O))], [.int 0], h)) rfl ⟨trivial, trivial⟩ ?_
    refine rt_ hX (G := isB 0) (r := some (.int 0)) rfl isB0 ?_
    exact k0 (by first | exact ⟨Int32.not_le.mp b1, b2⟩ | exact fun z => b2 z.2 | exact fun z => absurd b1 (Int32.not_le.mpr z.1))
  ·
    refine go hX 5 (gs := [True, True, True, True, True]) (z' := (36, [some (.ref 1), some (.int (nI x)), some (.int s), some (.int (nI O))], [.int 12, .int (nI x), .ref 4, .int (nI O)], h)) rfl ⟨trivial, trivial, trivial, trivial, trivial, trivial⟩ ?_
    refine cl hX 94 3 [.ref 4, .int (nI x), .int 12] [.int (nI O)] rfl rfl rfl rfl ?_
    refine c_getB12 x0 x1 xm ?_
    show X (39, [some (.ref 1), some (.int (nI x)), some (.int s), some (.int (nI O))], [.int (h.1 5 ((nI x * 14) + 12)), .int (nI O)], h)
    refine go hX 2 (gs := [True, True]) (z' := (if ((nI O) &&& (h.1 5 ((nI x * 14) + 12))) = 0 then 43 else 47, [some (.ref 1), some (.int (nI x)), some (.int s), some (.int (nI O))], [], h)) rfl ⟨trivial, trivial, trivial⟩ ?_
    refine br (fun b2 => ?_) (fun b2 => ?_)
    ·
      refine go hX 2 (gs := [True, True]) (z' := (48, [some (.ref 1), some (.int (nI x)), some (.int s), some (.int (nI O))], [.int 1], h)) rfl ⟨trivial, trivial, trivial⟩ ?_
      refine rt_ hX (G := isB 1) (r := some (.int 1)) rfl isB1 ?_
      exact k1 (by first | exact ⟨Int32.not_le.mp b1, b2⟩ | exact fun z => b2 z.2 | exact fun z => absurd b1 (Int32.not_le.mpr z.1))
    ·
      refine go hX 1 (gs := [True]) (z' := (48, [some (.ref 1), some (.int (nI x)), some (.int s), some (.int (nI O))], [.int 0], h)) rfl ⟨trivial, trivial⟩ ?_
      refine rt_ hX (G := isB 0) (r := some (.int 0)) rfl isB0 ?_
      exact k0 (by first | exact ⟨Int32.not_le.mp b1, b2⟩ | exact fun z => b2 z.2 | exact fun z => absurd b1 (Int32.not_le.mpr z.1))
theorem c_holdsH {d : Nat} {Q : Option Value → Hp → Prop} {h : Hp} {x : Int32} (k1 : 0 ≤ x ∧ x < h.1 4 2 → Q (some (.int 1)) h) (k0 : ¬ (0 ≤ x ∧ x < h.1 4 2) → Q (some (.int 0)) h) : Call (d + 1) 93 [.ref 4, .int x] h Q := by
  refine call_of (rfl : psM[93]? = some _) rfl rfl (rcvV rfl) (fun X hX => ?_)
  show X (0, [some (.ref 4), some (.int x)], [], h)
  refine go hX 2 (gs := [True, True]) (z' := (if x < 0 then 16 else 4, [some (.ref 4), some (.int x)], [], h)) rfl ⟨trivial, trivial, trivial⟩ ?_
  refine br (fun b1 => ?_) (fun b1 => ?_)
  ·
    refine go hX 1 (gs := [True]) (z' := (17, [some (.ref 4), some (.int x)], [.int 0], h)) rfl ⟨trivial, trivial⟩ ?_
    refine rt_ hX (G := isB 0) (r := some (.int 0)) rfl isB0 ?_
    exact k0 (by grind)
  ·
    refine go hX 4 (gs := [True, True, True, True]) (z' := (if (h.1 4 2) ≤ x then 16 else 12, [some (.ref 4), some (.int x)], [], h)) rfl ⟨trivial, trivial, trivial, trivial, trivial⟩ ?_
    refine br (fun b2 => ?_) (fun b2 => ?_)
    ·
      refine go hX 1 (gs := [True]) (z' := (17, [some (.ref 4), some (.int x)], [.int 0], h)) rfl ⟨trivial, trivial⟩ ?_
      refine rt_ hX (G := isB 0) (r := some (.int 0)) rfl isB0 ?_
      exact k0 (by grind)
    ·
      refine go hX 2 (gs := [True, True]) (z' := (17, [some (.ref 4), some (.int x)], [.int 1], h)) rfl ⟨trivial, trivial, trivial⟩ ?_
      refine rt_ hX (G := isB 1) (r := some (.int 1)) rfl isB1 ?_
      exact k1 (by grind)
theorem c_holdsP {d : Nat} {Q : Option Value → Hp → Prop} {h : Hp} {x : Int32} (k1 : 0 ≤ x ∧ x < h.1 2 2 → Q (some (.int 1)) h) (k0 : ¬ (0 ≤ x ∧ x < h.1 2 2) → Q (some (.int 0)) h) : Call (d + 1) 93 [.ref 2, .int x] h Q := by
  refine call_of (rfl : psM[93]? = some _) rfl rfl (rcvV rfl) (fun X hX => ?_)
  show X (0, [some (.ref 2), some (.int x)], [], h)
  refine go hX 2 (gs := [True, True]) (z' := (if x < 0 then 16 else 4, [some (.ref 2), some (.int x)], [], h)) rfl ⟨trivial, trivial, trivial⟩ ?_
  refine br (fun b1 => ?_) (fun b1 => ?_)
  ·
    refine go hX 1 (gs := [True]) (z' := (17, [some (.ref 2), some (.int x)], [.int 0], h)) rfl ⟨trivial, trivial⟩ ?_
    refine rt_ hX (G := isB 0) (r := some (.int 0)) rfl isB0 ?_
    exact k0 (by grind)
  ·
    refine go hX 4 (gs := [True, True, True, True]) (z' := (if (h.1 2 2) ≤ x then 16 else 12, [some (.ref 2), some (.int x)], [], h)) rfl ⟨trivial, trivial, trivial, trivial, trivial⟩ ?_
    refine br (fun b2 => ?_) (fun b2 => ?_)
    ·
      refine go hX 1 (gs := [True]) (z' := (17, [some (.ref 2), some (.int x)], [.int 0], h)) rfl ⟨trivial, trivial⟩ ?_
      refine rt_ hX (G := isB 0) (r := some (.int 0)) rfl isB0 ?_
      exact k0 (by grind)
    ·
      refine go hX 2 (gs := [True, True]) (z' := (17, [some (.ref 2), some (.int x)], [.int 1], h)) rfl ⟨trivial, trivial, trivial⟩ ?_
      refine rt_ hX (G := isB 1) (r := some (.int 1)) rfl isB1 ?_
      exact k1 (by grind)
theorem c_putA {d : Nat} {Q : Option Value → Hp → Prop} {h h1 : Hp} {x s : Int32} {R : Prop} (xm : h.1 4 2 ≤ 10) (ym : h.1 2 2 ≤ 3) (cr : (0 ≤ x ∧ x < h.1 4 2) → (0 ≤ s ∧ s < h.1 2 2) → ∀ Q : Option Value → Hp → Prop, (R → Q (some (.int 1)) h) → (¬ R → Q (some (.int 0)) h) → Call (d + 4) 68 [.ref 1, .int x, .int s] h Q) (cm : (0 ≤ x ∧ x < h.1 4 2) → (s = -1000000005 ∨ (¬ s = -1000000005 ∧ (0 ≤ s ∧ s < h.1 2 2) ∧ mwA h x s ∧ R)) → ∀ Q : Option Value → Hp → Prop, Q none h1 → Call (d + 4) 69 [.ref 1, .int x, .int s] h Q) (kB : ¬ ((0 ≤ x ∧ x < h.1 4 2) ∧ (s = -1000000005 ∨ (0 ≤ s ∧ s < h.1 2 2))) → Q (some (.int (-1000000001))) h) (kN : (0 ≤ x ∧ x < h.1 4 2) → ¬ s = -1000000005 → (0 ≤ s ∧ s < h.1 2 2) → ¬ (mwA h x s ∧ R) → Q (some (.int (-1000000002))) h) (kG : (0 ≤ x ∧ x < h.1 4 2) → (s = -1000000005 ∨ (¬ s = -1000000005 ∧ (0 ≤ s ∧ s < h.1 2 2) ∧ mwA h x s ∧ R)) → Q (some (.int (h.1 5 ((x * 14) + 8)))) h1) : Call (d + 5) 115 [.ref 0, .int x, .int s] h Q := by
  refine call_of (rfl : psM[115]? = some _) rfl rfl (rcvV rfl) (fun X hX => ?_)
  show X (0, [some (.ref 0), some (.int x), some (.int s), none], [], h)
  refine go hX 4 (gs := [True, True, True, True]) (z' := (8, [some (.ref 0), some (.int x), some (.int s), none], [.int x, .ref 4], h)) rfl ⟨trivial, trivial, trivial, trivial, trivial⟩ ?_
  refine cl hX 93 2 [.ref 4, .int x] [] rfl rfl rfl rfl ?_
  refine c_holdsH (fun hH => ?_) (fun hH => ?_)
  ·
    show X (11, [some (.ref 0), some (.int x), some (.int s), none], [.int 1], h)
    refine go hX 4 (gs := [True, True, True, True]) (z' := (if s = (-1000000005) then 37 else 20, [some (.ref 0), some (.int x), some (.int s), none], [], h)) rfl ⟨trivial, trivial, trivial, trivial, trivial⟩ ?_
    refine br (fun b1 => ?_) (fun b1 => ?_)
    ·
      refine go hX 3 (gs := [True, True, True]) (z' := (if s = (-1000000005) then 70 else 43, [some (.ref 0), some (.int x), some (.int s), none], [], h)) rfl ⟨trivial, trivial, trivial, trivial⟩ ?_
      refine br (fun b2 => ?_) (fun b2 => ?_)
      ·
        refine go hX 5 (gs := [True, True, True, True, True]) (z' := (80, [some (.ref 0), some (.int x), some (.int s), none], [.int 8, .int x, .ref 4], h)) rfl ⟨trivial, trivial, trivial, trivial, trivial, trivial⟩ ?_
        refine cl hX 94 3 [.ref 4, .int x, .int 8] [] rfl rfl rfl rfl ?_
        refine c_getH8 hH.1 hH.2 xm ?_
        show X (83, [some (.ref 0), some (.int x), some (.int s), none], [.int (h.1 5 ((x * 14) + 8))], h)
        refine go hX 5 (gs := [True, True, True, True, True]) (z' := (90, [some (.ref 0), some (.int x), some (.int s), some (.int (h.1 5 ((x * 14) + 8)))], [.int s, .int x, .ref 1], h)) rfl ⟨trivial, trivial, trivial, trivial, trivial, trivial⟩ ?_
        refine cl hX 69 3 [.ref 1, .int x, .int s] [] rfl rfl rfl rfl ?_
        refine cm hH (Or.inl b1) _ ?_
        show X (93, [some (.ref 0), some (.int x), some (.int s), some (.int (h.1 5 ((x * 14) + 8)))], [], h1)
        refine go hX 1 (gs := [True]) (z' := (94, [some (.ref 0), some (.int x), some (.int s), some (.int (h.1 5 ((x * 14) + 8)))], [.int (h.1 5 ((x * 14) + 8))], h1)) rfl ⟨trivial, trivial⟩ ?_
        refine rt_ hX (G := True) (r := some (.int (h.1 5 ((x * 14) + 8)))) rfl trivial ?_
        exact kG hH (Or.inl b1)
      ·
        refine go hX 4 (gs := [True, True, True, True]) (z' := (49, [some (.ref 0), some (.int x), some (.int s), none], [.int s, .int x, .ref 1], h)) rfl ⟨trivial, trivial, trivial, trivial, trivial⟩ ?_
        refine cl hX 66 3 [.ref 1, .int x, .int s] [] rfl rfl rfl rfl ?_
        exact absurd b1 b2
    ·
      refine go hX 4 (gs := [True, True, True, True]) (z' := (28, [some (.ref 0), some (.int x), some (.int s), none], [.int s, .ref 2], h)) rfl ⟨trivial, trivial, trivial, trivial, trivial⟩ ?_
      refine cl hX 93 2 [.ref 2, .int s] [] rfl rfl rfl rfl ?_
      refine c_holdsP (fun hP => ?_) (fun hP => ?_)
      ·
        show X (31, [some (.ref 0), some (.int x), some (.int s), none], [.int 1], h)
        refine go hX 4 (gs := [True, True, True, True]) (z' := (if s = (-1000000005) then 70 else 43, [some (.ref 0), some (.int x), some (.int s), none], [], h)) rfl ⟨trivial, trivial, trivial, trivial, trivial⟩ ?_
        refine br (fun b3 => ?_) (fun b3 => ?_)
        ·
          refine go hX 5 (gs := [True, True, True, True, True]) (z' := (80, [some (.ref 0), some (.int x), some (.int s), none], [.int 8, .int x, .ref 4], h)) rfl ⟨trivial, trivial, trivial, trivial, trivial, trivial⟩ ?_
          refine cl hX 94 3 [.ref 4, .int x, .int 8] [] rfl rfl rfl rfl ?_
          exact absurd b3 b1
        ·
          refine go hX 4 (gs := [True, True, True, True]) (z' := (49, [some (.ref 0), some (.int x), some (.int s), none], [.int s, .int x, .ref 1], h)) rfl ⟨trivial, trivial, trivial, trivial, trivial⟩ ?_
          refine cl hX 66 3 [.ref 1, .int x, .int s] [] rfl rfl rfl rfl ?_
          refine c_mayA hH.1 hH.2 xm hP.1 hP.2 ym (fun bm => ?_) (fun bm => ?_)
          ·
            show X (52, [some (.ref 0), some (.int x), some (.int s), none], [.int 1], h)
            refine go hX 5 (gs := [True, True, True, True, True]) (z' := (61, [some (.ref 0), some (.int x), some (.int s), none], [.int s, .int x, .ref 1], h)) rfl ⟨trivial, trivial, trivial, trivial, trivial, trivial⟩ ?_
            refine cl hX 68 3 [.ref 1, .int x, .int s] [] rfl rfl rfl rfl ?_
            refine cr hH hP _ (fun br => ?_) (fun br => ?_)
            ·
              show X (64, [some (.ref 0), some (.int x), some (.int s), none], [.int 1], h)
              refine go hX 6 (gs := [True, True, True, True, True, True]) (z' := (80, [some (.ref 0), some (.int x), some (.int s), none], [.int 8, .int x, .ref 4], h)) rfl ⟨trivial, trivial, trivial, trivial, trivial, trivial, trivial⟩ ?_
              refine cl hX 94 3 [.ref 4, .int x, .int 8] [] rfl rfl rfl rfl ?_
              refine c_getH8 hH.1 hH.2 xm ?_
              show X (83, [some (.ref 0), some (.int x), some (.int s), none], [.int (h.1 5 ((x * 14) + 8))], h)
              refine go hX 5 (gs := [True, True, True, True, True]) (z' := (90, [some (.ref 0), some (.int x), some (.int s), some (.int (h.1 5 ((x * 14) + 8)))], [.int s, .int x, .ref 1], h)) rfl ⟨trivial, trivial, trivial, trivial, trivial, trivial⟩ ?_
              refine cl hX 69 3 [.ref 1, .int x, .int s] [] rfl rfl rfl rfl ?_
              refine cm hH (Or.inr ⟨b1, hP, bm, br⟩) _ ?_
              show X (93, [some (.ref 0), some (.int x), some (.int s), some (.int (h.1 5 ((x * 14) + 8)))], [], h1)
              refine go hX 1 (gs := [True]) (z' := (94, [some (.ref 0), some (.int x), some (.int s), some (.int (h.1 5 ((x * 14) + 8)))], [.int (h.1 5 ((x * 14) + 8))], h1)) rfl ⟨trivial, trivial⟩ ?_
              refine rt_ hX (G := True) (r := some (.int (h.1 5 ((x * 14) + 8)))) rfl trivial ?_
              exact kG hH (Or.inr ⟨b1, hP, bm, br⟩)
            ·
              show X (64, [some (.ref 0), some (.int x), some (.int s), none], [.int 0], h)
              refine go hX 2 (gs := [True, True]) (z' := (69, [some (.ref 0), some (.int x), some (.int s), none], [.int (-1000000002)], h)) rfl ⟨trivial, trivial, trivial⟩ ?_
              refine rt_ hX (G := True) (r := some (.int (-1000000002))) rfl trivial ?_
              exact kN hH b1 hP (fun z => br z.2)
          ·
            show X (52, [some (.ref 0), some (.int x), some (.int s), none], [.int 0], h)
            refine go hX 2 (gs := [True, True]) (z' := (69, [some (.ref 0), some (.int x), some (.int s), none], [.int (-1000000002)], h)) rfl ⟨trivial, trivial, trivial⟩ ?_
            refine rt_ hX (G := True) (r := some (.int (-1000000002))) rfl trivial ?_
            exact kN hH b1 hP (fun z => bm z.1)
      ·
        show X (31, [some (.ref 0), some (.int x), some (.int s), none], [.int 0], h)
        refine go hX 2 (gs := [True, True]) (z' := (36, [some (.ref 0), some (.int x), some (.int s), none], [.int (-1000000001)], h)) rfl ⟨trivial, trivial, trivial⟩ ?_
        refine rt_ hX (G := True) (r := some (.int (-1000000001))) rfl trivial ?_
        exact kB (fun z => z.2.elim b1 hP)
  ·
    show X (11, [some (.ref 0), some (.int x), some (.int s), none], [.int 0], h)
    refine go hX 2 (gs := [True, True]) (z' := (36, [some (.ref 0), some (.int x), some (.int s), none], [.int (-1000000001)], h)) rfl ⟨trivial, trivial, trivial⟩ ?_
    refine rt_ hX (G := True) (r := some (.int (-1000000001))) rfl trivial ?_
    exact kB (fun z => hH z.1)
/-! By hand (contracts printed by wip/se/m30.py). -/
theorem c_handAtP {d : Nat} {Q : Option Value → Hp → Prop} {h : Hp} {x : Int32} (k : Q (some (.int (40 + (16 * x)))) h) : Call (d + 1) 164 [.ref 65, .int x] h Q := by
  refine call_of (rfl : psM[164]? = some _) rfl rfl (rcvV rfl) (fun X hX => ?_)
  show X (0, [some (.ref 65), some (.int x)], [], h)
  refine go hX 5 (gs := [True, True, True, True, True]) (z' := (7, [some (.ref 65), some (.int x)], [.int (40 + (16 * x))], h)) rfl ⟨trivial, trivial, trivial, trivial, trivial, trivial⟩ ?_
  refine rt_ hX (G := True) (r := some (.int (40 + (16 * x)))) rfl trivial ?_
  exact k
theorem c_shopAtP {d : Nat} {Q : Option Value → Hp → Prop} {h : Hp} {x : Int32} (k : Q (some (.int (10 + (10 * x)))) h) : Call (d + 1) 163 [.ref 65, .int x] h Q := by
  refine call_of (rfl : psM[163]? = some _) rfl rfl (rcvV rfl) (fun X hX => ?_)
  show X (0, [some (.ref 65), some (.int x)], [], h)
  refine go hX 5 (gs := [True, True, True, True, True]) (z' := (7, [some (.ref 65), some (.int x)], [.int (10 + (10 * x))], h)) rfl ⟨trivial, trivial, trivial, trivial, trivial, trivial⟩ ?_
  refine rt_ hX (G := True) (r := some (.int (10 + (10 * x)))) rfl trivial ?_
  exact k
theorem c_thingAtP {d : Nat} {Q : Option Value → Hp → Prop} {h : Hp} {x : Int32} (k : Q (some (.int (300 + (9 * x)))) h) : Call (d + 1) 165 [.ref 65, .int x] h Q := by
  refine call_of (rfl : psM[165]? = some _) rfl rfl (rcvV rfl) (fun X hX => ?_)
  show X (0, [some (.ref 65), some (.int x)], [], h)
  refine go hX 5 (gs := [True, True, True, True, True]) (z' := (8, [some (.ref 65), some (.int x)], [.int (300 + (9 * x))], h)) rfl ⟨trivial, trivial, trivial, trivial, trivial, trivial⟩ ?_
  refine rt_ hX (G := True) (r := some (.int (300 + (9 * x)))) rfl trivial ?_
  exact k
theorem c_orNoneP {d : Nat} {Q : Option Value → Hp → Prop} {h : Hp} {v : Int32} (k : Q (some (.int (if v < 0 then -1000000005 else v))) h) : Call (d + 1) 160 [.int v] h Q := by
  refine call_of (rfl : psM[160]? = some _) rfl rfl (rcvS rfl) (fun X hX => ?_)
  show X (0, [some (.int v)], [], h)
  refine go hX 2 (gs := [True, True]) (z' := (if 0 ≤ v then 9 else 4, [some (.int v)], [], h)) rfl ⟨trivial, trivial, trivial⟩ ?_
  refine br (fun b1 => ?_) (fun b1 => ?_)
  ·
    refine go hX 1 (gs := [True]) (z' := (10, [some (.int v)], [.int v], h)) rfl ⟨trivial, trivial⟩ ?_
    refine rt_ hX (G := True) (r := some (.int v)) rfl trivial ?_
    rw [if_neg (by grind)] at k; exact k
  ·
    refine go hX 2 (gs := [True, True]) (z' := (10, [some (.int v)], [.int (-1000000005)], h)) rfl ⟨trivial, trivial, trivial⟩ ?_
    refine rt_ hX (G := True) (r := some (.int (-1000000005))) rfl trivial ?_
    rw [if_pos (by grind)] at k; exact k
theorem c_isInP {d : Nat} {Q : Option Value → Hp → Prop} {h : Hp} {v lo hi : Int64} (k1 : lo ≤ v ∧ v ≤ hi → Q (some (.int 1)) h) (k0 : ¬ (lo ≤ v ∧ v ≤ hi) → Q (some (.int 0)) h) : Call (d + 1) 159 [.long v, .long lo, .long hi] h Q := by
  refine call_of (rfl : psM[159]? = some _) rfl rfl (rcvS rfl) (fun X hX => ?_)
  show X (0, [some (.long v), none, some (.long lo), none, some (.long hi), none], [], h)
  refine go hX 4 (gs := [True, True, True, True]) (z' := (if (lg_cmp v lo) < 0 then 17 else 6, [some (.long v), none, some (.long lo), none, some (.long hi), none], [], h)) rfl ⟨trivial, trivial, trivial, trivial, trivial⟩ ?_
  refine br (fun b1 => ?_) (fun b1 => ?_)
  ·
    refine go hX 1 (gs := [True]) (z' := (18, [some (.long v), none, some (.long lo), none, some (.long hi), none], [.int 0], h)) rfl ⟨trivial, trivial⟩ ?_
    refine rt_ hX (G := isB 0) (r := some (.int 0)) rfl isB0 ?_
    simp only [lg_cmp_lt, lg_cmp_gt] at *
    exact k0 (by grind)
  ·
    refine go hX 4 (gs := [True, True, True, True]) (z' := (if 0 < (lg_cmp v hi) then 17 else 13, [some (.long v), none, some (.long lo), none, some (.long hi), none], [], h)) rfl ⟨trivial, trivial, trivial, trivial, trivial⟩ ?_
    refine br (fun b2 => ?_) (fun b2 => ?_)
    ·
      refine go hX 1 (gs := [True]) (z' := (18, [some (.long v), none, some (.long lo), none, some (.long hi), none], [.int 0], h)) rfl ⟨trivial, trivial⟩ ?_
      refine rt_ hX (G := isB 0) (r := some (.int 0)) rfl isB0 ?_
      simp only [lg_cmp_lt, lg_cmp_gt] at *
      exact k0 (by grind)
    ·
      refine go hX 2 (gs := [True, True]) (z' := (18, [some (.long v), none, some (.long lo), none, some (.long hi), none], [.int 1], h)) rfl ⟨trivial, trivial, trivial⟩ ?_
      refine rt_ hX (G := isB 1) (r := some (.int 1)) rfl isB1 ?_
      simp only [lg_cmp_lt, lg_cmp_gt] at *
      exact k1 (by grind)
theorem c_isShopP {d : Nat} {Q : Option Value → Hp → Prop} {h : Hp} {x : Int32} (k1 : 0 ≤ x ∧ x ≤ h.1 66 1 - 1 → Q (some (.int 1)) h) (k0 : ¬ (0 ≤ x ∧ x ≤ h.1 66 1 - 1) → Q (some (.int 0)) h) : Call (d + 2) 168 [.ref 65, .int x] h Q := by
  refine call_of (rfl : psM[168]? = some _) rfl rfl (rcvV rfl) (fun X hX => ?_)
  show X (0, [some (.ref 65), some (.int x)], [], h)
  refine go hX 10 (gs := [True, True, True, ibd 1 3400, True, True, True, True, True, True]) (z' := (12, [some (.ref 65), some (.int x)], [.long (Int32.toInt64 ((h.1 66 1) - 1)), .long 0, .long (Int32.toInt64 x)], h)) rfl ⟨trivial, trivial, trivial, ?_, trivial, trivial, trivial, trivial, trivial, trivial, trivial⟩ ?_
  · exact ⟨by decide, by decide⟩
  refine cl hX 159 3 [.long (Int32.toInt64 x), .long 0, .long (Int32.toInt64 ((h.1 66 1) - 1))] [] rfl rfl rfl rfl ?_
  refine c_isInP (fun b1 => ?_) (fun b1 => ?_)
  ·
    show X (15, [some (.ref 65), some (.int x)], [.int 1], h)
    refine rt_ hX (G := isB 1) (r := some (.int 1)) rfl isB1 ?_
    simp only [i64_le, i64_0] at *
    exact k1 b1
  ·
    show X (15, [some (.ref 65), some (.int x)], [.int 0], h)
    refine rt_ hX (G := isB 0) (r := some (.int 0)) rfl isB0 ?_
    simp only [i64_le, i64_0] at *
    exact k0 b1
theorem c_isHandP {d : Nat} {Q : Option Value → Hp → Prop} {h : Hp} {x : Int32} (k1 : 0 ≤ x ∧ x ≤ h.1 66 2 - 1 → Q (some (.int 1)) h) (k0 : ¬ (0 ≤ x ∧ x ≤ h.1 66 2 - 1) → Q (some (.int 0)) h) : Call (d + 2) 169 [.ref 65, .int x] h Q := by
  refine call_of (rfl : psM[169]? = some _) rfl rfl (rcvV rfl) (fun X hX => ?_)
  show X (0, [some (.ref 65), some (.int x)], [], h)
  refine go hX 10 (gs := [True, True, True, ibd 2 3400, True, True, True, True, True, True]) (z' := (12, [some (.ref 65), some (.int x)], [.long (Int32.toInt64 ((h.1 66 2) - 1)), .long 0, .long (Int32.toInt64 x)], h)) rfl ⟨trivial, trivial, trivial, ?_, trivial, trivial, trivial, trivial, trivial, trivial, trivial⟩ ?_
  · exact ⟨by decide, by decide⟩
  refine cl hX 159 3 [.long (Int32.toInt64 x), .long 0, .long (Int32.toInt64 ((h.1 66 2) - 1))] [] rfl rfl rfl rfl ?_
  refine c_isInP (fun b1 => ?_) (fun b1 => ?_)
  ·
    show X (15, [some (.ref 65), some (.int x)], [.int 1], h)
    refine rt_ hX (G := isB 1) (r := some (.int 1)) rfl isB1 ?_
    simp only [i64_le, i64_0] at *
    exact k1 b1
  ·
    show X (15, [some (.ref 65), some (.int x)], [.int 0], h)
    refine rt_ hX (G := isB 0) (r := some (.int 0)) rfl isB0 ?_
    simp only [i64_le, i64_0] at *
    exact k0 b1
theorem ix3 {a b c : Nat} : (nI a + nI b * nI c : Int32) = nI (a + b * c) := by rw [show nI b * nI c = nI (b * c) from (Int32.ofNat_mul b c).symm, nI_add]
theorem ixT9 {k f : Nat} : ((300 : Int32) + (9 * nI k)) + nI f = nI (300 + 9 * k + f) := by
  show (nI 300 + nI 9 * nI k) + nI f = _
  rw [ix3, nI_add]
theorem ixH8 {x : Nat} : ((40 : Int32) + (16 * nI x)) + 8 = nI (48 + 16 * x) := by
  show (nI 40 + nI 16 * nI x) + nI 8 = _
  rw [ix3, nI_add]
  congr 1
  omega
theorem ixS0 {k : Nat} : ((10 : Int32) + (10 * nI k)) + 0 = nI (10 + 10 * k) := by
  show (nI 10 + nI 10 * nI k) + nI 0 = _
  rw [ix3, nI_add, Nat.add_zero]
theorem nIj4 {a b : Nat} (ha : a < 4000) (hb : b < 4000) (h : a ≠ b) : nI a ≠ nI b := fun z => h ((nIle_eq (by omega) (by omega)).mp z)
/-- but for THINGS all is as it was -/
noncomputable def GsI (h0 h : Hp) : Prop := (∀ j : Nat, j < 300 → h.1 66 (nI j) = h0.1 66 (nI j)) ∧ ∀ o (j : Int32), o ≠ 66 → h.1 o j = h0.1 o j
theorem GsI.st {h0 h : Hp} (g : GsI h0 h) {k : Nat} (hk : 300 ≤ k) (k4 : k < 4000) {v : Int32} : GsI h0 (hI h 66 (nI k) v) := ⟨fun j hj => by
  rw [hI_jn (nIj4 (by omega) k4 (by omega))]
  exact g.1 j hj, fun o j q => (hI_ne q).trans (g.2 o j q)⟩
theorem lp_goes {d : Nat} {Q : Option Value → Hp → Prop} {X : Cf → Prop} (hX : Clo (Call (d + 1)) cd188 none Q X) {h0 : Hp} {x m : Nat} {v : Int32} (m30 : m ≤ 30) (e30 : h0.1 66 3 = nI m) (K : ∀ h, GsI h0 h → Q none h) {k : Nat} (hk : k ≤ m) : ∀ (h : Hp) (l4 : Option Value), (l4 = none ∨ ∃ y, l4 = some (.int y)) → GsI h0 h → X (34, [some (.ref 65), some (.int (nI x)), some (.int v), some (.int (nI k)), l4], [], h) := by
  refine dn_ind (P := fun k => ∀ (h : Hp) (l4 : Option Value), (l4 = none ∨ ∃ y, l4 = some (.int y)) → GsI h0 h → X (34, [some (.ref 65), some (.int (nI x)), some (.int v), some (.int (nI k)), l4], [], h)) (fun k hk ih h l4 hl g => ?_) hk
  have e3 : h.1 66 3 = nI m := (g.1 3 (by decide)).trans e30
  rcases hl with rfl | ⟨y4, rfl⟩
  ·
    refine go hX 6 (gs := [True, ibd 3 3400, True, True, True, True]) (z' := (if (h.1 66 3) ≤ (nI k) then 103 else 44, [some (.ref 65), some (.int (nI x)), some (.int v), some (.int (nI k)), none], [], h)) rfl ⟨trivial, ?_, trivial, trivial, trivial, trivial, trivial⟩ ?_
    · exact ⟨by decide, by decide⟩
    refine br (fun b1 => ?_) (fun b1 => ?_)
    ·
      refine rt_ hX (G := True) (r := none) rfl trivial ?_
      exact K _ g
    ·
      have kx : k < m := Nat.lt_of_not_le (fun z => b1 (by rw [e3]; exact (tx_le (by omega) (by omega)).mpr z))
      refine go hX 2 (gs := [True, True]) (z' := (46, [some (.ref 65), some (.int (nI x)), some (.int v), some (.int (nI k)), none], [.int (nI k), .ref 65], h)) rfl ⟨trivial, trivial, trivial⟩ ?_
      refine cl hX 165 2 [.ref 65, .int (nI k)] [] rfl rfl rfl rfl ?_
      refine c_thingAtP ?_
      show X (49, [some (.ref 65), some (.int (nI x)), some (.int v), some (.int (nI k)), none], [.int (300 + (9 * (nI k)))], h)
      refine go hX 9 (gs := [True, True, ibd ((300 + (9 * (nI k))) + 4) 3400, True, True, True, True, True, True]) (z' := (if (h.1 66 ((300 + (9 * (nI k))) + 4)) = 1 then 64 else 97, [some (.ref 65), some (.int (nI x)), some (.int v), some (.int (nI k)), some (.int (300 + (9 * (nI k))))], [], h)) rfl ⟨trivial, trivial, ?_, trivial, trivial, trivial, trivial, trivial, trivial, trivial⟩ ?_
      · rw [show ((300 : Int32) + (9 * (nI k))) + 4 = nI (300 + 9 * k + 4) from ixT9]; exact ibd_of (B := 3400) rfl (tx_0 _ (by omega)) ((tx_lt (b := 3400) (by omega) (by decide)).mpr (by omega))
      refine br (fun b2 => ?_) (fun b2 => ?_)
      ·
        refine go hX 8 (gs := [True, True, ibd ((300 + (9 * (nI k))) + 5) 3400, True, True, True, True, True]) (z' := (if (h.1 66 ((300 + (9 * (nI k))) + 5)) = (nI x) then 77 else 97, [some (.ref 65), some (.int (nI x)), some (.int v), some (.int (nI k)), some (.int (300 + (9 * (nI k))))], [], h)) rfl ⟨trivial, trivial, ?_, trivial, trivial, trivial, trivial, trivial, trivial⟩ ?_
        · rw [show ((300 : Int32) + (9 * (nI k))) + 5 = nI (300 + 9 * k + 5) from ixT9]; exact ibd_of (B := 3400) rfl (tx_0 _ (by omega)) ((tx_lt (b := 3400) (by omega) (by decide)).mpr (by omega))
        refine br (fun b3 => ?_) (fun b3 => ?_)
        ·
          refine go hX 16 (gs := [True, True, ibd ((300 + (9 * (nI k))) + 5) 3400, True, True, True, True, True, True, ibd ((300 + (9 * (nI k))) + 4) 3400, True, True, True, True, True, True]) (z' := (34, [some (.ref 65), some (.int (nI x)), some (.int v), some (.int ((nI k) + 1)), some (.int (300 + (9 * (nI k))))], [], (hI (hI h 66 ((300 + (9 * (nI k))) + 4) 0) 66 ((300 + (9 * (nI k))) + 5) (-1)))) rfl ⟨trivial, trivial, ?_, trivial, trivial, trivial, trivial, trivial, trivial, ?_, trivial, trivial, trivial, trivial, trivial, trivial, trivial⟩ ?_
          · rw [show ((300 : Int32) + (9 * (nI k))) + 5 = nI (300 + 9 * k + 5) from ixT9]; exact ibd_of (B := 3400) rfl (tx_0 _ (by omega)) ((tx_lt (b := 3400) (by omega) (by decide)).mpr (by omega))
          · rw [show ((300 : Int32) + (9 * (nI k))) + 4 = nI (300 + 9 * k + 4) from ixT9]; exact ibd_of (B := 3400) rfl (tx_0 _ (by omega)) ((tx_lt (b := 3400) (by omega) (by decide)).mpr (by omega))
          rw [show ((300 : Int32) + (9 * (nI k))) + 4 = nI (300 + 9 * k + 4) from ixT9, show ((300 : Int32) + (9 * (nI k))) + 5 = nI (300 + 9 * k + 5) from ixT9]
          rw [tx_1]
          exact ih (k + 1) (Nat.lt_succ_self k) (by omega) _ _ (Or.inr ⟨_, rfl⟩) ((g.st (k := 300 + 9 * k + 4) (by omega) (by omega)).st (k := 300 + 9 * k + 5) (by omega) (by omega))
        ·
          refine go hX 2 (gs := [True, True]) (z' := (34, [some (.ref 65), some (.int (nI x)), some (.int v), some (.int ((nI k) + 1)), some (.int (300 + (9 * (nI k))))], [], h)) rfl ⟨trivial, trivial, trivial⟩ ?_
          rw [tx_1]
          exact ih (k + 1) (Nat.lt_succ_self k) (by omega) _ _ (Or.inr ⟨_, rfl⟩) g
      ·
        refine go hX 2 (gs := [True, True]) (z' := (34, [some (.ref 65), some (.int (nI x)), some (.int v), some (.int ((nI k) + 1)), some (.int (300 + (9 * (nI k))))], [], h)) rfl ⟨trivial, trivial, trivial⟩ ?_
        rw [tx_1]
        exact ih (k + 1) (Nat.lt_succ_self k) (by omega) _ _ (Or.inr ⟨_, rfl⟩) g
  ·
    refine go hX 6 (gs := [True, ibd 3 3400, True, True, True, True]) (z' := (if (h.1 66 3) ≤ (nI k) then 103 else 44, [some (.ref 65), some (.int (nI x)), some (.int v), some (.int (nI k)), some (.int y4)], [], h)) rfl ⟨trivial, ?_, trivial, trivial, trivial, trivial, trivial⟩ ?_
    · exact ⟨by decide, by decide⟩
    refine br (fun b1 => ?_) (fun b1 => ?_)
    ·
      refine rt_ hX (G := True) (r := none) rfl trivial ?_
      exact K _ g
    ·
      have kx : k < m := Nat.lt_of_not_le (fun z => b1 (by rw [e3]; exact (tx_le (by omega) (by omega)).mpr z))
      refine go hX 2 (gs := [True, True]) (z' := (46, [some (.ref 65), some (.int (nI x)), some (.int v), some (.int (nI k)), some (.int y4)], [.int (nI k), .ref 65], h)) rfl ⟨trivial, trivial, trivial⟩ ?_
      refine cl hX 165 2 [.ref 65, .int (nI k)] [] rfl rfl rfl rfl ?_
      refine c_thingAtP ?_
      show X (49, [some (.ref 65), some (.int (nI x)), some (.int v), some (.int (nI k)), some (.int y4)], [.int (300 + (9 * (nI k)))], h)
      refine go hX 9 (gs := [True, True, ibd ((300 + (9 * (nI k))) + 4) 3400, True, True, True, True, True, True]) (z' := (if (h.1 66 ((300 + (9 * (nI k))) + 4)) = 1 then 64 else 97, [some (.ref 65), some (.int (nI x)), some (.int v), some (.int (nI k)), some (.int (300 + (9 * (nI k))))], [], h)) rfl ⟨trivial, trivial, ?_, trivial, trivial, trivial, trivial, trivial, trivial, trivial⟩ ?_
      · rw [show ((300 : Int32) + (9 * (nI k))) + 4 = nI (300 + 9 * k + 4) from ixT9]; exact ibd_of (B := 3400) rfl (tx_0 _ (by omega)) ((tx_lt (b := 3400) (by omega) (by decide)).mpr (by omega))
      refine br (fun b2 => ?_) (fun b2 => ?_)
      ·
        refine go hX 8 (gs := [True, True, ibd ((300 + (9 * (nI k))) + 5) 3400, True, True, True, True, True]) (z' := (if (h.1 66 ((300 + (9 * (nI k))) + 5)) = (nI x) then 77 else 97, [some (.ref 65), some (.int (nI x)), some (.int v), some (.int (nI k)), some (.int (300 + (9 * (nI k))))], [], h)) rfl ⟨trivial, trivial, ?_, trivial, trivial, trivial, trivial, trivial, trivial⟩ ?_
        · rw [show ((300 : Int32) + (9 * (nI k))) + 5 = nI (300 + 9 * k + 5) from ixT9]; exact ibd_of (B := 3400) rfl (tx_0 _ (by omega)) ((tx_lt (b := 3400) (by omega) (by decide)).mpr (by omega))
        refine br (fun b3 => ?_) (fun b3 => ?_)
        ·
          refine go hX 16 (gs := [True, True, ibd ((300 + (9 * (nI k))) + 5) 3400, True, True, True, True, True, True, ibd ((300 + (9 * (nI k))) + 4) 3400, True, True, True, True, True, True]) (z' := (34, [some (.ref 65), some (.int (nI x)), some (.int v), some (.int ((nI k) + 1)), some (.int (300 + (9 * (nI k))))], [], (hI (hI h 66 ((300 + (9 * (nI k))) + 4) 0) 66 ((300 + (9 * (nI k))) + 5) (-1)))) rfl ⟨trivial, trivial, ?_, trivial, trivial, trivial, trivial, trivial, trivial, ?_, trivial, trivial, trivial, trivial, trivial, trivial, trivial⟩ ?_
          · rw [show ((300 : Int32) + (9 * (nI k))) + 5 = nI (300 + 9 * k + 5) from ixT9]; exact ibd_of (B := 3400) rfl (tx_0 _ (by omega)) ((tx_lt (b := 3400) (by omega) (by decide)).mpr (by omega))
          · rw [show ((300 : Int32) + (9 * (nI k))) + 4 = nI (300 + 9 * k + 4) from ixT9]; exact ibd_of (B := 3400) rfl (tx_0 _ (by omega)) ((tx_lt (b := 3400) (by omega) (by decide)).mpr (by omega))
          rw [show ((300 : Int32) + (9 * (nI k))) + 4 = nI (300 + 9 * k + 4) from ixT9, show ((300 : Int32) + (9 * (nI k))) + 5 = nI (300 + 9 * k + 5) from ixT9]
          rw [tx_1]
          exact ih (k + 1) (Nat.lt_succ_self k) (by omega) _ _ (Or.inr ⟨_, rfl⟩) ((g.st (k := 300 + 9 * k + 4) (by omega) (by omega)).st (k := 300 + 9 * k + 5) (by omega) (by omega))
        ·
          refine go hX 2 (gs := [True, True]) (z' := (34, [some (.ref 65), some (.int (nI x)), some (.int v), some (.int ((nI k) + 1)), some (.int (300 + (9 * (nI k))))], [], h)) rfl ⟨trivial, trivial, trivial⟩ ?_
          rw [tx_1]
          exact ih (k + 1) (Nat.lt_succ_self k) (by omega) _ _ (Or.inr ⟨_, rfl⟩) g
      ·
        refine go hX 2 (gs := [True, True]) (z' := (34, [some (.ref 65), some (.int (nI x)), some (.int v), some (.int ((nI k) + 1)), some (.int (300 + (9 * (nI k))))], [], h)) rfl ⟨trivial, trivial, trivial⟩ ?_
        rw [tx_1]
        exact ih (k + 1) (Nat.lt_succ_self k) (by omega) _ _ (Or.inr ⟨_, rfl⟩) g
theorem c_goesB {d : Nat} {Q : Option Value → Hp → Prop} {h : Hp} {x m : Nat} {v : Int32} (hx : x < 10) (m30 : m ≤ 30) (e30 : h.1 66 3 = nI m) (K : ∀ h', h'.1 66 (nI (48 + 16 * x)) = v → (∀ j : Nat, j < 300 → j ≠ 48 + 16 * x → h'.1 66 (nI j) = h.1 66 (nI j)) → (∀ o (j : Int32), o ≠ 66 → h'.1 o j = h.1 o j) → Q none h') : Call (d + 2) 188 [.ref 65, .int (nI x), .int v] h Q := by
  refine call_of (rfl : psM[188]? = some _) rfl rfl (rcvV rfl) (fun X hX => ?_)
  show X (0, [some (.ref 65), some (.int (nI x)), some (.int v), none, none], [], h)
  refine go hX 4 (gs := [True, True, True, True]) (z' := (6, [some (.ref 65), some (.int (nI x)), some (.int v), none, none], [.int (nI x), .ref 65, .ref 66], h)) rfl ⟨trivial, trivial, trivial, trivial, trivial⟩ ?_
  refine cl hX 164 2 [.ref 65, .int (nI x)] [.ref 66] rfl rfl rfl rfl ?_
  refine c_handAtP ?_
  show X (9, [some (.ref 65), some (.int (nI x)), some (.int v), none, none], [.int (40 + (16 * (nI x))), .ref 66], h)
  refine go hX 5 (gs := [True, True, ibd ((40 + (16 * (nI x))) + 8) 3400, True, True]) (z' := (if (h.1 66 ((40 + (16 * (nI x))) + 8)) = v then 17 else 18, [some (.ref 65), some (.int (nI x)), some (.int v), none, none], [], h)) rfl ⟨trivial, trivial, ?_, trivial, trivial, trivial⟩ ?_
  · rw [ixH8]; exact ibd_of (B := 3400) rfl (tx_0 _ (by omega)) ((tx_lt (b := 3400) (by omega) (by decide)).mpr (by omega))
  refine br (fun b1 => ?_) (fun b1 => ?_)
  ·
    refine rt_ hX (G := True) (r := none) rfl trivial ?_
    exact K h (by rw [← ixH8]; exact b1) (fun _ _ _ => rfl) (fun _ _ _ => rfl)
  ·
    refine go hX 4 (gs := [True, True, True, True]) (z' := (24, [some (.ref 65), some (.int (nI x)), some (.int v), none, none], [.int (nI x), .ref 65, .ref 66], h)) rfl ⟨trivial, trivial, trivial, trivial, trivial⟩ ?_
    refine cl hX 164 2 [.ref 65, .int (nI x)] [.ref 66] rfl rfl rfl rfl ?_
    refine c_handAtP ?_
    show X (27, [some (.ref 65), some (.int (nI x)), some (.int v), none, none], [.int (40 + (16 * (nI x))), .ref 66], h)
    refine go hX 6 (gs := [True, True, ibd ((40 + (16 * (nI x))) + 8) 3400, True, True, True]) (z' := (34, [some (.ref 65), some (.int (nI x)), some (.int v), some (.int 0), none], [], (hI h 66 ((40 + (16 * (nI x))) + 8) v))) rfl ⟨trivial, trivial, ?_, trivial, trivial, trivial, trivial⟩ ?_
    · rw [ixH8]; exact ibd_of (B := 3400) rfl (tx_0 _ (by omega)) ((tx_lt (b := 3400) (by omega) (by decide)).mpr (by omega))
    exact lp_goes (h0 := (hI h 66 ((40 + (16 * (nI x))) + 8) v)) hX m30 (by rw [ixH8, hI_jn (show (3 : Int32) ≠ nI (48 + 16 * x) from nIj4 (a := 3) (by decide) (by omega) (by omega))]; exact e30) (fun h1 g => K h1 (by rw [g.1 _ (by omega), ixH8, hI_eq]) (fun j j0 j1 => by rw [g.1 j j0, ixH8, hI_jn (nIj4 (by omega) (by omega) j1)]) (fun o j q => (g.2 o j q).trans (hI_ne q))) (Nat.zero_le m) _ none (Or.inl rfl) ⟨fun _ _ => rfl, fun _ _ _ => rfl⟩
/-- how many are there; whether one is barred -/
noncomputable def pbC (a : Nat → Bool) : Nat → Nat
  | 0 => 0
  | i + 1 => pbC a i + (if a i = true then 1 else 0)
noncomputable def pbF (a b : Nat → Bool) : Nat → Bool
  | 0 => false
  | i + 1 => pbF a b i || (a i && b i)
theorem pbC_le {a : Nat → Bool} : ∀ {i : Nat}, pbC a i ≤ i
  | 0 => Nat.le_refl 0
  | i + 1 => by
    have ih := pbC_le (a := a) (i := i)
    show pbC a i + (if a i = true then 1 else 0) ≤ i + 1
    split <;> omega
theorem pbC_1 {a : Nat → Bool} {i : Nat} (h : a i = true) : pbC a (i + 1) = pbC a i + 1 := by show pbC a i + (if a i = true then 1 else 0) = _; rw [if_pos h]
theorem pbC_0 {a : Nat → Bool} {i : Nat} (h : ¬ a i = true) : pbC a (i + 1) = pbC a i := by show pbC a i + (if a i = true then 1 else 0) = _; rw [if_neg h, Nat.add_zero]
noncomputable def bI (b : Bool) : Int32 := if b = true then 1 else 0
theorem bI_0 {b : Bool} : bI b = 0 ↔ ¬ b = true := by
  unfold bI
  cases b
  · exact ⟨fun _ => by decide, fun _ => rfl⟩
  · exact ⟨fun h => absurd h (by decide), fun h => absurd rfl h⟩
theorem lp_pb {d : Nat} {Q : Option Value → Hp → Prop} {X : Cf → Prop} (hX : Clo (Call (d + 4)) cd189 (some .int) Q X) {h : Hp} {was : Int32} {n x : Nat} {s : Int32} {a b : Nat → Bool} (n10 : n ≤ 10) (hx : x < 10) (en : h.1 66 2 = nI n) (hat : ∀ i, i < n → (a i = true ↔ (i ≠ x ∧ h.1 66 ((40 + (16 * nI i)) + 8) = s))) (hba : ∀ i, i < n → (b i = true ↔ h.1 66 ((200 + (10 * nI i)) + nI x) = 1)) (K : ∀ l7, X (144, [some (.ref 65), some (.int (nI x)), some (.int s), some (.int was), some (.int (nI (pbC a n))), some (.int (bI (pbF a b n))), some (.int (nI n)), l7], [], h)) {i : Nat} (hi : i ≤ n) : ∀ l7, (l7 = none ∨ ∃ y, l7 = some (.int y)) → X (54, [some (.ref 65), some (.int (nI x)), some (.int s), some (.int was), some (.int (nI (pbC a i))), some (.int (bI (pbF a b i))), some (.int (nI i)), l7], [], h) := by
  refine dn_ind (P := fun i => ∀ l7, (l7 = none ∨ ∃ y, l7 = some (.int y)) → X (54, [some (.ref 65), some (.int (nI x)), some (.int s), some (.int was), some (.int (nI (pbC a i))), some (.int (bI (pbF a b i))), some (.int (nI i)), l7], [], h)) (fun i hi ih l7 hl => ?_) hi
  rcases hl with rfl | ⟨y7, rfl⟩
  ·
    refine go hX 6 (gs := [True, ibd 2 3400, True, True, True, True]) (z' := (if (h.1 66 2) ≤ (nI i) then 144 else 65, [some (.ref 65), some (.int (nI x)), some (.int s), some (.int was), some (.int (nI (pbC a i))), some (.int (bI (pbF a b i))), some (.int (nI i)), none], [], h)) rfl ⟨trivial, ?_, trivial, trivial, trivial, trivial, trivial⟩ ?_
    · exact ⟨by decide, by decide⟩
    refine br (fun b1 => ?_) (fun b1 => ?_)
    ·
      have e : i = n := Nat.le_antisymm hi ((tx_le (by omega) (by omega)).mp (by rw [← en]; exact b1))
      subst e
      exact K _
    ·
      have ix : i < n := Nat.lt_of_not_le (fun z => b1 (by rw [en]; exact (tx_le (by omega) (by omega)).mpr z))
      refine go hX 3 (gs := [True, True, True]) (z' := (if (nI i) = (nI x) then 93 else 71, [some (.ref 65), some (.int (nI x)), some (.int s), some (.int was), some (.int (nI (pbC a i))), some (.int (bI (pbF a b i))), some (.int (nI i)), none], [], h)) rfl ⟨trivial, trivial, trivial, trivial⟩ ?_
      refine br (fun b2 => ?_) (fun b2 => ?_)
      ·
        refine go hX 10 (gs := [True, True, True, True, True, True, True, True, True, True]) (z' := (if (bI (pbF a b i)) = 0 then 116 else 131, [some (.ref 65), some (.int (nI x)), some (.int s), some (.int was), some (.int ((nI (pbC a i)) + 0)), some (.int (bI (pbF a b i))), some (.int (nI i)), some (.int 0)], [], h)) rfl ⟨trivial, trivial, trivial, trivial, trivial, trivial, trivial, trivial, trivial, trivial, trivial⟩ ?_
        refine br (fun b3 => ?_) (fun b3 => ?_)
        ·
          refine go hX 6 (gs := [True, True, True, True, True, True]) (z' := (54, [some (.ref 65), some (.int (nI x)), some (.int s), some (.int was), some (.int ((nI (pbC a i)) + 0)), some (.int 0), some (.int ((nI i) + 1)), some (.int 0)], [], h)) rfl ⟨trivial, trivial, trivial, trivial, trivial, trivial, trivial⟩ ?_
          have ec : pbC a (i + 1) = pbC a i := pbC_0 (fun z => ((hat i ix).mp z).1 ((nIle_eq (by omega) (by omega)).mp b2))
          have ef : pbF a b (i + 1) = false := by show (pbF a b i || (a i && b i)) = false; rw [show pbF a b i = false from (Bool.not_eq_true _).mp (bI_0.mp b3), show a i = false from (Bool.not_eq_true _).mp (fun z => ((hat i ix).mp z).1 ((nIle_eq (by omega) (by omega)).mp b2))]; rfl
          have I := ih (i + 1) (Nat.lt_succ_self i) (by omega) (some (.int 0)) (Or.inr ⟨_, rfl⟩)
          rw [ec, ef] at I
          rw [tx_1, show nI (pbC a i) + 0 = nI (pbC a i) from nI_add _ 0]
          exact I
        ·
          refine go hX 5 (gs := [True, True, True, True, True]) (z' := (54, [some (.ref 65), some (.int (nI x)), some (.int s), some (.int was), some (.int ((nI (pbC a i)) + 0)), some (.int 1), some (.int ((nI i) + 1)), some (.int 0)], [], h)) rfl ⟨trivial, trivial, trivial, trivial, trivial, trivial⟩ ?_
          have ec : pbC a (i + 1) = pbC a i := pbC_0 (fun z => ((hat i ix).mp z).1 ((nIle_eq (by omega) (by omega)).mp b2))
          have ef : pbF a b (i + 1) = true := by show (pbF a b i || _) = true; rw [show pbF a b i = true from Decidable.not_not.mp (fun z => b3 (bI_0.mpr z))]; rfl
          have I := ih (i + 1) (Nat.lt_succ_self i) (by omega) (some (.int 0)) (Or.inr ⟨_, rfl⟩)
          rw [ec, ef] at I
          rw [tx_1, show nI (pbC a i) + 0 = nI (pbC a i) from nI_add _ 0]
          exact I
      ·
        refine go hX 4 (gs := [True, True, True, True]) (z' := (78, [some (.ref 65), some (.int (nI x)), some (.int s), some (.int was), some (.int (nI (pbC a i))), some (.int (bI (pbF a b i))), some (.int (nI i)), none], [.int (nI i), .ref 65, .ref 66], h)) rfl ⟨trivial, trivial, trivial, trivial, trivial⟩ ?_
        refine cl hX 164 2 [.ref 65, .int (nI i)] [.ref 66] rfl rfl rfl rfl ?_
        refine c_handAtP ?_
        show X (81, [some (.ref 65), some (.int (nI x)), some (.int s), some (.int was), some (.int (nI (pbC a i))), some (.int (bI (pbF a b i))), some (.int (nI i)), none], [.int (40 + (16 * (nI i))), .ref 66], h)
        refine go hX 5 (gs := [True, True, ibd ((40 + (16 * (nI i))) + 8) 3400, True, True]) (z' := (if (h.1 66 ((40 + (16 * (nI i))) + 8)) = s then 89 else 93, [some (.ref 65), some (.int (nI x)), some (.int s), some (.int was), some (.int (nI (pbC a i))), some (.int (bI (pbF a b i))), some (.int (nI i)), none], [], h)) rfl ⟨trivial, trivial, ?_, trivial, trivial, trivial⟩ ?_
        · rw [ixH8]; exact ibd_of (B := 3400) rfl (tx_0 _ (by omega)) ((tx_lt (b := 3400) (by omega) (by decide)).mpr (by omega))
        refine br (fun b4 => ?_) (fun b4 => ?_)
        ·
          refine go hX 12 (gs := [True, True, True, True, True, True, True, True, True, True, True, True]) (z' := (if (bI (pbF a b i)) = 0 then 116 else 131, [some (.ref 65), some (.int (nI x)), some (.int s), some (.int was), some (.int ((nI (pbC a i)) + 1)), some (.int (bI (pbF a b i))), some (.int (nI i)), some (.int 1)], [], h)) rfl ⟨trivial, trivial, trivial, trivial, trivial, trivial, trivial, trivial, trivial, trivial, trivial, trivial, trivial⟩ ?_
          refine br (fun b5 => ?_) (fun b5 => ?_)
          ·
            refine go hX 5 (gs := [True, True, True, True, True]) (z' := (125, [some (.ref 65), some (.int (nI x)), some (.int s), some (.int was), some (.int ((nI (pbC a i)) + 1)), some (.int (bI (pbF a b i))), some (.int (nI i)), some (.int 1)], [.int (nI x), .int (nI i), .ref 65], h)) rfl ⟨trivial, trivial, trivial, trivial, trivial, trivial⟩ ?_
            refine cl hX 184 3 [.ref 65, .int (nI i), .int (nI x)] [] rfl rfl rfl rfl ?_
            refine c_isBrB (tx_0 i (by omega)) ((tx_lt (b := 10) (by omega) (by decide)).mpr (by omega)) (tx_0 x (by omega)) ((tx_lt (b := 10) (by omega) (by decide)).mpr hx) (fun bb => ?_) (fun bb => ?_)
            ·
              show X (128, [some (.ref 65), some (.int (nI x)), some (.int s), some (.int was), some (.int ((nI (pbC a i)) + 1)), some (.int (bI (pbF a b i))), some (.int (nI i)), some (.int 1)], [.int 1], h)
              refine go hX 6 (gs := [True, True, True, True, True, True]) (z' := (54, [some (.ref 65), some (.int (nI x)), some (.int s), some (.int was), some (.int ((nI (pbC a i)) + 1)), some (.int 1), some (.int ((nI i) + 1)), some (.int 1)], [], h)) rfl ⟨trivial, trivial, trivial, trivial, trivial, trivial, trivial⟩ ?_
              have ec : pbC a (i + 1) = pbC a i + 1 := pbC_1 ((hat i ix).mpr ⟨fun z => b2 (by rw [z]), b4⟩)
              have ef : pbF a b (i + 1) = true := by show (pbF a b i || (a i && b i)) = true; rw [show a i = true from ((hat i ix).mpr ⟨fun z => b2 (by rw [z]), b4⟩), show b i = true from (hba i ix).mpr bb, Bool.and_true, Bool.or_true]
              have I := ih (i + 1) (Nat.lt_succ_self i) (by omega) (some (.int 1)) (Or.inr ⟨_, rfl⟩)
              rw [ec, ef] at I
              rw [tx_1, tx_1]
              exact I
            ·
              show X (128, [some (.ref 65), some (.int (nI x)), some (.int s), some (.int was), some (.int ((nI (pbC a i)) + 1)), some (.int (bI (pbF a b i))), some (.int (nI i)), some (.int 1)], [.int 0], h)
              refine go hX 5 (gs := [True, True, True, True, True]) (z' := (54, [some (.ref 65), some (.int (nI x)), some (.int s), some (.int was), some (.int ((nI (pbC a i)) + 1)), some (.int 0), some (.int ((nI i) + 1)), some (.int 1)], [], h)) rfl ⟨trivial, trivial, trivial, trivial, trivial, trivial⟩ ?_
              have ec : pbC a (i + 1) = pbC a i + 1 := pbC_1 ((hat i ix).mpr ⟨fun z => b2 (by rw [z]), b4⟩)
              have ef : pbF a b (i + 1) = false := by show (pbF a b i || (a i && b i)) = false; rw [show pbF a b i = false from (Bool.not_eq_true _).mp (bI_0.mp b5), show b i = false from (Bool.not_eq_true _).mp (fun z => bb ((hba i ix).mp z)), Bool.and_false]; rfl
              have I := ih (i + 1) (Nat.lt_succ_self i) (by omega) (some (.int 1)) (Or.inr ⟨_, rfl⟩)
              rw [ec, ef] at I
              rw [tx_1, tx_1]
              exact I
          ·
            refine go hX 5 (gs := [True, True, True, True, True]) (z' := (54, [some (.ref 65), some (.int (nI x)), some (.int s), some (.int was), some (.int ((nI (pbC a i)) + 1)), some (.int 1), some (.int ((nI i) + 1)), some (.int 1)], [], h)) rfl ⟨trivial, trivial, trivial, trivial, trivial, trivial⟩ ?_
            have ec : pbC a (i + 1) = pbC a i + 1 := pbC_1 ((hat i ix).mpr ⟨fun z => b2 (by rw [z]), b4⟩)
            have ef : pbF a b (i + 1) = true := by show (pbF a b i || _) = true; rw [show pbF a b i = true from Decidable.not_not.mp (fun z => b5 (bI_0.mpr z))]; rfl
            have I := ih (i + 1) (Nat.lt_succ_self i) (by omega) (some (.int 1)) (Or.inr ⟨_, rfl⟩)
            rw [ec, ef] at I
            rw [tx_1, tx_1]
            exact I
        ·
          refine go hX 10 (gs := [True, True, True, True, True, True, True, True, True, True]) (z' := (if (bI (pbF a b i)) = 0 then 116 else 131, [some (.ref 65), some (.int (nI x)), some (.int s), some (.int was), some (.int ((nI (pbC a i)) + 0)), some (.int (bI (pbF a b i))), some (.int (nI i)), some (.int 0)], [], h)) rfl ⟨trivial, trivial, trivial, trivial, trivial, trivial, trivial, trivial, trivial, trivial, trivial⟩ ?_
          refine br (fun b6 => ?_) (fun b6 => ?_)
          ·
            refine go hX 6 (gs := [True, True, True, True, True, True]) (z' := (54, [some (.ref 65), some (.int (nI x)), some (.int s), some (.int was), some (.int ((nI (pbC a i)) + 0)), some (.int 0), some (.int ((nI i) + 1)), some (.int 0)], [], h)) rfl ⟨trivial, trivial, trivial, trivial, trivial, trivial, trivial⟩ ?_
            have ec : pbC a (i + 1) = pbC a i := pbC_0 (fun z => b4 ((hat i ix).mp z).2)
            have ef : pbF a b (i + 1) = false := by show (pbF a b i || (a i && b i)) = false; rw [show pbF a b i = false from (Bool.not_eq_true _).mp (bI_0.mp b6), show a i = false from (Bool.not_eq_true _).mp (fun z => b4 ((hat i ix).mp z).2)]; rfl
            have I := ih (i + 1) (Nat.lt_succ_self i) (by omega) (some (.int 0)) (Or.inr ⟨_, rfl⟩)
            rw [ec, ef] at I
            rw [tx_1, show nI (pbC a i) + 0 = nI (pbC a i) from nI_add _ 0]
            exact I
          ·
            refine go hX 5 (gs := [True, True, True, True, True]) (z' := (54, [some (.ref 65), some (.int (nI x)), some (.int s), some (.int was), some (.int ((nI (pbC a i)) + 0)), some (.int 1), some (.int ((nI i) + 1)), some (.int 0)], [], h)) rfl ⟨trivial, trivial, trivial, trivial, trivial, trivial⟩ ?_
            have ec : pbC a (i + 1) = pbC a i := pbC_0 (fun z => b4 ((hat i ix).mp z).2)
            have ef : pbF a b (i + 1) = true := by show (pbF a b i || _) = true; rw [show pbF a b i = true from Decidable.not_not.mp (fun z => b6 (bI_0.mpr z))]; rfl
            have I := ih (i + 1) (Nat.lt_succ_self i) (by omega) (some (.int 0)) (Or.inr ⟨_, rfl⟩)
            rw [ec, ef] at I
            rw [tx_1, show nI (pbC a i) + 0 = nI (pbC a i) from nI_add _ 0]
            exact I
  ·
    refine go hX 6 (gs := [True, ibd 2 3400, True, True, True, True]) (z' := (if (h.1 66 2) ≤ (nI i) then 144 else 65, [some (.ref 65), some (.int (nI x)), some (.int s), some (.int was), some (.int (nI (pbC a i))), some (.int (bI (pbF a b i))), some (.int (nI i)), some (.int y7)], [], h)) rfl ⟨trivial, ?_, trivial, trivial, trivial, trivial, trivial⟩ ?_
    · exact ⟨by decide, by decide⟩
    refine br (fun b1 => ?_) (fun b1 => ?_)
    ·
      have e : i = n := Nat.le_antisymm hi ((tx_le (by omega) (by omega)).mp (by rw [← en]; exact b1))
      subst e
      exact K _
    ·
      have ix : i < n := Nat.lt_of_not_le (fun z => b1 (by rw [en]; exact (tx_le (by omega) (by omega)).mpr z))
      refine go hX 3 (gs := [True, True, True]) (z' := (if (nI i) = (nI x) then 93 else 71, [some (.ref 65), some (.int (nI x)), some (.int s), some (.int was), some (.int (nI (pbC a i))), some (.int (bI (pbF a b i))), some (.int (nI i)), some (.int y7)], [], h)) rfl ⟨trivial, trivial, trivial, trivial⟩ ?_
      refine br (fun b2 => ?_) (fun b2 => ?_)
      ·
        refine go hX 10 (gs := [True, True, True, True, True, True, True, True, True, True]) (z' := (if (bI (pbF a b i)) = 0 then 116 else 131, [some (.ref 65), some (.int (nI x)), some (.int s), some (.int was), some (.int ((nI (pbC a i)) + 0)), some (.int (bI (pbF a b i))), some (.int (nI i)), some (.int 0)], [], h)) rfl ⟨trivial, trivial, trivial, trivial, trivial, trivial, trivial, trivial, trivial, trivial, trivial⟩ ?_
        refine br (fun b3 => ?_) (fun b3 => ?_)
        ·
          refine go hX 6 (gs := [True, True, True, True, True, True]) (z' := (54, [some (.ref 65), some (.int (nI x)), some (.int s), some (.int was), some (.int ((nI (pbC a i)) + 0)), some (.int 0), some (.int ((nI i) + 1)), some (.int 0)], [], h)) rfl ⟨trivial, trivial, trivial, trivial, trivial, trivial, trivial⟩ ?_
          have ec : pbC a (i + 1) = pbC a i := pbC_0 (fun z => ((hat i ix).mp z).1 ((nIle_eq (by omega) (by omega)).mp b2))
          have ef : pbF a b (i + 1) = false := by show (pbF a b i || (a i && b i)) = false; rw [show pbF a b i = false from (Bool.not_eq_true _).mp (bI_0.mp b3), show a i = false from (Bool.not_eq_true _).mp (fun z => ((hat i ix).mp z).1 ((nIle_eq (by omega) (by omega)).mp b2))]; rfl
          have I := ih (i + 1) (Nat.lt_succ_self i) (by omega) (some (.int 0)) (Or.inr ⟨_, rfl⟩)
          rw [ec, ef] at I
          rw [tx_1, show nI (pbC a i) + 0 = nI (pbC a i) from nI_add _ 0]
          exact I
        ·
          refine go hX 5 (gs := [True, True, True, True, True]) (z' := (54, [some (.ref 65), some (.int (nI x)), some (.int s), some (.int was), some (.int ((nI (pbC a i)) + 0)), some (.int 1), some (.int ((nI i) + 1)), some (.int 0)], [], h)) rfl ⟨trivial, trivial, trivial, trivial, trivial, trivial⟩ ?_
          have ec : pbC a (i + 1) = pbC a i := pbC_0 (fun z => ((hat i ix).mp z).1 ((nIle_eq (by omega) (by omega)).mp b2))
          have ef : pbF a b (i + 1) = true := by show (pbF a b i || _) = true; rw [show pbF a b i = true from Decidable.not_not.mp (fun z => b3 (bI_0.mpr z))]; rfl
          have I := ih (i + 1) (Nat.lt_succ_self i) (by omega) (some (.int 0)) (Or.inr ⟨_, rfl⟩)
          rw [ec, ef] at I
          rw [tx_1, show nI (pbC a i) + 0 = nI (pbC a i) from nI_add _ 0]
          exact I
      ·
        refine go hX 4 (gs := [True, True, True, True]) (z' := (78, [some (.ref 65), some (.int (nI x)), some (.int s), some (.int was), some (.int (nI (pbC a i))), some (.int (bI (pbF a b i))), some (.int (nI i)), some (.int y7)], [.int (nI i), .ref 65, .ref 66], h)) rfl ⟨trivial, trivial, trivial, trivial, trivial⟩ ?_
        refine cl hX 164 2 [.ref 65, .int (nI i)] [.ref 66] rfl rfl rfl rfl ?_
        refine c_handAtP ?_
        show X (81, [some (.ref 65), some (.int (nI x)), some (.int s), some (.int was), some (.int (nI (pbC a i))), some (.int (bI (pbF a b i))), some (.int (nI i)), some (.int y7)], [.int (40 + (16 * (nI i))), .ref 66], h)
        refine go hX 5 (gs := [True, True, ibd ((40 + (16 * (nI i))) + 8) 3400, True, True]) (z' := (if (h.1 66 ((40 + (16 * (nI i))) + 8)) = s then 89 else 93, [some (.ref 65), some (.int (nI x)), some (.int s), some (.int was), some (.int (nI (pbC a i))), some (.int (bI (pbF a b i))), some (.int (nI i)), some (.int y7)], [], h)) rfl ⟨trivial, trivial, ?_, trivial, trivial, trivial⟩ ?_
        · rw [ixH8]; exact ibd_of (B := 3400) rfl (tx_0 _ (by omega)) ((tx_lt (b := 3400) (by omega) (by decide)).mpr (by omega))
        refine br (fun b4 => ?_) (fun b4 => ?_)
        ·
          refine go hX 12 (gs := [True, True, True, True, True, True, True, True, True, True, True, True]) (z' := (if (bI (pbF a b i)) = 0 then 116 else 131, [some (.ref 65), some (.int (nI x)), some (.int s), some (.int was), some (.int ((nI (pbC a i)) + 1)), some (.int (bI (pbF a b i))), some (.int (nI i)), some (.int 1)], [], h)) rfl ⟨trivial, trivial, trivial, trivial, trivial, trivial, trivial, trivial, trivial, trivial, trivial, trivial, trivial⟩ ?_
          refine br (fun b5 => ?_) (fun b5 => ?_)
          ·
            refine go hX 5 (gs := [True, True, True, True, True]) (z' := (125, [some (.ref 65), some (.int (nI x)), some (.int s), some (.int was), some (.int ((nI (pbC a i)) + 1)), some (.int (bI (pbF a b i))), some (.int (nI i)), some (.int 1)], [.int (nI x), .int (nI i), .ref 65], h)) rfl ⟨trivial, trivial, trivial, trivial, trivial, trivial⟩ ?_
            refine cl hX 184 3 [.ref 65, .int (nI i), .int (nI x)] [] rfl rfl rfl rfl ?_
            refine c_isBrB (tx_0 i (by omega)) ((tx_lt (b := 10) (by omega) (by decide)).mpr (by omega)) (tx_0 x (by omega)) ((tx_lt (b := 10) (by omega) (by decide)).mpr hx) (fun bb => ?_) (fun bb => ?_)
            ·
              show X (128, [some (.ref 65), some (.int (nI x)), some (.int s), some (.int was), some (.int ((nI (pbC a i)) + 1)), some (.int (bI (pbF a b i))), some (.int (nI i)), some (.int 1)], [.int 1], h)
              refine go hX 6 (gs := [True, True, True, True, True, True]) (z' := (54, [some (.ref 65), some (.int (nI x)), some (.int s), some (.int was), some (.int ((nI (pbC a i)) + 1)), some (.int 1), some (.int ((nI i) + 1)), some (.int 1)], [], h)) rfl ⟨trivial, trivial, trivial, trivial, trivial, trivial, trivial⟩ ?_
              have ec : pbC a (i + 1) = pbC a i + 1 := pbC_1 ((hat i ix).mpr ⟨fun z => b2 (by rw [z]), b4⟩)
              have ef : pbF a b (i + 1) = true := by show (pbF a b i || (a i && b i)) = true; rw [show a i = true from ((hat i ix).mpr ⟨fun z => b2 (by rw [z]), b4⟩), show b i = true from (hba i ix).mpr bb, Bool.and_true, Bool.or_true]
              have I := ih (i + 1) (Nat.lt_succ_self i) (by omega) (some (.int 1)) (Or.inr ⟨_, rfl⟩)
              rw [ec, ef] at I
              rw [tx_1, tx_1]
              exact I
            ·
              show X (128, [some (.ref 65), some (.int (nI x)), some (.int s), some (.int was), some (.int ((nI (pbC a i)) + 1)), some (.int (bI (pbF a b i))), some (.int (nI i)), some (.int 1)], [.int 0], h)
              refine go hX 5 (gs := [True, True, True, True, True]) (z' := (54, [some (.ref 65), some (.int (nI x)), some (.int s), some (.int was), some (.int ((nI (pbC a i)) + 1)), some (.int 0), some (.int ((nI i) + 1)), some (.int 1)], [], h)) rfl ⟨trivial, trivial, trivial, trivial, trivial, trivial⟩ ?_
              have ec : pbC a (i + 1) = pbC a i + 1 := pbC_1 ((hat i ix).mpr ⟨fun z => b2 (by rw [z]), b4⟩)
              have ef : pbF a b (i + 1) = false := by show (pbF a b i || (a i && b i)) = false; rw [show pbF a b i = false from (Bool.not_eq_true _).mp (bI_0.mp b5), show b i = false from (Bool.not_eq_true _).mp (fun z => bb ((hba i ix).mp z)), Bool.and_false]; rfl
              have I := ih (i + 1) (Nat.lt_succ_self i) (by omega) (some (.int 1)) (Or.inr ⟨_, rfl⟩)
              rw [ec, ef] at I
              rw [tx_1, tx_1]
              exact I
          ·
            refine go hX 5 (gs := [True, True, True, True, True]) (z' := (54, [some (.ref 65), some (.int (nI x)), some (.int s), some (.int was), some (.int ((nI (pbC a i)) + 1)), some (.int 1), some (.int ((nI i) + 1)), some (.int 1)], [], h)) rfl ⟨trivial, trivial, trivial, trivial, trivial, trivial⟩ ?_
            have ec : pbC a (i + 1) = pbC a i + 1 := pbC_1 ((hat i ix).mpr ⟨fun z => b2 (by rw [z]), b4⟩)
            have ef : pbF a b (i + 1) = true := by show (pbF a b i || _) = true; rw [show pbF a b i = true from Decidable.not_not.mp (fun z => b5 (bI_0.mpr z))]; rfl
            have I := ih (i + 1) (Nat.lt_succ_self i) (by omega) (some (.int 1)) (Or.inr ⟨_, rfl⟩)
            rw [ec, ef] at I
            rw [tx_1, tx_1]
            exact I
        ·
          refine go hX 10 (gs := [True, True, True, True, True, True, True, True, True, True]) (z' := (if (bI (pbF a b i)) = 0 then 116 else 131, [some (.ref 65), some (.int (nI x)), some (.int s), some (.int was), some (.int ((nI (pbC a i)) + 0)), some (.int (bI (pbF a b i))), some (.int (nI i)), some (.int 0)], [], h)) rfl ⟨trivial, trivial, trivial, trivial, trivial, trivial, trivial, trivial, trivial, trivial, trivial⟩ ?_
          refine br (fun b6 => ?_) (fun b6 => ?_)
          ·
            refine go hX 6 (gs := [True, True, True, True, True, True]) (z' := (54, [some (.ref 65), some (.int (nI x)), some (.int s), some (.int was), some (.int ((nI (pbC a i)) + 0)), some (.int 0), some (.int ((nI i) + 1)), some (.int 0)], [], h)) rfl ⟨trivial, trivial, trivial, trivial, trivial, trivial, trivial⟩ ?_
            have ec : pbC a (i + 1) = pbC a i := pbC_0 (fun z => b4 ((hat i ix).mp z).2)
            have ef : pbF a b (i + 1) = false := by show (pbF a b i || (a i && b i)) = false; rw [show pbF a b i = false from (Bool.not_eq_true _).mp (bI_0.mp b6), show a i = false from (Bool.not_eq_true _).mp (fun z => b4 ((hat i ix).mp z).2)]; rfl
            have I := ih (i + 1) (Nat.lt_succ_self i) (by omega) (some (.int 0)) (Or.inr ⟨_, rfl⟩)
            rw [ec, ef] at I
            rw [tx_1, show nI (pbC a i) + 0 = nI (pbC a i) from nI_add _ 0]
            exact I
          ·
            refine go hX 5 (gs := [True, True, True, True, True]) (z' := (54, [some (.ref 65), some (.int (nI x)), some (.int s), some (.int was), some (.int ((nI (pbC a i)) + 0)), some (.int 1), some (.int ((nI i) + 1)), some (.int 0)], [], h)) rfl ⟨trivial, trivial, trivial, trivial, trivial, trivial⟩ ?_
            have ec : pbC a (i + 1) = pbC a i := pbC_0 (fun z => b4 ((hat i ix).mp z).2)
            have ef : pbF a b (i + 1) = true := by show (pbF a b i || _) = true; rw [show pbF a b i = true from Decidable.not_not.mp (fun z => b6 (bI_0.mpr z))]; rfl
            have I := ih (i + 1) (Nat.lt_succ_self i) (by omega) (some (.int 0)) (Or.inr ⟨_, rfl⟩)
            rw [ec, ef] at I
            rw [tx_1, show nI (pbC a i) + 0 = nI (pbC a i) from nI_add _ 0]
            exact I
theorem c_putB0 {d : Nat} {Q : Option Value → Hp → Prop} {h : Hp} {x s : Int32} (no : ¬ ((0 ≤ x ∧ x ≤ h.1 66 2 - 1) ∧ (s = -1000000005 ∨ (0 ≤ s ∧ s ≤ h.1 66 1 - 1)))) (kB : Q (some (.int (-1000000001))) h) : Call (d + 5) 189 [.ref 65, .int x, .int s] h Q := by
  refine call_of (rfl : psM[189]? = some _) rfl rfl (rcvV rfl) (fun X hX => ?_)
  show X (0, [some (.ref 65), some (.int x), some (.int s), none, none, none, none, none], [], h)
  refine go hX 2 (gs := [True, True]) (z' := (2, [some (.ref 65), some (.int x), some (.int s), none, none, none, none, none], [.int x, .ref 65], h)) rfl ⟨trivial, trivial, trivial⟩ ?_
  refine cl hX 169 2 [.ref 65, .int x] [] rfl rfl rfl rfl ?_
  refine c_isHandP (fun hH => ?_) (fun hH => ?_)
  ·
    show X (5, [some (.ref 65), some (.int x), some (.int s), none, none, none, none, none], [.int 1], h)
    refine go hX 4 (gs := [True, True, True, True]) (z' := (if s = (-1000000005) then 25 else 14, [some (.ref 65), some (.int x), some (.int s), none, none, none, none, none], [], h)) rfl ⟨trivial, trivial, trivial, trivial, trivial⟩ ?_
    refine br (fun b1 => ?_) (fun b1 => ?_)
    ·
      exact absurd ⟨hH, Or.inl b1⟩ no
    ·
      refine go hX 2 (gs := [True, True]) (z' := (16, [some (.ref 65), some (.int x), some (.int s), none, none, none, none, none], [.int s, .ref 65], h)) rfl ⟨trivial, trivial, trivial⟩ ?_
      refine cl hX 168 2 [.ref 65, .int s] [] rfl rfl rfl rfl ?_
      refine c_isShopP (fun hP => ?_) (fun hP => ?_)
      ·
        show X (19, [some (.ref 65), some (.int x), some (.int s), none, none, none, none, none], [.int 1], h)
        refine go hX 1 (gs := [True]) (z' := (25, [some (.ref 65), some (.int x), some (.int s), none, none, none, none, none], [], h)) rfl ⟨trivial, trivial⟩ ?_
        exact absurd ⟨hH, Or.inr hP⟩ no
      ·
        show X (19, [some (.ref 65), some (.int x), some (.int s), none, none, none, none, none], [.int 0], h)
        refine go hX 2 (gs := [True, True]) (z' := (24, [some (.ref 65), some (.int x), some (.int s), none, none, none, none, none], [.int (-1000000001)], h)) rfl ⟨trivial, trivial, trivial⟩ ?_
        refine rt_ hX (G := True) (r := some (.int (-1000000001))) rfl trivial ?_
        exact kB
  ·
    show X (5, [some (.ref 65), some (.int x), some (.int s), none, none, none, none, none], [.int 0], h)
    refine go hX 2 (gs := [True, True]) (z' := (24, [some (.ref 65), some (.int x), some (.int s), none, none, none, none, none], [.int (-1000000001)], h)) rfl ⟨trivial, trivial, trivial⟩ ?_
    refine rt_ hX (G := True) (r := some (.int (-1000000001))) rfl trivial ?_
    exact kB
theorem c_putB1 {d : Nat} {Q : Option Value → Hp → Prop} {h hS hN : Hp} {n x : Nat} {s : Int32} {a b : Nat → Bool} (n10 : n ≤ 10) (hx : x < 10) (en : h.1 66 2 = nI n) (hat : ∀ i, i < n → (a i = true ↔ (i ≠ x ∧ h.1 66 ((40 + (16 * nI i)) + 8) = s))) (hba : ∀ i, i < n → (b i = true ↔ h.1 66 ((200 + (10 * nI i)) + nI x) = 1)) (okX : 0 ≤ nI x ∧ nI x ≤ h.1 66 2 - 1) (okP : ¬ s = -1000000005 → 0 ≤ s ∧ s ≤ h.1 66 1 - 1) (okS : s = -1000000005 ∨ ∃ k : Nat, k < 3 ∧ s = nI k) (cgN : s = -1000000005 → ∀ Q : Option Value → Hp → Prop, Q none hN → Call (d + 4) 188 [.ref 65, .int (nI x), .int (-1)] h Q) (cgS : ¬ s = -1000000005 → mwB h (nI x) s → ¬ nI (pbC a n) = h.1 66 ((10 + (10 * s)) + 0) → ¬ pbF a b n = true → ∀ Q : Option Value → Hp → Prop, Q none hS → Call (d + 4) 188 [.ref 65, .int (nI x), .int s] h Q) (kN : ¬ s = -1000000005 → ¬ (mwB h (nI x) s ∧ ¬ nI (pbC a n) = h.1 66 ((10 + (10 * s)) + 0) ∧ ¬ pbF a b n = true) → Q (some (.int (-1000000002))) h) (kGN : s = -1000000005 → Q (some (.int (if (h.1 66 ((40 + (16 * (nI x))) + 8)) < 0 then -1000000005 else (h.1 66 ((40 + (16 * (nI x))) + 8))))) hN) (kGS : ¬ s = -1000000005 → mwB h (nI x) s → ¬ nI (pbC a n) = h.1 66 ((10 + (10 * s)) + 0) → ¬ pbF a b n = true → Q (some (.int (if (h.1 66 ((40 + (16 * (nI x))) + 8)) < 0 then -1000000005 else (h.1 66 ((40 + (16 * (nI x))) + 8))))) hS) : Call (d + 5) 189 [.ref 65, .int (nI x), .int s] h Q := by
  refine call_of (rfl : psM[189]? = some _) rfl rfl (rcvV rfl) (fun X hX => ?_)
  show X (0, [some (.ref 65), some (.int (nI x)), some (.int s), none, none, none, none, none], [], h)
  refine go hX 2 (gs := [True, True]) (z' := (2, [some (.ref 65), some (.int (nI x)), some (.int s), none, none, none, none, none], [.int (nI x), .ref 65], h)) rfl ⟨trivial, trivial, trivial⟩ ?_
  refine cl hX 169 2 [.ref 65, .int (nI x)] [] rfl rfl rfl rfl ?_
  refine c_isHandP (fun hH => ?_) (fun hH => ?_)
  ·
    show X (5, [some (.ref 65), some (.int (nI x)), some (.int s), none, none, none, none, none], [.int 1], h)
    refine go hX 4 (gs := [True, True, True, True]) (z' := (if s = (-1000000005) then 25 else 14, [some (.ref 65), some (.int (nI x)), some (.int s), none, none, none, none, none], [], h)) rfl ⟨trivial, trivial, trivial, trivial, trivial⟩ ?_
    refine br (fun b1 => ?_) (fun b1 => ?_)
    ·
      refine go hX 4 (gs := [True, True, True, True]) (z' := (31, [some (.ref 65), some (.int (nI x)), some (.int s), none, none, none, none, none], [.int (nI x), .ref 65, .ref 66], h)) rfl ⟨trivial, trivial, trivial, trivial, trivial⟩ ?_
      refine cl hX 164 2 [.ref 65, .int (nI x)] [.ref 66] rfl rfl rfl rfl ?_
      refine c_handAtP ?_
      show X (34, [some (.ref 65), some (.int (nI x)), some (.int s), none, none, none, none, none], [.int (40 + (16 * (nI x))), .ref 66], h)
      refine go hX 7 (gs := [True, True, True, True, ibd ((40 + (16 * (nI x))) + 8) 3400, True, True]) (z' := (if s = (-1000000005) then 178 else 45, [some (.ref 65), some (.int (nI x)), some (.int s), some (.int (h.1 66 ((40 + (16 * (nI x))) + 8))), none, none, none, none], [], h)) rfl ⟨trivial, trivial, trivial, trivial, ?_, trivial, trivial, trivial⟩ ?_
      · rw [ixH8]; exact ibd_of (B := 3400) rfl (tx_0 _ (by omega)) ((tx_lt (b := 3400) (by omega) (by decide)).mpr (by omega))
      refine br (fun b2 => ?_) (fun b2 => ?_)
      ·
        refine go hX 5 (gs := [True, True, True, True, True]) (z' := (if s = (-1000000005) then 186 else 190, [some (.ref 65), some (.int (nI x)), some (.int s), some (.int (h.1 66 ((40 + (16 * (nI x))) + 8))), none, none, none, none], [.int (nI x), .ref 65], h)) rfl ⟨trivial, trivial, trivial, trivial, trivial, trivial⟩ ?_
        refine br (fun b3 => ?_) (fun b3 => ?_)
        ·
          refine go hX 2 (gs := [True, True]) (z' := (191, [some (.ref 65), some (.int (nI x)), some (.int s), some (.int (h.1 66 ((40 + (16 * (nI x))) + 8))), none, none, none, none], [.int (-1), .int (nI x), .ref 65], h)) rfl ⟨trivial, trivial, trivial⟩ ?_
          refine cl hX 188 3 [.ref 65, .int (nI x), .int (-1)] [] rfl rfl rfl rfl ?_
          refine cgN b1 _ ?_
          show X (194, [some (.ref 65), some (.int (nI x)), some (.int s), some (.int (h.1 66 ((40 + (16 * (nI x))) + 8))), none, none, none, none], [], hN)
          refine go hX 1 (gs := [True]) (z' := (195, [some (.ref 65), some (.int (nI x)), some (.int s), some (.int (h.1 66 ((40 + (16 * (nI x))) + 8))), none, none, none, none], [.int (h.1 66 ((40 + (16 * (nI x))) + 8))], hN)) rfl ⟨trivial, trivial⟩ ?_
          refine cl hX 160 1 [.int (h.1 66 ((40 + (16 * (nI x))) + 8))] [] rfl rfl rfl rfl ?_
          refine c_orNoneP ?_
          show X (198, [some (.ref 65), some (.int (nI x)), some (.int s), some (.int (h.1 66 ((40 + (16 * (nI x))) + 8))), none, none, none, none], [.int (if (h.1 66 ((40 + (16 * (nI x))) + 8)) < 0 then -1000000005 else (h.1 66 ((40 + (16 * (nI x))) + 8)))], hN)
          refine rt_ hX (G := True) (r := some (.int (if (h.1 66 ((40 + (16 * (nI x))) + 8)) < 0 then -1000000005 else (h.1 66 ((40 + (16 * (nI x))) + 8))))) rfl trivial ?_
          exact kGN b1
        ·
          exact absurd b1 b3
      ·
        exact absurd b1 b2
    ·
      refine go hX 2 (gs := [True, True]) (z' := (16, [some (.ref 65), some (.int (nI x)), some (.int s), none, none, none, none, none], [.int s, .ref 65], h)) rfl ⟨trivial, trivial, trivial⟩ ?_
      refine cl hX 168 2 [.ref 65, .int s] [] rfl rfl rfl rfl ?_
      refine c_isShopP (fun hP => ?_) (fun hP => ?_)
      ·
        show X (19, [some (.ref 65), some (.int (nI x)), some (.int s), none, none, none, none, none], [.int 1], h)
        refine go hX 5 (gs := [True, True, True, True, True]) (z' := (31, [some (.ref 65), some (.int (nI x)), some (.int s), none, none, none, none, none], [.int (nI x), .ref 65, .ref 66], h)) rfl ⟨trivial, trivial, trivial, trivial, trivial, trivial⟩ ?_
        refine cl hX 164 2 [.ref 65, .int (nI x)] [.ref 66] rfl rfl rfl rfl ?_
        refine c_handAtP ?_
        show X (34, [some (.ref 65), some (.int (nI x)), some (.int s), none, none, none, none, none], [.int (40 + (16 * (nI x))), .ref 66], h)
        refine go hX 7 (gs := [True, True, True, True, ibd ((40 + (16 * (nI x))) + 8) 3400, True, True]) (z' := (if s = (-1000000005) then 178 else 45, [some (.ref 65), some (.int (nI x)), some (.int s), some (.int (h.1 66 ((40 + (16 * (nI x))) + 8))), none, none, none, none], [], h)) rfl ⟨trivial, trivial, trivial, trivial, ?_, trivial, trivial, trivial⟩ ?_
        · rw [ixH8]; exact ibd_of (B := 3400) rfl (tx_0 _ (by omega)) ((tx_lt (b := 3400) (by omega) (by decide)).mpr (by omega))
        refine br (fun b4 => ?_) (fun b4 => ?_)
        ·
          exact absurd b4 b1
        ·
          refine go hX 6 (gs := [True, True, True, True, True, True]) (z' := (54, [some (.ref 65), some (.int (nI x)), some (.int s), some (.int (h.1 66 ((40 + (16 * (nI x))) + 8))), some (.int 0), some (.int 0), some (.int 0), none], [], h)) rfl ⟨trivial, trivial, trivial, trivial, trivial, trivial, trivial⟩ ?_
          have sN := okS.resolve_left b1
          refine lp_pb (h := h) hX n10 hx en hat hba (fun l7 => ?_) (Nat.zero_le n) none (Or.inl rfl)
          refine go hX 3 (gs := [True, True, True]) (z' := (147, [some (.ref 65), some (.int (nI x)), some (.int s), some (.int (h.1 66 ((40 + (16 * (nI x))) + 8))), some (.int (nI (pbC a n))), some (.int (bI (pbF a b n))), some (.int (nI n)), l7], [.int s, .int (nI x), .ref 65], h)) rfl ⟨trivial, trivial, trivial, trivial⟩ ?_
          refine cl hX 186 3 [.ref 65, .int (nI x), .int s] [] rfl rfl rfl rfl ?_
          obtain ⟨k, hk, es⟩ := sN
          refine c_mayB (tx_0 x (by omega)) ((tx_lt (b := 10) (by omega) (by decide)).mpr hx) (by rw [es]; exact tx_0 k (by omega)) (by rw [es]; exact (tx_lt (b := 3) (by omega) (by decide)).mpr hk) (fun bm => ?_) (fun bm => ?_)
          ·
            show X (150, [some (.ref 65), some (.int (nI x)), some (.int s), some (.int (h.1 66 ((40 + (16 * (nI x))) + 8))), some (.int (nI (pbC a n))), some (.int (bI (pbF a b n))), some (.int (nI n)), l7], [.int 1], h)
            refine go hX 6 (gs := [True, True, True, True, True, True]) (z' := (161, [some (.ref 65), some (.int (nI x)), some (.int s), some (.int (h.1 66 ((40 + (16 * (nI x))) + 8))), some (.int (nI (pbC a n))), some (.int (bI (pbF a b n))), some (.int (nI n)), l7], [.int s, .ref 65, .ref 66, .int (nI (pbC a n))], h)) rfl ⟨trivial, trivial, trivial, trivial, trivial, trivial, trivial⟩ ?_
            refine cl hX 163 2 [.ref 65, .int s] [.ref 66, .int (nI (pbC a n))] rfl rfl rfl rfl ?_
            refine c_shopAtP ?_
            show X (164, [some (.ref 65), some (.int (nI x)), some (.int s), some (.int (h.1 66 ((40 + (16 * (nI x))) + 8))), some (.int (nI (pbC a n))), some (.int (bI (pbF a b n))), some (.int (nI n)), l7], [.int (10 + (10 * s)), .ref 66, .int (nI (pbC a n))], h)
            refine go hX 4 (gs := [True, ibd ((10 + (10 * s)) + 0) 3400, True, True]) (z' := (if (nI (pbC a n)) = (h.1 66 ((10 + (10 * s)) + 0)) then 175 else 170, [some (.ref 65), some (.int (nI x)), some (.int s), some (.int (h.1 66 ((40 + (16 * (nI x))) + 8))), some (.int (nI (pbC a n))), some (.int (bI (pbF a b n))), some (.int (nI n)), l7], [], h)) rfl ⟨trivial, ?_, trivial, trivial, trivial⟩ ?_
            · rw [es, ixS0]; exact ibd_of (B := 3400) rfl (tx_0 _ (by omega)) ((tx_lt (b := 3400) (by omega) (by decide)).mpr (by omega))
            refine br (fun b5 => ?_) (fun b5 => ?_)
            ·
              refine go hX 1 (gs := [True]) (z' := (177, [some (.ref 65), some (.int (nI x)), some (.int s), some (.int (h.1 66 ((40 + (16 * (nI x))) + 8))), some (.int (nI (pbC a n))), some (.int (bI (pbF a b n))), some (.int (nI n)), l7], [.int (-1000000002)], h)) rfl ⟨trivial, trivial⟩ ?_
              refine rt_ hX (G := True) (r := some (.int (-1000000002))) rfl trivial ?_
              exact kN b1 (fun z => z.2.1 b5)
            ·
              refine go hX 2 (gs := [True, True]) (z' := (if (bI (pbF a b n)) = 0 then 178 else 175, [some (.ref 65), some (.int (nI x)), some (.int s), some (.int (h.1 66 ((40 + (16 * (nI x))) + 8))), some (.int (nI (pbC a n))), some (.int (bI (pbF a b n))), some (.int (nI n)), l7], [], h)) rfl ⟨trivial, trivial, trivial⟩ ?_
              refine br (fun b6 => ?_) (fun b6 => ?_)
              ·
                refine go hX 5 (gs := [True, True, True, True, True]) (z' := (if s = (-1000000005) then 186 else 190, [some (.ref 65), some (.int (nI x)), some (.int s), some (.int (h.1 66 ((40 + (16 * (nI x))) + 8))), some (.int (nI (pbC a n))), some (.int (bI (pbF a b n))), some (.int (nI n)), l7], [.int (nI x), .ref 65], h)) rfl ⟨trivial, trivial, trivial, trivial, trivial, trivial⟩ ?_
                refine br (fun b7 => ?_) (fun b7 => ?_)
                ·
                  exact absurd b7 b1
                ·
                  refine go hX 1 (gs := [True]) (z' := (191, [some (.ref 65), some (.int (nI x)), some (.int s), some (.int (h.1 66 ((40 + (16 * (nI x))) + 8))), some (.int (nI (pbC a n))), some (.int (bI (pbF a b n))), some (.int (nI n)), l7], [.int s, .int (nI x), .ref 65], h)) rfl ⟨trivial, trivial⟩ ?_
                  refine cl hX 188 3 [.ref 65, .int (nI x), .int s] [] rfl rfl rfl rfl ?_
                  refine cgS b1 bm b5 (bI_0.mp b6) _ ?_
                  show X (194, [some (.ref 65), some (.int (nI x)), some (.int s), some (.int (h.1 66 ((40 + (16 * (nI x))) + 8))), some (.int (nI (pbC a n))), some (.int (bI (pbF a b n))), some (.int (nI n)), l7], [], hS)
                  refine go hX 1 (gs := [True]) (z' := (195, [some (.ref 65), some (.int (nI x)), some (.int s), some (.int (h.1 66 ((40 + (16 * (nI x))) + 8))), some (.int (nI (pbC a n))), some (.int (bI (pbF a b n))), some (.int (nI n)), l7], [.int (h.1 66 ((40 + (16 * (nI x))) + 8))], hS)) rfl ⟨trivial, trivial⟩ ?_
                  refine cl hX 160 1 [.int (h.1 66 ((40 + (16 * (nI x))) + 8))] [] rfl rfl rfl rfl ?_
                  refine c_orNoneP ?_
                  show X (198, [some (.ref 65), some (.int (nI x)), some (.int s), some (.int (h.1 66 ((40 + (16 * (nI x))) + 8))), some (.int (nI (pbC a n))), some (.int (bI (pbF a b n))), some (.int (nI n)), l7], [.int (if (h.1 66 ((40 + (16 * (nI x))) + 8)) < 0 then -1000000005 else (h.1 66 ((40 + (16 * (nI x))) + 8)))], hS)
                  refine rt_ hX (G := True) (r := some (.int (if (h.1 66 ((40 + (16 * (nI x))) + 8)) < 0 then -1000000005 else (h.1 66 ((40 + (16 * (nI x))) + 8))))) rfl trivial ?_
                  exact kGS b1 bm b5 (bI_0.mp b6)
              ·
                refine go hX 1 (gs := [True]) (z' := (177, [some (.ref 65), some (.int (nI x)), some (.int s), some (.int (h.1 66 ((40 + (16 * (nI x))) + 8))), some (.int (nI (pbC a n))), some (.int (bI (pbF a b n))), some (.int (nI n)), l7], [.int (-1000000002)], h)) rfl ⟨trivial, trivial⟩ ?_
                refine rt_ hX (G := True) (r := some (.int (-1000000002))) rfl trivial ?_
                exact kN b1 (fun z => b6 (bI_0.mpr z.2.2))
          ·
            show X (150, [some (.ref 65), some (.int (nI x)), some (.int s), some (.int (h.1 66 ((40 + (16 * (nI x))) + 8))), some (.int (nI (pbC a n))), some (.int (bI (pbF a b n))), some (.int (nI n)), l7], [.int 0], h)
            refine go hX 2 (gs := [True, True]) (z' := (177, [some (.ref 65), some (.int (nI x)), some (.int s), some (.int (h.1 66 ((40 + (16 * (nI x))) + 8))), some (.int (nI (pbC a n))), some (.int (bI (pbF a b n))), some (.int (nI n)), l7], [.int (-1000000002)], h)) rfl ⟨trivial, trivial, trivial⟩ ?_
            refine rt_ hX (G := True) (r := some (.int (-1000000002))) rfl trivial ?_
            exact kN b1 (fun z => bm z.1)
      ·
        show X (19, [some (.ref 65), some (.int (nI x)), some (.int s), none, none, none, none, none], [.int 0], h)
        refine go hX 2 (gs := [True, True]) (z' := (24, [some (.ref 65), some (.int (nI x)), some (.int s), none, none, none, none, none], [.int (-1000000001)], h)) rfl ⟨trivial, trivial, trivial⟩ ?_
        refine rt_ hX (G := True) (r := some (.int (-1000000001))) rfl trivial ?_
        exact absurd (okP b1) hP
  ·
    show X (5, [some (.ref 65), some (.int (nI x)), some (.int s), none, none, none, none, none], [.int 0], h)
    refine go hX 2 (gs := [True, True]) (z' := (24, [some (.ref 65), some (.int (nI x)), some (.int s), none, none, none, none, none], [.int (-1000000001)], h)) rfl ⟨trivial, trivial, trivial⟩ ?_
    refine rt_ hX (G := True) (r := some (.int (-1000000001))) rfl trivial ?_
    exact absurd okX hH
