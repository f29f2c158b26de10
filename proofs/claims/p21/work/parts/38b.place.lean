/-- what the class asks: the most that can come, whether it can be better -/
noncomputable def mstI (h : Hp) (x c : Int32) : Int32 := c + (if ((h.1 46 0) + (h.1 46 1)) + (h.1 46 2) < h.1 50 x then ((h.1 46 0) + (h.1 46 1)) + (h.1 46 2) else h.1 50 x)
noncomputable def canI (h : Hp) (x c s : Int32) : Prop := if ¬ mstI h x c = h.1 42 11 ∨ h.1 42 11 - c < 0 ∨ 11 ≤ h.1 42 11 - c then h.1 42 11 < mstI h x c else s + h.1 51 ((x * 11) + (h.1 42 11 - c)) < h.1 42 12
theorem c_fits {d : Nat} {Q : Option Value → Hp → Prop} {h : Hp} {x k : Int32} (x0 : 0 ≤ x) (x1 : x < 10) (y0 : 0 ≤ k) (y1 : k < 3) (k1 : ((((h.1 43 x) >>> (k &&& 31)) &&& 1) = 1 ∧ 0 < h.1 46 k ∧ ((h.1 47 k) &&& (h.1 44 x)) = 0) → Q (some (.int 1)) h) (k0 : ¬ ((((h.1 43 x) >>> (k &&& 31)) &&& 1) = 1 ∧ 0 < h.1 46 k ∧ ((h.1 47 k) &&& (h.1 44 x)) = 0) → Q (some (.int 0)) h) : Call (d + 1) 15 [.ref 42, .int x, .int k] h Q := by
  refine call_of (rfl : psM[15]? = some _) rfl rfl (rcvV rfl) (fun X hX => ?_)
  show X (0, [some (.ref 42), some (.int x), some (.int k)], [], h)
  refine go hX 2 (gs := [True, True]) (z' := (if x < 0 then 19 else 4, [some (.ref 42), some (.int x), some (.int k)], [], h)) rfl ⟨trivial, trivial, trivial⟩ ?_
  refine br (fun b1 => ?_) (fun b1 => ?_)
  ·
    refine go hX 1 (gs := [True]) (z' := (20, [some (.ref 42), some (.int x), some (.int k)], [.int 0], h)) rfl ⟨trivial, trivial⟩ ?_
    refine rt_ hX (G := isB 0) (r := some (.int 0)) rfl isB0 ?_
    exact k0 (by grind)
  ·
    refine go hX 3 (gs := [True, True, True]) (z' := (if 10 ≤ x then 19 else 10, [some (.ref 42), some (.int x), some (.int k)], [], h)) rfl ⟨trivial, trivial, trivial, trivial⟩ ?_
    refine br (fun b2 => ?_) (fun b2 => ?_)
    ·
      refine go hX 1 (gs := [True]) (z' := (20, [some (.ref 42), some (.int x), some (.int k)], [.int 0], h)) rfl ⟨trivial, trivial⟩ ?_
      refine rt_ hX (G := isB 0) (r := some (.int 0)) rfl isB0 ?_
      exact k0 (by grind)
    ·
      refine go hX 2 (gs := [True, True]) (z' := (if k < 0 then 19 else 14, [some (.ref 42), some (.int x), some (.int k)], [], h)) rfl ⟨trivial, trivial, trivial⟩ ?_
      refine br (fun b3 => ?_) (fun b3 => ?_)
      ·
        refine go hX 1 (gs := [True]) (z' := (20, [some (.ref 42), some (.int x), some (.int k)], [.int 0], h)) rfl ⟨trivial, trivial⟩ ?_
        refine rt_ hX (G := isB 0) (r := some (.int 0)) rfl isB0 ?_
        exact k0 (by grind)
      ·
        refine go hX 3 (gs := [True, True, True]) (z' := (if k < 3 then 21 else 19, [some (.ref 42), some (.int x), some (.int k)], [], h)) rfl ⟨trivial, trivial, trivial, trivial⟩ ?_
        refine br (fun b4 => ?_) (fun b4 => ?_)
        ·
          refine go hX 10 (gs := [True, True, True, True, True, True, ibd x 10, True, True, True]) (z' := (if (((h.1 43 x) >>> (k &&& 31)) &&& 1) = 1 then 35 else 64, [some (.ref 42), some (.int x), some (.int k)], [], h)) rfl ⟨trivial, trivial, trivial, trivial, trivial, trivial, ?_, trivial, trivial, trivial, trivial⟩ ?_
          · exact ibd_of (B := 10) rfl (by grind) (by grind)
          refine br (fun b5 => ?_) (fun b5 => ?_)
          ·
            refine go hX 5 (gs := [True, ibd k 3, True, True, True]) (z' := (if (h.1 46 k) ≤ 0 then 64 else 44, [some (.ref 42), some (.int x), some (.int k)], [], h)) rfl ⟨trivial, ?_, trivial, trivial, trivial, trivial⟩ ?_
            · exact ibd_of (B := 3) rfl (by grind) (by grind)
            refine br (fun b6 => ?_) (fun b6 => ?_)
            ·
              refine go hX 1 (gs := [True]) (z' := (65, [some (.ref 42), some (.int x), some (.int k)], [.int 0], h)) rfl ⟨trivial, trivial⟩ ?_
              refine rt_ hX (G := isB 0) (r := some (.int 0)) rfl isB0 ?_
              exact k0 (by grind)
            ·
              refine go hX 10 (gs := [True, True, ibd x 10, True, True, True, ibd k 3, True, True, True]) (z' := (if ((h.1 47 k) &&& (h.1 44 x)) = 0 then 60 else 64, [some (.ref 42), some (.int x), some (.int k)], [], h)) rfl ⟨trivial, trivial, ?_, trivial, trivial, trivial, ?_, trivial, trivial, trivial, trivial⟩ ?_
              · exact ibd_of (B := 10) rfl (by grind) (by grind)
              · exact ibd_of (B := 3) rfl (by grind) (by grind)
              refine br (fun b7 => ?_) (fun b7 => ?_)
              ·
                refine go hX 2 (gs := [True, True]) (z' := (65, [some (.ref 42), some (.int x), some (.int k)], [.int 1], h)) rfl ⟨trivial, trivial, trivial⟩ ?_
                refine rt_ hX (G := isB 1) (r := some (.int 1)) rfl isB1 ?_
                exact k1 (by grind)
              ·
                refine go hX 1 (gs := [True]) (z' := (65, [some (.ref 42), some (.int x), some (.int k)], [.int 0], h)) rfl ⟨trivial, trivial⟩ ?_
                refine rt_ hX (G := isB 0) (r := some (.int 0)) rfl isB0 ?_
                exact k0 (by grind)
          ·
            refine go hX 1 (gs := [True]) (z' := (65, [some (.ref 42), some (.int x), some (.int k)], [.int 0], h)) rfl ⟨trivial, trivial⟩ ?_
            refine rt_ hX (G := isB 0) (r := some (.int 0)) rfl isB0 ?_
            exact k0 (by grind)
        ·
          refine go hX 1 (gs := [True]) (z' := (20, [some (.ref 42), some (.int x), some (.int k)], [.int 0], h)) rfl ⟨trivial, trivial⟩ ?_
          refine rt_ hX (G := isB 0) (r := some (.int 0)) rfl isB0 ?_
          exact k0 (by grind)
theorem c_canB {d : Nat} {Q : Option Value → Hp → Prop} {h : Hp} {x c s : Int32} (x0 : 0 ≤ x) (x1 : x ≤ 10) (k1 : canI h x c s → Q (some (.int 1)) h) (k0 : ¬ canI h x c s → Q (some (.int 0)) h) : Call (d + 1) 16 [.ref 42, .int x, .int c, .int s] h Q := by
  refine call_of (rfl : psM[16]? = some _) rfl rfl (rcvV rfl) (fun X hX => ?_)
  show X (0, [some (.ref 42), some (.int x), some (.int c), some (.int s), none, none], [], h)
  refine go hX 2 (gs := [True, True]) (z' := (if x < 0 then 10 else 4, [some (.ref 42), some (.int x), some (.int c), some (.int s), none, none], [], h)) rfl ⟨trivial, trivial, trivial⟩ ?_
  refine br (fun b1 => ?_) (fun b1 => ?_)
  ·
    refine go hX 1 (gs := [True]) (z' := (11, [some (.ref 42), some (.int x), some (.int c), some (.int s), none, none], [.int 0], h)) rfl ⟨trivial, trivial⟩ ?_
    refine rt_ hX (G := isB 0) (r := some (.int 0)) rfl isB0 ?_
    exfalso; grind
  ·
    refine go hX 3 (gs := [True, True, True]) (z' := (if x < 11 then 12 else 10, [some (.ref 42), some (.int x), some (.int c), some (.int s), none, none], [], h)) rfl ⟨trivial, trivial, trivial, trivial⟩ ?_
    refine br (fun b2 => ?_) (fun b2 => ?_)
    ·
      refine go hX 31 (gs := [True, True, True, True, True, True, True, True, True, True, True, True, True, ibd 2 3, True, True, True, True, ibd 1 3, True, True, True, ibd 0 3, True, True, True, ibd x 11, True, True, True, True]) (z' := (if (c + (if (((h.1 46 0) + (h.1 46 1)) + (h.1 46 2)) < (h.1 50 x) then (((h.1 46 0) + (h.1 46 1)) + (h.1 46 2)) else (h.1 50 x))) = (h.1 42 11) then 62 else 74, [some (.ref 42), some (.int x), some (.int c), some (.int s), some (.int (c + (if (((h.1 46 0) + (h.1 46 1)) + (h.1 46 2)) < (h.1 50 x) then (((h.1 46 0) + (h.1 46 1)) + (h.1 46 2)) else (h.1 50 x)))), some (.int ((h.1 42 11) - c))], [], h)) rfl ⟨trivial, trivial, trivial, trivial, trivial, trivial, trivial, trivial, trivial, trivial, trivial, trivial, trivial, ?_, trivial, trivial, trivial, trivial, ?_, trivial, trivial, trivial, ?_, trivial, trivial, trivial, ?_, trivial, trivial, trivial, trivial, trivial⟩ ?_
      · exact ibd_of (B := 3) rfl (by grind) (by grind)
      · exact ibd_of (B := 3) rfl (by grind) (by grind)
      · exact ibd_of (B := 3) rfl (by grind) (by grind)
      · exact ibd_of (B := 11) rfl (by grind) (by grind)
      refine br (fun b3 => ?_) (fun b3 => ?_)
      ·
        refine go hX 2 (gs := [True, True]) (z' := (if ((h.1 42 11) - c) < 0 then 74 else 67, [some (.ref 42), some (.int x), some (.int c), some (.int s), some (.int (c + (if (((h.1 46 0) + (h.1 46 1)) + (h.1 46 2)) < (h.1 50 x) then (((h.1 46 0) + (h.1 46 1)) + (h.1 46 2)) else (h.1 50 x)))), some (.int ((h.1 42 11) - c))], [], h)) rfl ⟨trivial, trivial, trivial⟩ ?_
        refine br (fun b4 => ?_) (fun b4 => ?_)
        ·
          refine go hX 4 (gs := [True, True, True, True]) (z' := (if (c + (if (((h.1 46 0) + (h.1 46 1)) + (h.1 46 2)) < (h.1 50 x) then (((h.1 46 0) + (h.1 46 1)) + (h.1 46 2)) else (h.1 50 x))) ≤ (h.1 42 11) then 87 else 83, [some (.ref 42), some (.int x), some (.int c), some (.int s), some (.int (c + (if (((h.1 46 0) + (h.1 46 1)) + (h.1 46 2)) < (h.1 50 x) then (((h.1 46 0) + (h.1 46 1)) + (h.1 46 2)) else (h.1 50 x)))), some (.int ((h.1 42 11) - c))], [], h)) rfl ⟨trivial, trivial, trivial, trivial, trivial⟩ ?_
          refine br (fun b5 => ?_) (fun b5 => ?_)
          ·
            refine go hX 1 (gs := [True]) (z' := (88, [some (.ref 42), some (.int x), some (.int c), some (.int s), some (.int (c + (if (((h.1 46 0) + (h.1 46 1)) + (h.1 46 2)) < (h.1 50 x) then (((h.1 46 0) + (h.1 46 1)) + (h.1 46 2)) else (h.1 50 x)))), some (.int ((h.1 42 11) - c))], [.int 0], h)) rfl ⟨trivial, trivial⟩ ?_
            refine rt_ hX (G := isB 0) (r := some (.int 0)) rfl isB0 ?_
            exact k0 (by unfold canI mstI; grind)
          ·
            refine go hX 2 (gs := [True, True]) (z' := (88, [some (.ref 42), some (.int x), some (.int c), some (.int s), some (.int (c + (if (((h.1 46 0) + (h.1 46 1)) + (h.1 46 2)) < (h.1 50 x) then (((h.1 46 0) + (h.1 46 1)) + (h.1 46 2)) else (h.1 50 x)))), some (.int ((h.1 42 11) - c))], [.int 1], h)) rfl ⟨trivial, trivial, trivial⟩ ?_
            refine rt_ hX (G := isB 1) (r := some (.int 1)) rfl isB1 ?_
            exact k1 (by unfold canI mstI; grind)
        ·
          refine go hX 3 (gs := [True, True, True]) (z' := (if ((h.1 42 11) - c) < 11 then 89 else 74, [some (.ref 42), some (.int x), some (.int c), some (.int s), some (.int (c + (if (((h.1 46 0) + (h.1 46 1)) + (h.1 46 2)) < (h.1 50 x) then (((h.1 46 0) + (h.1 46 1)) + (h.1 46 2)) else (h.1 50 x)))), some (.int ((h.1 42 11) - c))], [], h)) rfl ⟨trivial, trivial, trivial, trivial⟩ ?_
          refine br (fun b6 => ?_) (fun b6 => ?_)
          ·
            refine go hX 13 (gs := [True, True, True, True, ibd ((x * 11) + ((h.1 42 11) - c)) 121, True, True, True, True, True, True, True, True]) (z' := (if (h.1 42 12) ≤ (s + (h.1 51 ((x * 11) + ((h.1 42 11) - c)))) then 114 else 110, [some (.ref 42), some (.int x), some (.int c), some (.int s), some (.int (c + (if (((h.1 46 0) + (h.1 46 1)) + (h.1 46 2)) < (h.1 50 x) then (((h.1 46 0) + (h.1 46 1)) + (h.1 46 2)) else (h.1 50 x)))), some (.int ((h.1 42 11) - c))], [], h)) rfl ⟨trivial, trivial, trivial, trivial, ?_, trivial, trivial, trivial, trivial, trivial, trivial, trivial, trivial, trivial⟩ ?_
            · exact ibd_of (B := 121) rfl (by grind) (by grind)
            refine br (fun b7 => ?_) (fun b7 => ?_)
            ·
              refine go hX 1 (gs := [True]) (z' := (115, [some (.ref 42), some (.int x), some (.int c), some (.int s), some (.int (c + (if (((h.1 46 0) + (h.1 46 1)) + (h.1 46 2)) < (h.1 50 x) then (((h.1 46 0) + (h.1 46 1)) + (h.1 46 2)) else (h.1 50 x)))), some (.int ((h.1 42 11) - c))], [.int 0], h)) rfl ⟨trivial, trivial⟩ ?_
              refine rt_ hX (G := isB 0) (r := some (.int 0)) rfl isB0 ?_
              exact k0 (by unfold canI mstI; grind)
            ·
              refine go hX 2 (gs := [True, True]) (z' := (115, [some (.ref 42), some (.int x), some (.int c), some (.int s), some (.int (c + (if (((h.1 46 0) + (h.1 46 1)) + (h.1 46 2)) < (h.1 50 x) then (((h.1 46 0) + (h.1 46 1)) + (h.1 46 2)) else (h.1 50 x)))), some (.int ((h.1 42 11) - c))], [.int 1], h)) rfl ⟨trivial, trivial, trivial⟩ ?_
              refine rt_ hX (G := isB 1) (r := some (.int 1)) rfl isB1 ?_
              exact k1 (by unfold canI mstI; grind)
          ·
            refine go hX 4 (gs := [True, True, True, True]) (z' := (if (c + (if (((h.1 46 0) + (h.1 46 1)) + (h.1 46 2)) < (h.1 50 x) then (((h.1 46 0) + (h.1 46 1)) + (h.1 46 2)) else (h.1 50 x))) ≤ (h.1 42 11) then 87 else 83, [some (.ref 42), some (.int x), some (.int c), some (.int s), some (.int (c + (if (((h.1 46 0) + (h.1 46 1)) + (h.1 46 2)) < (h.1 50 x) then (((h.1 46 0) + (h.1 46 1)) + (h.1 46 2)) else (h.1 50 x)))), some (.int ((h.1 42 11) - c))], [], h)) rfl ⟨trivial, trivial, trivial, trivial, trivial⟩ ?_
            refine br (fun b8 => ?_) (fun b8 => ?_)
            ·
              refine go hX 1 (gs := [True]) (z' := (88, [some (.ref 42), some (.int x), some (.int c), some (.int s), some (.int (c + (if (((h.1 46 0) + (h.1 46 1)) + (h.1 46 2)) < (h.1 50 x) then (((h.1 46 0) + (h.1 46 1)) + (h.1 46 2)) else (h.1 50 x)))), some (.int ((h.1 42 11) - c))], [.int 0], h)) rfl ⟨trivial, trivial⟩ ?_
              refine rt_ hX (G := isB 0) (r := some (.int 0)) rfl isB0 ?_
              exact k0 (by unfold canI mstI; grind)
            ·
              refine go hX 2 (gs := [True, True]) (z' := (88, [some (.ref 42), some (.int x), some (.int c), some (.int s), some (.int (c + (if (((h.1 46 0) + (h.1 46 1)) + (h.1 46 2)) < (h.1 50 x) then (((h.1 46 0) + (h.1 46 1)) + (h.1 46 2)) else (h.1 50 x)))), some (.int ((h.1 42 11) - c))], [.int 1], h)) rfl ⟨trivial, trivial, trivial⟩ ?_
              refine rt_ hX (G := isB 1) (r := some (.int 1)) rfl isB1 ?_
              exact k1 (by unfold canI mstI; grind)
      ·
        refine go hX 4 (gs := [True, True, True, True]) (z' := (if (c + (if (((h.1 46 0) + (h.1 46 1)) + (h.1 46 2)) < (h.1 50 x) then (((h.1 46 0) + (h.1 46 1)) + (h.1 46 2)) else (h.1 50 x))) ≤ (h.1 42 11) then 87 else 83, [some (.ref 42), some (.int x), some (.int c), some (.int s), some (.int (c + (if (((h.1 46 0) + (h.1 46 1)) + (h.1 46 2)) < (h.1 50 x) then (((h.1 46 0) + (h.1 46 1)) + (h.1 46 2)) else (h.1 50 x)))), some (.int ((h.1 42 11) - c))], [], h)) rfl ⟨trivial, trivial, trivial, trivial, trivial⟩ ?_
        refine br (fun b9 => ?_) (fun b9 => ?_)
        ·
          refine go hX 1 (gs := [True]) (z' := (88, [some (.ref 42), some (.int x), some (.int c), some (.int s), some (.int (c + (if (((h.1 46 0) + (h.1 46 1)) + (h.1 46 2)) < (h.1 50 x) then (((h.1 46 0) + (h.1 46 1)) + (h.1 46 2)) else (h.1 50 x)))), some (.int ((h.1 42 11) - c))], [.int 0], h)) rfl ⟨trivial, trivial⟩ ?_
          refine rt_ hX (G := isB 0) (r := some (.int 0)) rfl isB0 ?_
          exact k0 (by unfold canI mstI; grind)
        ·
          refine go hX 2 (gs := [True, True]) (z' := (88, [some (.ref 42), some (.int x), some (.int c), some (.int s), some (.int (c + (if (((h.1 46 0) + (h.1 46 1)) + (h.1 46 2)) < (h.1 50 x) then (((h.1 46 0) + (h.1 46 1)) + (h.1 46 2)) else (h.1 50 x)))), some (.int ((h.1 42 11) - c))], [.int 1], h)) rfl ⟨trivial, trivial, trivial⟩ ?_
          refine rt_ hX (G := isB 1) (r := some (.int 1)) rfl isB1 ?_
          exact k1 (by unfold canI mstI; grind)
    ·
      refine go hX 1 (gs := [True]) (z' := (11, [some (.ref 42), some (.int x), some (.int c), some (.int s), none, none], [.int 0], h)) rfl ⟨trivial, trivial⟩ ?_
      refine rt_ hX (G := isB 0) (r := some (.int 0)) rfl isB0 ?_
      exfalso; grind
theorem c_leaveOut {d : Nat} {Q : Option Value → Hp → Prop} {h : Hp} {x c s : Int32} {R : Hp → Prop} (x0 : 0 ≤ x) (x1 : x < 10) (P : ∀ Q' : Option Value → Hp → Prop, (∀ h1, R h1 → Q' none h1) → Call d 12 [.ref 42, .int (x + 1), .int c, .int s] (hI h 48 x (-1000000005)) Q') (k : ∀ h1, R h1 → Q none h1) : Call (d + 1) 14 [.ref 42, .int x, .int c, .int s] h Q := by
  refine call_of (rfl : psM[14]? = some _) rfl rfl (rcvV rfl) (fun X hX => ?_)
  show X (0, [some (.ref 42), some (.int x), some (.int c), some (.int s)], [], h)
  refine go hX 2 (gs := [True, True]) (z' := (if x < 0 then 13 else 4, [some (.ref 42), some (.int x), some (.int c), some (.int s)], [], h)) rfl ⟨trivial, trivial, trivial⟩ ?_
  refine br (fun b1 => ?_) (fun b1 => ?_)
  ·
    refine rt_ hX (G := True) (r := none) rfl trivial ?_
    exfalso; grind
  ·
    refine go hX 5 (gs := [True, True, True, True, True]) (z' := (if x < (nI 10) then 14 else 13, [some (.ref 42), some (.int x), some (.int c), some (.int s)], [], h)) rfl ⟨trivial, trivial, trivial, trivial, trivial, trivial⟩ ?_
    refine br (fun b2 => ?_) (fun b2 => ?_)
    ·
      refine go hX 11 (gs := [True, True, True, True, True, True, ibd x 10, True, True, True, True]) (z' := (28, [some (.ref 42), some (.int x), some (.int c), some (.int s)], [.int s, .int c, .int (x + 1), .ref 42], (hI h 48 x (-1000000005)))) rfl ⟨trivial, trivial, trivial, trivial, trivial, trivial, ?_, trivial, trivial, trivial, trivial, trivial⟩ ?_
      · exact ibd_of (B := 10) rfl (by grind) (by grind)
      refine cl hX 12 4 [.ref 42, .int (x + 1), .int c, .int s] [] rfl rfl rfl rfl ?_
      refine P _ (fun h3 r4 => ?_)
      show X (31, [some (.ref 42), some (.int x), some (.int c), some (.int s)], [], h3)
      refine rt_ hX (G := True) (r := none) rfl trivial ?_
      exact k _ r4
    ·
      refine rt_ hX (G := True) (r := none) rfl trivial ?_
      exact absurd (show x < nI 10 from x1) b2
theorem c_placeIn {d : Nat} {Q : Option Value → Hp → Prop} {h : Hp} {x k c s : Int32} {R : Hp → Prop} (x0 : 0 ≤ x) (x1 : x < 10) (y0 : 0 ≤ k) (y1 : k < 3) (P : ((((h.1 43 x) >>> (k &&& 31)) &&& 1) = 1 ∧ 0 < h.1 46 k ∧ ((h.1 47 k) &&& (h.1 44 x)) = 0) → ∀ Q' : Option Value → Hp → Prop, (∀ h1, R h1 → Q' none h1) → Call (d + 1) 12 [.ref 42, .int (x + 1), .int (c + 1), .int (s + (h.1 45 x))] (hI (hI (hI h 48 x k) 46 k ((h.1 46 k) - 1)) 47 k ((h.1 47 k) ||| (1 <<< (x &&& 31)))) Q') (k0 : ¬ ((((h.1 43 x) >>> (k &&& 31)) &&& 1) = 1 ∧ 0 < h.1 46 k ∧ ((h.1 47 k) &&& (h.1 44 x)) = 0) → Q none h) (k1 : ∀ h1, R h1 → Q none (hI (hI h1 47 k ((h1.1 47 k) &&& ((1 <<< (x &&& 31)) ^^^ (-1)))) 46 k ((h1.1 46 k) + 1))) : Call (d + 2) 13 [.ref 42, .int x, .int k, .int c, .int s] h Q := by
  refine call_of (rfl : psM[13]? = some _) rfl rfl (rcvV rfl) (fun X hX => ?_)
  show X (0, [some (.ref 42), some (.int x), some (.int k), some (.int c), some (.int s)], [], h)
  refine go hX 3 (gs := [True, True, True]) (z' := (3, [some (.ref 42), some (.int x), some (.int k), some (.int c), some (.int s)], [.int k, .int x, .ref 42], h)) rfl ⟨trivial, trivial, trivial, trivial⟩ ?_
  refine cl hX 15 3 [.ref 42, .int x, .int k] [] rfl rfl rfl rfl ?_
  refine c_fits x0 x1 y0 y1 (fun b1 => ?_) (fun b1 => ?_)
  ·
    show X (6, [some (.ref 42), some (.int x), some (.int k), some (.int c), some (.int s)], [.int 1], h)
    refine go hX 37 (gs := [True, ibd x 10, True, True, True, True, True, True, True, True, True, True, True, ibd k 3, True, True, True, True, ibd k 3, True, True, True, True, ibd k 3, True, True, ibd k 3, True, True, True, True, ibd x 10, True, True, True, True, True]) (z' := (55, [some (.ref 42), some (.int x), some (.int k), some (.int c), some (.int s)], [.int (s + (h.1 45 x)), .int (c + 1), .int (x + 1), .ref 42], (hI (hI (hI h 48 x k) 46 k ((h.1 46 k) - 1)) 47 k ((h.1 47 k) ||| (1 <<< (x &&& 31)))))) rfl ⟨trivial, ?_, trivial, trivial, trivial, trivial, trivial, trivial, trivial, trivial, trivial, trivial, trivial, ?_, trivial, trivial, trivial, trivial, ?_, trivial, trivial, trivial, trivial, ?_, trivial, trivial, ?_, trivial, trivial, trivial, trivial, ?_, trivial, trivial, trivial, trivial, trivial, trivial⟩ ?_
    · exact ibd_of (B := 10) rfl (by grind) (by grind)
    · exact ibd_of (B := 3) rfl (by grind) (by grind)
    · exact ibd_of (B := 3) rfl (by grind) (by grind)
    · exact ibd_of (B := 3) rfl (by grind) (by grind)
    · exact ibd_of (B := 3) rfl (by grind) (by grind)
    · exact ibd_of (B := 10) rfl (by grind) (by grind)
    refine cl hX 12 4 [.ref 42, .int (x + 1), .int (c + 1), .int (s + (h.1 45 x))] [] rfl rfl rfl rfl ?_
    refine (P b1) _ (fun h2 r3 => ?_)
    show X (58, [some (.ref 42), some (.int x), some (.int k), some (.int c), some (.int s)], [], h2)
    refine go hX 20 (gs := [ibd k 3, True, True, ibd k 3, True, True, True, True, ibd k 3, True, True, True, True, True, True, ibd k 3, True, True, True, True]) (z' := (82, [some (.ref 42), some (.int x), some (.int k), some (.int c), some (.int s)], [], (hI (hI h2 47 k ((h2.1 47 k) &&& ((1 <<< (x &&& 31)) ^^^ (-1)))) 46 k ((h2.1 46 k) + 1)))) rfl ⟨?_, trivial, trivial, ?_, trivial, trivial, trivial, trivial, ?_, trivial, trivial, trivial, trivial, trivial, trivial, ?_, trivial, trivial, trivial, trivial, trivial⟩ ?_
    · exact ibd_of (B := 3) rfl (by grind) (by grind)
    · exact ibd_of (B := 3) rfl (by grind) (by grind)
    · exact ibd_of (B := 3) rfl (by grind) (by grind)
    · exact ibd_of (B := 3) rfl (by grind) (by grind)
    refine rt_ hX (G := True) (r := none) rfl trivial ?_
    exact k1 _ r3
  ·
    show X (6, [some (.ref 42), some (.int x), some (.int k), some (.int c), some (.int s)], [.int 0], h)
    refine go hX 1 (gs := [True]) (z' := (9, [some (.ref 42), some (.int x), some (.int k), some (.int c), some (.int s)], [], h)) rfl ⟨trivial, trivial⟩ ?_
    refine rt_ hX (G := True) (r := none) rfl trivial ?_
    exact k0 b1
theorem c_place0 {d : Nat} {Q : Option Value → Hp → Prop} {h : Hp} {x c s : Int32} {R0 R1 R2 R3 : Hp → Prop} (x0 : 0 ≤ x) (x1 : x ≤ 10) (k0 : ¬ canI h x c s → Q none h) (k1 : canI h x c s → ¬ x < h.1 42 10 → Q none (hC (hI (hI h 42 11 c) 42 12 s) 48 0 49 0 10)) (I0 : canI h x c s → x < h.1 42 10 → ∀ Q' : Option Value → Hp → Prop, (∀ h2, R0 h2 → Q' none h2) → Call (d + 1) 13 [.ref 42, .int x, .int 0, .int c, .int s] h Q') (I1 : canI h x c s → x < h.1 42 10 → ∀ h1, R0 h1 → ∀ Q' : Option Value → Hp → Prop, (∀ h2, R1 h2 → Q' none h2) → Call (d + 1) 13 [.ref 42, .int x, .int 1, .int c, .int s] h1 Q') (I2 : canI h x c s → x < h.1 42 10 → ∀ h1, R1 h1 → ∀ Q' : Option Value → Hp → Prop, (∀ h2, R2 h2 → Q' none h2) → Call (d + 1) 13 [.ref 42, .int x, .int 2, .int c, .int s] h1 Q') (I3 : ∀ h1, R2 h1 → ∀ Q' : Option Value → Hp → Prop, (∀ h2, R3 h2 → Q' none h2) → Call (d + 1) 14 [.ref 42, .int x, .int c, .int s] h1 Q') (kr : ∀ h1, R3 h1 → Q none h1) : Call (d + 2) 12 [.ref 42, .int x, .int c, .int s] h Q := by
  refine call_of (rfl : psM[12]? = some _) rfl rfl (rcvV rfl) (fun X hX => ?_)
  show X (0, [some (.ref 42), some (.int x), some (.int c), some (.int s), none], [], h)
  refine go hX 4 (gs := [True, True, True, True]) (z' := (4, [some (.ref 42), some (.int x), some (.int c), some (.int s), none], [.int s, .int c, .int x, .ref 42], h)) rfl ⟨trivial, trivial, trivial, trivial, trivial⟩ ?_
  refine cl hX 16 4 [.ref 42, .int x, .int c, .int s] [] rfl rfl rfl rfl ?_
  refine c_canB x0 x1 (fun b1 => ?_) (fun b1 => ?_)
  ·
    show X (7, [some (.ref 42), some (.int x), some (.int c), some (.int s), none], [.int 1], h)
    refine go hX 3 (gs := [True, True, True]) (z' := (if x < 0 then 23 else 15, [some (.ref 42), some (.int x), some (.int c), some (.int s), none], [], h)) rfl ⟨trivial, trivial, trivial, trivial⟩ ?_
    refine br (fun b2 => ?_) (fun b2 => ?_)
    ·
      refine go hX 16 (gs := [cpG 0 0 (nI 10) 10 10, True, True, True, True, True, True, True, True, True, True, True, True, True, True, True]) (z' := (51, [some (.ref 42), some (.int x), some (.int c), some (.int s), none], [], (hC (hI (hI h 42 11 c) 42 12 s) 48 0 49 0 (nI 10)))) rfl ⟨?_, trivial, trivial, trivial, trivial, trivial, trivial, trivial, trivial, trivial, trivial, trivial, trivial, trivial, trivial, trivial, trivial⟩ ?_
      · exact ⟨by decide, by decide, by decide, by decide, by decide⟩
      refine rt_ hX (G := True) (r := none) rfl trivial ?_
      exact k1 b1 (by grind)
    ·
      refine go hX 4 (gs := [True, True, True, True]) (z' := (if x < (h.1 42 10) then 52 else 23, [some (.ref 42), some (.int x), some (.int c), some (.int s), none], [], h)) rfl ⟨trivial, trivial, trivial, trivial, trivial⟩ ?_
      refine br (fun b3 => ?_) (fun b3 => ?_)
      ·
        refine go hX 10 (gs := [True, True, True, True, True, True, True, True, True, True]) (z' := (67, [some (.ref 42), some (.int x), some (.int c), some (.int s), some (.int 0)], [.int s, .int c, .int 0, .int x, .ref 42], h)) rfl ⟨trivial, trivial, trivial, trivial, trivial, trivial, trivial, trivial, trivial, trivial, trivial⟩ ?_
        refine cl hX 13 5 [.ref 42, .int x, .int 0, .int c, .int s] [] rfl rfl rfl rfl ?_
        refine I0 b1 b3 _ (fun h4 r5 => ?_)
        show X (70, [some (.ref 42), some (.int x), some (.int c), some (.int s), some (.int 0)], [], h4)
        refine go hX 10 (gs := [True, True, True, True, True, True, True, True, True, True]) (z' := (67, [some (.ref 42), some (.int x), some (.int c), some (.int s), some (.int 1)], [.int s, .int c, .int 1, .int x, .ref 42], h4)) rfl ⟨trivial, trivial, trivial, trivial, trivial, trivial, trivial, trivial, trivial, trivial, trivial⟩ ?_
        refine cl hX 13 5 [.ref 42, .int x, .int 1, .int c, .int s] [] rfl rfl rfl rfl ?_
        refine I1 b1 b3 _ r5 _ (fun h6 r7 => ?_)
        show X (70, [some (.ref 42), some (.int x), some (.int c), some (.int s), some (.int 1)], [], h6)
        refine go hX 10 (gs := [True, True, True, True, True, True, True, True, True, True]) (z' := (67, [some (.ref 42), some (.int x), some (.int c), some (.int s), some (.int 2)], [.int s, .int c, .int 2, .int x, .ref 42], h6)) rfl ⟨trivial, trivial, trivial, trivial, trivial, trivial, trivial, trivial, trivial, trivial, trivial⟩ ?_
        refine cl hX 13 5 [.ref 42, .int x, .int 2, .int c, .int s] [] rfl rfl rfl rfl ?_
        refine I2 b1 b3 _ r7 _ (fun h8 r9 => ?_)
        show X (70, [some (.ref 42), some (.int x), some (.int c), some (.int s), some (.int 2)], [], h8)
        refine go hX 9 (gs := [True, True, True, True, True, True, True, True, True]) (z' := (80, [some (.ref 42), some (.int x), some (.int c), some (.int s), some (.int 3)], [.int s, .int c, .int x, .ref 42], h8)) rfl ⟨trivial, trivial, trivial, trivial, trivial, trivial, trivial, trivial, trivial, trivial⟩ ?_
        refine cl hX 14 4 [.ref 42, .int x, .int c, .int s] [] rfl rfl rfl rfl ?_
        refine I3 _ r9 _ (fun h10 r11 => ?_)
        show X (83, [some (.ref 42), some (.int x), some (.int c), some (.int s), some (.int 3)], [], h10)
        refine rt_ hX (G := True) (r := none) rfl trivial ?_
        exact kr _ r11
      ·
        refine go hX 16 (gs := [cpG 0 0 (nI 10) 10 10, True, True, True, True, True, True, True, True, True, True, True, True, True, True, True]) (z' := (51, [some (.ref 42), some (.int x), some (.int c), some (.int s), none], [], (hC (hI (hI h 42 11 c) 42 12 s) 48 0 49 0 (nI 10)))) rfl ⟨?_, trivial, trivial, trivial, trivial, trivial, trivial, trivial, trivial, trivial, trivial, trivial, trivial, trivial, trivial, trivial, trivial⟩ ?_
        · exact ⟨by decide, by decide, by decide, by decide, by decide⟩
        refine rt_ hX (G := True) (r := none) rfl trivial ?_
        exact k1 b1 b3
  ·
    show X (7, [some (.ref 42), some (.int x), some (.int c), some (.int s), none], [.int 0], h)
    refine go hX 1 (gs := [True]) (z' := (10, [some (.ref 42), some (.int x), some (.int c), some (.int s), none], [], h)) rfl ⟨trivial, trivial⟩ ?_
    refine rt_ hX (G := True) (r := none) rfl trivial ?_
    exact k0 b1
/-! The class's filling: what lies where. -/
noncomputable abbrev Fp : Type := Nat × (Nat → Int) × (Nat → Int) × (Nat → Nat → Bool) × (Nat → Nat) × (Nat → Nat) × (Nat → Nat → Int)
noncomputable def Fp.n (self_ : Fp) : Nat := self_.1
theorem Fp.n_mk (n_ : Nat) (T_ : Nat → Int) (C_ : Nat → Int) (W_ : Nat → Nat → Bool) (B_ : Nat → Nat) (ab_ : Nat → Nat) (ls_ : Nat → Nat → Int) : Fp.n (n_, T_, C_, W_, B_, ab_, ls_) = n_ := rfl
noncomputable def Fp.T (self_ : Fp) : Nat → Int := self_.2.1
theorem Fp.T_mk (n_ : Nat) (T_ : Nat → Int) (C_ : Nat → Int) (W_ : Nat → Nat → Bool) (B_ : Nat → Nat) (ab_ : Nat → Nat) (ls_ : Nat → Nat → Int) : Fp.T (n_, T_, C_, W_, B_, ab_, ls_) = T_ := rfl
noncomputable def Fp.C (self_ : Fp) : Nat → Int := self_.2.2.1
theorem Fp.C_mk (n_ : Nat) (T_ : Nat → Int) (C_ : Nat → Int) (W_ : Nat → Nat → Bool) (B_ : Nat → Nat) (ab_ : Nat → Nat) (ls_ : Nat → Nat → Int) : Fp.C (n_, T_, C_, W_, B_, ab_, ls_) = C_ := rfl
noncomputable def Fp.W (self_ : Fp) : Nat → Nat → Bool := self_.2.2.2.1
theorem Fp.W_mk (n_ : Nat) (T_ : Nat → Int) (C_ : Nat → Int) (W_ : Nat → Nat → Bool) (B_ : Nat → Nat) (ab_ : Nat → Nat) (ls_ : Nat → Nat → Int) : Fp.W (n_, T_, C_, W_, B_, ab_, ls_) = W_ := rfl
noncomputable def Fp.B (self_ : Fp) : Nat → Nat := self_.2.2.2.2.1
theorem Fp.B_mk (n_ : Nat) (T_ : Nat → Int) (C_ : Nat → Int) (W_ : Nat → Nat → Bool) (B_ : Nat → Nat) (ab_ : Nat → Nat) (ls_ : Nat → Nat → Int) : Fp.B (n_, T_, C_, W_, B_, ab_, ls_) = B_ := rfl
noncomputable def Fp.ab (self_ : Fp) : Nat → Nat := self_.2.2.2.2.2.1
theorem Fp.ab_mk (n_ : Nat) (T_ : Nat → Int) (C_ : Nat → Int) (W_ : Nat → Nat → Bool) (B_ : Nat → Nat) (ab_ : Nat → Nat) (ls_ : Nat → Nat → Int) : Fp.ab (n_, T_, C_, W_, B_, ab_, ls_) = ab_ := rfl
noncomputable def Fp.ls (self_ : Fp) : Nat → Nat → Int := self_.2.2.2.2.2.2
theorem Fp.ls_mk (n_ : Nat) (T_ : Nat → Int) (C_ : Nat → Int) (W_ : Nat → Nat → Bool) (B_ : Nat → Nat) (ab_ : Nat → Nat) (ls_ : Nat → Nat → Int) : Fp.ls (n_, T_, C_, W_, B_, ab_, ls_) = ls_ := rfl
noncomputable def mbK (g : Nat → Nat) (k : Nat) : Nat → Nat
  | 0 => 0
  | x + 1 => if g x = k then mbK g k x ||| 2 ^ x else mbK g k x
theorem mbK_lt {g : Nat → Nat} {k : Nat} : ∀ {x : Nat}, mbK g k x < 2 ^ x
  | 0 => by show (0 : Nat) < 2 ^ 0; decide
  | x + 1 => by
    have ih := mbK_lt (g := g) (k := k) (x := x)
    unfold mbK
    have h2 : 2 ^ x < 2 ^ (x + 1) := Nat.pow_lt_pow_right (by decide) (Nat.lt_succ_self x)
    split
    · exact Nat.or_lt_two_pow (Nat.lt_trans ih h2) h2
    · exact Nat.lt_trans ih h2
theorem mbK_cg {g g' : Nat → Nat} {k : Nat} : ∀ {x : Nat}, (∀ i, i < x → g' i = g i) → mbK g' k x = mbK g k x
  | 0, _ => rfl
  | x + 1, e => by
    unfold mbK
    rw [mbK_cg (fun i hi => e i (Nat.lt_succ_of_lt hi)), e x (Nat.lt_succ_self x)]
theorem mbK_up {g : Nat → Nat} {x k j : Nat} : mbK (upg g x k) j (x + 1) = if k = j then mbK g j x ||| 2 ^ x else mbK g j x := by
  show (if upg g x k x = j then mbK (upg g x k) j x ||| 2 ^ x else mbK (upg g x k) j x) = _
  rw [mbK_cg (fun i hi => upg_lt hi), upg_at]
theorem mbK_bit {g : Nat → Nat} {k i : Nat} : ∀ {x : Nat}, (mbK g k x).testBit i = true ↔ i < x ∧ g i = k
  | 0 => by
    show (0 : Nat).testBit i = true ↔ _
    rw [Nat.zero_testBit]
    constructor
    · intro h; cases h
    · intro h; omega
  | x + 1 => by
    have ih := mbK_bit (g := g) (k := k) (i := i) (x := x)
    unfold mbK
    split
    · rename_i e
      rw [Nat.testBit_or, Nat.testBit_two_pow, Bool.or_eq_true, ih, decide_eq_true_iff]
      constructor
      · rintro (⟨h1, h2⟩ | h1)
        · exact ⟨by omega, h2⟩
        · subst h1
          exact ⟨by omega, e⟩
      · rintro ⟨h1, h2⟩
        by_cases hx : x = i
        · exact Or.inr hx
        · exact Or.inl ⟨by omega, h2⟩
    · rename_i e
      rw [ih]
      constructor
      · rintro ⟨h1, h2⟩
        exact ⟨by omega, h2⟩
      · rintro ⟨h1, h2⟩
        refine ⟨?_, h2⟩
        by_cases hx : i = x
        · subst hx
          exact absurd h2 e
        · omega
theorem mbK_and {g : Nat → Nat} {k x B : Nat} : mbK g k x &&& B = 0 ↔ ∀ i, i < x → g i = k → B.testBit i = false := by
  constructor
  · intro h i hi hg
    have e : (mbK g k x &&& B).testBit i = (0 : Nat).testBit i := by rw [h]
    rw [Nat.testBit_and, mbK_bit.mpr ⟨hi, hg⟩, Nat.zero_testBit, Bool.true_and] at e
    exact e
  · intro h
    apply Nat.eq_of_testBit_eq
    intro i
    rw [Nat.testBit_and, Nat.zero_testBit]
    by_cases q : (mbK g k x).testBit i = true
    · obtain ⟨q1, q2⟩ := mbK_bit.mp q
      rw [h i q1 q2, Bool.and_false]
    · rw [(Bool.not_eq_true _).mp q, Bool.false_and]
/-- this one fits there -/
noncomputable def okFi (F : Fp) (x k : Nat) (g : Nat → Nat) : Bool := F.W x k && (decide (1 ≤ rmK F.C g x k) && decide (mbK g k x &&& F.B x = 0))
noncomputable def encF (k : Nat) : Int32 := if k = 3 then -1000000005 else nI k
noncomputable abbrev ClS (F : Fp) (h : Hp) : Prop := (F.n ≤ 10) ∧ (h.1 42 10 = nI F.n) ∧ (∀ i, i < F.n → ∃ v, v < 8 ∧ h.1 43 (nI i) = nI v ∧ ∀ k, k < 3 → v.testBit k = F.W i k) ∧ (∀ i, i < F.n → h.1 44 (nI i) = nI (F.B i) ∧ F.B i < 1024) ∧ (∀ i, i < F.n → (h.1 45 (nI i)).toInt = F.T i ∧ 0 ≤ F.T i ∧ F.T i ≤ 20000) ∧ (∀ i, i ≤ F.n → h.1 50 (nI i) = nI (F.ab i) ∧ F.ab i ≤ 10) ∧ (∀ i m, i ≤ F.n → m ≤ F.ab i → (h.1 51 (nI (i * 11 + m))).toInt = F.ls i m ∧ 0 ≤ F.ls i m ∧ F.ls i m ≤ 200000)
theorem ClS.n10 {F : Fp} {h : Hp} (self_ : ClS F h) : F.n ≤ 10 := self_.1
theorem ClS.e10 {F : Fp} {h : Hp} (self_ : ClS F h) : h.1 42 10 = nI F.n := self_.2.1
theorem ClS.ch {F : Fp} {h : Hp} (self_ : ClS F h) : ∀ i, i < F.n → ∃ v, v < 8 ∧ h.1 43 (nI i) = nI v ∧ ∀ k, k < 3 → v.testBit k = F.W i k := self_.2.2.1
theorem ClS.br {F : Fp} {h : Hp} (self_ : ClS F h) : ∀ i, i < F.n → h.1 44 (nI i) = nI (F.B i) ∧ F.B i < 1024 := self_.2.2.2.1
theorem ClS.tu {F : Fp} {h : Hp} (self_ : ClS F h) : ∀ i, i < F.n → (h.1 45 (nI i)).toInt = F.T i ∧ 0 ≤ F.T i ∧ F.T i ≤ 20000 := self_.2.2.2.2.1
theorem ClS.ab {F : Fp} {h : Hp} (self_ : ClS F h) : ∀ i, i ≤ F.n → h.1 50 (nI i) = nI (F.ab i) ∧ F.ab i ≤ 10 := self_.2.2.2.2.2.1
theorem ClS.ls {F : Fp} {h : Hp} (self_ : ClS F h) : ∀ i m, i ≤ F.n → m ≤ F.ab i → (h.1 51 (nI (i * 11 + m))).toInt = F.ls i m ∧ 0 ≤ F.ls i m ∧ F.ls i m ≤ 200000 := self_.2.2.2.2.2.2
noncomputable abbrev ClD (F : Fp) (h : Hp) (g : Nat → Nat) (x : Nat) (b : Bst) : Prop := (∀ k, k < 3 → (h.1 46 (nI k)).toInt = rmK F.C g x k ∧ 0 ≤ rmK F.C g x k ∧ rmK F.C g x k ≤ 5) ∧ (∀ k, k < 3 → h.1 47 (nI k) = nI (mbK g k x)) ∧ (∀ i, i < x → h.1 48 (nI i) = encF (g i)) ∧ ((h.1 42 11).toInt = b.c ∧ -1 ≤ b.c ∧ b.c ≤ 10) ∧ ((h.1 42 12).toInt = b.s ∧ 0 ≤ b.s ∧ b.s ≤ 200000) ∧ (0 ≤ b.c → ∀ i, i < F.n → h.1 49 (nI i) = encF (b.g i))
theorem ClD.rm {F : Fp} {h : Hp} {g : Nat → Nat} {x : Nat} {b : Bst} (self_ : ClD F h g x b) : ∀ k, k < 3 → (h.1 46 (nI k)).toInt = rmK F.C g x k ∧ 0 ≤ rmK F.C g x k ∧ rmK F.C g x k ≤ 5 := self_.1
theorem ClD.mb {F : Fp} {h : Hp} {g : Nat → Nat} {x : Nat} {b : Bst} (self_ : ClD F h g x b) : ∀ k, k < 3 → h.1 47 (nI k) = nI (mbK g k x) := self_.2.1
theorem ClD.tr {F : Fp} {h : Hp} {g : Nat → Nat} {x : Nat} {b : Bst} (self_ : ClD F h g x b) : ∀ i, i < x → h.1 48 (nI i) = encF (g i) := self_.2.2.1
theorem ClD.bc {F : Fp} {h : Hp} {g : Nat → Nat} {x : Nat} {b : Bst} (self_ : ClD F h g x b) : (h.1 42 11).toInt = b.c ∧ -1 ≤ b.c ∧ b.c ≤ 10 := self_.2.2.2.1
theorem ClD.bs {F : Fp} {h : Hp} {g : Nat → Nat} {x : Nat} {b : Bst} (self_ : ClD F h g x b) : (h.1 42 12).toInt = b.s ∧ 0 ≤ b.s ∧ b.s ≤ 200000 := self_.2.2.2.2.1
theorem ClD.be {F : Fp} {h : Hp} {g : Nat → Nat} {x : Nat} {b : Bst} (self_ : ClD F h g x b) : 0 ≤ b.c → ∀ i, i < F.n → h.1 49 (nI i) = encF (b.g i) := self_.2.2.2.2.2
noncomputable def frF (h h' : Hp) : Prop := (∀ o (j : Int32), ¬ (o = 42 ∧ (j = 11 ∨ j = 12) ∨ o = 46 ∨ o = 47 ∨ o = 48 ∨ o = 49) → h'.1 o j = h.1 o j) ∧ h'.2 = h.2
theorem frF_rf {h : Hp} : frF h h := ⟨fun _ _ _ => rfl, rfl⟩
theorem frF.tr {h h1 h2 : Hp} (a : frF h h1) (b : frF h1 h2) : frF h h2 := ⟨fun o j q => (b.1 o j q).trans (a.1 o j q), b.2.trans a.2⟩
theorem frF.st {h h1 : Hp} (f : frF h h1) {o : Nat} {j v : Int32} (hj : o = 42 ∧ (j = 11 ∨ j = 12) ∨ o = 46 ∨ o = 47 ∨ o = 48 ∨ o = 49) : frF h (hI h1 o j v) := by
  refine ⟨fun a k q => ?_, f.2⟩
  show (if a = o ∧ k = j then v else h1.1 a k) = _
  rw [if_neg (fun (e : a = o ∧ k = j) => q (by rw [e.1, e.2]; exact hj))]
  exact f.1 a k q
theorem ClS.fr {F : Fp} {h h' : Hp} (S : ClS F h) (f : frF h h') : ClS F h' := by
  have e : ∀ o (j : Int32), o ≠ 42 → o ≠ 46 → o ≠ 47 → o ≠ 48 → o ≠ 49 → h'.1 o j = h.1 o j := fun o j a1 a2 a3 a4 a5 => f.1 o j (by
    rintro (⟨q, -⟩ | q | q | q | q)
    · exact a1 q
    · exact a2 q
    · exact a3 q
    · exact a4 q
    · exact a5 q)
  refine ⟨S.n10, ?_, fun i hi => ?_, fun i hi => ?_, fun i hi => ?_, fun i hi => ?_, fun i m hi hm => ?_⟩
  · rw [f.1 42 10 (by rintro (⟨-, q⟩ | q | q | q | q) <;> revert q <;> decide)]
    exact S.e10
  · rw [e 43 _ (by decide) (by decide) (by decide) (by decide) (by decide)]
    exact S.ch i hi
  · rw [e 44 _ (by decide) (by decide) (by decide) (by decide) (by decide)]
    exact S.br i hi
  · rw [e 45 _ (by decide) (by decide) (by decide) (by decide) (by decide)]
    exact S.tu i hi
  · rw [e 50 _ (by decide) (by decide) (by decide) (by decide) (by decide)]
    exact S.ab i hi
  · rw [e 51 _ (by decide) (by decide) (by decide) (by decide) (by decide)]
    exact S.ls i m hi hm
theorem nI_and {a b : Nat} (ha : a < 1024) (hb : b < 1024) : nI a &&& nI b = 0 ↔ a &&& b = 0 := by
  have e : nI a &&& nI b = nI (a &&& b) := by
    apply Int32.toBitVec_inj.mp
    rw [Int32.toBitVec_and]
    show BitVec.ofNat 32 a &&& BitVec.ofNat 32 b = BitVec.ofNat 32 (a &&& b)
    apply BitVec.eq_of_getLsbD_eq
    intro i hi
    simp [Bst.c_mk, Bst.s_mk, Bst.g_mk, Fp.n_mk, Fp.T_mk, Fp.C_mk, Fp.W_mk, Fp.B_mk, Fp.ab_mk, Fp.ls_mk, BitVec.getLsbD_and, BitVec.getLsbD_ofNat, Nat.testBit_and, hi]
  rw [e]
  have l : a &&& b < 1024 := Nat.lt_of_le_of_lt Nat.and_le_left ha
  exact nIle_eq (b := 0) (by omega) (by decide)
set_option maxRecDepth 100000 in
theorem chB : ∀ v : Nat, v < 8 → ∀ k : Nat, k < 3 → ((nI v >>> (nI k &&& 31)) &&& 1 = 1 ↔ v.testBit k = true) := by decide +kernel
set_option maxRecDepth 100000 in
theorem mbS : ∀ v : Nat, v < 1024 → ∀ x : Nat, x < 10 → (nI v ||| (1 <<< (nI x &&& 31))) = nI (v ||| 2 ^ x) ∧ (v < 2 ^ x → (nI (v ||| 2 ^ x) &&& ((1 <<< (nI x &&& 31)) ^^^ (-1))) = nI v) := by decide +kernel
theorem p10 {x : Nat} (hx : x ≤ 10) : 2 ^ x ≤ 1024 := Nat.pow_le_pow_right (n := 2) (by decide) hx
theorem fits_ok {F : Fp} {h : Hp} {g : Nat → Nat} {x k : Nat} {b : Bst} (S : ClS F h) (D : ClD F h g x b) (hx : x < F.n) (hk : k < 3) : ((((h.1 43 (nI x)) >>> (nI k &&& 31)) &&& 1) = 1 ∧ 0 < h.1 46 (nI k) ∧ ((h.1 47 (nI k)) &&& (h.1 44 (nI x))) = 0) ↔ okFi F x k g = true := by
  have n10 := S.n10
  obtain ⟨v, v8, ev, hv⟩ := S.ch x hx
  obtain ⟨eb, b10⟩ := S.br x hx
  obtain ⟨er, r0, r5⟩ := D.rm k hk
  have em := D.mb k hk
  have ml := mbK_lt (g := g) (k := k) (x := x)
  have := p10 (x := x) (by omega)
  have c0 : (0 : Int32).toInt = 0 := rfl
  rw [ev, em, eb, chB v v8 k hk, hv k hk, nI_and (by omega) b10, Int32.lt_iff_toInt_lt, er, c0]
  unfold okFi
  rw [Bool.and_eq_true, Bool.and_eq_true, decide_eq_true_iff, decide_eq_true_iff]
  constructor
  · rintro ⟨a1, a2, a3⟩
    exact ⟨a1, by omega, a3⟩
  · rintro ⟨a1, a2, a3⟩
    exact ⟨a1, by omega, a3⟩
theorem can_ok {F : Fp} {h : Hp} {g : Nat → Nat} {x : Nat} {b : Bst} {cI sI : Int32} {c s : Int} (S : ClS F h) (D : ClD F h g x b) (hx : x ≤ F.n) (hc : cI.toInt = c) (hs : sI.toInt = s) (c0 : 0 ≤ c) (c1 : c ≤ x) (s0 : 0 ≤ s) (s1 : s ≤ 20000 * x) : canI h (nI x) cI sI ↔ if mst F.ab F.C g x c = b.c then s + F.ls x (b.c - c).toNat < b.s else b.c < mst F.ab F.C g x c := by
  have n10 := S.n10
  obtain ⟨ea, a10⟩ := S.ab x hx
  obtain ⟨e0, r0, r0'⟩ := D.rm 0 (by decide)
  obtain ⟨e1, r1, r1'⟩ := D.rm 1 (by decide)
  obtain ⟨e2, r2, r2'⟩ := D.rm 2 (by decide)
  obtain ⟨eb, b0, b1⟩ := D.bc
  obtain ⟨et, t0, t1⟩ := D.bs
  have z0 : (0 : Int32).toInt = 0 := rfl
  have z11 : (11 : Int32).toInt = 11 := rfl
  have eR : (((h.1 46 0) + (h.1 46 1)) + (h.1 46 2)).toInt = rm3 F.C g x := by
    have e0 : (h.1 46 0).toInt = _ := e0
    have e1 : (h.1 46 1).toInt = _ := e1
    have e2 : (h.1 46 2).toInt = _ := e2
    rw [Int32.toInt_add, Int32.toInt_add, e0, e1, e2, b32 (x := rmK F.C g x 0 + rmK F.C g x 1) (by omega) (by omega), b32 (by omega) (by omega)]
    rfl
  have r3 : 0 ≤ rm3 F.C g x ∧ rm3 F.C g x ≤ 15 := by unfold rm3; omega
  have eA : (h.1 50 (nI x)).toInt = F.ab x := by rw [ea, nI_i (by omega)]
  have eM : (mstI h (nI x) cI).toInt = mst F.ab F.C g x c := by
    unfold mstI mst
    by_cases q : ((h.1 46 0) + (h.1 46 1)) + (h.1 46 2) < h.1 50 (nI x)
    · rw [if_pos q, Int32.toInt_add, eR, hc, b32 (by omega) (by omega)]
      rw [Int32.lt_iff_toInt_lt, eR, eA] at q
      omega
    · rw [if_neg q, Int32.toInt_add, eA, hc, b32 (by omega) (by omega)]
      rw [Int32.lt_iff_toInt_lt, eR, eA] at q
      omega
  have eQ : (h.1 42 11 - cI).toInt = b.c - c := by rw [Int32.toInt_sub, eb, hc, b32 (by omega) (by omega)]
  have q0 : h.1 42 11 - cI < 0 ↔ b.c - c < 0 := by rw [Int32.lt_iff_toInt_lt, eQ, z0]
  have q1 : (11 : Int32) ≤ h.1 42 11 - cI ↔ 11 ≤ b.c - c := by rw [Int32.le_iff_toInt_le, eQ, z11]
  have q2 : mstI h (nI x) cI = h.1 42 11 ↔ mst F.ab F.C g x c = b.c := by rw [← Int32.toInt_inj, eM, eb]
  have q3 : h.1 42 11 < mstI h (nI x) cI ↔ b.c < mst F.ab F.C g x c := by rw [Int32.lt_iff_toInt_lt, eM, eb]
  have mm : mst F.ab F.C g x c = c + min (F.ab x : Int) (rm3 F.C g x) := rfl
  unfold canI
  by_cases e : mst F.ab F.C g x c = b.c
  · have e1 : mstI h (nI x) cI = h.1 42 11 := q2.mpr e
    have n0 : ¬ h.1 42 11 - cI < 0 := fun z => by have := q0.mp z; omega
    have n1 : ¬ (11 : Int32) ≤ h.1 42 11 - cI := fun z => by have := q1.mp z; omega
    rw [if_pos e, if_neg (show ¬ (¬ mstI h (nI x) cI = h.1 42 11 ∨ h.1 42 11 - cI < 0 ∨ 11 ≤ h.1 42 11 - cI) from fun z => by
      rcases z with z | z | z
      · exact z e1
      · exact n0 z
      · exact n1 z)]
    obtain ⟨m, em⟩ : ∃ m : Nat, (m : Int) = b.c - c := ⟨(b.c - c).toNat, by omega⟩
    have em' : (b.c - c).toNat = m := by omega
    have hm : m ≤ F.ab x := by omega
    obtain ⟨el, l0, l1⟩ := S.ls x m hx hm
    have ei : nI x * 11 + (h.1 42 11 - cI) = nI (x * 11 + m) := by
      have : h.1 42 11 - cI = nI m := Int32.toInt_inj.mp (by rw [eQ, nI_i (by omega)]; omega)
      rw [this]
      show nI x * nI 11 + nI m = _
      rw [show nI x * nI 11 = nI (x * 11) from (Int32.ofNat_mul x 11).symm, nI_add]
    rw [ei, em', Int32.lt_iff_toInt_lt, Int32.toInt_add, el, hs, et, b32 (by omega) (by omega)]
  · rw [if_neg e, if_pos (Or.inl (fun z => e (q2.mp z)))]
    exact q3
/-! The class's filling: all ways are tried. -/
theorem encF_k {k : Nat} (hk : k < 3) : encF k = nI k := if_neg (by omega)
theorem nI3 {j k : Nat} (hj : j < 3) (hk : k < 3) : nI j = nI k ↔ j = k := nIle_eq (by omega) (by omega)
/-- one more has its place -/
theorem ClD.put {F : Fp} {h : Hp} {g : Nat → Nat} {x k : Nat} {b : Bst} (D : ClD F h g x b) (hx : x < 10) (hk : k < 3) (r1 : 1 ≤ rmK F.C g x k) : ClD F (hI (hI (hI h 48 (nI x) (nI k)) 46 (nI k) ((h.1 46 (nI k)) - 1)) 47 (nI k) ((h.1 47 (nI k)) ||| (1 <<< (nI x &&& 31)))) (upg g x k) (x + 1) b := by
  have ml : mbK g k x < 1024 := Nat.lt_of_lt_of_le mbK_lt (p10 (by omega))
  have c1 : (1 : Int32).toInt = 1 := rfl
  have e42 : ∀ o (j : Int32), o ≠ 47 → o ≠ 46 → o ≠ 48 → (hI (hI (hI h 48 (nI x) (nI k)) 46 (nI k) ((h.1 46 (nI k)) - 1)) 47 (nI k) ((h.1 47 (nI k)) ||| (1 <<< (nI x &&& 31)))).1 o j = h.1 o j := fun o j a1 a2 a3 => by rw [hI_ne a1, hI_ne a2, hI_ne a3]
  refine ⟨fun j hj => ?_, fun j hj => ?_, fun i hi => ?_, ?_, ?_, fun h0 i hi => ?_⟩
  · obtain ⟨e, q0, q5⟩ := D.rm j hj
    rw [rmK_up, hI_ne (by decide)]
    by_cases q : k = j
    · subst q
      rw [hI_eq, if_pos rfl, Int32.toInt_sub, e, c1, b32 (by omega) (by omega)]
      omega
    · rw [hI_j (fun z => q ((nI3 hj hk).mp z).symm), hI_ne (by decide), if_neg q, e]
      omega
  · rw [mbK_up]
    by_cases q : k = j
    · subst q
      rw [hI_eq, if_pos rfl, D.mb k hk]
      exact (mbS _ ml x hx).1
    · rw [hI_j (fun z => q ((nI3 hj hk).mp z).symm), hI_ne (by decide), hI_ne (by decide), if_neg q]
      exact D.mb j hj
  · rw [hI_ne (by decide), hI_ne (by decide)]
    by_cases q : i = x
    · subst q
      rw [hI_eq, upg_at, encF_k hk]
    · rw [hI_j (fun z => q ((nIle_eq (by omega) (by omega)).mp z)), upg_lt (by omega)]
      exact D.tr i (by omega)
  · rw [e42 42 11 (by decide) (by decide) (by decide)]
    exact D.bc
  · rw [e42 42 12 (by decide) (by decide) (by decide)]
    exact D.bs
  · rw [e42 49 _ (by decide) (by decide) (by decide)]
    exact D.be h0 i hi
theorem ClD.unput {F : Fp} {h h1 : Hp} {g : Nat → Nat} {x k : Nat} {b b' : Bst} (D0 : ClD F h g x b) (D : ClD F h1 (upg g x k) (x + 1) b') (hx : x < 10) (hk : k < 3) : ClD F (hI (hI h1 47 (nI k) ((h1.1 47 (nI k)) &&& ((1 <<< (nI x &&& 31)) ^^^ (-1)))) 46 (nI k) ((h1.1 46 (nI k)) + 1)) g x b' := by
  have ml := mbK_lt (g := g) (k := k) (x := x)
  have m2 : mbK g k x < 1024 := Nat.lt_of_lt_of_le mbK_lt (p10 (by omega))
  have c1 : (1 : Int32).toInt = 1 := rfl
  have e42 : ∀ o (j : Int32), o ≠ 47 → o ≠ 46 → (hI (hI h1 47 (nI k) ((h1.1 47 (nI k)) &&& ((1 <<< (nI x &&& 31)) ^^^ (-1)))) 46 (nI k) ((h1.1 46 (nI k)) + 1)).1 o j = h1.1 o j := fun o j a1 a2 => by rw [hI_ne a2, hI_ne a1]
  refine ⟨fun j hj => ?_, fun j hj => ?_, fun i hi => ?_, ?_, ?_, fun h0 i hi => ?_⟩
  · obtain ⟨e, q0, q5⟩ := D.rm j hj
    obtain ⟨-, p0, p5⟩ := D0.rm j hj
    rw [rmK_up] at e q0 q5
    by_cases q : k = j
    · subst q
      rw [if_pos rfl] at e q0 q5
      rw [hI_eq, Int32.toInt_add, e, c1, b32 (by omega) (by omega)]
      omega
    · rw [if_neg q] at e q0 q5
      rw [hI_j (fun z => q ((nI3 hj hk).mp z).symm), hI_ne (by decide), e]
      omega
  · rw [hI_ne (by decide)]
    have e := D.mb j hj
    rw [mbK_up] at e
    by_cases q : k = j
    · subst q
      rw [if_pos rfl] at e
      rw [hI_eq, e]
      exact (mbS _ m2 x hx).2 ml
    · rw [if_neg q] at e
      rw [hI_j (fun z => q ((nI3 hj hk).mp z).symm)]
      exact e
  · rw [hI_ne (by decide), hI_ne (by decide)]
    have := D.tr i (by omega)
    rwa [upg_lt hi] at this
  · rw [e42 42 11 (by decide) (by decide)]
    exact D.bc
  · rw [e42 42 12 (by decide) (by decide)]
    exact D.bs
  · rw [e42 49 _ (by decide) (by decide)]
    exact D.be h0 i hi
theorem ClD.skip {F : Fp} {h : Hp} {g : Nat → Nat} {x : Nat} {b : Bst} (D : ClD F h g x b) (hx : x < 10) : ClD F (hI h 48 (nI x) (-1000000005)) (upg g x 3) (x + 1) b := by
  refine ⟨fun j hj => ?_, fun j hj => ?_, fun i hi => ?_, ?_, ?_, fun h0 i hi => ?_⟩
  · rw [rmK_up, if_neg (by omega), hI_ne (by decide), Int.sub_zero]
    exact D.rm j hj
  · rw [mbK_up, if_neg (by omega), hI_ne (by decide)]
    exact D.mb j hj
  · by_cases q : i = x
    · subst q
      rw [hI_eq, upg_at]
      rfl
    · rw [hI_j (fun z => q ((nIle_eq (by omega) (by omega)).mp z)), upg_lt (by omega)]
      exact D.tr i (by omega)
  · rw [hI_ne (by decide)]
    exact D.bc
  · rw [hI_ne (by decide)]
    exact D.bs
  · rw [hI_ne (by decide)]
    exact D.be h0 i hi
theorem ClD.unskip {F : Fp} {h1 : Hp} {g : Nat → Nat} {x : Nat} {b' : Bst} (D : ClD F h1 (upg g x 3) (x + 1) b') : ClD F h1 g x b' := by
  refine ⟨fun j hj => ?_, fun j hj => ?_, fun i hi => ?_, D.bc, D.bs, D.be⟩
  · have := D.rm j hj
    rwa [rmK_up, if_neg (by omega), Int.sub_zero] at this
  · have := D.mb j hj
    rwa [mbK_up, if_neg (by omega)] at this
  · have := D.tr i (by omega)
    rwa [upg_lt hi] at this
theorem ClD.leaf {F : Fp} {h : Hp} {g : Nat → Nat} {b : Bst} {cI sI : Int32} {c s : Int} (D : ClD F h g F.n b) (n10 : F.n ≤ 10) (hc : cI.toInt = c) (hs : sI.toInt = s) (c0 : 0 ≤ c) (c1 : c ≤ 10) (s0 : 0 ≤ s) (s1 : s ≤ 200000) : ClD F (hC (hI (hI h 42 11 cI) 42 12 sI) 48 0 49 0 10) g F.n ⟨c, s, g⟩ := by
  have e : ∀ o (j : Int32), o ≠ 49 → (hC (hI (hI h 42 11 cI) 42 12 sI) 48 0 49 0 10).1 o j = (hI (hI h 42 11 cI) 42 12 sI).1 o j := fun o j ho => if_neg (fun z => ho z.1)
  have e2 : ∀ o (j : Int32), o ≠ 49 → o ≠ 42 → (hC (hI (hI h 42 11 cI) 42 12 sI) 48 0 49 0 10).1 o j = h.1 o j := fun o j ho h42 => by rw [e o j ho, hI_ne h42, hI_ne h42]
  refine ⟨fun j hj => ?_, fun j hj => ?_, fun i hi => ?_, ⟨?_, by show (-1 : Int) ≤ c; omega, c1⟩, ⟨?_, s0, s1⟩, fun _ i hi => ?_⟩
  · rw [e2 46 _ (by decide) (by decide)]
    exact D.rm j hj
  · rw [e2 47 _ (by decide) (by decide)]
    exact D.mb j hj
  · rw [e2 48 _ (by decide) (by decide)]
    exact D.tr i hi
  · rw [e 42 11 (by decide), hI_j (by decide), hI_eq]
    exact hc
  · rw [e 42 12 (by decide), hI_eq]
    exact hs
  · have b1 : (0 : Int32) ≤ nI i := tx_0 i (by omega)
    have b2 : nI i < (0 : Int32) + 10 := (tx_lt (b := 10) (by omega) (by decide)).mpr (by omega)
    show (if 49 = 49 ∧ (0 : Int32) ≤ nI i ∧ nI i < (0 : Int32) + 10 then (hI (hI h 42 11 cI) 42 12 sI).1 48 (0 + (nI i - 0)) else _) = _
    rw [if_pos ⟨rfl, b1, b2⟩, hI_ne (by decide), hI_ne (by decide), show (0 : Int32) + (nI i - 0) = nI i by rw [Int32.sub_zero, Int32.zero_add]]
    exact D.tr i hi
theorem frF.leaf {h : Hp} {cI sI : Int32} : frF h (hC (hI (hI h 42 11 cI) 42 12 sI) 48 0 49 0 10) := by
  refine ⟨fun o j q => ?_, rfl⟩
  show (if o = 49 ∧ _ then _ else (hI (hI h 42 11 cI) 42 12 sI).1 o j) = _
  rw [if_neg (fun z => q (Or.inr (Or.inr (Or.inr (Or.inr z.1)))))]
  exact (frF.st (frF.st frF_rf (Or.inl ⟨rfl, Or.inl rfl⟩)) (Or.inl ⟨rfl, Or.inr rfl⟩)).1 o j q
/-- what a call of place for r more of them does -/
noncomputable def PlC (F : Fp) (r d : Nat) : Prop := ∀ {x : Nat} {h : Hp} {g : Nat → Nat} {b : Bst} {cI sI : Int32} {c s : Int} {Q : Option Value → Hp → Prop}, x + r = F.n → ClS F h → ClD F h g x b → cI.toInt = c → sI.toInt = s → 0 ≤ c → c ≤ x → 0 ≤ s → s ≤ 20000 * x → (∀ h', frF h h' → ClD F h' g x (srch F.T (okFi F) r x g c s b) → Q none h') → Call d 12 [.ref 42, .int (nI x), .int cI, .int sI] h Q
theorem c_pin {F : Fp} {r d : Nat} (IH : PlC F r (d + 1)) {x : Nat} {h : Hp} {g : Nat → Nat} {b : Bst} {cI sI : Int32} {c s : Int} {k : Nat} (hk : k < 3) (hr : x + (r + 1) = F.n) (S : ClS F h) (D : ClD F h g x b) (hc : cI.toInt = c) (hs : sI.toInt = s) (c0 : 0 ≤ c) (c1 : c ≤ x) (s0 : 0 ≤ s) (s1 : s ≤ 20000 * x) {Q : Option Value → Hp → Prop} (K : ∀ h', frF h h' → ClD F h' g x (if okFi F x k g = true then srch F.T (okFi F) r (x + 1) (upg g x k) (c + 1) (s + F.T x) b else b) → Q none h') : Call (d + 2) 13 [.ref 42, .int (nI x), .int (nI k), .int cI, .int sI] h Q := by
  have n10 := S.n10
  obtain ⟨et, t0, t1⟩ := S.tu x (by omega)
  have z1 : (1 : Int32).toInt = 1 := rfl
  refine c_placeIn (R := fun h2 => frF h h2 ∧ okFi F x k g = true ∧ ClD F h2 (upg g x k) (x + 1) (srch F.T (okFi F) r (x + 1) (upg g x k) (c + 1) (s + F.T x) b)) (tx_0 x (by omega)) ((tx_lt (b := 10) (by omega) (by decide)).mpr (by omega)) (tx_0 k (by omega)) ((tx_lt (b := 3) (by omega) (by decide)).mpr hk) (fun hf Q' kq => ?_) (fun hf => ?_) (fun h2 R => ?_)
  · have ok := (fits_ok S D (by omega) hk).mp hf
    have r1 : 1 ≤ rmK F.C g x k := by
      unfold okFi at ok
      rw [Bool.and_eq_true, Bool.and_eq_true, decide_eq_true_iff] at ok
      exact ok.2.1
    have f : frF h (hI (hI (hI h 48 (nI x) (nI k)) 46 (nI k) ((h.1 46 (nI k)) - 1)) 47 (nI k) ((h.1 47 (nI k)) ||| (1 <<< (nI x &&& 31)))) := ((frF_rf.st (Or.inr (Or.inr (Or.inr (Or.inl rfl))))).st (Or.inr (Or.inl rfl))).st (Or.inr (Or.inr (Or.inl rfl)))
    rw [tx_1]
    refine IH (c := c + 1) (s := s + F.T x) (by omega) (S.fr f) (D.put (by omega) hk r1) ?_ ?_ (by omega) (by omega) (by omega) (by omega) (fun h2 f2 D2 => kq h2 ⟨f.tr f2, ok, D2⟩)
    · rw [Int32.toInt_add, hc, z1, b32 (by omega) (by omega)]
    · rw [Int32.toInt_add, hs, et, b32 (by omega) (by omega)]
  · refine K h frF_rf ?_
    rw [if_neg (fun q => hf ((fits_ok S D (by omega) hk).mpr q))]
    exact D
  · obtain ⟨f, ok, D2⟩ := R
    refine K _ ((f.st (Or.inr (Or.inr (Or.inl rfl)))).st (Or.inr (Or.inl rfl))) ?_
    rw [if_pos ok]
    exact D.unput D2 (by omega) hk
theorem c_place {F : Fp} (L : LTO F.n F.T (fun i => ∃ k, k < 3 ∧ F.W i k = true) F.ab F.ls) : ∀ (r : Nat) {d : Nat}, PlC F r (d + 2 * r + 2)
  | r, d, x, h, g, b, cI, sI, c, s, Q, hr, S, D, hc, hs, c0, c1, s0, s1, K => by
    have n10 := S.n10
    have hcan := can_ok S D (by omega) hc hs c0 c1 s0 s1
    have x0 : (0 : Int32) ≤ nI x := tx_0 x (by omega)
    have x10 : nI x ≤ (10 : Int32) := (tx_le (b := 10) (by omega) (by decide)).mpr (by omega)
    have hlt : nI x < h.1 42 10 ↔ x < F.n := by rw [S.e10]; exact tx_lt (by omega) (by omega)
    have no : ¬ canI h (nI x) cI sI → Q none h := fun hn => by
      refine K h frF_rf ?_
      have q : mst F.ab F.C g x c < b.c ∨ (mst F.ab F.C g x c = b.c ∧ b.s ≤ s + F.ls x (b.c - c).toNat) := by
        rw [hcan] at hn
        split at hn
        · rename_i e
          exact Or.inr ⟨e, Int.not_lt.mp hn⟩
        · rename_i e
          exact Or.inl (by omega)
      rw [srch_A L (fun x k g hk ho => by
        unfold okFi at ho
        rw [Bool.and_eq_true, Bool.and_eq_true, decide_eq_true_iff] at ho
        exact ⟨⟨k, hk, ho.1⟩, ho.2.1⟩) hr (fun k hk => (D.rm k hk).2.1) q]
      exact D
    cases r with
    | zero =>
      have hx : x = F.n := hr
      refine c_place0 (R0 := fun _ => False) (R1 := fun _ => False) (R2 := fun _ => False) (R3 := fun _ => False) x0 x10 no (fun hy _ => ?_) (fun _ q => absurd (hlt.mp q) (by omega)) (fun _ q => absurd (hlt.mp q) (by omega)) (fun _ q => absurd (hlt.mp q) (by omega)) (fun _ q => q.elim) (fun _ q => q.elim)
      have bt : bet c s b := by
        rw [hcan] at hy
        have r0 := (D.rm 0 (by decide)).2.1
        have r1 := (D.rm 1 (by decide)).2.1
        have r2 := (D.rm 2 (by decide)).2.1
        have em : mst F.ab F.C g x c = c := by
          unfold mst rm3
          rw [hx, L.a0]
          rw [hx] at r0 r1 r2
          omega
        rw [em] at hy
        split at hy
        · rename_i e
          right
          refine ⟨e.symm, ?_⟩
          rw [e, Int.sub_self, hx] at hy
          have := L.l0
          have z : Int.toNat 0 = 0 := rfl
          rw [z, this] at hy
          omega
        · exact Or.inl hy
      refine K _ frF.leaf ?_
      unfold srch
      rw [if_pos bt]
      subst hx
      exact D.leaf n10 hc hs c0 (by omega) s0 (by omega)
    | succ r =>
      have IH : PlC F r (d + 2 * r + 2) := c_place L r
      have IH2 : PlC F r ((d + 2 * r + 1) + 1) := IH
      have s3 : ∀ b', srch F.T (okFi F) (r + 1) x g c s b = srch F.T (okFi F) r (x + 1) (upg g x 3) c s b' → True := fun _ _ => trivial
      refine c_place0 (d := d + 2 * (r + 1))
        (R0 := fun h' => frF h h' ∧ ClD F h' g x ((fun k b => if okFi F x k g = true then srch F.T (okFi F) r (x + 1) (upg g x k) (c + 1) (s + F.T x) b else b) 0 b))
        (R1 := fun h' => frF h h' ∧ ClD F h' g x ((fun k b => if okFi F x k g = true then srch F.T (okFi F) r (x + 1) (upg g x k) (c + 1) (s + F.T x) b else b) 1 ((fun k b => if okFi F x k g = true then srch F.T (okFi F) r (x + 1) (upg g x k) (c + 1) (s + F.T x) b else b) 0 b)))
        (R2 := fun h' => frF h h' ∧ ClD F h' g x ((fun k b => if okFi F x k g = true then srch F.T (okFi F) r (x + 1) (upg g x k) (c + 1) (s + F.T x) b else b) 2 ((fun k b => if okFi F x k g = true then srch F.T (okFi F) r (x + 1) (upg g x k) (c + 1) (s + F.T x) b else b) 1 ((fun k b => if okFi F x k g = true then srch F.T (okFi F) r (x + 1) (upg g x k) (c + 1) (s + F.T x) b else b) 0 b))))
        (R3 := fun h' => frF h h' ∧ ClD F h' g x (srch F.T (okFi F) (r + 1) x g c s b))
        x0 x10 no (fun _ q => absurd (hlt.mpr (by omega)) q) (fun _ _ Q' kq => ?_) (fun _ _ h1 R Q' kq => ?_) (fun _ _ h1 R Q' kq => ?_) (fun h1 R Q' kq => ?_) (fun h1 R => K h1 R.1 R.2)
      · exact c_pin (k := 0) IH2 (by decide) (by omega) S D hc hs c0 c1 s0 s1 (fun h' f D' => kq h' ⟨f, D'⟩)
      · exact c_pin (k := 1) IH2 (by decide) (by omega) (S.fr R.1) R.2 hc hs c0 c1 s0 s1 (fun h' f D' => kq h' ⟨R.1.tr f, D'⟩)
      · exact c_pin (k := 2) IH2 (by decide) (by omega) (S.fr R.1) R.2 hc hs c0 c1 s0 s1 (fun h' f D' => kq h' ⟨R.1.tr f, D'⟩)
      · have f3 : frF h1 (hI h1 48 (nI x) (-1000000005)) := frF_rf.st (Or.inr (Or.inr (Or.inr (Or.inl rfl))))
        refine c_leaveOut (d := d + 2 * (r + 1)) (R := fun h' => frF h h' ∧ ClD F h' g x (srch F.T (okFi F) (r + 1) x g c s b)) x0 ((tx_lt (b := 10) (by omega) (by decide)).mpr (by omega)) (fun Q2 k2 => ?_) kq
        rw [tx_1]
        exact IH (by omega) (S.fr (R.1.tr f3)) (R.2.skip (by omega)) hc hs c0 (by omega) s0 (by omega) (fun h' f D' => k2 h' ⟨(R.1.tr f3).tr f, D'.unskip⟩)
