/-! By hand: a text is worked out (contracts printed by wip/se/m2.py). -/
theorem c_textAt {d : Nat} {Q : Option Value → Hp → Prop} {h : Hp} {x : Int32} (k : Q (some (.int (600 + (200 * x)))) h) : Call (d + 1) 166 [.ref 65, .int x] h Q := by
  refine call_of (rfl : psM[166]? = some _) rfl rfl (rcvV rfl) (fun X hX => ?_)
  show X (0, [some (.ref 65), some (.int x)], [], h)
  refine go hX 5 (gs := [True, True, True, True, True]) (z' := (9, [some (.ref 65), some (.int x)], [.int (600 + (200 * x))], h)) rfl ⟨trivial, trivial, trivial, trivial, trivial, trivial⟩ ?_
  refine rt_ hX (G := True) (r := some (.int (600 + (200 * x)))) rfl trivial ?_
  exact k
theorem c_handAt {d : Nat} {Q : Option Value → Hp → Prop} {h : Hp} {x : Int32} (k : Q (some (.int (40 + (16 * x)))) h) : Call (d + 1) 164 [.ref 65, .int x] h Q := by
  refine call_of (rfl : psM[164]? = some _) rfl rfl (rcvV rfl) (fun X hX => ?_)
  show X (0, [some (.ref 65), some (.int x)], [], h)
  refine go hX 5 (gs := [True, True, True, True, True]) (z' := (7, [some (.ref 65), some (.int x)], [.int (40 + (16 * x))], h)) rfl ⟨trivial, trivial, trivial, trivial, trivial, trivial⟩ ?_
  refine rt_ hX (G := True) (r := some (.int (40 + (16 * x)))) rfl trivial ?_
  exact k
theorem c_joined {d : Nat} {Q : Option Value → Hp → Prop} {h : Hp} {c x y : Int32} (k : ∀ r : Int32, Q (some (.int r)) h) : Call (d + 1) 229 [.int c, .int x, .int y] h Q := by
  refine call_of (rfl : psM[229]? = some _) rfl rfl (rcvS rfl) (fun X hX => ?_)
  show X (0, [some (.int c), some (.int x), some (.int y)], [], h)
  refine go hX 2 (gs := [True, True]) (z' := (if c = 38 then 183 else if c = 39 then 197 else if c = 40 then 197 else if c = 41 then 197 else if c = 42 then 124 else if c = 43 then 116 else if c = 44 then 197 else if c = 45 then 120 else if c = 46 then 197 else if c = 47 then 128 else if c = 48 then 197 else if c = 49 then 197 else if c = 50 then 197 else if c = 51 then 197 else if c = 52 then 197 else if c = 53 then 197 else if c = 54 then 197 else if c = 55 then 197 else if c = 56 then 197 else if c = 57 then 197 else if c = 58 then 197 else if c = 59 then 197 else if c = 60 then 150 else if c = 61 then 172 else if c = 62 then 161 else 197, [some (.int c), some (.int x), some (.int y)], [], h)) rfl ⟨trivial, trivial, trivial⟩ ?_
  refine br (fun b1 => ?_) (fun b1 => ?_)
  ·
    refine go hX 2 (gs := [True, True]) (z' := (if x = 0 then 195 else 187, [some (.int c), some (.int x), some (.int y)], [], h)) rfl ⟨trivial, trivial, trivial⟩ ?_
    refine br (fun b2 => ?_) (fun b2 => ?_)
    ·
      refine go hX 1 (gs := [True]) (z' := (196, [some (.int c), some (.int x), some (.int y)], [.int 0], h)) rfl ⟨trivial, trivial⟩ ?_
      refine rt_ hX (G := True) (r := some (.int 0)) rfl trivial ?_
      exact k _
    ·
      refine go hX 2 (gs := [True, True]) (z' := (if y = 0 then 195 else 191, [some (.int c), some (.int x), some (.int y)], [], h)) rfl ⟨trivial, trivial, trivial⟩ ?_
      refine br (fun b3 => ?_) (fun b3 => ?_)
      ·
        refine go hX 1 (gs := [True]) (z' := (196, [some (.int c), some (.int x), some (.int y)], [.int 0], h)) rfl ⟨trivial, trivial⟩ ?_
        refine rt_ hX (G := True) (r := some (.int 0)) rfl trivial ?_
        exact k _
      ·
        refine go hX 2 (gs := [True, True]) (z' := (196, [some (.int c), some (.int x), some (.int y)], [.int 1], h)) rfl ⟨trivial, trivial, trivial⟩ ?_
        refine rt_ hX (G := True) (r := some (.int 1)) rfl trivial ?_
        exact k _
  ·
    refine br (fun b4 => ?_) (fun b4 => ?_)
    ·
      refine go hX 2 (gs := [True, True]) (z' := (if x = 0 then 201 else 205, [some (.int c), some (.int x), some (.int y)], [], h)) rfl ⟨trivial, trivial, trivial⟩ ?_
      refine br (fun b5 => ?_) (fun b5 => ?_)
      ·
        refine go hX 2 (gs := [True, True]) (z' := (if y = 0 then 209 else 205, [some (.int c), some (.int x), some (.int y)], [], h)) rfl ⟨trivial, trivial, trivial⟩ ?_
        refine br (fun b6 => ?_) (fun b6 => ?_)
        ·
          refine go hX 1 (gs := [True]) (z' := (210, [some (.int c), some (.int x), some (.int y)], [.int 0], h)) rfl ⟨trivial, trivial⟩ ?_
          refine rt_ hX (G := True) (r := some (.int 0)) rfl trivial ?_
          exact k _
        ·
          refine go hX 2 (gs := [True, True]) (z' := (210, [some (.int c), some (.int x), some (.int y)], [.int 1], h)) rfl ⟨trivial, trivial, trivial⟩ ?_
          refine rt_ hX (G := True) (r := some (.int 1)) rfl trivial ?_
          exact k _
      ·
        refine go hX 2 (gs := [True, True]) (z' := (210, [some (.int c), some (.int x), some (.int y)], [.int 1], h)) rfl ⟨trivial, trivial, trivial⟩ ?_
        refine rt_ hX (G := True) (r := some (.int 1)) rfl trivial ?_
        exact k _
    ·
      refine br (fun b7 => ?_) (fun b7 => ?_)
      ·
        refine go hX 2 (gs := [True, True]) (z' := (if x = 0 then 201 else 205, [some (.int c), some (.int x), some (.int y)], [], h)) rfl ⟨trivial, trivial, trivial⟩ ?_
        refine br (fun b8 => ?_) (fun b8 => ?_)
        ·
          refine go hX 2 (gs := [True, True]) (z' := (if y = 0 then 209 else 205, [some (.int c), some (.int x), some (.int y)], [], h)) rfl ⟨trivial, trivial, trivial⟩ ?_
          refine br (fun b9 => ?_) (fun b9 => ?_)
          ·
            refine go hX 1 (gs := [True]) (z' := (210, [some (.int c), some (.int x), some (.int y)], [.int 0], h)) rfl ⟨trivial, trivial⟩ ?_
            refine rt_ hX (G := True) (r := some (.int 0)) rfl trivial ?_
            exact k _
          ·
            refine go hX 2 (gs := [True, True]) (z' := (210, [some (.int c), some (.int x), some (.int y)], [.int 1], h)) rfl ⟨trivial, trivial, trivial⟩ ?_
            refine rt_ hX (G := True) (r := some (.int 1)) rfl trivial ?_
            exact k _
        ·
          refine go hX 2 (gs := [True, True]) (z' := (210, [some (.int c), some (.int x), some (.int y)], [.int 1], h)) rfl ⟨trivial, trivial, trivial⟩ ?_
          refine rt_ hX (G := True) (r := some (.int 1)) rfl trivial ?_
          exact k _
      ·
        refine br (fun b10 => ?_) (fun b10 => ?_)
        ·
          refine go hX 2 (gs := [True, True]) (z' := (if x = 0 then 201 else 205, [some (.int c), some (.int x), some (.int y)], [], h)) rfl ⟨trivial, trivial, trivial⟩ ?_
          refine br (fun b11 => ?_) (fun b11 => ?_)
          ·
            refine go hX 2 (gs := [True, True]) (z' := (if y = 0 then 209 else 205, [some (.int c), some (.int x), some (.int y)], [], h)) rfl ⟨trivial, trivial, trivial⟩ ?_
            refine br (fun b12 => ?_) (fun b12 => ?_)
            ·
              refine go hX 1 (gs := [True]) (z' := (210, [some (.int c), some (.int x), some (.int y)], [.int 0], h)) rfl ⟨trivial, trivial⟩ ?_
              refine rt_ hX (G := True) (r := some (.int 0)) rfl trivial ?_
              exact k _
            ·
              refine go hX 2 (gs := [True, True]) (z' := (210, [some (.int c), some (.int x), some (.int y)], [.int 1], h)) rfl ⟨trivial, trivial, trivial⟩ ?_
              refine rt_ hX (G := True) (r := some (.int 1)) rfl trivial ?_
              exact k _
          ·
            refine go hX 2 (gs := [True, True]) (z' := (210, [some (.int c), some (.int x), some (.int y)], [.int 1], h)) rfl ⟨trivial, trivial, trivial⟩ ?_
            refine rt_ hX (G := True) (r := some (.int 1)) rfl trivial ?_
            exact k _
        ·
          refine br (fun b13 => ?_) (fun b13 => ?_)
          ·
            refine go hX 3 (gs := [True, True, True]) (z' := (127, [some (.int c), some (.int x), some (.int y)], [.int (x * y)], h)) rfl ⟨trivial, trivial, trivial, trivial⟩ ?_
            refine rt_ hX (G := True) (r := some (.int (x * y))) rfl trivial ?_
            exact k _
          ·
            refine br (fun b14 => ?_) (fun b14 => ?_)
            ·
              refine go hX 3 (gs := [True, True, True]) (z' := (119, [some (.int c), some (.int x), some (.int y)], [.int (x + y)], h)) rfl ⟨trivial, trivial, trivial, trivial⟩ ?_
              refine rt_ hX (G := True) (r := some (.int (x + y))) rfl trivial ?_
              exact k _
            ·
              refine br (fun b15 => ?_) (fun b15 => ?_)
              ·
                refine go hX 2 (gs := [True, True]) (z' := (if x = 0 then 201 else 205, [some (.int c), some (.int x), some (.int y)], [], h)) rfl ⟨trivial, trivial, trivial⟩ ?_
                refine br (fun b16 => ?_) (fun b16 => ?_)
                ·
                  refine go hX 2 (gs := [True, True]) (z' := (if y = 0 then 209 else 205, [some (.int c), some (.int x), some (.int y)], [], h)) rfl ⟨trivial, trivial, trivial⟩ ?_
                  refine br (fun b17 => ?_) (fun b17 => ?_)
                  ·
                    refine go hX 1 (gs := [True]) (z' := (210, [some (.int c), some (.int x), some (.int y)], [.int 0], h)) rfl ⟨trivial, trivial⟩ ?_
                    refine rt_ hX (G := True) (r := some (.int 0)) rfl trivial ?_
                    exact k _
                  ·
                    refine go hX 2 (gs := [True, True]) (z' := (210, [some (.int c), some (.int x), some (.int y)], [.int 1], h)) rfl ⟨trivial, trivial, trivial⟩ ?_
                    refine rt_ hX (G := True) (r := some (.int 1)) rfl trivial ?_
                    exact k _
                ·
                  refine go hX 2 (gs := [True, True]) (z' := (210, [some (.int c), some (.int x), some (.int y)], [.int 1], h)) rfl ⟨trivial, trivial, trivial⟩ ?_
                  refine rt_ hX (G := True) (r := some (.int 1)) rfl trivial ?_
                  exact k _
              ·
                refine br (fun b18 => ?_) (fun b18 => ?_)
                ·
                  refine go hX 3 (gs := [True, True, True]) (z' := (123, [some (.int c), some (.int x), some (.int y)], [.int (x - y)], h)) rfl ⟨trivial, trivial, trivial, trivial⟩ ?_
                  refine rt_ hX (G := True) (r := some (.int (x - y))) rfl trivial ?_
                  exact k _
                ·
                  refine br (fun b19 => ?_) (fun b19 => ?_)
                  ·
                    refine go hX 2 (gs := [True, True]) (z' := (if x = 0 then 201 else 205, [some (.int c), some (.int x), some (.int y)], [], h)) rfl ⟨trivial, trivial, trivial⟩ ?_
                    refine br (fun b20 => ?_) (fun b20 => ?_)
                    ·
                      refine go hX 2 (gs := [True, True]) (z' := (if y = 0 then 209 else 205, [some (.int c), some (.int x), some (.int y)], [], h)) rfl ⟨trivial, trivial, trivial⟩ ?_
                      refine br (fun b21 => ?_) (fun b21 => ?_)
                      ·
                        refine go hX 1 (gs := [True]) (z' := (210, [some (.int c), some (.int x), some (.int y)], [.int 0], h)) rfl ⟨trivial, trivial⟩ ?_
                        refine rt_ hX (G := True) (r := some (.int 0)) rfl trivial ?_
                        exact k _
                      ·
                        refine go hX 2 (gs := [True, True]) (z' := (210, [some (.int c), some (.int x), some (.int y)], [.int 1], h)) rfl ⟨trivial, trivial, trivial⟩ ?_
                        refine rt_ hX (G := True) (r := some (.int 1)) rfl trivial ?_
                        exact k _
                    ·
                      refine go hX 2 (gs := [True, True]) (z' := (210, [some (.int c), some (.int x), some (.int y)], [.int 1], h)) rfl ⟨trivial, trivial, trivial⟩ ?_
                      refine rt_ hX (G := True) (r := some (.int 1)) rfl trivial ?_
                      exact k _
                  ·
                    refine br (fun b22 => ?_) (fun b22 => ?_)
                    ·
                      refine go hX 2 (gs := [True, True]) (z' := (if y = 0 then 132 else 136, [some (.int c), some (.int x), some (.int y)], [], h)) rfl ⟨trivial, trivial, trivial⟩ ?_
                      refine br (fun b23 => ?_) (fun b23 => ?_)
                      ·
                        refine go hX 2 (gs := [True, True]) (z' := (149, [some (.int c), some (.int x), some (.int y)], [.int 0], h)) rfl ⟨trivial, trivial, trivial⟩ ?_
                        refine rt_ hX (G := True) (r := some (.int 0)) rfl trivial ?_
                        exact k _
                      ·
                        refine go hX 3 (gs := [True, True, True]) (z' := (if y = (-1) then 141 else 146, [some (.int c), some (.int x), some (.int y)], [], h)) rfl ⟨trivial, trivial, trivial, trivial⟩ ?_
                        refine br (fun b24 => ?_) (fun b24 => ?_)
                        ·
                          refine go hX 3 (gs := [True, True, True]) (z' := (149, [some (.int c), some (.int x), some (.int y)], [.int (-x)], h)) rfl ⟨trivial, trivial, trivial, trivial⟩ ?_
                          refine rt_ hX (G := True) (r := some (.int (-x))) rfl trivial ?_
                          exact k _
                        ·
                          refine go hX 3 (gs := [¬ y = (0 : Int32), True, True]) (z' := (149, [some (.int c), some (.int x), some (.int y)], [.int (x / y)], h)) rfl ⟨?_, trivial, trivial, trivial⟩ ?_
                          · grind
                          refine rt_ hX (G := True) (r := some (.int (x / y))) rfl trivial ?_
                          exact k _
                    ·
                      refine br (fun b25 => ?_) (fun b25 => ?_)
                      ·
                        refine go hX 2 (gs := [True, True]) (z' := (if x = 0 then 201 else 205, [some (.int c), some (.int x), some (.int y)], [], h)) rfl ⟨trivial, trivial, trivial⟩ ?_
                        refine br (fun b26 => ?_) (fun b26 => ?_)
                        ·
                          refine go hX 2 (gs := [True, True]) (z' := (if y = 0 then 209 else 205, [some (.int c), some (.int x), some (.int y)], [], h)) rfl ⟨trivial, trivial, trivial⟩ ?_
                          refine br (fun b27 => ?_) (fun b27 => ?_)
                          ·
                            refine go hX 1 (gs := [True]) (z' := (210, [some (.int c), some (.int x), some (.int y)], [.int 0], h)) rfl ⟨trivial, trivial⟩ ?_
                            refine rt_ hX (G := True) (r := some (.int 0)) rfl trivial ?_
                            exact k _
                          ·
                            refine go hX 2 (gs := [True, True]) (z' := (210, [some (.int c), some (.int x), some (.int y)], [.int 1], h)) rfl ⟨trivial, trivial, trivial⟩ ?_
                            refine rt_ hX (G := True) (r := some (.int 1)) rfl trivial ?_
                            exact k _
                        ·
                          refine go hX 2 (gs := [True, True]) (z' := (210, [some (.int c), some (.int x), some (.int y)], [.int 1], h)) rfl ⟨trivial, trivial, trivial⟩ ?_
                          refine rt_ hX (G := True) (r := some (.int 1)) rfl trivial ?_
                          exact k _
                      ·
                        refine br (fun b28 => ?_) (fun b28 => ?_)
                        ·
                          refine go hX 2 (gs := [True, True]) (z' := (if x = 0 then 201 else 205, [some (.int c), some (.int x), some (.int y)], [], h)) rfl ⟨trivial, trivial, trivial⟩ ?_
                          refine br (fun b29 => ?_) (fun b29 => ?_)
                          ·
                            refine go hX 2 (gs := [True, True]) (z' := (if y = 0 then 209 else 205, [some (.int c), some (.int x), some (.int y)], [], h)) rfl ⟨trivial, trivial, trivial⟩ ?_
                            refine br (fun b30 => ?_) (fun b30 => ?_)
                            ·
                              refine go hX 1 (gs := [True]) (z' := (210, [some (.int c), some (.int x), some (.int y)], [.int 0], h)) rfl ⟨trivial, trivial⟩ ?_
                              refine rt_ hX (G := True) (r := some (.int 0)) rfl trivial ?_
                              exact k _
                            ·
                              refine go hX 2 (gs := [True, True]) (z' := (210, [some (.int c), some (.int x), some (.int y)], [.int 1], h)) rfl ⟨trivial, trivial, trivial⟩ ?_
                              refine rt_ hX (G := True) (r := some (.int 1)) rfl trivial ?_
                              exact k _
                          ·
                            refine go hX 2 (gs := [True, True]) (z' := (210, [some (.int c), some (.int x), some (.int y)], [.int 1], h)) rfl ⟨trivial, trivial, trivial⟩ ?_
                            refine rt_ hX (G := True) (r := some (.int 1)) rfl trivial ?_
                            exact k _
                        ·
                          refine br (fun b31 => ?_) (fun b31 => ?_)
                          ·
                            refine go hX 2 (gs := [True, True]) (z' := (if x = 0 then 201 else 205, [some (.int c), some (.int x), some (.int y)], [], h)) rfl ⟨trivial, trivial, trivial⟩ ?_
                            refine br (fun b32 => ?_) (fun b32 => ?_)
                            ·
                              refine go hX 2 (gs := [True, True]) (z' := (if y = 0 then 209 else 205, [some (.int c), some (.int x), some (.int y)], [], h)) rfl ⟨trivial, trivial, trivial⟩ ?_
                              refine br (fun b33 => ?_) (fun b33 => ?_)
                              ·
                                refine go hX 1 (gs := [True]) (z' := (210, [some (.int c), some (.int x), some (.int y)], [.int 0], h)) rfl ⟨trivial, trivial⟩ ?_
                                refine rt_ hX (G := True) (r := some (.int 0)) rfl trivial ?_
                                exact k _
                              ·
                                refine go hX 2 (gs := [True, True]) (z' := (210, [some (.int c), some (.int x), some (.int y)], [.int 1], h)) rfl ⟨trivial, trivial, trivial⟩ ?_
                                refine rt_ hX (G := True) (r := some (.int 1)) rfl trivial ?_
                                exact k _
                            ·
                              refine go hX 2 (gs := [True, True]) (z' := (210, [some (.int c), some (.int x), some (.int y)], [.int 1], h)) rfl ⟨trivial, trivial, trivial⟩ ?_
                              refine rt_ hX (G := True) (r := some (.int 1)) rfl trivial ?_
                              exact k _
                          ·
                            refine br (fun b34 => ?_) (fun b34 => ?_)
                            ·
                              refine go hX 2 (gs := [True, True]) (z' := (if x = 0 then 201 else 205, [some (.int c), some (.int x), some (.int y)], [], h)) rfl ⟨trivial, trivial, trivial⟩ ?_
                              refine br (fun b35 => ?_) (fun b35 => ?_)
                              ·
                                refine go hX 2 (gs := [True, True]) (z' := (if y = 0 then 209 else 205, [some (.int c), some (.int x), some (.int y)], [], h)) rfl ⟨trivial, trivial, trivial⟩ ?_
                                refine br (fun b36 => ?_) (fun b36 => ?_)
                                ·
                                  refine go hX 1 (gs := [True]) (z' := (210, [some (.int c), some (.int x), some (.int y)], [.int 0], h)) rfl ⟨trivial, trivial⟩ ?_
                                  refine rt_ hX (G := True) (r := some (.int 0)) rfl trivial ?_
                                  exact k _
                                ·
                                  refine go hX 2 (gs := [True, True]) (z' := (210, [some (.int c), some (.int x), some (.int y)], [.int 1], h)) rfl ⟨trivial, trivial, trivial⟩ ?_
                                  refine rt_ hX (G := True) (r := some (.int 1)) rfl trivial ?_
                                  exact k _
                              ·
                                refine go hX 2 (gs := [True, True]) (z' := (210, [some (.int c), some (.int x), some (.int y)], [.int 1], h)) rfl ⟨trivial, trivial, trivial⟩ ?_
                                refine rt_ hX (G := True) (r := some (.int 1)) rfl trivial ?_
                                exact k _
                            ·
                              refine br (fun b37 => ?_) (fun b37 => ?_)
                              ·
                                refine go hX 2 (gs := [True, True]) (z' := (if x = 0 then 201 else 205, [some (.int c), some (.int x), some (.int y)], [], h)) rfl ⟨trivial, trivial, trivial⟩ ?_
                                refine br (fun b38 => ?_) (fun b38 => ?_)
                                ·
                                  refine go hX 2 (gs := [True, True]) (z' := (if y = 0 then 209 else 205, [some (.int c), some (.int x), some (.int y)], [], h)) rfl ⟨trivial, trivial, trivial⟩ ?_
                                  refine br (fun b39 => ?_) (fun b39 => ?_)
                                  ·
                                    refine go hX 1 (gs := [True]) (z' := (210, [some (.int c), some (.int x), some (.int y)], [.int 0], h)) rfl ⟨trivial, trivial⟩ ?_
                                    refine rt_ hX (G := True) (r := some (.int 0)) rfl trivial ?_
                                    exact k _
                                  ·
                                    refine go hX 2 (gs := [True, True]) (z' := (210, [some (.int c), some (.int x), some (.int y)], [.int 1], h)) rfl ⟨trivial, trivial, trivial⟩ ?_
                                    refine rt_ hX (G := True) (r := some (.int 1)) rfl trivial ?_
                                    exact k _
                                ·
                                  refine go hX 2 (gs := [True, True]) (z' := (210, [some (.int c), some (.int x), some (.int y)], [.int 1], h)) rfl ⟨trivial, trivial, trivial⟩ ?_
                                  refine rt_ hX (G := True) (r := some (.int 1)) rfl trivial ?_
                                  exact k _
                              ·
                                refine br (fun b40 => ?_) (fun b40 => ?_)
                                ·
                                  refine go hX 2 (gs := [True, True]) (z' := (if x = 0 then 201 else 205, [some (.int c), some (.int x), some (.int y)], [], h)) rfl ⟨trivial, trivial, trivial⟩ ?_
                                  refine br (fun b41 => ?_) (fun b41 => ?_)
                                  ·
                                    refine go hX 2 (gs := [True, True]) (z' := (if y = 0 then 209 else 205, [some (.int c), some (.int x), some (.int y)], [], h)) rfl ⟨trivial, trivial, trivial⟩ ?_
                                    refine br (fun b42 => ?_) (fun b42 => ?_)
                                    ·
                                      refine go hX 1 (gs := [True]) (z' := (210, [some (.int c), some (.int x), some (.int y)], [.int 0], h)) rfl ⟨trivial, trivial⟩ ?_
                                      refine rt_ hX (G := True) (r := some (.int 0)) rfl trivial ?_
                                      exact k _
                                    ·
                                      refine go hX 2 (gs := [True, True]) (z' := (210, [some (.int c), some (.int x), some (.int y)], [.int 1], h)) rfl ⟨trivial, trivial, trivial⟩ ?_
                                      refine rt_ hX (G := True) (r := some (.int 1)) rfl trivial ?_
                                      exact k _
                                  ·
                                    refine go hX 2 (gs := [True, True]) (z' := (210, [some (.int c), some (.int x), some (.int y)], [.int 1], h)) rfl ⟨trivial, trivial, trivial⟩ ?_
                                    refine rt_ hX (G := True) (r := some (.int 1)) rfl trivial ?_
                                    exact k _
                                ·
                                  refine br (fun b43 => ?_) (fun b43 => ?_)
                                  ·
                                    refine go hX 2 (gs := [True, True]) (z' := (if x = 0 then 201 else 205, [some (.int c), some (.int x), some (.int y)], [], h)) rfl ⟨trivial, trivial, trivial⟩ ?_
                                    refine br (fun b44 => ?_) (fun b44 => ?_)
                                    ·
                                      refine go hX 2 (gs := [True, True]) (z' := (if y = 0 then 209 else 205, [some (.int c), some (.int x), some (.int y)], [], h)) rfl ⟨trivial, trivial, trivial⟩ ?_
                                      refine br (fun b45 => ?_) (fun b45 => ?_)
                                      ·
                                        refine go hX 1 (gs := [True]) (z' := (210, [some (.int c), some (.int x), some (.int y)], [.int 0], h)) rfl ⟨trivial, trivial⟩ ?_
                                        refine rt_ hX (G := True) (r := some (.int 0)) rfl trivial ?_
                                        exact k _
                                      ·
                                        refine go hX 2 (gs := [True, True]) (z' := (210, [some (.int c), some (.int x), some (.int y)], [.int 1], h)) rfl ⟨trivial, trivial, trivial⟩ ?_
                                        refine rt_ hX (G := True) (r := some (.int 1)) rfl trivial ?_
                                        exact k _
                                    ·
                                      refine go hX 2 (gs := [True, True]) (z' := (210, [some (.int c), some (.int x), some (.int y)], [.int 1], h)) rfl ⟨trivial, trivial, trivial⟩ ?_
                                      refine rt_ hX (G := True) (r := some (.int 1)) rfl trivial ?_
                                      exact k _
                                  ·
                                    refine br (fun b46 => ?_) (fun b46 => ?_)
                                    ·
                                      refine go hX 2 (gs := [True, True]) (z' := (if x = 0 then 201 else 205, [some (.int c), some (.int x), some (.int y)], [], h)) rfl ⟨trivial, trivial, trivial⟩ ?_
                                      refine br (fun b47 => ?_) (fun b47 => ?_)
                                      ·
                                        refine go hX 2 (gs := [True, True]) (z' := (if y = 0 then 209 else 205, [some (.int c), some (.int x), some (.int y)], [], h)) rfl ⟨trivial, trivial, trivial⟩ ?_
                                        refine br (fun b48 => ?_) (fun b48 => ?_)
                                        ·
                                          refine go hX 1 (gs := [True]) (z' := (210, [some (.int c), some (.int x), some (.int y)], [.int 0], h)) rfl ⟨trivial, trivial⟩ ?_
                                          refine rt_ hX (G := True) (r := some (.int 0)) rfl trivial ?_
                                          exact k _
                                        ·
                                          refine go hX 2 (gs := [True, True]) (z' := (210, [some (.int c), some (.int x), some (.int y)], [.int 1], h)) rfl ⟨trivial, trivial, trivial⟩ ?_
                                          refine rt_ hX (G := True) (r := some (.int 1)) rfl trivial ?_
                                          exact k _
                                      ·
                                        refine go hX 2 (gs := [True, True]) (z' := (210, [some (.int c), some (.int x), some (.int y)], [.int 1], h)) rfl ⟨trivial, trivial, trivial⟩ ?_
                                        refine rt_ hX (G := True) (r := some (.int 1)) rfl trivial ?_
                                        exact k _
                                    ·
                                      refine br (fun b49 => ?_) (fun b49 => ?_)
                                      ·
                                        refine go hX 2 (gs := [True, True]) (z' := (if x = 0 then 201 else 205, [some (.int c), some (.int x), some (.int y)], [], h)) rfl ⟨trivial, trivial, trivial⟩ ?_
                                        refine br (fun b50 => ?_) (fun b50 => ?_)
                                        ·
                                          refine go hX 2 (gs := [True, True]) (z' := (if y = 0 then 209 else 205, [some (.int c), some (.int x), some (.int y)], [], h)) rfl ⟨trivial, trivial, trivial⟩ ?_
                                          refine br (fun b51 => ?_) (fun b51 => ?_)
                                          ·
                                            refine go hX 1 (gs := [True]) (z' := (210, [some (.int c), some (.int x), some (.int y)], [.int 0], h)) rfl ⟨trivial, trivial⟩ ?_
                                            refine rt_ hX (G := True) (r := some (.int 0)) rfl trivial ?_
                                            exact k _
                                          ·
                                            refine go hX 2 (gs := [True, True]) (z' := (210, [some (.int c), some (.int x), some (.int y)], [.int 1], h)) rfl ⟨trivial, trivial, trivial⟩ ?_
                                            refine rt_ hX (G := True) (r := some (.int 1)) rfl trivial ?_
                                            exact k _
                                        ·
                                          refine go hX 2 (gs := [True, True]) (z' := (210, [some (.int c), some (.int x), some (.int y)], [.int 1], h)) rfl ⟨trivial, trivial, trivial⟩ ?_
                                          refine rt_ hX (G := True) (r := some (.int 1)) rfl trivial ?_
                                          exact k _
                                      ·
                                        refine br (fun b52 => ?_) (fun b52 => ?_)
                                        ·
                                          refine go hX 2 (gs := [True, True]) (z' := (if x = 0 then 201 else 205, [some (.int c), some (.int x), some (.int y)], [], h)) rfl ⟨trivial, trivial, trivial⟩ ?_
                                          refine br (fun b53 => ?_) (fun b53 => ?_)
                                          ·
                                            refine go hX 2 (gs := [True, True]) (z' := (if y = 0 then 209 else 205, [some (.int c), some (.int x), some (.int y)], [], h)) rfl ⟨trivial, trivial, trivial⟩ ?_
                                            refine br (fun b54 => ?_) (fun b54 => ?_)
                                            ·
                                              refine go hX 1 (gs := [True]) (z' := (210, [some (.int c), some (.int x), some (.int y)], [.int 0], h)) rfl ⟨trivial, trivial⟩ ?_
                                              refine rt_ hX (G := True) (r := some (.int 0)) rfl trivial ?_
                                              exact k _
                                            ·
                                              refine go hX 2 (gs := [True, True]) (z' := (210, [some (.int c), some (.int x), some (.int y)], [.int 1], h)) rfl ⟨trivial, trivial, trivial⟩ ?_
                                              refine rt_ hX (G := True) (r := some (.int 1)) rfl trivial ?_
                                              exact k _
                                          ·
                                            refine go hX 2 (gs := [True, True]) (z' := (210, [some (.int c), some (.int x), some (.int y)], [.int 1], h)) rfl ⟨trivial, trivial, trivial⟩ ?_
                                            refine rt_ hX (G := True) (r := some (.int 1)) rfl trivial ?_
                                            exact k _
                                        ·
                                          refine br (fun b55 => ?_) (fun b55 => ?_)
                                          ·
                                            refine go hX 2 (gs := [True, True]) (z' := (if x = 0 then 201 else 205, [some (.int c), some (.int x), some (.int y)], [], h)) rfl ⟨trivial, trivial, trivial⟩ ?_
                                            refine br (fun b56 => ?_) (fun b56 => ?_)
                                            ·
                                              refine go hX 2 (gs := [True, True]) (z' := (if y = 0 then 209 else 205, [some (.int c), some (.int x), some (.int y)], [], h)) rfl ⟨trivial, trivial, trivial⟩ ?_
                                              refine br (fun b57 => ?_) (fun b57 => ?_)
                                              ·
                                                refine go hX 1 (gs := [True]) (z' := (210, [some (.int c), some (.int x), some (.int y)], [.int 0], h)) rfl ⟨trivial, trivial⟩ ?_
                                                refine rt_ hX (G := True) (r := some (.int 0)) rfl trivial ?_
                                                exact k _
                                              ·
                                                refine go hX 2 (gs := [True, True]) (z' := (210, [some (.int c), some (.int x), some (.int y)], [.int 1], h)) rfl ⟨trivial, trivial, trivial⟩ ?_
                                                refine rt_ hX (G := True) (r := some (.int 1)) rfl trivial ?_
                                                exact k _
                                            ·
                                              refine go hX 2 (gs := [True, True]) (z' := (210, [some (.int c), some (.int x), some (.int y)], [.int 1], h)) rfl ⟨trivial, trivial, trivial⟩ ?_
                                              refine rt_ hX (G := True) (r := some (.int 1)) rfl trivial ?_
                                              exact k _
                                          ·
                                            refine br (fun b58 => ?_) (fun b58 => ?_)
                                            ·
                                              refine go hX 2 (gs := [True, True]) (z' := (if x = 0 then 201 else 205, [some (.int c), some (.int x), some (.int y)], [], h)) rfl ⟨trivial, trivial, trivial⟩ ?_
                                              refine br (fun b59 => ?_) (fun b59 => ?_)
                                              ·
                                                refine go hX 2 (gs := [True, True]) (z' := (if y = 0 then 209 else 205, [some (.int c), some (.int x), some (.int y)], [], h)) rfl ⟨trivial, trivial, trivial⟩ ?_
                                                refine br (fun b60 => ?_) (fun b60 => ?_)
                                                ·
                                                  refine go hX 1 (gs := [True]) (z' := (210, [some (.int c), some (.int x), some (.int y)], [.int 0], h)) rfl ⟨trivial, trivial⟩ ?_
                                                  refine rt_ hX (G := True) (r := some (.int 0)) rfl trivial ?_
                                                  exact k _
                                                ·
                                                  refine go hX 2 (gs := [True, True]) (z' := (210, [some (.int c), some (.int x), some (.int y)], [.int 1], h)) rfl ⟨trivial, trivial, trivial⟩ ?_
                                                  refine rt_ hX (G := True) (r := some (.int 1)) rfl trivial ?_
                                                  exact k _
                                              ·
                                                refine go hX 2 (gs := [True, True]) (z' := (210, [some (.int c), some (.int x), some (.int y)], [.int 1], h)) rfl ⟨trivial, trivial, trivial⟩ ?_
                                                refine rt_ hX (G := True) (r := some (.int 1)) rfl trivial ?_
                                                exact k _
                                            ·
                                              refine br (fun b61 => ?_) (fun b61 => ?_)
                                              ·
                                                refine go hX 3 (gs := [True, True, True]) (z' := (if y ≤ x then 159 else 155, [some (.int c), some (.int x), some (.int y)], [], h)) rfl ⟨trivial, trivial, trivial, trivial⟩ ?_
                                                refine br (fun b62 => ?_) (fun b62 => ?_)
                                                ·
                                                  refine go hX 1 (gs := [True]) (z' := (160, [some (.int c), some (.int x), some (.int y)], [.int 0], h)) rfl ⟨trivial, trivial⟩ ?_
                                                  refine rt_ hX (G := True) (r := some (.int 0)) rfl trivial ?_
                                                  exact k _
                                                ·
                                                  refine go hX 2 (gs := [True, True]) (z' := (160, [some (.int c), some (.int x), some (.int y)], [.int 1], h)) rfl ⟨trivial, trivial, trivial⟩ ?_
                                                  refine rt_ hX (G := True) (r := some (.int 1)) rfl trivial ?_
                                                  exact k _
                                              ·
                                                refine br (fun b63 => ?_) (fun b63 => ?_)
                                                ·
                                                  refine go hX 3 (gs := [True, True, True]) (z' := (if x = y then 177 else 181, [some (.int c), some (.int x), some (.int y)], [], h)) rfl ⟨trivial, trivial, trivial, trivial⟩ ?_
                                                  refine br (fun b64 => ?_) (fun b64 => ?_)
                                                  ·
                                                    refine go hX 2 (gs := [True, True]) (z' := (182, [some (.int c), some (.int x), some (.int y)], [.int 1], h)) rfl ⟨trivial, trivial, trivial⟩ ?_
                                                    refine rt_ hX (G := True) (r := some (.int 1)) rfl trivial ?_
                                                    exact k _
                                                  ·
                                                    refine go hX 1 (gs := [True]) (z' := (182, [some (.int c), some (.int x), some (.int y)], [.int 0], h)) rfl ⟨trivial, trivial⟩ ?_
                                                    refine rt_ hX (G := True) (r := some (.int 0)) rfl trivial ?_
                                                    exact k _
                                                ·
                                                  refine br (fun b65 => ?_) (fun b65 => ?_)
                                                  ·
                                                    refine go hX 3 (gs := [True, True, True]) (z' := (if x ≤ y then 170 else 166, [some (.int c), some (.int x), some (.int y)], [], h)) rfl ⟨trivial, trivial, trivial, trivial⟩ ?_
                                                    refine br (fun b66 => ?_) (fun b66 => ?_)
                                                    ·
                                                      refine go hX 1 (gs := [True]) (z' := (171, [some (.int c), some (.int x), some (.int y)], [.int 0], h)) rfl ⟨trivial, trivial⟩ ?_
                                                      refine rt_ hX (G := True) (r := some (.int 0)) rfl trivial ?_
                                                      exact k _
                                                    ·
                                                      refine go hX 2 (gs := [True, True]) (z' := (171, [some (.int c), some (.int x), some (.int y)], [.int 1], h)) rfl ⟨trivial, trivial, trivial⟩ ?_
                                                      refine rt_ hX (G := True) (r := some (.int 1)) rfl trivial ?_
                                                      exact k _
                                                  ·
                                                    refine go hX 2 (gs := [True, True]) (z' := (if x = 0 then 201 else 205, [some (.int c), some (.int x), some (.int y)], [], h)) rfl ⟨trivial, trivial, trivial⟩ ?_
                                                    refine br (fun b67 => ?_) (fun b67 => ?_)
                                                    ·
                                                      refine go hX 2 (gs := [True, True]) (z' := (if y = 0 then 209 else 205, [some (.int c), some (.int x), some (.int y)], [], h)) rfl ⟨trivial, trivial, trivial⟩ ?_
                                                      refine br (fun b68 => ?_) (fun b68 => ?_)
                                                      ·
                                                        refine go hX 1 (gs := [True]) (z' := (210, [some (.int c), some (.int x), some (.int y)], [.int 0], h)) rfl ⟨trivial, trivial⟩ ?_
                                                        refine rt_ hX (G := True) (r := some (.int 0)) rfl trivial ?_
                                                        exact k _
                                                      ·
                                                        refine go hX 2 (gs := [True, True]) (z' := (210, [some (.int c), some (.int x), some (.int y)], [.int 1], h)) rfl ⟨trivial, trivial, trivial⟩ ?_
                                                        refine rt_ hX (G := True) (r := some (.int 1)) rfl trivial ?_
                                                        exact k _
                                                    ·
                                                      refine go hX 2 (gs := [True, True]) (z' := (210, [some (.int c), some (.int x), some (.int y)], [.int 1], h)) rfl ⟨trivial, trivial, trivial⟩ ?_
                                                      refine rt_ hX (G := True) (r := some (.int 1)) rfl trivial ?_
                                                      exact k _
/-- all but the pile is as it was -/
noncomputable def fr80 (h h1 : Hp) : Prop := (∀ o (j : Int32), ¬ (o = 80 ∧ 0 ≤ j.toInt ∧ j.toInt ≤ 99) → h1.1 o j = h.1 o j) ∧ h1.2 = h.2
theorem fr80_st {h h1 : Hp} {i v : Int32} (f : fr80 h h1) (hi : ibd i 100) : fr80 h (hI h1 80 i v) := by
  refine ⟨fun o j hn => ?_, f.2⟩
  have h0 := hi.1
  have h2 : i < (100 : Int32) := hi.2
  rw [Int32.le_iff_toInt_le] at h0
  rw [Int32.lt_iff_toInt_lt] at h2
  have c0 : (0 : Int32).toInt = 0 := rfl
  have c1 : (100 : Int32).toInt = 100 := rfl
  show (if o = 80 ∧ j = i then v else h1.1 o j) = _
  rw [if_neg (fun hz => hn ⟨hz.1, by rw [hz.2]; omega, by rw [hz.2]; omega⟩)]
  exact f.1 o j hn
theorem fr80_66 {h h1 : Hp} (f : fr80 h h1) (j : Int32) : h1.1 66 j = h.1 66 j := f.1 66 j (fun hz => absurd hz.1 (by decide))
theorem c_worked {d : Nat} {Q : Option Value → Hp → Prop} {h : Hp} {t : Int32} {dp : Int32 → Int32} (t0 : 0 ≤ t) (t1 : t < 12) (l0 : 0 ≤ h.1 66 ((600 + (200 * t)) + 3)) (l1 : h.1 66 ((600 + (200 * t)) + 3) ≤ 96) (d0 : dp 0 = 0) (F : ∀ k : Int32, 0 ≤ k → k < h.1 66 ((600 + (200 * t)) + 3) → 0 ≤ dp k ∧ dp k ≤ 95 ∧ (¬ h.1 66 (((600 + (200 * t)) + 4) + (2 * k)) = 2 → dp (k + 1) = dp k + 1 ∧ (¬ h.1 66 (((600 + (200 * t)) + 4) + (2 * k)) = 0 → 0 ≤ h.1 66 ((((600 + (200 * t)) + 4) + (2 * k)) + 1) ∧ h.1 66 ((((600 + (200 * t)) + 4) + (2 * k)) + 1) < 128)) ∧ (h.1 66 (((600 + (200 * t)) + 4) + (2 * k)) = 2 → (h.1 66 ((((600 + (200 * t)) + 4) + (2 * k)) + 1) = 33 → 1 ≤ dp k ∧ dp (k + 1) = dp k) ∧ (¬ h.1 66 ((((600 + (200 * t)) + 4) + (2 * k)) + 1) = 33 → 2 ≤ dp k ∧ dp (k + 1) = dp k - 1))) (kk : ∀ r h', fr80 h h' → Q (some (.int r)) h') : Call (d + 3) 230 [.ref 65, .int t] h Q := by
  refine call_of (rfl : psM[230]? = some _) rfl rfl (rcvV rfl) (fun X hX => ?_)
  show X (0, [some (.ref 65), some (.int t), none, none, none, none], [], h)
  have key : ∀ k : Int32, 0 ≤ k → k ≤ h.1 66 ((600 + (200 * t)) + 3) → ∀ (n : Int32) (a4 a5 : Option Value) (h1 : Hp), fr80 h h1 → n = dp k → ((a4 = none ∧ a5 = none) ∨ ∃ x4 x5 : Int32, a4 = some (.int x4) ∧ a5 = some (.int x5)) → X (4, [some (.ref 65), some (.int t), some (.int n), some (.int k), a4, a5], [], h1) := by
    refine up_ind _ (fun k k0 k1 ih n a4 a5 h1 fr hn h45 => ?_)
    have e66 := fr80_66 fr
    have F := F k k0
    have eL := e66 ((600 + (200 * t)) + 3)
    have eW := e66 (((600 + (200 * t)) + 4) + (2 * k))
    have eV := e66 ((((600 + (200 * t)) + 4) + (2 * k)) + 1)
    rcases h45 with ⟨rfl, rfl⟩ | ⟨x4, x5, rfl, rfl⟩
    ·
      refine go hX 5 (gs := [True, True, True, True, True]) (z' := (11, [some (.ref 65), some (.int t), some (.int n), some (.int k), none, none], [.int t, .ref 65, .ref 66, .int k], h1)) rfl ⟨trivial, trivial, trivial, trivial, trivial, trivial⟩ ?_
      refine cl hX 166 2 [.ref 65, .int t] [.ref 66, .int k] rfl rfl rfl rfl ?_
      refine c_textAt ?_
      show X (14, [some (.ref 65), some (.int t), some (.int n), some (.int k), none, none], [.int (600 + (200 * t)), .ref 66, .int k], h1)
      refine go hX 4 (gs := [True, ibd ((600 + (200 * t)) + 3) 3400, True, True]) (z' := (if (h1.1 66 ((600 + (200 * t)) + 3)) ≤ k then 163 else 20, [some (.ref 65), some (.int t), some (.int n), some (.int k), none, none], [], h1)) rfl ⟨trivial, ?_, trivial, trivial, trivial⟩ ?_
      · exact ibd_of (B := 3400) rfl (by grind) (by grind)
      refine br (fun b1 => ?_) (fun b1 => ?_)
      ·
        refine go hX 4 (gs := [ibd 0 100, True, True, True]) (z' := (169, [some (.ref 65), some (.int t), some (.int n), some (.int k), none, none], [.int (h1.1 80 0)], h1)) rfl ⟨?_, trivial, trivial, trivial, trivial⟩ ?_
        · exact ibd_of (B := 100) rfl (by grind) (by grind)
        refine rt_ hX (G := True) (r := some (.int (h1.1 80 0))) rfl trivial ?_
        exact kk _ _ fr
      ·
        refine go hX 4 (gs := [True, True, True, True]) (z' := (26, [some (.ref 65), some (.int t), some (.int n), some (.int k), none, none], [.int t, .ref 65, .ref 66], h1)) rfl ⟨trivial, trivial, trivial, trivial, trivial⟩ ?_
        refine cl hX 166 2 [.ref 65, .int t] [.ref 66] rfl rfl rfl rfl ?_
        refine c_textAt ?_
        show X (29, [some (.ref 65), some (.int t), some (.int n), some (.int k), none, none], [.int (600 + (200 * t)), .ref 66], h1)
        refine go hX 12 (gs := [True, True, True, True, True, ibd (((600 + (200 * t)) + 4) + (2 * k)) 3400, True, True, True, True, True, True]) (z' := (44, [some (.ref 65), some (.int t), some (.int n), some (.int k), some (.int (h1.1 66 (((600 + (200 * t)) + 4) + (2 * k)))), none], [.int t, .ref 65, .ref 66], h1)) rfl ⟨trivial, trivial, trivial, trivial, trivial, ?_, trivial, trivial, trivial, trivial, trivial, trivial, trivial⟩ ?_
        · exact ibd_of (B := 3400) rfl (by grind) (by grind)
        refine cl hX 166 2 [.ref 65, .int t] [.ref 66] rfl rfl rfl rfl ?_
        refine c_textAt ?_
        show X (47, [some (.ref 65), some (.int t), some (.int n), some (.int k), some (.int (h1.1 66 (((600 + (200 * t)) + 4) + (2 * k)))), none], [.int (600 + (200 * t)), .ref 66], h1)
        refine go hX 13 (gs := [True, True, True, True, ibd ((((600 + (200 * t)) + 4) + (2 * k)) + 1) 3400, True, True, True, True, True, True, True, True]) (z' := (if (h1.1 66 (((600 + (200 * t)) + 4) + (2 * k))) = 2 then 93 else 64, [some (.ref 65), some (.int t), some (.int n), some (.int k), some (.int (h1.1 66 (((600 + (200 * t)) + 4) + (2 * k)))), some (.int (h1.1 66 ((((600 + (200 * t)) + 4) + (2 * k)) + 1)))], [], h1)) rfl ⟨trivial, trivial, trivial, trivial, ?_, trivial, trivial, trivial, trivial, trivial, trivial, trivial, trivial, trivial⟩ ?_
        · exact ibd_of (B := 3400) rfl (by grind) (by grind)
        refine br (fun b2 => ?_) (fun b2 => ?_)
        ·
          refine go hX 3 (gs := [True, True, True]) (z' := (if (h1.1 66 ((((600 + (200 * t)) + 4) + (2 * k)) + 1)) = 33 then 100 else 127, [some (.ref 65), some (.int t), some (.int n), some (.int k), some (.int (h1.1 66 (((600 + (200 * t)) + 4) + (2 * k)))), some (.int (h1.1 66 ((((600 + (200 * t)) + 4) + (2 * k)) + 1)))], [], h1)) rfl ⟨trivial, trivial, trivial, trivial⟩ ?_
          refine br (fun b3 => ?_) (fun b3 => ?_)
          ·
            refine go hX 12 (gs := [True, ibd (n - 1) 100, True, True, True, True, True, True, True, True, True, True]) (z' := (if (h1.1 80 (n - 1)) = 0 then 118 else 122, [some (.ref 65), some (.int t), some (.int n), some (.int k), some (.int (h1.1 66 (((600 + (200 * t)) + 4) + (2 * k)))), some (.int (h1.1 66 ((((600 + (200 * t)) + 4) + (2 * k)) + 1)))], [.int (n - 1), .ref 80], h1)) rfl ⟨trivial, ?_, trivial, trivial, trivial, trivial, trivial, trivial, trivial, trivial, trivial, trivial, trivial⟩ ?_
            · exact ibd_of (B := 100) rfl (by grind) (by grind)
            refine br (fun b4 => ?_) (fun b4 => ?_)
            ·
              refine go hX 6 (gs := [True, True, True, ibd (n - 1) 100, True, True]) (z' := (4, [some (.ref 65), some (.int t), some (.int n), some (.int (k + 1)), some (.int (h1.1 66 (((600 + (200 * t)) + 4) + (2 * k)))), some (.int (h1.1 66 ((((600 + (200 * t)) + 4) + (2 * k)) + 1)))], [], (hI h1 80 (n - 1) 1))) rfl ⟨trivial, trivial, trivial, ?_, trivial, trivial, trivial⟩ ?_
              · exact ibd_of (B := 100) rfl (by grind) (by grind)
              exact ih (by grind) _ _ _ _ (fr80_st fr (ibd_of (B := 100) rfl (by grind) (by grind))) (by grind) (Or.inr ⟨_, _, rfl, rfl⟩)
            ·
              refine go hX 5 (gs := [True, True, True, ibd (n - 1) 100, True]) (z' := (4, [some (.ref 65), some (.int t), some (.int n), some (.int (k + 1)), some (.int (h1.1 66 (((600 + (200 * t)) + 4) + (2 * k)))), some (.int (h1.1 66 ((((600 + (200 * t)) + 4) + (2 * k)) + 1)))], [], (hI h1 80 (n - 1) 0))) rfl ⟨trivial, trivial, trivial, ?_, trivial, trivial⟩ ?_
              · exact ibd_of (B := 100) rfl (by grind) (by grind)
              exact ih (by grind) _ _ _ _ (fr80_st fr (ibd_of (B := 100) rfl (by grind) (by grind))) (by grind) (Or.inr ⟨_, _, rfl, rfl⟩)
          ·
            refine go hX 17 (gs := [ibd (n + (-1)) 100, True, True, True, ibd ((n + (-1)) - 1) 100, True, True, True, True, True, True, True, True, True, True, True, True]) (z' := (153, [some (.ref 65), some (.int t), some (.int (n + (-1))), some (.int k), some (.int (h1.1 66 (((600 + (200 * t)) + 4) + (2 * k)))), some (.int (h1.1 66 ((((600 + (200 * t)) + 4) + (2 * k)) + 1)))], [.int (h1.1 80 (n + (-1))), .int (h1.1 80 ((n + (-1)) - 1)), .int (h1.1 66 ((((600 + (200 * t)) + 4) + (2 * k)) + 1)), .int ((n + (-1)) - 1), .ref 80], h1)) rfl ⟨?_, trivial, trivial, trivial, ?_, trivial, trivial, trivial, trivial, trivial, trivial, trivial, trivial, trivial, trivial, trivial, trivial, trivial⟩ ?_
            · exact ibd_of (B := 100) rfl (by grind) (by grind)
            · exact ibd_of (B := 100) rfl (by grind) (by grind)
            refine cl hX 229 3 [.int (h1.1 66 ((((600 + (200 * t)) + 4) + (2 * k)) + 1)), .int (h1.1 80 ((n + (-1)) - 1)), .int (h1.1 80 (n + (-1)))] [.int ((n + (-1)) - 1), .ref 80] rfl rfl rfl rfl ?_
            refine c_joined (fun jr => ?_)
            show X (156, [some (.ref 65), some (.int t), some (.int (n + (-1))), some (.int k), some (.int (h1.1 66 (((600 + (200 * t)) + 4) + (2 * k)))), some (.int (h1.1 66 ((((600 + (200 * t)) + 4) + (2 * k)) + 1)))], [.int jr, .int ((n + (-1)) - 1), .ref 80], h1)
            refine go hX 3 (gs := [True, True, ibd ((n + (-1)) - 1) 100]) (z' := (4, [some (.ref 65), some (.int t), some (.int (n + (-1))), some (.int (k + 1)), some (.int (h1.1 66 (((600 + (200 * t)) + 4) + (2 * k)))), some (.int (h1.1 66 ((((600 + (200 * t)) + 4) + (2 * k)) + 1)))], [], (hI h1 80 ((n + (-1)) - 1) jr))) rfl ⟨trivial, trivial, ?_, trivial⟩ ?_
            · exact ibd_of (B := 100) rfl (by grind) (by grind)
            exact ih (by grind) _ _ _ _ (fr80_st fr (ibd_of (B := 100) rfl (by grind) (by grind))) (by grind) (Or.inr ⟨_, _, rfl, rfl⟩)
        ·
          refine go hX 5 (gs := [True, True, True, True, True]) (z' := (if (h1.1 66 (((600 + (200 * t)) + 4) + (2 * k))) = 0 then 74 else 79, [some (.ref 65), some (.int t), some (.int n), some (.int k), some (.int (h1.1 66 (((600 + (200 * t)) + 4) + (2 * k)))), some (.int (h1.1 66 ((((600 + (200 * t)) + 4) + (2 * k)) + 1)))], [.int n, .ref 80], h1)) rfl ⟨trivial, trivial, trivial, trivial, trivial, trivial⟩ ?_
          refine br (fun b5 => ?_) (fun b5 => ?_)
          ·
            refine go hX 7 (gs := [True, True, True, True, ibd n 100, True, True]) (z' := (4, [some (.ref 65), some (.int t), some (.int (n + 1)), some (.int (k + 1)), some (.int (h1.1 66 (((600 + (200 * t)) + 4) + (2 * k)))), some (.int (h1.1 66 ((((600 + (200 * t)) + 4) + (2 * k)) + 1)))], [], (hI h1 80 n (h1.1 66 ((((600 + (200 * t)) + 4) + (2 * k)) + 1))))) rfl ⟨trivial, trivial, trivial, trivial, ?_, trivial, trivial, trivial⟩ ?_
            · exact ibd_of (B := 100) rfl (by grind) (by grind)
            exact ih (by grind) _ _ _ _ (fr80_st fr (ibd_of (B := 100) rfl (by grind) (by grind))) (by grind) (Or.inr ⟨_, _, rfl, rfl⟩)
          ·
            refine go hX 9 (gs := [True, True, True, True, ibd n 100, ibd (h1.1 66 ((((600 + (200 * t)) + 4) + (2 * k)) + 1)) 128, True, True, True]) (z' := (4, [some (.ref 65), some (.int t), some (.int (n + 1)), some (.int (k + 1)), some (.int (h1.1 66 (((600 + (200 * t)) + 4) + (2 * k)))), some (.int (h1.1 66 ((((600 + (200 * t)) + 4) + (2 * k)) + 1)))], [], (hI h1 80 n (h1.1 79 (h1.1 66 ((((600 + (200 * t)) + 4) + (2 * k)) + 1)))))) rfl ⟨trivial, trivial, trivial, trivial, ?_, ?_, trivial, trivial, trivial, trivial⟩ ?_
            · exact ibd_of (B := 100) rfl (by grind) (by grind)
            · exact ibd_of (B := 128) rfl (by grind) (by grind)
            exact ih (by grind) _ _ _ _ (fr80_st fr (ibd_of (B := 100) rfl (by grind) (by grind))) (by grind) (Or.inr ⟨_, _, rfl, rfl⟩)
    ·
      refine go hX 5 (gs := [True, True, True, True, True]) (z' := (11, [some (.ref 65), some (.int t), some (.int n), some (.int k), some (.int x4), some (.int x5)], [.int t, .ref 65, .ref 66, .int k], h1)) rfl ⟨trivial, trivial, trivial, trivial, trivial, trivial⟩ ?_
      refine cl hX 166 2 [.ref 65, .int t] [.ref 66, .int k] rfl rfl rfl rfl ?_
      refine c_textAt ?_
      show X (14, [some (.ref 65), some (.int t), some (.int n), some (.int k), some (.int x4), some (.int x5)], [.int (600 + (200 * t)), .ref 66, .int k], h1)
      refine go hX 4 (gs := [True, ibd ((600 + (200 * t)) + 3) 3400, True, True]) (z' := (if (h1.1 66 ((600 + (200 * t)) + 3)) ≤ k then 163 else 20, [some (.ref 65), some (.int t), some (.int n), some (.int k), some (.int x4), some (.int x5)], [], h1)) rfl ⟨trivial, ?_, trivial, trivial, trivial⟩ ?_
      · exact ibd_of (B := 3400) rfl (by grind) (by grind)
      refine br (fun b1 => ?_) (fun b1 => ?_)
      ·
        refine go hX 4 (gs := [ibd 0 100, True, True, True]) (z' := (169, [some (.ref 65), some (.int t), some (.int n), some (.int k), some (.int x4), some (.int x5)], [.int (h1.1 80 0)], h1)) rfl ⟨?_, trivial, trivial, trivial, trivial⟩ ?_
        · exact ibd_of (B := 100) rfl (by grind) (by grind)
        refine rt_ hX (G := True) (r := some (.int (h1.1 80 0))) rfl trivial ?_
        exact kk _ _ fr
      ·
        refine go hX 4 (gs := [True, True, True, True]) (z' := (26, [some (.ref 65), some (.int t), some (.int n), some (.int k), some (.int x4), some (.int x5)], [.int t, .ref 65, .ref 66], h1)) rfl ⟨trivial, trivial, trivial, trivial, trivial⟩ ?_
        refine cl hX 166 2 [.ref 65, .int t] [.ref 66] rfl rfl rfl rfl ?_
        refine c_textAt ?_
        show X (29, [some (.ref 65), some (.int t), some (.int n), some (.int k), some (.int x4), some (.int x5)], [.int (600 + (200 * t)), .ref 66], h1)
        refine go hX 12 (gs := [True, True, True, True, True, ibd (((600 + (200 * t)) + 4) + (2 * k)) 3400, True, True, True, True, True, True]) (z' := (44, [some (.ref 65), some (.int t), some (.int n), some (.int k), some (.int (h1.1 66 (((600 + (200 * t)) + 4) + (2 * k)))), some (.int x5)], [.int t, .ref 65, .ref 66], h1)) rfl ⟨trivial, trivial, trivial, trivial, trivial, ?_, trivial, trivial, trivial, trivial, trivial, trivial, trivial⟩ ?_
        · exact ibd_of (B := 3400) rfl (by grind) (by grind)
        refine cl hX 166 2 [.ref 65, .int t] [.ref 66] rfl rfl rfl rfl ?_
        refine c_textAt ?_
        show X (47, [some (.ref 65), some (.int t), some (.int n), some (.int k), some (.int (h1.1 66 (((600 + (200 * t)) + 4) + (2 * k)))), some (.int x5)], [.int (600 + (200 * t)), .ref 66], h1)
        refine go hX 13 (gs := [True, True, True, True, ibd ((((600 + (200 * t)) + 4) + (2 * k)) + 1) 3400, True, True, True, True, True, True, True, True]) (z' := (if (h1.1 66 (((600 + (200 * t)) + 4) + (2 * k))) = 2 then 93 else 64, [some (.ref 65), some (.int t), some (.int n), some (.int k), some (.int (h1.1 66 (((600 + (200 * t)) + 4) + (2 * k)))), some (.int (h1.1 66 ((((600 + (200 * t)) + 4) + (2 * k)) + 1)))], [], h1)) rfl ⟨trivial, trivial, trivial, trivial, ?_, trivial, trivial, trivial, trivial, trivial, trivial, trivial, trivial, trivial⟩ ?_
        · exact ibd_of (B := 3400) rfl (by grind) (by grind)
        refine br (fun b2 => ?_) (fun b2 => ?_)
        ·
          refine go hX 3 (gs := [True, True, True]) (z' := (if (h1.1 66 ((((600 + (200 * t)) + 4) + (2 * k)) + 1)) = 33 then 100 else 127, [some (.ref 65), some (.int t), some (.int n), some (.int k), some (.int (h1.1 66 (((600 + (200 * t)) + 4) + (2 * k)))), some (.int (h1.1 66 ((((600 + (200 * t)) + 4) + (2 * k)) + 1)))], [], h1)) rfl ⟨trivial, trivial, trivial, trivial⟩ ?_
          refine br (fun b3 => ?_) (fun b3 => ?_)
          ·
            refine go hX 12 (gs := [True, ibd (n - 1) 100, True, True, True, True, True, True, True, True, True, True]) (z' := (if (h1.1 80 (n - 1)) = 0 then 118 else 122, [some (.ref 65), some (.int t), some (.int n), some (.int k), some (.int (h1.1 66 (((600 + (200 * t)) + 4) + (2 * k)))), some (.int (h1.1 66 ((((600 + (200 * t)) + 4) + (2 * k)) + 1)))], [.int (n - 1), .ref 80], h1)) rfl ⟨trivial, ?_, trivial, trivial, trivial, trivial, trivial, trivial, trivial, trivial, trivial, trivial, trivial⟩ ?_
            · exact ibd_of (B := 100) rfl (by grind) (by grind)
            refine br (fun b4 => ?_) (fun b4 => ?_)
            ·
              refine go hX 6 (gs := [True, True, True, ibd (n - 1) 100, True, True]) (z' := (4, [some (.ref 65), some (.int t), some (.int n), some (.int (k + 1)), some (.int (h1.1 66 (((600 + (200 * t)) + 4) + (2 * k)))), some (.int (h1.1 66 ((((600 + (200 * t)) + 4) + (2 * k)) + 1)))], [], (hI h1 80 (n - 1) 1))) rfl ⟨trivial, trivial, trivial, ?_, trivial, trivial, trivial⟩ ?_
              · exact ibd_of (B := 100) rfl (by grind) (by grind)
              exact ih (by grind) _ _ _ _ (fr80_st fr (ibd_of (B := 100) rfl (by grind) (by grind))) (by grind) (Or.inr ⟨_, _, rfl, rfl⟩)
            ·
              refine go hX 5 (gs := [True, True, True, ibd (n - 1) 100, True]) (z' := (4, [some (.ref 65), some (.int t), some (.int n), some (.int (k + 1)), some (.int (h1.1 66 (((600 + (200 * t)) + 4) + (2 * k)))), some (.int (h1.1 66 ((((600 + (200 * t)) + 4) + (2 * k)) + 1)))], [], (hI h1 80 (n - 1) 0))) rfl ⟨trivial, trivial, trivial, ?_, trivial, trivial⟩ ?_
              · exact ibd_of (B := 100) rfl (by grind) (by grind)
              exact ih (by grind) _ _ _ _ (fr80_st fr (ibd_of (B := 100) rfl (by grind) (by grind))) (by grind) (Or.inr ⟨_, _, rfl, rfl⟩)
          ·
            refine go hX 17 (gs := [ibd (n + (-1)) 100, True, True, True, ibd ((n + (-1)) - 1) 100, True, True, True, True, True, True, True, True, True, True, True, True]) (z' := (153, [some (.ref 65), some (.int t), some (.int (n + (-1))), some (.int k), some (.int (h1.1 66 (((600 + (200 * t)) + 4) + (2 * k)))), some (.int (h1.1 66 ((((600 + (200 * t)) + 4) + (2 * k)) + 1)))], [.int (h1.1 80 (n + (-1))), .int (h1.1 80 ((n + (-1)) - 1)), .int (h1.1 66 ((((600 + (200 * t)) + 4) + (2 * k)) + 1)), .int ((n + (-1)) - 1), .ref 80], h1)) rfl ⟨?_, trivial, trivial, trivial, ?_, trivial, trivial, trivial, trivial, trivial, trivial, trivial, trivial, trivial, trivial, trivial, trivial, trivial⟩ ?_
            · exact ibd_of (B := 100) rfl (by grind) (by grind)
            · exact ibd_of (B := 100) rfl (by grind) (by grind)
            refine cl hX 229 3 [.int (h1.1 66 ((((600 + (200 * t)) + 4) + (2 * k)) + 1)), .int (h1.1 80 ((n + (-1)) - 1)), .int (h1.1 80 (n + (-1)))] [.int ((n + (-1)) - 1), .ref 80] rfl rfl rfl rfl ?_
            refine c_joined (fun jr => ?_)
            show X (156, [some (.ref 65), some (.int t), some (.int (n + (-1))), some (.int k), some (.int (h1.1 66 (((600 + (200 * t)) + 4) + (2 * k)))), some (.int (h1.1 66 ((((600 + (200 * t)) + 4) + (2 * k)) + 1)))], [.int jr, .int ((n + (-1)) - 1), .ref 80], h1)
            refine go hX 3 (gs := [True, True, ibd ((n + (-1)) - 1) 100]) (z' := (4, [some (.ref 65), some (.int t), some (.int (n + (-1))), some (.int (k + 1)), some (.int (h1.1 66 (((600 + (200 * t)) + 4) + (2 * k)))), some (.int (h1.1 66 ((((600 + (200 * t)) + 4) + (2 * k)) + 1)))], [], (hI h1 80 ((n + (-1)) - 1) jr))) rfl ⟨trivial, trivial, ?_, trivial⟩ ?_
            · exact ibd_of (B := 100) rfl (by grind) (by grind)
            exact ih (by grind) _ _ _ _ (fr80_st fr (ibd_of (B := 100) rfl (by grind) (by grind))) (by grind) (Or.inr ⟨_, _, rfl, rfl⟩)
        ·
          refine go hX 5 (gs := [True, True, True, True, True]) (z' := (if (h1.1 66 (((600 + (200 * t)) + 4) + (2 * k))) = 0 then 74 else 79, [some (.ref 65), some (.int t), some (.int n), some (.int k), some (.int (h1.1 66 (((600 + (200 * t)) + 4) + (2 * k)))), some (.int (h1.1 66 ((((600 + (200 * t)) + 4) + (2 * k)) + 1)))], [.int n, .ref 80], h1)) rfl ⟨trivial, trivial, trivial, trivial, trivial, trivial⟩ ?_
          refine br (fun b5 => ?_) (fun b5 => ?_)
          ·
            refine go hX 7 (gs := [True, True, True, True, ibd n 100, True, True]) (z' := (4, [some (.ref 65), some (.int t), some (.int (n + 1)), some (.int (k + 1)), some (.int (h1.1 66 (((600 + (200 * t)) + 4) + (2 * k)))), some (.int (h1.1 66 ((((600 + (200 * t)) + 4) + (2 * k)) + 1)))], [], (hI h1 80 n (h1.1 66 ((((600 + (200 * t)) + 4) + (2 * k)) + 1))))) rfl ⟨trivial, trivial, trivial, trivial, ?_, trivial, trivial, trivial⟩ ?_
            · exact ibd_of (B := 100) rfl (by grind) (by grind)
            exact ih (by grind) _ _ _ _ (fr80_st fr (ibd_of (B := 100) rfl (by grind) (by grind))) (by grind) (Or.inr ⟨_, _, rfl, rfl⟩)
          ·
            refine go hX 9 (gs := [True, True, True, True, ibd n 100, ibd (h1.1 66 ((((600 + (200 * t)) + 4) + (2 * k)) + 1)) 128, True, True, True]) (z' := (4, [some (.ref 65), some (.int t), some (.int (n + 1)), some (.int (k + 1)), some (.int (h1.1 66 (((600 + (200 * t)) + 4) + (2 * k)))), some (.int (h1.1 66 ((((600 + (200 * t)) + 4) + (2 * k)) + 1)))], [], (hI h1 80 n (h1.1 79 (h1.1 66 ((((600 + (200 * t)) + 4) + (2 * k)) + 1)))))) rfl ⟨trivial, trivial, trivial, trivial, ?_, ?_, trivial, trivial, trivial, trivial⟩ ?_
            · exact ibd_of (B := 100) rfl (by grind) (by grind)
            · exact ibd_of (B := 128) rfl (by grind) (by grind)
            exact ih (by grind) _ _ _ _ (fr80_st fr (ibd_of (B := 100) rfl (by grind) (by grind))) (by grind) (Or.inr ⟨_, _, rfl, rfl⟩)
  exact go hX 4 (gs := [True, True, True, True]) (z' := (4, [some (.ref 65), some (.int t), some (.int 0), some (.int 0), none, none], [], h)) rfl ⟨trivial, trivial, trivial, trivial, trivial⟩ (key 0 (by decide) l0 0 none none h ⟨fun _ _ _ => rfl, rfl⟩ d0.symm (Or.inl ⟨rfl, rfl⟩))
theorem outR {ρ : Nat → Int} {n : Nat} (r : Int32) : Ag ρ (updS ρ n r.toInt) n ∧ bdV (updS ρ n r.toInt) [((2, 0, 0, (0, [])), (-2147483648), 2147483647)] n ∧ rtV (updS ρ n r.toInt) (some (0, [(n, 1)])) (some (.int r)) := by
  have e : updS ρ n r.toInt n = r.toInt := by unfold updS; rw [if_pos rfl]
  have hb := i32b r
  simp only [I32lo, I32hi] at hb
  refine ⟨upd_ag, fun q hq => ?_, r, rfl, ?_⟩
  · have hq : q ∈ ([(n, -2147483648, 2147483647)] : List (Nat × Int × Int)) := hq
    rcases List.mem_cons.mp hq with rfl | hq
    · dsimp only
      rw [e]
      exact hb
    · cases hq
  · show 0 + (1 * updS ρ n r.toInt n + 0) = r.toInt
    rw [e]
    omega
theorem FzJ {h : Hp} {o : Nat} {i : Int} {j : Int32} (hj : j.toInt = i) : Fz h o i = (h.1 o j).toInt := by
  unfold Fz
  rw [← hj, Int32.ofInt_toInt]
theorem dp_le {F : Int → Int} {a l : Int} {dp : Int → Int} (d0 : dp 0 = 0) (d2 : ∀ k, 0 ≤ k → k < l → 0 ≤ dp k ∧ (F (a + 2 * k) ≠ 2 → dp (k + 1) = dp k + 1 ∧ (F (a + 2 * k) ≠ 0 → 0 ≤ F (a + 2 * k + 1) ∧ F (a + 2 * k + 1) < 128)) ∧ (F (a + 2 * k) = 2 → (F (a + 2 * k + 1) = 33 → 1 ≤ dp k ∧ dp (k + 1) = dp k) ∧ (F (a + 2 * k + 1) ≠ 33 → 2 ≤ dp k ∧ dp (k + 1) = dp k - 1))) : ∀ n : Nat, (n : Int) ≤ l → dp n ≤ n
  | 0, _ => by
    have : dp ((0 : Nat) : Int) = 0 := d0
    omega
  | n + 1, hn => by
    have ih := dp_le d0 d2 n (by omega)
    obtain ⟨g0, g1, g2⟩ := d2 n (by omega) (by omega)
    have : dp ((n + 1 : Nat) : Int) = dp ((n : Int) + 1) := by congr 1
    rw [this]
    by_cases hw : F (a + 2 * (n : Int)) = 2
    · by_cases hv : F (a + 2 * (n : Int) + 1) = 33
      · have := ((g2 hw).1 hv).2; omega
      · have := ((g2 hw).2 hv).2; omega
    · have := (g1 hw).1; omega
set_option maxRecDepth 100000 in
theorem no80 : rgT.all (fun q => !(Nat.beq q.1 80)) = true := by decide +kernel
theorem ok_worked : SmOK rgT sm_worked := by
  intro d hd ρ as h hin hb hk hf hR
  have hd : 3 ≤ d := hd
  obtain ⟨d', rfl⟩ : ∃ d', d = d' + 3 := ⟨d - 3, by omega⟩
  obtain ⟨v1, s1, rfl, hin⟩ := hin
  rw [if_pos rfl] at hin
  obtain ⟨rfl, -, v2, s2, rfl, hin⟩ := hin
  rw [if_neg (by decide), if_pos rfl] at hin
  obtain ⟨b0, ⟨t, rfl, et⟩, hin⟩ := hin
  cases hin
  show Call (d' + 3) 230 [.ref 65, .int t] h _
  have hg : ∀ (k : Nat) (c : Kc), (celG 1 sm_worked.2.2.2.1)[k]? = some c → kcV ρ h c := fun k c hkc => hk c (List.mem_of_getElem? hkc)
  obtain ⟨j4, k1, k2⟩ := hg 0 (0, 66, (4, []), leX 1) rfl
  obtain ⟨-, w5⟩ := hg 1 (5, 66, (0, []), leX 2) rfl
  have k1 : (4 : Int) + 0 = j4.toInt := k1
  have c4 : (4 : Int32).toInt = 4 := rfl
  have ej4 : j4 = 4 := Int32.toInt_inj.mp (by omega)
  subst ej4
  have k2 : 0 + (1 * ρ 1 + 0) = (h.1 66 4).toInt := k2
  have hfa : 0 ≤ leV ρ ((-1), [(0, (-1)), (1, 1)]) := hf _ List.mem_cons_self
  have hfa : 0 ≤ -1 + (-1 * ρ 0 + (1 * ρ 1 + 0)) := hfa
  obtain ⟨w1, w2⟩ := w5 t.toInt (by omega) (by omega) (by show t.toInt < (h.1 66 4).toInt; omega)
  have w1 : Fz h 66 (603 + 200 * t.toInt) ≤ 96 := w1
  have w2 : WFP (Fz h 66) (604 + 200 * t.toInt) (Fz h 66 (603 + 200 * t.toInt)) 1 := w2
  obtain ⟨w0, dp, d0, d1, d2⟩ := w2
  have hle := dp_le d0 d2
  have c600 : (600 : Int32).toInt = 600 := rfl
  have c200 : (200 : Int32).toInt = 200 := rfl
  have c3 : (3 : Int32).toInt = 3 := rfl
  have c2 : (2 : Int32).toInt = 2 := rfl
  have c1 : (1 : Int32).toInt = 1 := rfl
  have c0 : (0 : Int32).toInt = 0 := rfl
  have c12 : (12 : Int32).toInt = 12 := rfl
  have c33 : (33 : Int32).toInt = 33 := rfl
  have c95 : (95 : Int32).toInt = 95 := rfl
  have c96 : (96 : Int32).toInt = 96 := rfl
  have c128 : (128 : Int32).toInt = 128 := rfl
  have e6 : (600 + 200 * t).toInt = 600 + 200 * t.toInt := by
    rw [Int32.toInt_add, Int32.toInt_mul, c600, c200, b32 (x := 200 * t.toInt) (by omega) (by omega), b32 (by omega) (by omega)]
  have e3 : ((600 + 200 * t) + 3).toInt = 603 + 200 * t.toInt := by
    rw [Int32.toInt_add, e6, c3, b32 (by omega) (by omega)]; omega
  have eL := FzJ (h := h) (o := 66) e3
  rw [eL] at w0 w1 d1 d2 hle
  refine c_worked (dp := fun k => Int32.ofInt (dp k.toInt)) (by rw [Int32.le_iff_toInt_le]; omega) (by rw [Int32.lt_iff_toInt_lt]; omega) (by rw [Int32.le_iff_toInt_le]; omega) (by rw [Int32.le_iff_toInt_le]; omega) (by show Int32.ofInt (dp (0 : Int32).toInt) = 0; rw [c0, d0]; rfl) (fun k k0 k1 => ?_) (fun r h' fr => ?_)
  · rw [Int32.le_iff_toInt_le, c0] at k0
    rw [Int32.lt_iff_toInt_lt] at k1
    obtain ⟨g0, g1, g2⟩ := d2 k.toInt k0 k1
    have gl := hle k.toInt.toNat (by omega)
    rw [show ((k.toInt.toNat : Nat) : Int) = k.toInt by omega] at gl
    have e4 : (((600 + 200 * t) + 4) + 2 * k).toInt = 604 + 200 * t.toInt + 2 * k.toInt := by
      rw [Int32.toInt_add, Int32.toInt_add, Int32.toInt_mul, e6, c4, c2, b32 (x := 600 + 200 * t.toInt + 4) (by omega) (by omega), b32 (x := 2 * k.toInt) (by omega) (by omega), b32 (by omega) (by omega)]
      omega
    have e5 : ((((600 + 200 * t) + 4) + 2 * k) + 1).toInt = 604 + 200 * t.toInt + 2 * k.toInt + 1 := by
      rw [Int32.toInt_add, e4, c1, b32 (by omega) (by omega)]
    rw [FzJ (h := h) (o := 66) e4, FzJ (h := h) (o := 66) e5] at g1 g2
    have ek : (k + 1).toInt = k.toInt + 1 := by rw [Int32.toInt_add, c1, b32 (by omega) (by omega)]
    have edp : (Int32.ofInt (dp k.toInt)).toInt = dp k.toInt := i32of (by omega) (by omega)
    (try dsimp only)
    rw [ek]
    have nw : ∀ {x : Int32} (c : Int32), ¬ x = c → x.toInt ≠ c.toInt := fun c hx hz => hx (Int32.toInt_inj.mp hz)
    refine ⟨by rw [Int32.le_iff_toInt_le, edp]; omega, by rw [Int32.le_iff_toInt_le, edp]; omega, fun hw => ?_, fun hw => ⟨fun hv => ?_, fun hv => ?_⟩⟩
    · have hw := nw 2 hw
      obtain ⟨f1, f2⟩ := g1 (by omega)
      refine ⟨Int32.toInt_inj.mp ?_, fun hz => ?_⟩
      · rw [f1, i32of (by omega) (by omega), Int32.toInt_add, edp, c1, b32 (by omega) (by omega)]
      · have hz := nw 0 hz
        obtain ⟨f3, f4⟩ := f2 (by omega)
        exact ⟨by rw [Int32.le_iff_toInt_le]; omega, by rw [Int32.lt_iff_toInt_lt]; omega⟩
    · have hw' : (h.1 66 (((600 + 200 * t) + 4) + 2 * k)).toInt = 2 := by rw [hw]; rfl
      have hv' : (h.1 66 ((((600 + 200 * t) + 4) + 2 * k) + 1)).toInt = 33 := by rw [hv]; rfl
      obtain ⟨f1, f2⟩ := (g2 hw').1 hv'
      exact ⟨by rw [Int32.le_iff_toInt_le, edp]; omega, by rw [f2]⟩
    · have hw' : (h.1 66 (((600 + 200 * t) + 4) + 2 * k)).toInt = 2 := by rw [hw]; rfl
      have hv' := nw 33 hv
      obtain ⟨f1, f2⟩ := (g2 hw').2 (by omega)
      refine ⟨by rw [Int32.le_iff_toInt_le, edp]; omega, Int32.toInt_inj.mp ?_⟩
      rw [f2, i32of (by omega) (by omega), Int32.toInt_sub, edp, c1, b32 (by omega) (by omega)]
  · obtain ⟨o1, o2, o3⟩ := outR (ρ := ρ) (n := 3) r
    refine ⟨fun q hq => ?_, ⟨fun o j hn => fr.1 o j (fun hz => hn ⟨_, List.mem_cons_self, rfl, hz.1.symm, hz.2.1, hz.2.2⟩), fun o j _ => by rw [fr.2], by rw [fr.2]⟩, _, List.mem_cons_self, _, o1, o2, o3, fun c hc => absurd hc List.not_mem_nil, fun f hf => absurd hf List.not_mem_nil⟩
    have hq8 := (List.all_eq_true.mp no80) q hq
    intro j k k0 k1 hj
    rw [fr.1 q.1 j (fun hz => by rw [hz.1] at hq8; cases hq8)]
    exact hR q hq j k k0 k1 hj
