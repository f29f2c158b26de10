/-! KEYs: which word it is, for both. -/
theorem c_len {d i : Nat} {l : List Nat} {Q : Option Value → Hp → Prop} {h : Hp} (hl : stT'[i]? = some l) (k : Q (some (.int (nI l.length))) h) : Call (d + 1) 900 [.ref (1000 + i)] h Q := Or.inl ⟨rfl, i, l, rfl, hl, k⟩
theorem c_chr {d i j c : Nat} {l : List Nat} {x : Int32} {Q : Option Value → Hp → Prop} {h : Hp} (hl : stT'[i]? = some l) (hx : x = nI j) (hc : l[j]? = some c) (k : Q (some (.int (nI c))) h) : Call (d + 1) 901 [.ref (1000 + i), .int x] h Q := Or.inl ⟨i, l, rfl, hl, Or.inl ⟨rfl, j, c, hx, hc, k⟩⟩
theorem c_idx {d i : Nat} {l : List Nat} {x : Int32} {Q : Option Value → Hp → Prop} {h : Hp} (hl : stT'[i]? = some l) (x0 : 0 ≤ x) (x1 : x ≤ 65535) (k : Q (some (.int (sIx l x 0))) h) : Call (d + 1) 902 [.ref (1000 + i), .int x] h Q := Or.inl ⟨i, l, rfl, hl, Or.inr ⟨rfl, ⟨x0, x1⟩, k⟩⟩
theorem tx_in {h : Hp} {n s e k len : Nat} (t : TP h n) (e5 : h.1 55 5 = nI s) (e6 : h.1 55 6 = nI e) (hs : s ≤ e) (he : e ≤ n) (b : nI len = h.1 55 6 - h.1 55 5) (hl : len ≤ 4000) (hk : k < len) : 0 ≤ h.1 55 5 + nI k ∧ h.1 55 5 + nI k < h.1 53 1 := by
  have := t.hn
  rw [e5, e6, nI_sb hs (by omega), nIle_eq hl (by omega)] at b
  rw [e5, nI_add]
  exact t.ins (by omega)
noncomputable abbrev cw0 (h : Hp) : Prop := 3 = h.1 55 6 - h.1 55 5 ∧ 112 = h.1 54 (h.1 55 5 + 0) ∧ 97 = h.1 54 (h.1 55 5 + 1) ∧ 121 = h.1 54 (h.1 55 5 + 2)
noncomputable abbrev cw1 (h : Hp) : Prop := 4 = h.1 55 6 - h.1 55 5 ∧ 108 = h.1 54 (h.1 55 5 + 0) ∧ 111 = h.1 54 (h.1 55 5 + 1) ∧ 115 = h.1 54 (h.1 55 5 + 2) ∧ 116 = h.1 54 (h.1 55 5 + 3)
noncomputable abbrev cw2 (h : Hp) : Prop := 6 = h.1 55 6 - h.1 55 5 ∧ 118 = h.1 54 (h.1 55 5 + 0) ∧ 105 = h.1 54 (h.1 55 5 + 1) ∧ 99 = h.1 54 (h.1 55 5 + 2) ∧ 116 = h.1 54 (h.1 55 5 + 3) ∧ 105 = h.1 54 (h.1 55 5 + 4) ∧ 109 = h.1 54 (h.1 55 5 + 5)
noncomputable abbrev cw3 (h : Hp) : Prop := 4 = h.1 55 6 - h.1 55 5 ∧ 115 = h.1 54 (h.1 55 5 + 0) ∧ 97 = h.1 54 (h.1 55 5 + 1) ∧ 118 = h.1 54 (h.1 55 5 + 2) ∧ 101 = h.1 54 (h.1 55 5 + 3)
noncomputable abbrev cw4 (h : Hp) : Prop := 5 = h.1 55 6 - h.1 55 5 ∧ 108 = h.1 54 (h.1 55 5 + 0) ∧ 101 = h.1 54 (h.1 55 5 + 1) ∧ 97 = h.1 54 (h.1 55 5 + 2) ∧ 115 = h.1 54 (h.1 55 5 + 3) ∧ 116 = h.1 54 (h.1 55 5 + 4)
noncomputable abbrev cw5 (h : Hp) : Prop := 4 = h.1 55 6 - h.1 55 5 ∧ 100 = h.1 54 (h.1 55 5 + 0) ∧ 97 = h.1 54 (h.1 55 5 + 1) ∧ 121 = h.1 54 (h.1 55 5 + 2) ∧ 115 = h.1 54 (h.1 55 5 + 3)
theorem c_spelt0 {d : Nat} {Q : Option Value → Hp → Prop} {h : Hp} {n s e : Nat} (t : TP h n) (e5 : h.1 55 5 = nI s) (e6 : h.1 55 6 = nI e) (hs : s ≤ e) (he : e ≤ n) (k1 : cw0 h → Q (some (.int 1)) h) (k0 : ¬ cw0 h → Q (some (.int 0)) h) : Call (d + 2) 36 [.ref 55, .ref 1000] h Q := by
  refine call_of (rfl : psM[36]? = some _) rfl rfl (rcvV rfl) (fun X hX => ?_)
  show X (0, [some (.ref 55), some (.ref 1000), none], [], h)
  refine go hX 3 (gs := [True, True, True]) (z' := (5, [some (.ref 55), some (.ref 1000), none], [.ref 1000], h)) rfl ⟨trivial, trivial, trivial, trivial⟩ ?_
  refine cl hX 900 1 [.ref 1000] [] rfl rfl rfl rfl ?_
  refine c_len (i := 0) rfl ?_
  show X (8, [some (.ref 55), some (.ref 1000), none], [.int 3], h)
  refine go hX 6 (gs := [True, True, True, True, True, True]) (z' := (if 3 = ((h.1 55 6) - (h.1 55 5)) then 22 else 20, [some (.ref 55), some (.ref 1000), none], [], h)) rfl ⟨trivial, trivial, trivial, trivial, trivial, trivial, trivial⟩ ?_
  refine br (fun b1 => ?_) (fun b1 => ?_)
  ·
    refine go hX 4 (gs := [True, True, True, True]) (z' := (26, [some (.ref 55), some (.ref 1000), some (.int 0)], [.ref 1000, .int 0], h)) rfl ⟨trivial, trivial, trivial, trivial, trivial⟩ ?_
    refine cl hX 900 1 [.ref 1000] [.int 0] rfl rfl rfl rfl ?_
    refine c_len (i := 0) rfl ?_
    show X (29, [some (.ref 55), some (.ref 1000), some (.int 0)], [.int 3, .int 0], h)
    refine go hX 3 (gs := [True, True, True]) (z' := (34, [some (.ref 55), some (.ref 1000), some (.int 0)], [.int 0, .ref 1000], h)) rfl ⟨trivial, trivial, trivial, trivial⟩ ?_
    refine cl hX 901 2 [.ref 1000, .int 0] [] rfl rfl rfl rfl ?_
    refine c_chr (i := 0) (j := 0) (c := 112) rfl rfl rfl ?_
    show X (37, [some (.ref 55), some (.ref 1000), some (.int 0)], [.int 112], h)
    refine go hX 6 (gs := [True, True, True, True, True, True]) (z' := (47, [some (.ref 55), some (.ref 1000), some (.int 0)], [.int ((h.1 55 5) + 0), .ref 53, .int 112], h)) rfl ⟨trivial, trivial, trivial, trivial, trivial, trivial, trivial⟩ ?_
    refine cl hX 104 2 [.ref 53, .int ((h.1 55 5) + 0)] [.int 112] rfl rfl rfl rfl ?_
    refine c_atI t.sm (tx_in t e5 e6 hs he (len := 3) (k := 0) b1 (by decide) (by decide)) ?_
    show X (50, [some (.ref 55), some (.ref 1000), some (.int 0)], [.int (h.1 54 ((h.1 55 5) + 0)), .int 112], h)
    refine go hX 1 (gs := [True]) (z' := (if 112 = (h.1 54 ((h.1 55 5) + 0)) then 55 else 53, [some (.ref 55), some (.ref 1000), some (.int 0)], [], h)) rfl ⟨trivial, trivial⟩ ?_
    refine br (fun b2 => ?_) (fun b2 => ?_)
    ·
      refine go hX 4 (gs := [True, True, True, True]) (z' := (26, [some (.ref 55), some (.ref 1000), some (.int 1)], [.ref 1000, .int 1], h)) rfl ⟨trivial, trivial, trivial, trivial, trivial⟩ ?_
      refine cl hX 900 1 [.ref 1000] [.int 1] rfl rfl rfl rfl ?_
      refine c_len (i := 0) rfl ?_
      show X (29, [some (.ref 55), some (.ref 1000), some (.int 1)], [.int 3, .int 1], h)
      refine go hX 3 (gs := [True, True, True]) (z' := (34, [some (.ref 55), some (.ref 1000), some (.int 1)], [.int 1, .ref 1000], h)) rfl ⟨trivial, trivial, trivial, trivial⟩ ?_
      refine cl hX 901 2 [.ref 1000, .int 1] [] rfl rfl rfl rfl ?_
      refine c_chr (i := 0) (j := 1) (c := 97) rfl rfl rfl ?_
      show X (37, [some (.ref 55), some (.ref 1000), some (.int 1)], [.int 97], h)
      refine go hX 6 (gs := [True, True, True, True, True, True]) (z' := (47, [some (.ref 55), some (.ref 1000), some (.int 1)], [.int ((h.1 55 5) + 1), .ref 53, .int 97], h)) rfl ⟨trivial, trivial, trivial, trivial, trivial, trivial, trivial⟩ ?_
      refine cl hX 104 2 [.ref 53, .int ((h.1 55 5) + 1)] [.int 97] rfl rfl rfl rfl ?_
      refine c_atI t.sm (tx_in t e5 e6 hs he (len := 3) (k := 1) b1 (by decide) (by decide)) ?_
      show X (50, [some (.ref 55), some (.ref 1000), some (.int 1)], [.int (h.1 54 ((h.1 55 5) + 1)), .int 97], h)
      refine go hX 1 (gs := [True]) (z' := (if 97 = (h.1 54 ((h.1 55 5) + 1)) then 55 else 53, [some (.ref 55), some (.ref 1000), some (.int 1)], [], h)) rfl ⟨trivial, trivial⟩ ?_
      refine br (fun b3 => ?_) (fun b3 => ?_)
      ·
        refine go hX 4 (gs := [True, True, True, True]) (z' := (26, [some (.ref 55), some (.ref 1000), some (.int 2)], [.ref 1000, .int 2], h)) rfl ⟨trivial, trivial, trivial, trivial, trivial⟩ ?_
        refine cl hX 900 1 [.ref 1000] [.int 2] rfl rfl rfl rfl ?_
        refine c_len (i := 0) rfl ?_
        show X (29, [some (.ref 55), some (.ref 1000), some (.int 2)], [.int 3, .int 2], h)
        refine go hX 3 (gs := [True, True, True]) (z' := (34, [some (.ref 55), some (.ref 1000), some (.int 2)], [.int 2, .ref 1000], h)) rfl ⟨trivial, trivial, trivial, trivial⟩ ?_
        refine cl hX 901 2 [.ref 1000, .int 2] [] rfl rfl rfl rfl ?_
        refine c_chr (i := 0) (j := 2) (c := 121) rfl rfl rfl ?_
        show X (37, [some (.ref 55), some (.ref 1000), some (.int 2)], [.int 121], h)
        refine go hX 6 (gs := [True, True, True, True, True, True]) (z' := (47, [some (.ref 55), some (.ref 1000), some (.int 2)], [.int ((h.1 55 5) + 2), .ref 53, .int 121], h)) rfl ⟨trivial, trivial, trivial, trivial, trivial, trivial, trivial⟩ ?_
        refine cl hX 104 2 [.ref 53, .int ((h.1 55 5) + 2)] [.int 121] rfl rfl rfl rfl ?_
        refine c_atI t.sm (tx_in t e5 e6 hs he (len := 3) (k := 2) b1 (by decide) (by decide)) ?_
        show X (50, [some (.ref 55), some (.ref 1000), some (.int 2)], [.int (h.1 54 ((h.1 55 5) + 2)), .int 121], h)
        refine go hX 1 (gs := [True]) (z' := (if 121 = (h.1 54 ((h.1 55 5) + 2)) then 55 else 53, [some (.ref 55), some (.ref 1000), some (.int 2)], [], h)) rfl ⟨trivial, trivial⟩ ?_
        refine br (fun b4 => ?_) (fun b4 => ?_)
        ·
          refine go hX 4 (gs := [True, True, True, True]) (z' := (26, [some (.ref 55), some (.ref 1000), some (.int 3)], [.ref 1000, .int 3], h)) rfl ⟨trivial, trivial, trivial, trivial, trivial⟩ ?_
          refine cl hX 900 1 [.ref 1000] [.int 3] rfl rfl rfl rfl ?_
          refine c_len (i := 0) rfl ?_
          show X (29, [some (.ref 55), some (.ref 1000), some (.int 3)], [.int 3, .int 3], h)
          refine go hX 2 (gs := [True, True]) (z' := (62, [some (.ref 55), some (.ref 1000), some (.int 3)], [.int 1], h)) rfl ⟨trivial, trivial, trivial⟩ ?_
          refine rt_ hX (G := isB 1) (r := some (.int 1)) rfl isB1 ?_
          exact k1 ⟨b1, b2, b3, b4⟩
        ·
          refine go hX 1 (gs := [True]) (z' := (54, [some (.ref 55), some (.ref 1000), some (.int 2)], [.int 0], h)) rfl ⟨trivial, trivial⟩ ?_
          refine rt_ hX (G := isB 0) (r := some (.int 0)) rfl isB0 ?_
          exact k0 (fun q => b4 q.2.2.2)
      ·
        refine go hX 1 (gs := [True]) (z' := (54, [some (.ref 55), some (.ref 1000), some (.int 1)], [.int 0], h)) rfl ⟨trivial, trivial⟩ ?_
        refine rt_ hX (G := isB 0) (r := some (.int 0)) rfl isB0 ?_
        exact k0 (fun q => b3 q.2.2.1)
    ·
      refine go hX 1 (gs := [True]) (z' := (54, [some (.ref 55), some (.ref 1000), some (.int 0)], [.int 0], h)) rfl ⟨trivial, trivial⟩ ?_
      refine rt_ hX (G := isB 0) (r := some (.int 0)) rfl isB0 ?_
      exact k0 (fun q => b2 q.2.1)
  ·
    refine go hX 1 (gs := [True]) (z' := (21, [some (.ref 55), some (.ref 1000), none], [.int 0], h)) rfl ⟨trivial, trivial⟩ ?_
    refine rt_ hX (G := isB 0) (r := some (.int 0)) rfl isB0 ?_
    exact k0 (fun q => b1 q.1)
theorem c_spelt1 {d : Nat} {Q : Option Value → Hp → Prop} {h : Hp} {n s e : Nat} (t : TP h n) (e5 : h.1 55 5 = nI s) (e6 : h.1 55 6 = nI e) (hs : s ≤ e) (he : e ≤ n) (k1 : cw1 h → Q (some (.int 1)) h) (k0 : ¬ cw1 h → Q (some (.int 0)) h) : Call (d + 2) 36 [.ref 55, .ref 1001] h Q := by
  refine call_of (rfl : psM[36]? = some _) rfl rfl (rcvV rfl) (fun X hX => ?_)
  show X (0, [some (.ref 55), some (.ref 1001), none], [], h)
  refine go hX 3 (gs := [True, True, True]) (z' := (5, [some (.ref 55), some (.ref 1001), none], [.ref 1001], h)) rfl ⟨trivial, trivial, trivial, trivial⟩ ?_
  refine cl hX 900 1 [.ref 1001] [] rfl rfl rfl rfl ?_
  refine c_len (i := 1) rfl ?_
  show X (8, [some (.ref 55), some (.ref 1001), none], [.int 4], h)
  refine go hX 6 (gs := [True, True, True, True, True, True]) (z' := (if 4 = ((h.1 55 6) - (h.1 55 5)) then 22 else 20, [some (.ref 55), some (.ref 1001), none], [], h)) rfl ⟨trivial, trivial, trivial, trivial, trivial, trivial, trivial⟩ ?_
  refine br (fun b1 => ?_) (fun b1 => ?_)
  ·
    refine go hX 4 (gs := [True, True, True, True]) (z' := (26, [some (.ref 55), some (.ref 1001), some (.int 0)], [.ref 1001, .int 0], h)) rfl ⟨trivial, trivial, trivial, trivial, trivial⟩ ?_
    refine cl hX 900 1 [.ref 1001] [.int 0] rfl rfl rfl rfl ?_
    refine c_len (i := 1) rfl ?_
    show X (29, [some (.ref 55), some (.ref 1001), some (.int 0)], [.int 4, .int 0], h)
    refine go hX 3 (gs := [True, True, True]) (z' := (34, [some (.ref 55), some (.ref 1001), some (.int 0)], [.int 0, .ref 1001], h)) rfl ⟨trivial, trivial, trivial, trivial⟩ ?_
    refine cl hX 901 2 [.ref 1001, .int 0] [] rfl rfl rfl rfl ?_
    refine c_chr (i := 1) (j := 0) (c := 108) rfl rfl rfl ?_
    show X (37, [some (.ref 55), some (.ref 1001), some (.int 0)], [.int 108], h)
    refine go hX 6 (gs := [True, True, True, True, True, True]) (z' := (47, [some (.ref 55), some (.ref 1001), some (.int 0)], [.int ((h.1 55 5) + 0), .ref 53, .int 108], h)) rfl ⟨trivial, trivial, trivial, trivial, trivial, trivial, trivial⟩ ?_
    refine cl hX 104 2 [.ref 53, .int ((h.1 55 5) + 0)] [.int 108] rfl rfl rfl rfl ?_
    refine c_atI t.sm (tx_in t e5 e6 hs he (len := 4) (k := 0) b1 (by decide) (by decide)) ?_
    show X (50, [some (.ref 55), some (.ref 1001), some (.int 0)], [.int (h.1 54 ((h.1 55 5) + 0)), .int 108], h)
    refine go hX 1 (gs := [True]) (z' := (if 108 = (h.1 54 ((h.1 55 5) + 0)) then 55 else 53, [some (.ref 55), some (.ref 1001), some (.int 0)], [], h)) rfl ⟨trivial, trivial⟩ ?_
    refine br (fun b2 => ?_) (fun b2 => ?_)
    ·
      refine go hX 4 (gs := [True, True, True, True]) (z' := (26, [some (.ref 55), some (.ref 1001), some (.int 1)], [.ref 1001, .int 1], h)) rfl ⟨trivial, trivial, trivial, trivial, trivial⟩ ?_
      refine cl hX 900 1 [.ref 1001] [.int 1] rfl rfl rfl rfl ?_
      refine c_len (i := 1) rfl ?_
      show X (29, [some (.ref 55), some (.ref 1001), some (.int 1)], [.int 4, .int 1], h)
      refine go hX 3 (gs := [True, True, True]) (z' := (34, [some (.ref 55), some (.ref 1001), some (.int 1)], [.int 1, .ref 1001], h)) rfl ⟨trivial, trivial, trivial, trivial⟩ ?_
      refine cl hX 901 2 [.ref 1001, .int 1] [] rfl rfl rfl rfl ?_
      refine c_chr (i := 1) (j := 1) (c := 111) rfl rfl rfl ?_
      show X (37, [some (.ref 55), some (.ref 1001), some (.int 1)], [.int 111], h)
      refine go hX 6 (gs := [True, True, True, True, True, True]) (z' := (47, [some (.ref 55), some (.ref 1001), some (.int 1)], [.int ((h.1 55 5) + 1), .ref 53, .int 111], h)) rfl ⟨trivial, trivial, trivial, trivial, trivial, trivial, trivial⟩ ?_
      refine cl hX 104 2 [.ref 53, .int ((h.1 55 5) + 1)] [.int 111] rfl rfl rfl rfl ?_
      refine c_atI t.sm (tx_in t e5 e6 hs he (len := 4) (k := 1) b1 (by decide) (by decide)) ?_
      show X (50, [some (.ref 55), some (.ref 1001), some (.int 1)], [.int (h.1 54 ((h.1 55 5) + 1)), .int 111], h)
      refine go hX 1 (gs := [True]) (z' := (if 111 = (h.1 54 ((h.1 55 5) + 1)) then 55 else 53, [some (.ref 55), some (.ref 1001), some (.int 1)], [], h)) rfl ⟨trivial, trivial⟩ ?_
      refine br (fun b3 => ?_) (fun b3 => ?_)
      ·
        refine go hX 4 (gs := [True, True, True, True]) (z' := (26, [some (.ref 55), some (.ref 1001), some (.int 2)], [.ref 1001, .int 2], h)) rfl ⟨trivial, trivial, trivial, trivial, trivial⟩ ?_
        refine cl hX 900 1 [.ref 1001] [.int 2] rfl rfl rfl rfl ?_
        refine c_len (i := 1) rfl ?_
        show X (29, [some (.ref 55), some (.ref 1001), some (.int 2)], [.int 4, .int 2], h)
        refine go hX 3 (gs := [True, True, True]) (z' := (34, [some (.ref 55), some (.ref 1001), some (.int 2)], [.int 2, .ref 1001], h)) rfl ⟨trivial, trivial, trivial, trivial⟩ ?_
        refine cl hX 901 2 [.ref 1001, .int 2] [] rfl rfl rfl rfl ?_
        refine c_chr (i := 1) (j := 2) (c := 115) rfl rfl rfl ?_
        show X (37, [some (.ref 55), some (.ref 1001), some (.int 2)], [.int 115], h)
        refine go hX 6 (gs := [True, True, True, True, True, True]) (z' := (47, [some (.ref 55), some (.ref 1001), some (.int 2)], [.int ((h.1 55 5) + 2), .ref 53, .int 115], h)) rfl ⟨trivial, trivial, trivial, trivial, trivial, trivial, trivial⟩ ?_
        refine cl hX 104 2 [.ref 53, .int ((h.1 55 5) + 2)] [.int 115] rfl rfl rfl rfl ?_
        refine c_atI t.sm (tx_in t e5 e6 hs he (len := 4) (k := 2) b1 (by decide) (by decide)) ?_
        show X (50, [some (.ref 55), some (.ref 1001), some (.int 2)], [.int (h.1 54 ((h.1 55 5) + 2)), .int 115], h)
        refine go hX 1 (gs := [True]) (z' := (if 115 = (h.1 54 ((h.1 55 5) + 2)) then 55 else 53, [some (.ref 55), some (.ref 1001), some (.int 2)], [], h)) rfl ⟨trivial, trivial⟩ ?_
        refine br (fun b4 => ?_) (fun b4 => ?_)
        ·
          refine go hX 4 (gs := [True, True, True, True]) (z' := (26, [some (.ref 55), some (.ref 1001), some (.int 3)], [.ref 1001, .int 3], h)) rfl ⟨trivial, trivial, trivial, trivial, trivial⟩ ?_
          refine cl hX 900 1 [.ref 1001] [.int 3] rfl rfl rfl rfl ?_
          refine c_len (i := 1) rfl ?_
          show X (29, [some (.ref 55), some (.ref 1001), some (.int 3)], [.int 4, .int 3], h)
          refine go hX 3 (gs := [True, True, True]) (z' := (34, [some (.ref 55), some (.ref 1001), some (.int 3)], [.int 3, .ref 1001], h)) rfl ⟨trivial, trivial, trivial, trivial⟩ ?_
          refine cl hX 901 2 [.ref 1001, .int 3] [] rfl rfl rfl rfl ?_
          refine c_chr (i := 1) (j := 3) (c := 116) rfl rfl rfl ?_
          show X (37, [some (.ref 55), some (.ref 1001), some (.int 3)], [.int 116], h)
          refine go hX 6 (gs := [True, True, True, True, True, True]) (z' := (47, [some (.ref 55), some (.ref 1001), some (.int 3)], [.int ((h.1 55 5) + 3), .ref 53, .int 116], h)) rfl ⟨trivial, trivial, trivial, trivial, trivial, trivial, trivial⟩ ?_
          refine cl hX 104 2 [.ref 53, .int ((h.1 55 5) + 3)] [.int 116] rfl rfl rfl rfl ?_
          refine c_atI t.sm (tx_in t e5 e6 hs he (len := 4) (k := 3) b1 (by decide) (by decide)) ?_
          show X (50, [some (.ref 55), some (.ref 1001), some (.int 3)], [.int (h.1 54 ((h.1 55 5) + 3)), .int 116], h)
          refine go hX 1 (gs := [True]) (z' := (if 116 = (h.1 54 ((h.1 55 5) + 3)) then 55 else 53, [some (.ref 55), some (.ref 1001), some (.int 3)], [], h)) rfl ⟨trivial, trivial⟩ ?_
          refine br (fun b5 => ?_) (fun b5 => ?_)
          ·
            refine go hX 4 (gs := [True, True, True, True]) (z' := (26, [some (.ref 55), some (.ref 1001), some (.int 4)], [.ref 1001, .int 4], h)) rfl ⟨trivial, trivial, trivial, trivial, trivial⟩ ?_
            refine cl hX 900 1 [.ref 1001] [.int 4] rfl rfl rfl rfl ?_
            refine c_len (i := 1) rfl ?_
            show X (29, [some (.ref 55), some (.ref 1001), some (.int 4)], [.int 4, .int 4], h)
            refine go hX 2 (gs := [True, True]) (z' := (62, [some (.ref 55), some (.ref 1001), some (.int 4)], [.int 1], h)) rfl ⟨trivial, trivial, trivial⟩ ?_
            refine rt_ hX (G := isB 1) (r := some (.int 1)) rfl isB1 ?_
            exact k1 ⟨b1, b2, b3, b4, b5⟩
          ·
            refine go hX 1 (gs := [True]) (z' := (54, [some (.ref 55), some (.ref 1001), some (.int 3)], [.int 0], h)) rfl ⟨trivial, trivial⟩ ?_
            refine rt_ hX (G := isB 0) (r := some (.int 0)) rfl isB0 ?_
            exact k0 (fun q => b5 q.2.2.2.2)
        ·
          refine go hX 1 (gs := [True]) (z' := (54, [some (.ref 55), some (.ref 1001), some (.int 2)], [.int 0], h)) rfl ⟨trivial, trivial⟩ ?_
          refine rt_ hX (G := isB 0) (r := some (.int 0)) rfl isB0 ?_
          exact k0 (fun q => b4 q.2.2.2.1)
      ·
        refine go hX 1 (gs := [True]) (z' := (54, [some (.ref 55), some (.ref 1001), some (.int 1)], [.int 0], h)) rfl ⟨trivial, trivial⟩ ?_
        refine rt_ hX (G := isB 0) (r := some (.int 0)) rfl isB0 ?_
        exact k0 (fun q => b3 q.2.2.1)
    ·
      refine go hX 1 (gs := [True]) (z' := (54, [some (.ref 55), some (.ref 1001), some (.int 0)], [.int 0], h)) rfl ⟨trivial, trivial⟩ ?_
      refine rt_ hX (G := isB 0) (r := some (.int 0)) rfl isB0 ?_
      exact k0 (fun q => b2 q.2.1)
  ·
    refine go hX 1 (gs := [True]) (z' := (21, [some (.ref 55), some (.ref 1001), none], [.int 0], h)) rfl ⟨trivial, trivial⟩ ?_
    refine rt_ hX (G := isB 0) (r := some (.int 0)) rfl isB0 ?_
    exact k0 (fun q => b1 q.1)
theorem c_spelt2 {d : Nat} {Q : Option Value → Hp → Prop} {h : Hp} {n s e : Nat} (t : TP h n) (e5 : h.1 55 5 = nI s) (e6 : h.1 55 6 = nI e) (hs : s ≤ e) (he : e ≤ n) (k1 : cw2 h → Q (some (.int 1)) h) (k0 : ¬ cw2 h → Q (some (.int 0)) h) : Call (d + 2) 36 [.ref 55, .ref 1002] h Q := by
  refine call_of (rfl : psM[36]? = some _) rfl rfl (rcvV rfl) (fun X hX => ?_)
  show X (0, [some (.ref 55), some (.ref 1002), none], [], h)
  refine go hX 3 (gs := [True, True, True]) (z' := (5, [some (.ref 55), some (.ref 1002), none], [.ref 1002], h)) rfl ⟨trivial, trivial, trivial, trivial⟩ ?_
  refine cl hX 900 1 [.ref 1002] [] rfl rfl rfl rfl ?_
  refine c_len (i := 2) rfl ?_
  show X (8, [some (.ref 55), some (.ref 1002), none], [.int 6], h)
  refine go hX 6 (gs := [True, True, True, True, True, True]) (z' := (if 6 = ((h.1 55 6) - (h.1 55 5)) then 22 else 20, [some (.ref 55), some (.ref 1002), none], [], h)) rfl ⟨trivial, trivial, trivial, trivial, trivial, trivial, trivial⟩ ?_
  refine br (fun b1 => ?_) (fun b1 => ?_)
  ·
    refine go hX 4 (gs := [True, True, True, True]) (z' := (26, [some (.ref 55), some (.ref 1002), some (.int 0)], [.ref 1002, .int 0], h)) rfl ⟨trivial, trivial, trivial, trivial, trivial⟩ ?_
    refine cl hX 900 1 [.ref 1002] [.int 0] rfl rfl rfl rfl ?_
    refine c_len (i := 2) rfl ?_
    show X (29, [some (.ref 55), some (.ref 1002), some (.int 0)], [.int 6, .int 0], h)
    refine go hX 3 (gs := [True, True, True]) (z' := (34, [some (.ref 55), some (.ref 1002), some (.int 0)], [.int 0, .ref 1002], h)) rfl ⟨trivial, trivial, trivial, trivial⟩ ?_
    refine cl hX 901 2 [.ref 1002, .int 0] [] rfl rfl rfl rfl ?_
    refine c_chr (i := 2) (j := 0) (c := 118) rfl rfl rfl ?_
    show X (37, [some (.ref 55), some (.ref 1002), some (.int 0)], [.int 118], h)
    refine go hX 6 (gs := [True, True, True, True, True, True]) (z' := (47, [some (.ref 55), some (.ref 1002), some (.int 0)], [.int ((h.1 55 5) + 0), .ref 53, .int 118], h)) rfl ⟨trivial, trivial, trivial, trivial, trivial, trivial, trivial⟩ ?_
    refine cl hX 104 2 [.ref 53, .int ((h.1 55 5) + 0)] [.int 118] rfl rfl rfl rfl ?_
    refine c_atI t.sm (tx_in t e5 e6 hs he (len := 6) (k := 0) b1 (by decide) (by decide)) ?_
    show X (50, [some (.ref 55), some (.ref 1002), some (.int 0)], [.int (h.1 54 ((h.1 55 5) + 0)), .int 118], h)
    refine go hX 1 (gs := [True]) (z' := (if 118 = (h.1 54 ((h.1 55 5) + 0)) then 55 else 53, [some (.ref 55), some (.ref 1002), some (.int 0)], [], h)) rfl ⟨trivial, trivial⟩ ?_
    refine br (fun b2 => ?_) (fun b2 => ?_)
    ·
      refine go hX 4 (gs := [True, True, True, True]) (z' := (26, [some (.ref 55), some (.ref 1002), some (.int 1)], [.ref 1002, .int 1], h)) rfl ⟨trivial, trivial, trivial, trivial, trivial⟩ ?_
      refine cl hX 900 1 [.ref 1002] [.int 1] rfl rfl rfl rfl ?_
      refine c_len (i := 2) rfl ?_
      show X (29, [some (.ref 55), some (.ref 1002), some (.int 1)], [.int 6, .int 1], h)
      refine go hX 3 (gs := [True, True, True]) (z' := (34, [some (.ref 55), some (.ref 1002), some (.int 1)], [.int 1, .ref 1002], h)) rfl ⟨trivial, trivial, trivial, trivial⟩ ?_
      refine cl hX 901 2 [.ref 1002, .int 1] [] rfl rfl rfl rfl ?_
      refine c_chr (i := 2) (j := 1) (c := 105) rfl rfl rfl ?_
      show X (37, [some (.ref 55), some (.ref 1002), some (.int 1)], [.int 105], h)
      refine go hX 6 (gs := [True, True, True, True, True, True]) (z' := (47, [some (.ref 55), some (.ref 1002), some (.int 1)], [.int ((h.1 55 5) + 1), .ref 53, .int 105], h)) rfl ⟨trivial, trivial, trivial, trivial, trivial, trivial, trivial⟩ ?_
      refine cl hX 104 2 [.ref 53, .int ((h.1 55 5) + 1)] [.int 105] rfl rfl rfl rfl ?_
      refine c_atI t.sm (tx_in t e5 e6 hs he (len := 6) (k := 1) b1 (by decide) (by decide)) ?_
      show X (50, [some (.ref 55), some (.ref 1002), some (.int 1)], [.int (h.1 54 ((h.1 55 5) + 1)), .int 105], h)
      refine go hX 1 (gs := [True]) (z' := (if 105 = (h.1 54 ((h.1 55 5) + 1)) then 55 else 53, [some (.ref 55), some (.ref 1002), some (.int 1)], [], h)) rfl ⟨trivial, trivial⟩ ?_
      refine br (fun b3 => ?_) (fun b3 => ?_)
      ·
        refine go hX 4 (gs := [True, True, True, True]) (z' := (26, [some (.ref 55), some (.ref 1002), some (.int 2)], [.ref 1002, .int 2], h)) rfl ⟨trivial, trivial, trivial, trivial, trivial⟩ ?_
        refine cl hX 900 1 [.ref 1002] [.int 2] rfl rfl rfl rfl ?_
        refine c_len (i := 2) rfl ?_
        show X (29, [some (.ref 55), some (.ref 1002), some (.int 2)], [.int 6, .int 2], h)
        refine go hX 3 (gs := [True, True, True]) (z' := (34, [some (.ref 55), some (.ref 1002), some (.int 2)], [.int 2, .ref 1002], h)) rfl ⟨trivial, trivial, trivial, trivial⟩ ?_
        refine cl hX 901 2 [.ref 1002, .int 2] [] rfl rfl rfl rfl ?_
        refine c_chr (i := 2) (j := 2) (c := 99) rfl rfl rfl ?_
        show X (37, [some (.ref 55), some (.ref 1002), some (.int 2)], [.int 99], h)
        refine go hX 6 (gs := [True, True, True, True, True, True]) (z' := (47, [some (.ref 55), some (.ref 1002), some (.int 2)], [.int ((h.1 55 5) + 2), .ref 53, .int 99], h)) rfl ⟨trivial, trivial, trivial, trivial, trivial, trivial, trivial⟩ ?_
        refine cl hX 104 2 [.ref 53, .int ((h.1 55 5) + 2)] [.int 99] rfl rfl rfl rfl ?_
        refine c_atI t.sm (tx_in t e5 e6 hs he (len := 6) (k := 2) b1 (by decide) (by decide)) ?_
        show X (50, [some (.ref 55), some (.ref 1002), some (.int 2)], [.int (h.1 54 ((h.1 55 5) + 2)), .int 99], h)
        refine go hX 1 (gs := [True]) (z' := (if 99 = (h.1 54 ((h.1 55 5) + 2)) then 55 else 53, [some (.ref 55), some (.ref 1002), some (.int 2)], [], h)) rfl ⟨trivial, trivial⟩ ?_
        refine br (fun b4 => ?_) (fun b4 => ?_)
        ·
          refine go hX 4 (gs := [True, True, True, True]) (z' := (26, [some (.ref 55), some (.ref 1002), some (.int 3)], [.ref 1002, .int 3], h)) rfl ⟨trivial, trivial, trivial, trivial, trivial⟩ ?_
          refine cl hX 900 1 [.ref 1002] [.int 3] rfl rfl rfl rfl ?_
          refine c_len (i := 2) rfl ?_
          show X (29, [some (.ref 55), some (.ref 1002), some (.int 3)], [.int 6, .int 3], h)
          refine go hX 3 (gs := [True, True, True]) (z' := (34, [some (.ref 55), some (.ref 1002), some (.int 3)], [.int 3, .ref 1002], h)) rfl ⟨trivial, trivial, trivial, trivial⟩ ?_
          refine cl hX 901 2 [.ref 1002, .int 3] [] rfl rfl rfl rfl ?_
          refine c_chr (i := 2) (j := 3) (c := 116) rfl rfl rfl ?_
          show X (37, [some (.ref 55), some (.ref 1002), some (.int 3)], [.int 116], h)
          refine go hX 6 (gs := [True, True, True, True, True, True]) (z' := (47, [some (.ref 55), some (.ref 1002), some (.int 3)], [.int ((h.1 55 5) + 3), .ref 53, .int 116], h)) rfl ⟨trivial, trivial, trivial, trivial, trivial, trivial, trivial⟩ ?_
          refine cl hX 104 2 [.ref 53, .int ((h.1 55 5) + 3)] [.int 116] rfl rfl rfl rfl ?_
          refine c_atI t.sm (tx_in t e5 e6 hs he (len := 6) (k := 3) b1 (by decide) (by decide)) ?_
          show X (50, [some (.ref 55), some (.ref 1002), some (.int 3)], [.int (h.1 54 ((h.1 55 5) + 3)), .int 116], h)
          refine go hX 1 (gs := [True]) (z' := (if 116 = (h.1 54 ((h.1 55 5) + 3)) then 55 else 53, [some (.ref 55), some (.ref 1002), some (.int 3)], [], h)) rfl ⟨trivial, trivial⟩ ?_
          refine br (fun b5 => ?_) (fun b5 => ?_)
          ·
            refine go hX 4 (gs := [True, True, True, True]) (z' := (26, [some (.ref 55), some (.ref 1002), some (.int 4)], [.ref 1002, .int 4], h)) rfl ⟨trivial, trivial, trivial, trivial, trivial⟩ ?_
            refine cl hX 900 1 [.ref 1002] [.int 4] rfl rfl rfl rfl ?_
            refine c_len (i := 2) rfl ?_
            show X (29, [some (.ref 55), some (.ref 1002), some (.int 4)], [.int 6, .int 4], h)
            refine go hX 3 (gs := [True, True, True]) (z' := (34, [some (.ref 55), some (.ref 1002), some (.int 4)], [.int 4, .ref 1002], h)) rfl ⟨trivial, trivial, trivial, trivial⟩ ?_
            refine cl hX 901 2 [.ref 1002, .int 4] [] rfl rfl rfl rfl ?_
            refine c_chr (i := 2) (j := 4) (c := 105) rfl rfl rfl ?_
            show X (37, [some (.ref 55), some (.ref 1002), some (.int 4)], [.int 105], h)
            refine go hX 6 (gs := [True, True, True, True, True, True]) (z' := (47, [some (.ref 55), some (.ref 1002), some (.int 4)], [.int ((h.1 55 5) + 4), .ref 53, .int 105], h)) rfl ⟨trivial, trivial, trivial, trivial, trivial, trivial, trivial⟩ ?_
            refine cl hX 104 2 [.ref 53, .int ((h.1 55 5) + 4)] [.int 105] rfl rfl rfl rfl ?_
            refine c_atI t.sm (tx_in t e5 e6 hs he (len := 6) (k := 4) b1 (by decide) (by decide)) ?_
            show X (50, [some (.ref 55), some (.ref 1002), some (.int 4)], [.int (h.1 54 ((h.1 55 5) + 4)), .int 105], h)
            refine go hX 1 (gs := [True]) (z' := (if 105 = (h.1 54 ((h.1 55 5) + 4)) then 55 else 53, [some (.ref 55), some (.ref 1002), some (.int 4)], [], h)) rfl ⟨trivial, trivial⟩ ?_
            refine br (fun b6 => ?_) (fun b6 => ?_)
            ·
              refine go hX 4 (gs := [True, True, True, True]) (z' := (26, [some (.ref 55), some (.ref 1002), some (.int 5)], [.ref 1002, .int 5], h)) rfl ⟨trivial, trivial, trivial, trivial, trivial⟩ ?_
              refine cl hX 900 1 [.ref 1002] [.int 5] rfl rfl rfl rfl ?_
              refine c_len (i := 2) rfl ?_
              show X (29, [some (.ref 55), some (.ref 1002), some (.int 5)], [.int 6, .int 5], h)
              refine go hX 3 (gs := [True, True, True]) (z' := (34, [some (.ref 55), some (.ref 1002), some (.int 5)], [.int 5, .ref 1002], h)) rfl ⟨trivial, trivial, trivial, trivial⟩ ?_
              refine cl hX 901 2 [.ref 1002, .int 5] [] rfl rfl rfl rfl ?_
              refine c_chr (i := 2) (j := 5) (c := 109) rfl rfl rfl ?_
              show X (37, [some (.ref 55), some (.ref 1002), some (.int 5)], [.int 109], h)
              refine go hX 6 (gs := [True, True, True, True, True, True]) (z' := (47, [some (.ref 55), some (.ref 1002), some (.int 5)], [.int ((h.1 55 5) + 5), .ref 53, .int 109], h)) rfl ⟨trivial, trivial, trivial, trivial, trivial, trivial, trivial⟩ ?_
              refine cl hX 104 2 [.ref 53, .int ((h.1 55 5) + 5)] [.int 109] rfl rfl rfl rfl ?_
              refine c_atI t.sm (tx_in t e5 e6 hs he (len := 6) (k := 5) b1 (by decide) (by decide)) ?_
              show X (50, [some (.ref 55), some (.ref 1002), some (.int 5)], [.int (h.1 54 ((h.1 55 5) + 5)), .int 109], h)
              refine go hX 1 (gs := [True]) (z' := (if 109 = (h.1 54 ((h.1 55 5) + 5)) then 55 else 53, [some (.ref 55), some (.ref 1002), some (.int 5)], [], h)) rfl ⟨trivial, trivial⟩ ?_
              refine br (fun b7 => ?_) (fun b7 => ?_)
              ·
                refine go hX 4 (gs := [True, True, True, True]) (z' := (26, [some (.ref 55), some (.ref 1002), some (.int 6)], [.ref 1002, .int 6], h)) rfl ⟨trivial, trivial, trivial, trivial, trivial⟩ ?_
                refine cl hX 900 1 [.ref 1002] [.int 6] rfl rfl rfl rfl ?_
                refine c_len (i := 2) rfl ?_
                show X (29, [some (.ref 55), some (.ref 1002), some (.int 6)], [.int 6, .int 6], h)
                refine go hX 2 (gs := [True, True]) (z' := (62, [some (.ref 55), some (.ref 1002), some (.int 6)], [.int 1], h)) rfl ⟨trivial, trivial, trivial⟩ ?_
                refine rt_ hX (G := isB 1) (r := some (.int 1)) rfl isB1 ?_
                exact k1 ⟨b1, b2, b3, b4, b5, b6, b7⟩
              ·
                refine go hX 1 (gs := [True]) (z' := (54, [some (.ref 55), some (.ref 1002), some (.int 5)], [.int 0], h)) rfl ⟨trivial, trivial⟩ ?_
                refine rt_ hX (G := isB 0) (r := some (.int 0)) rfl isB0 ?_
                exact k0 (fun q => b7 q.2.2.2.2.2.2)
            ·
              refine go hX 1 (gs := [True]) (z' := (54, [some (.ref 55), some (.ref 1002), some (.int 4)], [.int 0], h)) rfl ⟨trivial, trivial⟩ ?_
              refine rt_ hX (G := isB 0) (r := some (.int 0)) rfl isB0 ?_
              exact k0 (fun q => b6 q.2.2.2.2.2.1)
          ·
            refine go hX 1 (gs := [True]) (z' := (54, [some (.ref 55), some (.ref 1002), some (.int 3)], [.int 0], h)) rfl ⟨trivial, trivial⟩ ?_
            refine rt_ hX (G := isB 0) (r := some (.int 0)) rfl isB0 ?_
            exact k0 (fun q => b5 q.2.2.2.2.1)
        ·
          refine go hX 1 (gs := [True]) (z' := (54, [some (.ref 55), some (.ref 1002), some (.int 2)], [.int 0], h)) rfl ⟨trivial, trivial⟩ ?_
          refine rt_ hX (G := isB 0) (r := some (.int 0)) rfl isB0 ?_
          exact k0 (fun q => b4 q.2.2.2.1)
      ·
        refine go hX 1 (gs := [True]) (z' := (54, [some (.ref 55), some (.ref 1002), some (.int 1)], [.int 0], h)) rfl ⟨trivial, trivial⟩ ?_
        refine rt_ hX (G := isB 0) (r := some (.int 0)) rfl isB0 ?_
        exact k0 (fun q => b3 q.2.2.1)
    ·
      refine go hX 1 (gs := [True]) (z' := (54, [some (.ref 55), some (.ref 1002), some (.int 0)], [.int 0], h)) rfl ⟨trivial, trivial⟩ ?_
      refine rt_ hX (G := isB 0) (r := some (.int 0)) rfl isB0 ?_
      exact k0 (fun q => b2 q.2.1)
  ·
    refine go hX 1 (gs := [True]) (z' := (21, [some (.ref 55), some (.ref 1002), none], [.int 0], h)) rfl ⟨trivial, trivial⟩ ?_
    refine rt_ hX (G := isB 0) (r := some (.int 0)) rfl isB0 ?_
    exact k0 (fun q => b1 q.1)
theorem c_spelt3 {d : Nat} {Q : Option Value → Hp → Prop} {h : Hp} {n s e : Nat} (t : TP h n) (e5 : h.1 55 5 = nI s) (e6 : h.1 55 6 = nI e) (hs : s ≤ e) (he : e ≤ n) (k1 : cw3 h → Q (some (.int 1)) h) (k0 : ¬ cw3 h → Q (some (.int 0)) h) : Call (d + 2) 36 [.ref 55, .ref 1003] h Q := by
  refine call_of (rfl : psM[36]? = some _) rfl rfl (rcvV rfl) (fun X hX => ?_)
  show X (0, [some (.ref 55), some (.ref 1003), none], [], h)
  refine go hX 3 (gs := [True, True, True]) (z' := (5, [some (.ref 55), some (.ref 1003), none], [.ref 1003], h)) rfl ⟨trivial, trivial, trivial, trivial⟩ ?_
  refine cl hX 900 1 [.ref 1003] [] rfl rfl rfl rfl ?_
  refine c_len (i := 3) rfl ?_
  show X (8, [some (.ref 55), some (.ref 1003), none], [.int 4], h)
  refine go hX 6 (gs := [True, True, True, True, True, True]) (z' := (if 4 = ((h.1 55 6) - (h.1 55 5)) then 22 else 20, [some (.ref 55), some (.ref 1003), none], [], h)) rfl ⟨trivial, trivial, trivial, trivial, trivial, trivial, trivial⟩ ?_
  refine br (fun b1 => ?_) (fun b1 => ?_)
  ·
    refine go hX 4 (gs := [True, True, True, True]) (z' := (26, [some (.ref 55), some (.ref 1003), some (.int 0)], [.ref 1003, .int 0], h)) rfl ⟨trivial, trivial, trivial, trivial, trivial⟩ ?_
    refine cl hX 900 1 [.ref 1003] [.int 0] rfl rfl rfl rfl ?_
    refine c_len (i := 3) rfl ?_
    show X (29, [some (.ref 55), some (.ref 1003), some (.int 0)], [.int 4, .int 0], h)
    refine go hX 3 (gs := [True, True, True]) (z' := (34, [some (.ref 55), some (.ref 1003), some (.int 0)], [.int 0, .ref 1003], h)) rfl ⟨trivial, trivial, trivial, trivial⟩ ?_
    refine cl hX 901 2 [.ref 1003, .int 0] [] rfl rfl rfl rfl ?_
    refine c_chr (i := 3) (j := 0) (c := 115) rfl rfl rfl ?_
    show X (37, [some (.ref 55), some (.ref 1003), some (.int 0)], [.int 115], h)
    refine go hX 6 (gs := [True, True, True, True, True, True]) (z' := (47, [some (.ref 55), some (.ref 1003), some (.int 0)], [.int ((h.1 55 5) + 0), .ref 53, .int 115], h)) rfl ⟨trivial, trivial, trivial, trivial, trivial, trivial, trivial⟩ ?_
    refine cl hX 104 2 [.ref 53, .int ((h.1 55 5) + 0)] [.int 115] rfl rfl rfl rfl ?_
    refine c_atI t.sm (tx_in t e5 e6 hs he (len := 4) (k := 0) b1 (by decide) (by decide)) ?_
    show X (50, [some (.ref 55), some (.ref 1003), some (.int 0)], [.int (h.1 54 ((h.1 55 5) + 0)), .int 115], h)
    refine go hX 1 (gs := [True]) (z' := (if 115 = (h.1 54 ((h.1 55 5) + 0)) then 55 else 53, [some (.ref 55), some (.ref 1003), some (.int 0)], [], h)) rfl ⟨trivial, trivial⟩ ?_
    refine br (fun b2 => ?_) (fun b2 => ?_)
    ·
      refine go hX 4 (gs := [True, True, True, True]) (z' := (26, [some (.ref 55), some (.ref 1003), some (.int 1)], [.ref 1003, .int 1], h)) rfl ⟨trivial, trivial, trivial, trivial, trivial⟩ ?_
      refine cl hX 900 1 [.ref 1003] [.int 1] rfl rfl rfl rfl ?_
      refine c_len (i := 3) rfl ?_
      show X (29, [some (.ref 55), some (.ref 1003), some (.int 1)], [.int 4, .int 1], h)
      refine go hX 3 (gs := [True, True, True]) (z' := (34, [some (.ref 55), some (.ref 1003), some (.int 1)], [.int 1, .ref 1003], h)) rfl ⟨trivial, trivial, trivial, trivial⟩ ?_
      refine cl hX 901 2 [.ref 1003, .int 1] [] rfl rfl rfl rfl ?_
      refine c_chr (i := 3) (j := 1) (c := 97) rfl rfl rfl ?_
      show X (37, [some (.ref 55), some (.ref 1003), some (.int 1)], [.int 97], h)
      refine go hX 6 (gs := [True, True, True, True, True, True]) (z' := (47, [some (.ref 55), some (.ref 1003), some (.int 1)], [.int ((h.1 55 5) + 1), .ref 53, .int 97], h)) rfl ⟨trivial, trivial, trivial, trivial, trivial, trivial, trivial⟩ ?_
      refine cl hX 104 2 [.ref 53, .int ((h.1 55 5) + 1)] [.int 97] rfl rfl rfl rfl ?_
      refine c_atI t.sm (tx_in t e5 e6 hs he (len := 4) (k := 1) b1 (by decide) (by decide)) ?_
      show X (50, [some (.ref 55), some (.ref 1003), some (.int 1)], [.int (h.1 54 ((h.1 55 5) + 1)), .int 97], h)
      refine go hX 1 (gs := [True]) (z' := (if 97 = (h.1 54 ((h.1 55 5) + 1)) then 55 else 53, [some (.ref 55), some (.ref 1003), some (.int 1)], [], h)) rfl ⟨trivial, trivial⟩ ?_
      refine br (fun b3 => ?_) (fun b3 => ?_)
      ·
        refine go hX 4 (gs := [True, True, True, True]) (z' := (26, [some (.ref 55), some (.ref 1003), some (.int 2)], [.ref 1003, .int 2], h)) rfl ⟨trivial, trivial, trivial, trivial, trivial⟩ ?_
        refine cl hX 900 1 [.ref 1003] [.int 2] rfl rfl rfl rfl ?_
        refine c_len (i := 3) rfl ?_
        show X (29, [some (.ref 55), some (.ref 1003), some (.int 2)], [.int 4, .int 2], h)
        refine go hX 3 (gs := [True, True, True]) (z' := (34, [some (.ref 55), some (.ref 1003), some (.int 2)], [.int 2, .ref 1003], h)) rfl ⟨trivial, trivial, trivial, trivial⟩ ?_
        refine cl hX 901 2 [.ref 1003, .int 2] [] rfl rfl rfl rfl ?_
        refine c_chr (i := 3) (j := 2) (c := 118) rfl rfl rfl ?_
        show X (37, [some (.ref 55), some (.ref 1003), some (.int 2)], [.int 118], h)
        refine go hX 6 (gs := [True, True, True, True, True, True]) (z' := (47, [some (.ref 55), some (.ref 1003), some (.int 2)], [.int ((h.1 55 5) + 2), .ref 53, .int 118], h)) rfl ⟨trivial, trivial, trivial, trivial, trivial, trivial, trivial⟩ ?_
        refine cl hX 104 2 [.ref 53, .int ((h.1 55 5) + 2)] [.int 118] rfl rfl rfl rfl ?_
        refine c_atI t.sm (tx_in t e5 e6 hs he (len := 4) (k := 2) b1 (by decide) (by decide)) ?_
        show X (50, [some (.ref 55), some (.ref 1003), some (.int 2)], [.int (h.1 54 ((h.1 55 5) + 2)), .int 118], h)
        refine go hX 1 (gs := [True]) (z' := (if 118 = (h.1 54 ((h.1 55 5) + 2)) then 55 else 53, [some (.ref 55), some (.ref 1003), some (.int 2)], [], h)) rfl ⟨trivial, trivial⟩ ?_
        refine br (fun b4 => ?_) (fun b4 => ?_)
        ·
          refine go hX 4 (gs := [True, True, True, True]) (z' := (26, [some (.ref 55), some (.ref 1003), some (.int 3)], [.ref 1003, .int 3], h)) rfl ⟨trivial, trivial, trivial, trivial, trivial⟩ ?_
          refine cl hX 900 1 [.ref 1003] [.int 3] rfl rfl rfl rfl ?_
          refine c_len (i := 3) rfl ?_
          show X (29, [some (.ref 55), some (.ref 1003), some (.int 3)], [.int 4, .int 3], h)
          refine go hX 3 (gs := [True, True, True]) (z' := (34, [some (.ref 55), some (.ref 1003), some (.int 3)], [.int 3, .ref 1003], h)) rfl ⟨trivial, trivial, trivial, trivial⟩ ?_
          refine cl hX 901 2 [.ref 1003, .int 3] [] rfl rfl rfl rfl ?_
          refine c_chr (i := 3) (j := 3) (c := 101) rfl rfl rfl ?_
          show X (37, [some (.ref 55), some (.ref 1003), some (.int 3)], [.int 101], h)
          refine go hX 6 (gs := [True, True, True, True, True, True]) (z' := (47, [some (.ref 55), some (.ref 1003), some (.int 3)], [.int ((h.1 55 5) + 3), .ref 53, .int 101], h)) rfl ⟨trivial, trivial, trivial, trivial, trivial, trivial, trivial⟩ ?_
          refine cl hX 104 2 [.ref 53, .int ((h.1 55 5) + 3)] [.int 101] rfl rfl rfl rfl ?_
          refine c_atI t.sm (tx_in t e5 e6 hs he (len := 4) (k := 3) b1 (by decide) (by decide)) ?_
          show X (50, [some (.ref 55), some (.ref 1003), some (.int 3)], [.int (h.1 54 ((h.1 55 5) + 3)), .int 101], h)
          refine go hX 1 (gs := [True]) (z' := (if 101 = (h.1 54 ((h.1 55 5) + 3)) then 55 else 53, [some (.ref 55), some (.ref 1003), some (.int 3)], [], h)) rfl ⟨trivial, trivial⟩ ?_
          refine br (fun b5 => ?_) (fun b5 => ?_)
          ·
            refine go hX 4 (gs := [True, True, True, True]) (z' := (26, [some (.ref 55), some (.ref 1003), some (.int 4)], [.ref 1003, .int 4], h)) rfl ⟨trivial, trivial, trivial, trivial, trivial⟩ ?_
            refine cl hX 900 1 [.ref 1003] [.int 4] rfl rfl rfl rfl ?_
            refine c_len (i := 3) rfl ?_
            show X (29, [some (.ref 55), some (.ref 1003), some (.int 4)], [.int 4, .int 4], h)
            refine go hX 2 (gs := [True, True]) (z' := (62, [some (.ref 55), some (.ref 1003), some (.int 4)], [.int 1], h)) rfl ⟨trivial, trivial, trivial⟩ ?_
            refine rt_ hX (G := isB 1) (r := some (.int 1)) rfl isB1 ?_
            exact k1 ⟨b1, b2, b3, b4, b5⟩
          ·
            refine go hX 1 (gs := [True]) (z' := (54, [some (.ref 55), some (.ref 1003), some (.int 3)], [.int 0], h)) rfl ⟨trivial, trivial⟩ ?_
            refine rt_ hX (G := isB 0) (r := some (.int 0)) rfl isB0 ?_
            exact k0 (fun q => b5 q.2.2.2.2)
        ·
          refine go hX 1 (gs := [True]) (z' := (54, [some (.ref 55), some (.ref 1003), some (.int 2)], [.int 0], h)) rfl ⟨trivial, trivial⟩ ?_
          refine rt_ hX (G := isB 0) (r := some (.int 0)) rfl isB0 ?_
          exact k0 (fun q => b4 q.2.2.2.1)
      ·
        refine go hX 1 (gs := [True]) (z' := (54, [some (.ref 55), some (.ref 1003), some (.int 1)], [.int 0], h)) rfl ⟨trivial, trivial⟩ ?_
        refine rt_ hX (G := isB 0) (r := some (.int 0)) rfl isB0 ?_
        exact k0 (fun q => b3 q.2.2.1)
    ·
      refine go hX 1 (gs := [True]) (z' := (54, [some (.ref 55), some (.ref 1003), some (.int 0)], [.int 0], h)) rfl ⟨trivial, trivial⟩ ?_
      refine rt_ hX (G := isB 0) (r := some (.int 0)) rfl isB0 ?_
      exact k0 (fun q => b2 q.2.1)
  ·
    refine go hX 1 (gs := [True]) (z' := (21, [some (.ref 55), some (.ref 1003), none], [.int 0], h)) rfl ⟨trivial, trivial⟩ ?_
    refine rt_ hX (G := isB 0) (r := some (.int 0)) rfl isB0 ?_
    exact k0 (fun q => b1 q.1)
theorem c_spelt4 {d : Nat} {Q : Option Value → Hp → Prop} {h : Hp} {n s e : Nat} (t : TP h n) (e5 : h.1 55 5 = nI s) (e6 : h.1 55 6 = nI e) (hs : s ≤ e) (he : e ≤ n) (k1 : cw4 h → Q (some (.int 1)) h) (k0 : ¬ cw4 h → Q (some (.int 0)) h) : Call (d + 2) 36 [.ref 55, .ref 1004] h Q := by
  refine call_of (rfl : psM[36]? = some _) rfl rfl (rcvV rfl) (fun X hX => ?_)
  show X (0, [some (.ref 55), some (.ref 1004), none], [], h)
  refine go hX 3 (gs := [True, True, True]) (z' := (5, [some (.ref 55), some (.ref 1004), none], [.ref 1004], h)) rfl ⟨trivial, trivial, trivial, trivial⟩ ?_
  refine cl hX 900 1 [.ref 1004] [] rfl rfl rfl rfl ?_
  refine c_len (i := 4) rfl ?_
  show X (8, [some (.ref 55), some (.ref 1004), none], [.int 5], h)
  refine go hX 6 (gs := [True, True, True, True, True, True]) (z' := (if 5 = ((h.1 55 6) - (h.1 55 5)) then 22 else 20, [some (.ref 55), some (.ref 1004), none], [], h)) rfl ⟨trivial, trivial, trivial, trivial, trivial, trivial, trivial⟩ ?_
  refine br (fun b1 => ?_) (fun b1 => ?_)
  ·
    refine go hX 4 (gs := [True, True, True, True]) (z' := (26, [some (.ref 55), some (.ref 1004), some (.int 0)], [.ref 1004, .int 0], h)) rfl ⟨trivial, trivial, trivial, trivial, trivial⟩ ?_
    refine cl hX 900 1 [.ref 1004] [.int 0] rfl rfl rfl rfl ?_
    refine c_len (i := 4) rfl ?_
    show X (29, [some (.ref 55), some (.ref 1004), some (.int 0)], [.int 5, .int 0], h)
    refine go hX 3 (gs := [True, True, True]) (z' := (34, [some (.ref 55), some (.ref 1004), some (.int 0)], [.int 0, .ref 1004], h)) rfl ⟨trivial, trivial, trivial, trivial⟩ ?_
    refine cl hX 901 2 [.ref 1004, .int 0] [] rfl rfl rfl rfl ?_
    refine c_chr (i := 4) (j := 0) (c := 108) rfl rfl rfl ?_
    show X (37, [some (.ref 55), some (.ref 1004), some (.int 0)], [.int 108], h)
    refine go hX 6 (gs := [True, True, True, True, True, True]) (z' := (47, [some (.ref 55), some (.ref 1004), some (.int 0)], [.int ((h.1 55 5) + 0), .ref 53, .int 108], h)) rfl ⟨trivial, trivial, trivial, trivial, trivial, trivial, trivial⟩ ?_
    refine cl hX 104 2 [.ref 53, .int ((h.1 55 5) + 0)] [.int 108] rfl rfl rfl rfl ?_
    refine c_atI t.sm (tx_in t e5 e6 hs he (len := 5) (k := 0) b1 (by decide) (by decide)) ?_
    show X (50, [some (.ref 55), some (.ref 1004), some (.int 0)], [.int (h.1 54 ((h.1 55 5) + 0)), .int 108], h)
    refine go hX 1 (gs := [True]) (z' := (if 108 = (h.1 54 ((h.1 55 5) + 0)) then 55 else 53, [some (.ref 55), some (.ref 1004), some (.int 0)], [], h)) rfl ⟨trivial, trivial⟩ ?_
    refine br (fun b2 => ?_) (fun b2 => ?_)
    ·
      refine go hX 4 (gs := [True, True, True, True]) (z' := (26, [some (.ref 55), some (.ref 1004), some (.int 1)], [.ref 1004, .int 1], h)) rfl ⟨trivial, trivial, trivial, trivial, trivial⟩ ?_
      refine cl hX 900 1 [.ref 1004] [.int 1] rfl rfl rfl rfl ?_
      refine c_len (i := 4) rfl ?_
      show X (29, [some (.ref 55), some (.ref 1004), some (.int 1)], [.int 5, .int 1], h)
      refine go hX 3 (gs := [True, True, True]) (z' := (34, [some (.ref 55), some (.ref 1004), some (.int 1)], [.int 1, .ref 1004], h)) rfl ⟨trivial, trivial, trivial, trivial⟩ ?_
      refine cl hX 901 2 [.ref 1004, .int 1] [] rfl rfl rfl rfl ?_
      refine c_chr (i := 4) (j := 1) (c := 101) rfl rfl rfl ?_
      show X (37, [some (.ref 55), some (.ref 1004), some (.int 1)], [.int 101], h)
      refine go hX 6 (gs := [True, True, True, True, True, True]) (z' := (47, [some (.ref 55), some (.ref 1004), some (.int 1)], [.int ((h.1 55 5) + 1), .ref 53, .int 101], h)) rfl ⟨trivial, trivial, trivial, trivial, trivial, trivial, trivial⟩ ?_
      refine cl hX 104 2 [.ref 53, .int ((h.1 55 5) + 1)] [.int 101] rfl rfl rfl rfl ?_
      refine c_atI t.sm (tx_in t e5 e6 hs he (len := 5) (k := 1) b1 (by decide) (by decide)) ?_
      show X (50, [some (.ref 55), some (.ref 1004), some (.int 1)], [.int (h.1 54 ((h.1 55 5) + 1)), .int 101], h)
      refine go hX 1 (gs := [True]) (z' := (if 101 = (h.1 54 ((h.1 55 5) + 1)) then 55 else 53, [some (.ref 55), some (.ref 1004), some (.int 1)], [], h)) rfl ⟨trivial, trivial⟩ ?_
      refine br (fun b3 => ?_) (fun b3 => ?_)
      ·
        refine go hX 4 (gs := [True, True, True, True]) (z' := (26, [some (.ref 55), some (.ref 1004), some (.int 2)], [.ref 1004, .int 2], h)) rfl ⟨trivial, trivial, trivial, trivial, trivial⟩ ?_
        refine cl hX 900 1 [.ref 1004] [.int 2] rfl rfl rfl rfl ?_
        refine c_len (i := 4) rfl ?_
        show X (29, [some (.ref 55), some (.ref 1004), some (.int 2)], [.int 5, .int 2], h)
        refine go hX 3 (gs := [True, True, True]) (z' := (34, [some (.ref 55), some (.ref 1004), some (.int 2)], [.int 2, .ref 1004], h)) rfl ⟨trivial, trivial, trivial, trivial⟩ ?_
        refine cl hX 901 2 [.ref 1004, .int 2] [] rfl rfl rfl rfl ?_
        refine c_chr (i := 4) (j := 2) (c := 97) rfl rfl rfl ?_
        show X (37, [some (.ref 55), some (.ref 1004), some (.int 2)], [.int 97], h)
        refine go hX 6 (gs := [True, True, True, True, True, True]) (z' := (47, [some (.ref 55), some (.ref 1004), some (.int 2)], [.int ((h.1 55 5) + 2), .ref 53, .int 97], h)) rfl ⟨trivial, trivial, trivial, trivial, trivial, trivial, trivial⟩ ?_
        refine cl hX 104 2 [.ref 53, .int ((h.1 55 5) + 2)] [.int 97] rfl rfl rfl rfl ?_
        refine c_atI t.sm (tx_in t e5 e6 hs he (len := 5) (k := 2) b1 (by decide) (by decide)) ?_
        show X (50, [some (.ref 55), some (.ref 1004), some (.int 2)], [.int (h.1 54 ((h.1 55 5) + 2)), .int 97], h)
        refine go hX 1 (gs := [True]) (z' := (if 97 = (h.1 54 ((h.1 55 5) + 2)) then 55 else 53, [some (.ref 55), some (.ref 1004), some (.int 2)], [], h)) rfl ⟨trivial, trivial⟩ ?_
        refine br (fun b4 => ?_) (fun b4 => ?_)
        ·
          refine go hX 4 (gs := [True, True, True, True]) (z' := (26, [some (.ref 55), some (.ref 1004), some (.int 3)], [.ref 1004, .int 3], h)) rfl ⟨trivial, trivial, trivial, trivial, trivial⟩ ?_
          refine cl hX 900 1 [.ref 1004] [.int 3] rfl rfl rfl rfl ?_
          refine c_len (i := 4) rfl ?_
          show X (29, [some (.ref 55), some (.ref 1004), some (.int 3)], [.int 5, .int 3], h)
          refine go hX 3 (gs := [True, True, True]) (z' := (34, [some (.ref 55), some (.ref 1004), some (.int 3)], [.int 3, .ref 1004], h)) rfl ⟨trivial, trivial, trivial, trivial⟩ ?_
          refine cl hX 901 2 [.ref 1004, .int 3] [] rfl rfl rfl rfl ?_
          refine c_chr (i := 4) (j := 3) (c := 115) rfl rfl rfl ?_
          show X (37, [some (.ref 55), some (.ref 1004), some (.int 3)], [.int 115], h)
          refine go hX 6 (gs := [True, True, True, True, True, True]) (z' := (47, [some (.ref 55), some (.ref 1004), some (.int 3)], [.int ((h.1 55 5) + 3), .ref 53, .int 115], h)) rfl ⟨trivial, trivial, trivial, trivial, trivial, trivial, trivial⟩ ?_
          refine cl hX 104 2 [.ref 53, .int ((h.1 55 5) + 3)] [.int 115] rfl rfl rfl rfl ?_
          refine c_atI t.sm (tx_in t e5 e6 hs he (len := 5) (k := 3) b1 (by decide) (by decide)) ?_
          show X (50, [some (.ref 55), some (.ref 1004), some (.int 3)], [.int (h.1 54 ((h.1 55 5) + 3)), .int 115], h)
          refine go hX 1 (gs := [True]) (z' := (if 115 = (h.1 54 ((h.1 55 5) + 3)) then 55 else 53, [some (.ref 55), some (.ref 1004), some (.int 3)], [], h)) rfl ⟨trivial, trivial⟩ ?_
          refine br (fun b5 => ?_) (fun b5 => ?_)
          ·
            refine go hX 4 (gs := [True, True, True, True]) (z' := (26, [some (.ref 55), some (.ref 1004), some (.int 4)], [.ref 1004, .int 4], h)) rfl ⟨trivial, trivial, trivial, trivial, trivial⟩ ?_
            refine cl hX 900 1 [.ref 1004] [.int 4] rfl rfl rfl rfl ?_
            refine c_len (i := 4) rfl ?_
            show X (29, [some (.ref 55), some (.ref 1004), some (.int 4)], [.int 5, .int 4], h)
            refine go hX 3 (gs := [True, True, True]) (z' := (34, [some (.ref 55), some (.ref 1004), some (.int 4)], [.int 4, .ref 1004], h)) rfl ⟨trivial, trivial, trivial, trivial⟩ ?_
            refine cl hX 901 2 [.ref 1004, .int 4] [] rfl rfl rfl rfl ?_
            refine c_chr (i := 4) (j := 4) (c := 116) rfl rfl rfl ?_
            show X (37, [some (.ref 55), some (.ref 1004), some (.int 4)], [.int 116], h)
            refine go hX 6 (gs := [True, True, True, True, True, True]) (z' := (47, [some (.ref 55), some (.ref 1004), some (.int 4)], [.int ((h.1 55 5) + 4), .ref 53, .int 116], h)) rfl ⟨trivial, trivial, trivial, trivial, trivial, trivial, trivial⟩ ?_
            refine cl hX 104 2 [.ref 53, .int ((h.1 55 5) + 4)] [.int 116] rfl rfl rfl rfl ?_
            refine c_atI t.sm (tx_in t e5 e6 hs he (len := 5) (k := 4) b1 (by decide) (by decide)) ?_
            show X (50, [some (.ref 55), some (.ref 1004), some (.int 4)], [.int (h.1 54 ((h.1 55 5) + 4)), .int 116], h)
            refine go hX 1 (gs := [True]) (z' := (if 116 = (h.1 54 ((h.1 55 5) + 4)) then 55 else 53, [some (.ref 55), some (.ref 1004), some (.int 4)], [], h)) rfl ⟨trivial, trivial⟩ ?_
            refine br (fun b6 => ?_) (fun b6 => ?_)
            ·
              refine go hX 4 (gs := [True, True, True, True]) (z' := (26, [some (.ref 55), some (.ref 1004), some (.int 5)], [.ref 1004, .int 5], h)) rfl ⟨trivial, trivial, trivial, trivial, trivial⟩ ?_
              refine cl hX 900 1 [.ref 1004] [.int 5] rfl rfl rfl rfl ?_
              refine c_len (i := 4) rfl ?_
              show X (29, [some (.ref 55), some (.ref 1004), some (.int 5)], [.int 5, .int 5], h)
              refine go hX 2 (gs := [True, True]) (z' := (62, [some (.ref 55), some (.ref 1004), some (.int 5)], [.int 1], h)) rfl ⟨trivial, trivial, trivial⟩ ?_
              refine rt_ hX (G := isB 1) (r := some (.int 1)) rfl isB1 ?_
              exact k1 ⟨b1, b2, b3, b4, b5, b6⟩
            ·
              refine go hX 1 (gs := [True]) (z' := (54, [some (.ref 55), some (.ref 1004), some (.int 4)], [.int 0], h)) rfl ⟨trivial, trivial⟩ ?_
              refine rt_ hX (G := isB 0) (r := some (.int 0)) rfl isB0 ?_
              exact k0 (fun q => b6 q.2.2.2.2.2)
          ·
            refine go hX 1 (gs := [True]) (z' := (54, [some (.ref 55), some (.ref 1004), some (.int 3)], [.int 0], h)) rfl ⟨trivial, trivial⟩ ?_
            refine rt_ hX (G := isB 0) (r := some (.int 0)) rfl isB0 ?_
            exact k0 (fun q => b5 q.2.2.2.2.1)
        ·
          refine go hX 1 (gs := [True]) (z' := (54, [some (.ref 55), some (.ref 1004), some (.int 2)], [.int 0], h)) rfl ⟨trivial, trivial⟩ ?_
          refine rt_ hX (G := isB 0) (r := some (.int 0)) rfl isB0 ?_
          exact k0 (fun q => b4 q.2.2.2.1)
      ·
        refine go hX 1 (gs := [True]) (z' := (54, [some (.ref 55), some (.ref 1004), some (.int 1)], [.int 0], h)) rfl ⟨trivial, trivial⟩ ?_
        refine rt_ hX (G := isB 0) (r := some (.int 0)) rfl isB0 ?_
        exact k0 (fun q => b3 q.2.2.1)
    ·
      refine go hX 1 (gs := [True]) (z' := (54, [some (.ref 55), some (.ref 1004), some (.int 0)], [.int 0], h)) rfl ⟨trivial, trivial⟩ ?_
      refine rt_ hX (G := isB 0) (r := some (.int 0)) rfl isB0 ?_
      exact k0 (fun q => b2 q.2.1)
  ·
    refine go hX 1 (gs := [True]) (z' := (21, [some (.ref 55), some (.ref 1004), none], [.int 0], h)) rfl ⟨trivial, trivial⟩ ?_
    refine rt_ hX (G := isB 0) (r := some (.int 0)) rfl isB0 ?_
    exact k0 (fun q => b1 q.1)
theorem c_spelt5 {d : Nat} {Q : Option Value → Hp → Prop} {h : Hp} {n s e : Nat} (t : TP h n) (e5 : h.1 55 5 = nI s) (e6 : h.1 55 6 = nI e) (hs : s ≤ e) (he : e ≤ n) (k1 : cw5 h → Q (some (.int 1)) h) (k0 : ¬ cw5 h → Q (some (.int 0)) h) : Call (d + 2) 36 [.ref 55, .ref 1005] h Q := by
  refine call_of (rfl : psM[36]? = some _) rfl rfl (rcvV rfl) (fun X hX => ?_)
  show X (0, [some (.ref 55), some (.ref 1005), none], [], h)
  refine go hX 3 (gs := [True, True, True]) (z' := (5, [some (.ref 55), some (.ref 1005), none], [.ref 1005], h)) rfl ⟨trivial, trivial, trivial, trivial⟩ ?_
  refine cl hX 900 1 [.ref 1005] [] rfl rfl rfl rfl ?_
  refine c_len (i := 5) rfl ?_
  show X (8, [some (.ref 55), some (.ref 1005), none], [.int 4], h)
  refine go hX 6 (gs := [True, True, True, True, True, True]) (z' := (if 4 = ((h.1 55 6) - (h.1 55 5)) then 22 else 20, [some (.ref 55), some (.ref 1005), none], [], h)) rfl ⟨trivial, trivial, trivial, trivial, trivial, trivial, trivial⟩ ?_
  refine br (fun b1 => ?_) (fun b1 => ?_)
  ·
    refine go hX 4 (gs := [True, True, True, True]) (z' := (26, [some (.ref 55), some (.ref 1005), some (.int 0)], [.ref 1005, .int 0], h)) rfl ⟨trivial, trivial, trivial, trivial, trivial⟩ ?_
    refine cl hX 900 1 [.ref 1005] [.int 0] rfl rfl rfl rfl ?_
    refine c_len (i := 5) rfl ?_
    show X (29, [some (.ref 55), some (.ref 1005), some (.int 0)], [.int 4, .int 0], h)
    refine go hX 3 (gs := [True, True, True]) (z' := (34, [some (.ref 55), some (.ref 1005), some (.int 0)], [.int 0, .ref 1005], h)) rfl ⟨trivial, trivial, trivial, trivial⟩ ?_
    refine cl hX 901 2 [.ref 1005, .int 0] [] rfl rfl rfl rfl ?_
    refine c_chr (i := 5) (j := 0) (c := 100) rfl rfl rfl ?_
    show X (37, [some (.ref 55), some (.ref 1005), some (.int 0)], [.int 100], h)
    refine go hX 6 (gs := [True, True, True, True, True, True]) (z' := (47, [some (.ref 55), some (.ref 1005), some (.int 0)], [.int ((h.1 55 5) + 0), .ref 53, .int 100], h)) rfl ⟨trivial, trivial, trivial, trivial, trivial, trivial, trivial⟩ ?_
    refine cl hX 104 2 [.ref 53, .int ((h.1 55 5) + 0)] [.int 100] rfl rfl rfl rfl ?_
    refine c_atI t.sm (tx_in t e5 e6 hs he (len := 4) (k := 0) b1 (by decide) (by decide)) ?_
    show X (50, [some (.ref 55), some (.ref 1005), some (.int 0)], [.int (h.1 54 ((h.1 55 5) + 0)), .int 100], h)
    refine go hX 1 (gs := [True]) (z' := (if 100 = (h.1 54 ((h.1 55 5) + 0)) then 55 else 53, [some (.ref 55), some (.ref 1005), some (.int 0)], [], h)) rfl ⟨trivial, trivial⟩ ?_
    refine br (fun b2 => ?_) (fun b2 => ?_)
    ·
      refine go hX 4 (gs := [True, True, True, True]) (z' := (26, [some (.ref 55), some (.ref 1005), some (.int 1)], [.ref 1005, .int 1], h)) rfl ⟨trivial, trivial, trivial, trivial, trivial⟩ ?_
      refine cl hX 900 1 [.ref 1005] [.int 1] rfl rfl rfl rfl ?_
      refine c_len (i := 5) rfl ?_
      show X (29, [some (.ref 55), some (.ref 1005), some (.int 1)], [.int 4, .int 1], h)
      refine go hX 3 (gs := [True, True, True]) (z' := (34, [some (.ref 55), some (.ref 1005), some (.int 1)], [.int 1, .ref 1005], h)) rfl ⟨trivial, trivial, trivial, trivial⟩ ?_
      refine cl hX 901 2 [.ref 1005, .int 1] [] rfl rfl rfl rfl ?_
      refine c_chr (i := 5) (j := 1) (c := 97) rfl rfl rfl ?_
      show X (37, [some (.ref 55), some (.ref 1005), some (.int 1)], [.int 97], h)
      refine go hX 6 (gs := [True, True, True, True, True, True]) (z' := (47, [some (.ref 55), some (.ref 1005), some (.int 1)], [.int ((h.1 55 5) + 1), .ref 53, .int 97], h)) rfl ⟨trivial, trivial, trivial, trivial, trivial, trivial, trivial⟩ ?_
      refine cl hX 104 2 [.ref 53, .int ((h.1 55 5) + 1)] [.int 97] rfl rfl rfl rfl ?_
      refine c_atI t.sm (tx_in t e5 e6 hs he (len := 4) (k := 1) b1 (by decide) (by decide)) ?_
      show X (50, [some (.ref 55), some (.ref 1005), some (.int 1)], [.int (h.1 54 ((h.1 55 5) + 1)), .int 97], h)
      refine go hX 1 (gs := [True]) (z' := (if 97 = (h.1 54 ((h.1 55 5) + 1)) then 55 else 53, [some (.ref 55), some (.ref 1005), some (.int 1)], [], h)) rfl ⟨trivial, trivial⟩ ?_
      refine br (fun b3 => ?_) (fun b3 => ?_)
      ·
        refine go hX 4 (gs := [True, True, True, True]) (z' := (26, [some (.ref 55), some (.ref 1005), some (.int 2)], [.ref 1005, .int 2], h)) rfl ⟨trivial, trivial, trivial, trivial, trivial⟩ ?_
        refine cl hX 900 1 [.ref 1005] [.int 2] rfl rfl rfl rfl ?_
        refine c_len (i := 5) rfl ?_
        show X (29, [some (.ref 55), some (.ref 1005), some (.int 2)], [.int 4, .int 2], h)
        refine go hX 3 (gs := [True, True, True]) (z' := (34, [some (.ref 55), some (.ref 1005), some (.int 2)], [.int 2, .ref 1005], h)) rfl ⟨trivial, trivial, trivial, trivial⟩ ?_
        refine cl hX 901 2 [.ref 1005, .int 2] [] rfl rfl rfl rfl ?_
        refine c_chr (i := 5) (j := 2) (c := 121) rfl rfl rfl ?_
        show X (37, [some (.ref 55), some (.ref 1005), some (.int 2)], [.int 121], h)
        refine go hX 6 (gs := [True, True, True, True, True, True]) (z' := (47, [some (.ref 55), some (.ref 1005), some (.int 2)], [.int ((h.1 55 5) + 2), .ref 53, .int 121], h)) rfl ⟨trivial, trivial, trivial, trivial, trivial, trivial, trivial⟩ ?_
        refine cl hX 104 2 [.ref 53, .int ((h.1 55 5) + 2)] [.int 121] rfl rfl rfl rfl ?_
        refine c_atI t.sm (tx_in t e5 e6 hs he (len := 4) (k := 2) b1 (by decide) (by decide)) ?_
        show X (50, [some (.ref 55), some (.ref 1005), some (.int 2)], [.int (h.1 54 ((h.1 55 5) + 2)), .int 121], h)
        refine go hX 1 (gs := [True]) (z' := (if 121 = (h.1 54 ((h.1 55 5) + 2)) then 55 else 53, [some (.ref 55), some (.ref 1005), some (.int 2)], [], h)) rfl ⟨trivial, trivial⟩ ?_
        refine br (fun b4 => ?_) (fun b4 => ?_)
        ·
          refine go hX 4 (gs := [True, True, True, True]) (z' := (26, [some (.ref 55), some (.ref 1005), some (.int 3)], [.ref 1005, .int 3], h)) rfl ⟨trivial, trivial, trivial, trivial, trivial⟩ ?_
          refine cl hX 900 1 [.ref 1005] [.int 3] rfl rfl rfl rfl ?_
          refine c_len (i := 5) rfl ?_
          show X (29, [some (.ref 55), some (.ref 1005), some (.int 3)], [.int 4, .int 3], h)
          refine go hX 3 (gs := [True, True, True]) (z' := (34, [some (.ref 55), some (.ref 1005), some (.int 3)], [.int 3, .ref 1005], h)) rfl ⟨trivial, trivial, trivial, trivial⟩ ?_
          refine cl hX 901 2 [.ref 1005, .int 3] [] rfl rfl rfl rfl ?_
          refine c_chr (i := 5) (j := 3) (c := 115) rfl rfl rfl ?_
          show X (37, [some (.ref 55), some (.ref 1005), some (.int 3)], [.int 115], h)
          refine go hX 6 (gs := [True, True, True, True, True, True]) (z' := (47, [some (.ref 55), some (.ref 1005), some (.int 3)], [.int ((h.1 55 5) + 3), .ref 53, .int 115], h)) rfl ⟨trivial, trivial, trivial, trivial, trivial, trivial, trivial⟩ ?_
          refine cl hX 104 2 [.ref 53, .int ((h.1 55 5) + 3)] [.int 115] rfl rfl rfl rfl ?_
          refine c_atI t.sm (tx_in t e5 e6 hs he (len := 4) (k := 3) b1 (by decide) (by decide)) ?_
          show X (50, [some (.ref 55), some (.ref 1005), some (.int 3)], [.int (h.1 54 ((h.1 55 5) + 3)), .int 115], h)
          refine go hX 1 (gs := [True]) (z' := (if 115 = (h.1 54 ((h.1 55 5) + 3)) then 55 else 53, [some (.ref 55), some (.ref 1005), some (.int 3)], [], h)) rfl ⟨trivial, trivial⟩ ?_
          refine br (fun b5 => ?_) (fun b5 => ?_)
          ·
            refine go hX 4 (gs := [True, True, True, True]) (z' := (26, [some (.ref 55), some (.ref 1005), some (.int 4)], [.ref 1005, .int 4], h)) rfl ⟨trivial, trivial, trivial, trivial, trivial⟩ ?_
            refine cl hX 900 1 [.ref 1005] [.int 4] rfl rfl rfl rfl ?_
            refine c_len (i := 5) rfl ?_
            show X (29, [some (.ref 55), some (.ref 1005), some (.int 4)], [.int 4, .int 4], h)
            refine go hX 2 (gs := [True, True]) (z' := (62, [some (.ref 55), some (.ref 1005), some (.int 4)], [.int 1], h)) rfl ⟨trivial, trivial, trivial⟩ ?_
            refine rt_ hX (G := isB 1) (r := some (.int 1)) rfl isB1 ?_
            exact k1 ⟨b1, b2, b3, b4, b5⟩
          ·
            refine go hX 1 (gs := [True]) (z' := (54, [some (.ref 55), some (.ref 1005), some (.int 3)], [.int 0], h)) rfl ⟨trivial, trivial⟩ ?_
            refine rt_ hX (G := isB 0) (r := some (.int 0)) rfl isB0 ?_
            exact k0 (fun q => b5 q.2.2.2.2)
        ·
          refine go hX 1 (gs := [True]) (z' := (54, [some (.ref 55), some (.ref 1005), some (.int 2)], [.int 0], h)) rfl ⟨trivial, trivial⟩ ?_
          refine rt_ hX (G := isB 0) (r := some (.int 0)) rfl isB0 ?_
          exact k0 (fun q => b4 q.2.2.2.1)
      ·
        refine go hX 1 (gs := [True]) (z' := (54, [some (.ref 55), some (.ref 1005), some (.int 1)], [.int 0], h)) rfl ⟨trivial, trivial⟩ ?_
        refine rt_ hX (G := isB 0) (r := some (.int 0)) rfl isB0 ?_
        exact k0 (fun q => b3 q.2.2.1)
    ·
      refine go hX 1 (gs := [True]) (z' := (54, [some (.ref 55), some (.ref 1005), some (.int 0)], [.int 0], h)) rfl ⟨trivial, trivial⟩ ?_
      refine rt_ hX (G := isB 0) (r := some (.int 0)) rfl isB0 ?_
      exact k0 (fun q => b2 q.2.1)
  ·
    refine go hX 1 (gs := [True]) (z' := (21, [some (.ref 55), some (.ref 1005), none], [.int 0], h)) rfl ⟨trivial, trivial⟩ ?_
    refine rt_ hX (G := isB 0) (r := some (.int 0)) rfl isB0 ?_
    exact k0 (fun q => b1 q.1)
theorem c_word0 {d : Nat} {Q : Option Value → Hp → Prop} {h : Hp} (k : Q (some (.ref 1000)) h) : Call (d + 1) 37 [.int 0] h Q := by
  refine call_of (rfl : psM[37]? = some _) rfl rfl (rcvS rfl) (fun X hX => ?_)
  show X (0, [some (.int 0)], [], h)
  refine go hX 3 (gs := [True, True, True]) (z' := (38, [some (.int 0)], [.ref 1000], h)) rfl ⟨trivial, trivial, trivial, trivial⟩ ?_
  refine rt_ hX (G := True) (r := some (.ref 1000)) rfl trivial ?_
  exact k
theorem c_word1 {d : Nat} {Q : Option Value → Hp → Prop} {h : Hp} (k : Q (some (.ref 1001)) h) : Call (d + 1) 37 [.int 1] h Q := by
  refine call_of (rfl : psM[37]? = some _) rfl rfl (rcvS rfl) (fun X hX => ?_)
  show X (0, [some (.int 1)], [], h)
  refine go hX 3 (gs := [True, True, True]) (z' := (41, [some (.int 1)], [.ref 1001], h)) rfl ⟨trivial, trivial, trivial, trivial⟩ ?_
  refine rt_ hX (G := True) (r := some (.ref 1001)) rfl trivial ?_
  exact k
theorem c_word2 {d : Nat} {Q : Option Value → Hp → Prop} {h : Hp} (k : Q (some (.ref 1002)) h) : Call (d + 1) 37 [.int 2] h Q := by
  refine call_of (rfl : psM[37]? = some _) rfl rfl (rcvS rfl) (fun X hX => ?_)
  show X (0, [some (.int 2)], [], h)
  refine go hX 3 (gs := [True, True, True]) (z' := (44, [some (.int 2)], [.ref 1002], h)) rfl ⟨trivial, trivial, trivial, trivial⟩ ?_
  refine rt_ hX (G := True) (r := some (.ref 1002)) rfl trivial ?_
  exact k
theorem c_word3 {d : Nat} {Q : Option Value → Hp → Prop} {h : Hp} (k : Q (some (.ref 1003)) h) : Call (d + 1) 37 [.int 3] h Q := by
  refine call_of (rfl : psM[37]? = some _) rfl rfl (rcvS rfl) (fun X hX => ?_)
  show X (0, [some (.int 3)], [], h)
  refine go hX 3 (gs := [True, True, True]) (z' := (47, [some (.int 3)], [.ref 1003], h)) rfl ⟨trivial, trivial, trivial, trivial⟩ ?_
  refine rt_ hX (G := True) (r := some (.ref 1003)) rfl trivial ?_
  exact k
theorem c_word4 {d : Nat} {Q : Option Value → Hp → Prop} {h : Hp} (k : Q (some (.ref 1004)) h) : Call (d + 1) 37 [.int 4] h Q := by
  refine call_of (rfl : psM[37]? = some _) rfl rfl (rcvS rfl) (fun X hX => ?_)
  show X (0, [some (.int 4)], [], h)
  refine go hX 3 (gs := [True, True, True]) (z' := (50, [some (.int 4)], [.ref 1004], h)) rfl ⟨trivial, trivial, trivial, trivial⟩ ?_
  refine rt_ hX (G := True) (r := some (.ref 1004)) rfl trivial ?_
  exact k
theorem c_word5 {d : Nat} {Q : Option Value → Hp → Prop} {h : Hp} (k : Q (some (.ref 1005)) h) : Call (d + 1) 37 [.int 5] h Q := by
  refine call_of (rfl : psM[37]? = some _) rfl rfl (rcvS rfl) (fun X hX => ?_)
  show X (0, [some (.int 5)], [], h)
  refine go hX 3 (gs := [True, True, True]) (z' := (53, [some (.int 5)], [.ref 1005], h)) rfl ⟨trivial, trivial, trivial, trivial⟩ ?_
  refine rt_ hX (G := True) (r := some (.ref 1005)) rfl trivial ?_
  exact k
noncomputable def keyA (h : Hp) : Int32 := if h.1 55 7 = 1 then if cw0 h then 0 else if cw1 h then 1 else if cw2 h then 2 else if cw3 h then 3 else if cw4 h then 4 else if cw5 h then 5 else -1000000005 else -1000000005
theorem c_keyA {d : Nat} {Q : Option Value → Hp → Prop} {h : Hp} {n s e : Nat} (t : TP h n) (e5 : h.1 55 5 = nI s) (e6 : h.1 55 6 = nI e) (hs : s ≤ e) (he : e ≤ n) (kk : Q (some (.int (keyA h))) h) : Call (d + 3) 35 [.ref 55] h Q := by
  refine call_of (rfl : psM[35]? = some _) rfl rfl (rcvV rfl) (fun X hX => ?_)
  show X (0, [some (.ref 55), none], [], h)
  refine go hX 9 (gs := [True, True, True, True, True, True, True, True, True]) (z' := (if (h.1 55 7) = 1 then 16 else 35, [some (.ref 55), some (.int 0)], [], h)) rfl ⟨trivial, trivial, trivial, trivial, trivial, trivial, trivial, trivial, trivial, trivial⟩ ?_
  refine br (fun b1 => ?_) (fun b1 => ?_)
  ·
    refine go hX 2 (gs := [True, True]) (z' := (18, [some (.ref 55), some (.int 0)], [.int 0, .ref 55], h)) rfl ⟨trivial, trivial, trivial⟩ ?_
    refine cl hX 37 1 [.int 0] [.ref 55] rfl rfl rfl rfl ?_
    refine c_word0 ?_
    show X (21, [some (.ref 55), some (.int 0)], [.ref 1000, .ref 55], h)
    refine cl hX 36 2 [.ref 55, .ref 1000] [] rfl rfl rfl rfl ?_
    refine c_spelt0 t e5 e6 hs he (fun w2 => ?_) (fun w2 => ?_)
    ·
      show X (24, [some (.ref 55), some (.int 0)], [.int 1], h)
      refine go hX 2 (gs := [True, True]) (z' := (28, [some (.ref 55), some (.int 0)], [.int 0], h)) rfl ⟨trivial, trivial, trivial⟩ ?_
      refine rt_ hX (G := True) (r := some (.int 0)) rfl trivial ?_
      unfold keyA at kk; rw [if_pos b1, if_pos w2] at kk; exact kk
    ·
      show X (24, [some (.ref 55), some (.int 0)], [.int 0], h)
      refine go hX 10 (gs := [True, True, True, True, True, True, True, True, True, True]) (z' := (if (h.1 55 7) = 1 then 16 else 35, [some (.ref 55), some (.int 1)], [], h)) rfl ⟨trivial, trivial, trivial, trivial, trivial, trivial, trivial, trivial, trivial, trivial, trivial⟩ ?_
      refine br (fun b3 => ?_) (fun b3 => ?_)
      ·
        refine go hX 2 (gs := [True, True]) (z' := (18, [some (.ref 55), some (.int 1)], [.int 1, .ref 55], h)) rfl ⟨trivial, trivial, trivial⟩ ?_
        refine cl hX 37 1 [.int 1] [.ref 55] rfl rfl rfl rfl ?_
        refine c_word1 ?_
        show X (21, [some (.ref 55), some (.int 1)], [.ref 1001, .ref 55], h)
        refine cl hX 36 2 [.ref 55, .ref 1001] [] rfl rfl rfl rfl ?_
        refine c_spelt1 t e5 e6 hs he (fun w4 => ?_) (fun w4 => ?_)
        ·
          show X (24, [some (.ref 55), some (.int 1)], [.int 1], h)
          refine go hX 2 (gs := [True, True]) (z' := (28, [some (.ref 55), some (.int 1)], [.int 1], h)) rfl ⟨trivial, trivial, trivial⟩ ?_
          refine rt_ hX (G := True) (r := some (.int 1)) rfl trivial ?_
          unfold keyA at kk; rw [if_pos b1, if_neg w2, if_pos w4] at kk; exact kk
        ·
          show X (24, [some (.ref 55), some (.int 1)], [.int 0], h)
          refine go hX 10 (gs := [True, True, True, True, True, True, True, True, True, True]) (z' := (if (h.1 55 7) = 1 then 16 else 35, [some (.ref 55), some (.int 2)], [], h)) rfl ⟨trivial, trivial, trivial, trivial, trivial, trivial, trivial, trivial, trivial, trivial, trivial⟩ ?_
          refine br (fun b5 => ?_) (fun b5 => ?_)
          ·
            refine go hX 2 (gs := [True, True]) (z' := (18, [some (.ref 55), some (.int 2)], [.int 2, .ref 55], h)) rfl ⟨trivial, trivial, trivial⟩ ?_
            refine cl hX 37 1 [.int 2] [.ref 55] rfl rfl rfl rfl ?_
            refine c_word2 ?_
            show X (21, [some (.ref 55), some (.int 2)], [.ref 1002, .ref 55], h)
            refine cl hX 36 2 [.ref 55, .ref 1002] [] rfl rfl rfl rfl ?_
            refine c_spelt2 t e5 e6 hs he (fun w6 => ?_) (fun w6 => ?_)
            ·
              show X (24, [some (.ref 55), some (.int 2)], [.int 1], h)
              refine go hX 2 (gs := [True, True]) (z' := (28, [some (.ref 55), some (.int 2)], [.int 2], h)) rfl ⟨trivial, trivial, trivial⟩ ?_
              refine rt_ hX (G := True) (r := some (.int 2)) rfl trivial ?_
              unfold keyA at kk; rw [if_pos b1, if_neg w2, if_neg w4, if_pos w6] at kk; exact kk
            ·
              show X (24, [some (.ref 55), some (.int 2)], [.int 0], h)
              refine go hX 10 (gs := [True, True, True, True, True, True, True, True, True, True]) (z' := (if (h.1 55 7) = 1 then 16 else 35, [some (.ref 55), some (.int 3)], [], h)) rfl ⟨trivial, trivial, trivial, trivial, trivial, trivial, trivial, trivial, trivial, trivial, trivial⟩ ?_
              refine br (fun b7 => ?_) (fun b7 => ?_)
              ·
                refine go hX 2 (gs := [True, True]) (z' := (18, [some (.ref 55), some (.int 3)], [.int 3, .ref 55], h)) rfl ⟨trivial, trivial, trivial⟩ ?_
                refine cl hX 37 1 [.int 3] [.ref 55] rfl rfl rfl rfl ?_
                refine c_word3 ?_
                show X (21, [some (.ref 55), some (.int 3)], [.ref 1003, .ref 55], h)
                refine cl hX 36 2 [.ref 55, .ref 1003] [] rfl rfl rfl rfl ?_
                refine c_spelt3 t e5 e6 hs he (fun w8 => ?_) (fun w8 => ?_)
                ·
                  show X (24, [some (.ref 55), some (.int 3)], [.int 1], h)
                  refine go hX 2 (gs := [True, True]) (z' := (28, [some (.ref 55), some (.int 3)], [.int 3], h)) rfl ⟨trivial, trivial, trivial⟩ ?_
                  refine rt_ hX (G := True) (r := some (.int 3)) rfl trivial ?_
                  unfold keyA at kk; rw [if_pos b1, if_neg w2, if_neg w4, if_neg w6, if_pos w8] at kk; exact kk
                ·
                  show X (24, [some (.ref 55), some (.int 3)], [.int 0], h)
                  refine go hX 10 (gs := [True, True, True, True, True, True, True, True, True, True]) (z' := (if (h.1 55 7) = 1 then 16 else 35, [some (.ref 55), some (.int 4)], [], h)) rfl ⟨trivial, trivial, trivial, trivial, trivial, trivial, trivial, trivial, trivial, trivial, trivial⟩ ?_
                  refine br (fun b9 => ?_) (fun b9 => ?_)
                  ·
                    refine go hX 2 (gs := [True, True]) (z' := (18, [some (.ref 55), some (.int 4)], [.int 4, .ref 55], h)) rfl ⟨trivial, trivial, trivial⟩ ?_
                    refine cl hX 37 1 [.int 4] [.ref 55] rfl rfl rfl rfl ?_
                    refine c_word4 ?_
                    show X (21, [some (.ref 55), some (.int 4)], [.ref 1004, .ref 55], h)
                    refine cl hX 36 2 [.ref 55, .ref 1004] [] rfl rfl rfl rfl ?_
                    refine c_spelt4 t e5 e6 hs he (fun w10 => ?_) (fun w10 => ?_)
                    ·
                      show X (24, [some (.ref 55), some (.int 4)], [.int 1], h)
                      refine go hX 2 (gs := [True, True]) (z' := (28, [some (.ref 55), some (.int 4)], [.int 4], h)) rfl ⟨trivial, trivial, trivial⟩ ?_
                      refine rt_ hX (G := True) (r := some (.int 4)) rfl trivial ?_
                      unfold keyA at kk; rw [if_pos b1, if_neg w2, if_neg w4, if_neg w6, if_neg w8, if_pos w10] at kk; exact kk
                    ·
                      show X (24, [some (.ref 55), some (.int 4)], [.int 0], h)
                      refine go hX 10 (gs := [True, True, True, True, True, True, True, True, True, True]) (z' := (if (h.1 55 7) = 1 then 16 else 35, [some (.ref 55), some (.int 5)], [], h)) rfl ⟨trivial, trivial, trivial, trivial, trivial, trivial, trivial, trivial, trivial, trivial, trivial⟩ ?_
                      refine br (fun b11 => ?_) (fun b11 => ?_)
                      ·
                        refine go hX 2 (gs := [True, True]) (z' := (18, [some (.ref 55), some (.int 5)], [.int 5, .ref 55], h)) rfl ⟨trivial, trivial, trivial⟩ ?_
                        refine cl hX 37 1 [.int 5] [.ref 55] rfl rfl rfl rfl ?_
                        refine c_word5 ?_
                        show X (21, [some (.ref 55), some (.int 5)], [.ref 1005, .ref 55], h)
                        refine cl hX 36 2 [.ref 55, .ref 1005] [] rfl rfl rfl rfl ?_
                        refine c_spelt5 t e5 e6 hs he (fun w12 => ?_) (fun w12 => ?_)
                        ·
                          show X (24, [some (.ref 55), some (.int 5)], [.int 1], h)
                          refine go hX 2 (gs := [True, True]) (z' := (28, [some (.ref 55), some (.int 5)], [.int 5], h)) rfl ⟨trivial, trivial, trivial⟩ ?_
                          refine rt_ hX (G := True) (r := some (.int 5)) rfl trivial ?_
                          unfold keyA at kk; rw [if_pos b1, if_neg w2, if_neg w4, if_neg w6, if_neg w8, if_neg w10, if_pos w12] at kk; exact kk
                        ·
                          show X (24, [some (.ref 55), some (.int 5)], [.int 0], h)
                          refine go hX 7 (gs := [True, True, True, True, True, True, True]) (z' := (37, [some (.ref 55), some (.int 6)], [.int (-1000000005)], h)) rfl ⟨trivial, trivial, trivial, trivial, trivial, trivial, trivial, trivial⟩ ?_
                          refine rt_ hX (G := True) (r := some (.int (-1000000005))) rfl trivial ?_
                          unfold keyA at kk; rw [if_pos b1, if_neg w2, if_neg w4, if_neg w6, if_neg w8, if_neg w10, if_neg w12] at kk; exact kk
                      ·
                        refine go hX 1 (gs := [True]) (z' := (37, [some (.ref 55), some (.int 5)], [.int (-1000000005)], h)) rfl ⟨trivial, trivial⟩ ?_
                        refine rt_ hX (G := True) (r := some (.int (-1000000005))) rfl trivial ?_
                        exact absurd b1 b11
                  ·
                    refine go hX 1 (gs := [True]) (z' := (37, [some (.ref 55), some (.int 4)], [.int (-1000000005)], h)) rfl ⟨trivial, trivial⟩ ?_
                    refine rt_ hX (G := True) (r := some (.int (-1000000005))) rfl trivial ?_
                    exact absurd b1 b9
              ·
                refine go hX 1 (gs := [True]) (z' := (37, [some (.ref 55), some (.int 3)], [.int (-1000000005)], h)) rfl ⟨trivial, trivial⟩ ?_
                refine rt_ hX (G := True) (r := some (.int (-1000000005))) rfl trivial ?_
                exact absurd b1 b7
          ·
            refine go hX 1 (gs := [True]) (z' := (37, [some (.ref 55), some (.int 2)], [.int (-1000000005)], h)) rfl ⟨trivial, trivial⟩ ?_
            refine rt_ hX (G := True) (r := some (.int (-1000000005))) rfl trivial ?_
            exact absurd b1 b5
      ·
        refine go hX 1 (gs := [True]) (z' := (37, [some (.ref 55), some (.int 1)], [.int (-1000000005)], h)) rfl ⟨trivial, trivial⟩ ?_
        refine rt_ hX (G := True) (r := some (.int (-1000000005))) rfl trivial ?_
        exact absurd b1 b3
  ·
    refine go hX 1 (gs := [True]) (z' := (37, [some (.ref 55), some (.int 0)], [.int (-1000000005)], h)) rfl ⟨trivial, trivial⟩ ?_
    refine rt_ hX (G := True) (r := some (.int (-1000000005))) rfl trivial ?_
    unfold keyA at kk; rw [if_neg b1] at kk; exact kk
theorem tx_ibB {h : Hp} {n s e k len : Nat} (t : TPB h n) (e5 : h.1 65 17 = nI s) (e6 : h.1 65 18 = nI e) (hs : s ≤ e) (he : e ≤ n) (b : h.1 65 18 - h.1 65 17 = nI len) (hl : len ≤ 4000) (hk : k < len) : ibd (h.1 65 17 + nI k) 96 := by
  have := t.hn
  rw [e5, e6, nI_sb hs (by omega), nIle_eq (by omega) hl] at b
  rw [e5, nI_add]
  exact t.ib (by omega)
theorem tx_ibB0 {h : Hp} {n s e len : Nat} (t : TPB h n) (e5 : h.1 65 17 = nI s) (e6 : h.1 65 18 = nI e) (hs : s ≤ e) (he : e ≤ n) (b : h.1 65 18 - h.1 65 17 = nI len) (hl : len ≤ 4000) (hk : 0 < len) : ibd (h.1 65 17) 96 := by
  have := t.hn
  rw [e5, e6, nI_sb hs (by omega), nIle_eq (by omega) hl] at b
  rw [e5]
  exact t.ib (by omega)
noncomputable abbrev bw0 (h : Hp) : Prop := h.1 65 19 = 1 ∧ h.1 65 18 - h.1 65 17 = 3 ∧ h.1 78 (h.1 65 17) = 112 ∧ h.1 78 (h.1 65 17 + 1) = 97 ∧ h.1 78 (h.1 65 17 + 2) = 121
noncomputable abbrev bw1 (h : Hp) : Prop := h.1 65 19 = 1 ∧ h.1 65 18 - h.1 65 17 = 4 ∧ h.1 78 (h.1 65 17) = 108 ∧ h.1 78 (h.1 65 17 + 1) = 111 ∧ h.1 78 (h.1 65 17 + 2) = 115 ∧ h.1 78 (h.1 65 17 + 3) = 116
noncomputable abbrev bw2 (h : Hp) : Prop := h.1 65 19 = 1 ∧ h.1 65 18 - h.1 65 17 = 6 ∧ h.1 78 (h.1 65 17) = 118 ∧ h.1 78 (h.1 65 17 + 1) = 105 ∧ h.1 78 (h.1 65 17 + 2) = 99 ∧ h.1 78 (h.1 65 17 + 3) = 116 ∧ h.1 78 (h.1 65 17 + 4) = 105 ∧ h.1 78 (h.1 65 17 + 5) = 109
noncomputable abbrev bw3 (h : Hp) : Prop := h.1 65 19 = 1 ∧ h.1 65 18 - h.1 65 17 = 4 ∧ h.1 78 (h.1 65 17) = 115 ∧ h.1 78 (h.1 65 17 + 1) = 97 ∧ h.1 78 (h.1 65 17 + 2) = 118 ∧ h.1 78 (h.1 65 17 + 3) = 101
noncomputable abbrev bw4 (h : Hp) : Prop := h.1 65 19 = 1 ∧ h.1 65 18 - h.1 65 17 = 5 ∧ h.1 78 (h.1 65 17) = 108 ∧ h.1 78 (h.1 65 17 + 1) = 101 ∧ h.1 78 (h.1 65 17 + 2) = 97 ∧ h.1 78 (h.1 65 17 + 3) = 115 ∧ h.1 78 (h.1 65 17 + 4) = 116
noncomputable abbrev bw5 (h : Hp) : Prop := h.1 65 19 = 1 ∧ h.1 65 18 - h.1 65 17 = 4 ∧ h.1 78 (h.1 65 17) = 100 ∧ h.1 78 (h.1 65 17 + 1) = 97 ∧ h.1 78 (h.1 65 17 + 2) = 121 ∧ h.1 78 (h.1 65 17 + 3) = 115
theorem c_bspelt0 {d : Nat} {Q : Option Value → Hp → Prop} {h : Hp} {n s e : Nat} (t : TPB h n) (e5 : h.1 65 17 = nI s) (e6 : h.1 65 18 = nI e) (hs : s ≤ e) (he : e ≤ n) (k1 : bw0 h → Q (some (.int 1)) h) (k0 : ¬ bw0 h → Q (some (.int 0)) h) : Call (d + 1) 213 [.ref 65, .int 112, .int 97, .int 121, .int 0] h Q := by
  refine call_of (rfl : psM[213]? = some _) rfl rfl (rcvV rfl) (fun X hX => ?_)
  show X (0, [some (.ref 65), some (.int 112), some (.int 97), some (.int 121), some (.int 0), none], [], h)
  refine go hX 9 (gs := [True, True, True, True, True, True, True, True, True]) (z' := (if (h.1 65 19) = 1 then 20 else 102, [some (.ref 65), some (.int 112), some (.int 97), some (.int 121), some (.int 0), some (.int 3)], [], h)) rfl ⟨trivial, trivial, trivial, trivial, trivial, trivial, trivial, trivial, trivial, trivial⟩ ?_
  refine br (fun b1 => ?_) (fun b1 => ?_)
  ·
    refine go hX 7 (gs := [True, True, True, True, True, True, True]) (z' := (if ((h.1 65 18) - (h.1 65 17)) = 3 then 34 else 102, [some (.ref 65), some (.int 112), some (.int 97), some (.int 121), some (.int 0), some (.int 3)], [], h)) rfl ⟨trivial, trivial, trivial, trivial, trivial, trivial, trivial, trivial⟩ ?_
    refine br (fun b2 => ?_) (fun b2 => ?_)
    ·
      refine go hX 7 (gs := [True, True, ibd (h.1 65 17) 96, True, True, True, True]) (z' := (if (h.1 78 (h.1 65 17)) = 112 then 47 else 102, [some (.ref 65), some (.int 112), some (.int 97), some (.int 121), some (.int 0), some (.int 3)], [], h)) rfl ⟨trivial, trivial, ?_, trivial, trivial, trivial, trivial, trivial⟩ ?_
      · exact tx_ibB0 t e5 e6 hs he (len := 3) b2 (by decide) (by decide)
      refine br (fun b3 => ?_) (fun b3 => ?_)
      ·
        refine go hX 9 (gs := [True, True, ibd ((h.1 65 17) + 1) 96, True, True, True, True, True, True]) (z' := (if (h.1 78 ((h.1 65 17) + 1)) = 97 then 62 else 102, [some (.ref 65), some (.int 112), some (.int 97), some (.int 121), some (.int 0), some (.int 3)], [], h)) rfl ⟨trivial, trivial, ?_, trivial, trivial, trivial, trivial, trivial, trivial, trivial⟩ ?_
        · exact tx_ibB t e5 e6 hs he (len := 3) (k := 1) b2 (by decide) (by decide)
        refine br (fun b4 => ?_) (fun b4 => ?_)
        ·
          refine go hX 9 (gs := [True, True, ibd ((h.1 65 17) + 2) 96, True, True, True, True, True, True]) (z' := (if (h.1 78 ((h.1 65 17) + 2)) = 121 then 77 else 102, [some (.ref 65), some (.int 112), some (.int 97), some (.int 121), some (.int 0), some (.int 3)], [], h)) rfl ⟨trivial, trivial, ?_, trivial, trivial, trivial, trivial, trivial, trivial, trivial⟩ ?_
          · exact tx_ibB t e5 e6 hs he (len := 3) (k := 2) b2 (by decide) (by decide)
          refine br (fun b5 => ?_) (fun b5 => ?_)
          ·
            refine go hX 4 (gs := [True, True, True, True]) (z' := (103, [some (.ref 65), some (.int 112), some (.int 97), some (.int 121), some (.int 0), some (.int 3)], [.int 1], h)) rfl ⟨trivial, trivial, trivial, trivial, trivial⟩ ?_
            refine rt_ hX (G := isB 1) (r := some (.int 1)) rfl isB1 ?_
            exact k1 ⟨b1, b2, b3, b4, b5⟩
          ·
            refine go hX 1 (gs := [True]) (z' := (103, [some (.ref 65), some (.int 112), some (.int 97), some (.int 121), some (.int 0), some (.int 3)], [.int 0], h)) rfl ⟨trivial, trivial⟩ ?_
            refine rt_ hX (G := isB 0) (r := some (.int 0)) rfl isB0 ?_
            exact k0 (fun q => b5 q.2.2.2.2)
        ·
          refine go hX 1 (gs := [True]) (z' := (103, [some (.ref 65), some (.int 112), some (.int 97), some (.int 121), some (.int 0), some (.int 3)], [.int 0], h)) rfl ⟨trivial, trivial⟩ ?_
          refine rt_ hX (G := isB 0) (r := some (.int 0)) rfl isB0 ?_
          exact k0 (fun q => b4 q.2.2.2.1)
      ·
        refine go hX 1 (gs := [True]) (z' := (103, [some (.ref 65), some (.int 112), some (.int 97), some (.int 121), some (.int 0), some (.int 3)], [.int 0], h)) rfl ⟨trivial, trivial⟩ ?_
        refine rt_ hX (G := isB 0) (r := some (.int 0)) rfl isB0 ?_
        exact k0 (fun q => b3 q.2.2.1)
    ·
      refine go hX 1 (gs := [True]) (z' := (103, [some (.ref 65), some (.int 112), some (.int 97), some (.int 121), some (.int 0), some (.int 3)], [.int 0], h)) rfl ⟨trivial, trivial⟩ ?_
      refine rt_ hX (G := isB 0) (r := some (.int 0)) rfl isB0 ?_
      exact k0 (fun q => b2 q.2.1)
  ·
    refine go hX 1 (gs := [True]) (z' := (103, [some (.ref 65), some (.int 112), some (.int 97), some (.int 121), some (.int 0), some (.int 3)], [.int 0], h)) rfl ⟨trivial, trivial⟩ ?_
    refine rt_ hX (G := isB 0) (r := some (.int 0)) rfl isB0 ?_
    exact k0 (fun q => b1 q.1)
theorem c_bspelt1 {d : Nat} {Q : Option Value → Hp → Prop} {h : Hp} {n s e : Nat} (t : TPB h n) (e5 : h.1 65 17 = nI s) (e6 : h.1 65 18 = nI e) (hs : s ≤ e) (he : e ≤ n) (k1 : bw1 h → Q (some (.int 1)) h) (k0 : ¬ bw1 h → Q (some (.int 0)) h) : Call (d + 1) 213 [.ref 65, .int 108, .int 111, .int 115, .int 116] h Q := by
  refine call_of (rfl : psM[213]? = some _) rfl rfl (rcvV rfl) (fun X hX => ?_)
  show X (0, [some (.ref 65), some (.int 108), some (.int 111), some (.int 115), some (.int 116), none], [], h)
  refine go hX 8 (gs := [True, True, True, True, True, True, True, True]) (z' := (if (h.1 65 19) = 1 then 20 else 102, [some (.ref 65), some (.int 108), some (.int 111), some (.int 115), some (.int 116), some (.int 4)], [], h)) rfl ⟨trivial, trivial, trivial, trivial, trivial, trivial, trivial, trivial, trivial⟩ ?_
  refine br (fun b1 => ?_) (fun b1 => ?_)
  ·
    refine go hX 7 (gs := [True, True, True, True, True, True, True]) (z' := (if ((h.1 65 18) - (h.1 65 17)) = 4 then 34 else 102, [some (.ref 65), some (.int 108), some (.int 111), some (.int 115), some (.int 116), some (.int 4)], [], h)) rfl ⟨trivial, trivial, trivial, trivial, trivial, trivial, trivial, trivial⟩ ?_
    refine br (fun b2 => ?_) (fun b2 => ?_)
    ·
      refine go hX 7 (gs := [True, True, ibd (h.1 65 17) 96, True, True, True, True]) (z' := (if (h.1 78 (h.1 65 17)) = 108 then 47 else 102, [some (.ref 65), some (.int 108), some (.int 111), some (.int 115), some (.int 116), some (.int 4)], [], h)) rfl ⟨trivial, trivial, ?_, trivial, trivial, trivial, trivial, trivial⟩ ?_
      · exact tx_ibB0 t e5 e6 hs he (len := 4) b2 (by decide) (by decide)
      refine br (fun b3 => ?_) (fun b3 => ?_)
      ·
        refine go hX 9 (gs := [True, True, ibd ((h.1 65 17) + 1) 96, True, True, True, True, True, True]) (z' := (if (h.1 78 ((h.1 65 17) + 1)) = 111 then 62 else 102, [some (.ref 65), some (.int 108), some (.int 111), some (.int 115), some (.int 116), some (.int 4)], [], h)) rfl ⟨trivial, trivial, ?_, trivial, trivial, trivial, trivial, trivial, trivial, trivial⟩ ?_
        · exact tx_ibB t e5 e6 hs he (len := 4) (k := 1) b2 (by decide) (by decide)
        refine br (fun b4 => ?_) (fun b4 => ?_)
        ·
          refine go hX 9 (gs := [True, True, ibd ((h.1 65 17) + 2) 96, True, True, True, True, True, True]) (z' := (if (h.1 78 ((h.1 65 17) + 2)) = 115 then 77 else 102, [some (.ref 65), some (.int 108), some (.int 111), some (.int 115), some (.int 116), some (.int 4)], [], h)) rfl ⟨trivial, trivial, ?_, trivial, trivial, trivial, trivial, trivial, trivial, trivial⟩ ?_
          · exact tx_ibB t e5 e6 hs he (len := 4) (k := 2) b2 (by decide) (by decide)
          refine br (fun b5 => ?_) (fun b5 => ?_)
          ·
            refine go hX 11 (gs := [True, True, ibd ((h.1 65 17) + 3) 96, True, True, True, True, True, True, True, True]) (z' := (if (h.1 78 ((h.1 65 17) + 3)) = 116 then 98 else 102, [some (.ref 65), some (.int 108), some (.int 111), some (.int 115), some (.int 116), some (.int 4)], [], h)) rfl ⟨trivial, trivial, ?_, trivial, trivial, trivial, trivial, trivial, trivial, trivial, trivial, trivial⟩ ?_
            · exact tx_ibB t e5 e6 hs he (len := 4) (k := 3) b2 (by decide) (by decide)
            refine br (fun b6 => ?_) (fun b6 => ?_)
            ·
              refine go hX 2 (gs := [True, True]) (z' := (103, [some (.ref 65), some (.int 108), some (.int 111), some (.int 115), some (.int 116), some (.int 4)], [.int 1], h)) rfl ⟨trivial, trivial, trivial⟩ ?_
              refine rt_ hX (G := isB 1) (r := some (.int 1)) rfl isB1 ?_
              exact k1 ⟨b1, b2, b3, b4, b5, b6⟩
            ·
              refine go hX 1 (gs := [True]) (z' := (103, [some (.ref 65), some (.int 108), some (.int 111), some (.int 115), some (.int 116), some (.int 4)], [.int 0], h)) rfl ⟨trivial, trivial⟩ ?_
              refine rt_ hX (G := isB 0) (r := some (.int 0)) rfl isB0 ?_
              exact k0 (fun q => b6 q.2.2.2.2.2)
          ·
            refine go hX 1 (gs := [True]) (z' := (103, [some (.ref 65), some (.int 108), some (.int 111), some (.int 115), some (.int 116), some (.int 4)], [.int 0], h)) rfl ⟨trivial, trivial⟩ ?_
            refine rt_ hX (G := isB 0) (r := some (.int 0)) rfl isB0 ?_
            exact k0 (fun q => b5 q.2.2.2.2.1)
        ·
          refine go hX 1 (gs := [True]) (z' := (103, [some (.ref 65), some (.int 108), some (.int 111), some (.int 115), some (.int 116), some (.int 4)], [.int 0], h)) rfl ⟨trivial, trivial⟩ ?_
          refine rt_ hX (G := isB 0) (r := some (.int 0)) rfl isB0 ?_
          exact k0 (fun q => b4 q.2.2.2.1)
      ·
        refine go hX 1 (gs := [True]) (z' := (103, [some (.ref 65), some (.int 108), some (.int 111), some (.int 115), some (.int 116), some (.int 4)], [.int 0], h)) rfl ⟨trivial, trivial⟩ ?_
        refine rt_ hX (G := isB 0) (r := some (.int 0)) rfl isB0 ?_
        exact k0 (fun q => b3 q.2.2.1)
    ·
      refine go hX 1 (gs := [True]) (z' := (103, [some (.ref 65), some (.int 108), some (.int 111), some (.int 115), some (.int 116), some (.int 4)], [.int 0], h)) rfl ⟨trivial, trivial⟩ ?_
      refine rt_ hX (G := isB 0) (r := some (.int 0)) rfl isB0 ?_
      exact k0 (fun q => b2 q.2.1)
  ·
    refine go hX 1 (gs := [True]) (z' := (103, [some (.ref 65), some (.int 108), some (.int 111), some (.int 115), some (.int 116), some (.int 4)], [.int 0], h)) rfl ⟨trivial, trivial⟩ ?_
    refine rt_ hX (G := isB 0) (r := some (.int 0)) rfl isB0 ?_
    exact k0 (fun q => b1 q.1)
theorem c_bspelt2 {d : Nat} {Q : Option Value → Hp → Prop} {h : Hp} {n s e : Nat} (t : TPB h n) (e5 : h.1 65 17 = nI s) (e6 : h.1 65 18 = nI e) (hs : s ≤ e) (he : e ≤ n) (k1 : bw2 h → Q (some (.int 1)) h) (k0 : ¬ bw2 h → Q (some (.int 0)) h) : Call (d + 1) 214 [.ref 65, .int 118, .int 105, .int 99, .int 116, .int 105, .int 109] h Q := by
  refine call_of (rfl : psM[214]? = some _) rfl rfl (rcvV rfl) (fun X hX => ?_)
  show X (0, [some (.ref 65), some (.int 118), some (.int 105), some (.int 99), some (.int 116), some (.int 105), some (.int 109), none], [], h)
  refine go hX 8 (gs := [True, True, True, True, True, True, True, True]) (z' := (if (h.1 65 19) = 1 then 21 else 135, [some (.ref 65), some (.int 118), some (.int 105), some (.int 99), some (.int 116), some (.int 105), some (.int 109), some (.int 6)], [], h)) rfl ⟨trivial, trivial, trivial, trivial, trivial, trivial, trivial, trivial, trivial⟩ ?_
  refine br (fun b1 => ?_) (fun b1 => ?_)
  ·
    refine go hX 7 (gs := [True, True, True, True, True, True, True]) (z' := (if ((h.1 65 18) - (h.1 65 17)) = 6 then 35 else 135, [some (.ref 65), some (.int 118), some (.int 105), some (.int 99), some (.int 116), some (.int 105), some (.int 109), some (.int 6)], [], h)) rfl ⟨trivial, trivial, trivial, trivial, trivial, trivial, trivial, trivial⟩ ?_
    refine br (fun b2 => ?_) (fun b2 => ?_)
    ·
      refine go hX 7 (gs := [True, True, ibd (h.1 65 17) 96, True, True, True, True]) (z' := (if (h.1 78 (h.1 65 17)) = 118 then 48 else 135, [some (.ref 65), some (.int 118), some (.int 105), some (.int 99), some (.int 116), some (.int 105), some (.int 109), some (.int 6)], [], h)) rfl ⟨trivial, trivial, ?_, trivial, trivial, trivial, trivial, trivial⟩ ?_
      · exact tx_ibB0 t e5 e6 hs he (len := 6) b2 (by decide) (by decide)
      refine br (fun b3 => ?_) (fun b3 => ?_)
      ·
        refine go hX 9 (gs := [True, True, ibd ((h.1 65 17) + 1) 96, True, True, True, True, True, True]) (z' := (if (h.1 78 ((h.1 65 17) + 1)) = 105 then 63 else 135, [some (.ref 65), some (.int 118), some (.int 105), some (.int 99), some (.int 116), some (.int 105), some (.int 109), some (.int 6)], [], h)) rfl ⟨trivial, trivial, ?_, trivial, trivial, trivial, trivial, trivial, trivial, trivial⟩ ?_
        · exact tx_ibB t e5 e6 hs he (len := 6) (k := 1) b2 (by decide) (by decide)
        refine br (fun b4 => ?_) (fun b4 => ?_)
        ·
          refine go hX 9 (gs := [True, True, ibd ((h.1 65 17) + 2) 96, True, True, True, True, True, True]) (z' := (if (h.1 78 ((h.1 65 17) + 2)) = 99 then 78 else 135, [some (.ref 65), some (.int 118), some (.int 105), some (.int 99), some (.int 116), some (.int 105), some (.int 109), some (.int 6)], [], h)) rfl ⟨trivial, trivial, ?_, trivial, trivial, trivial, trivial, trivial, trivial, trivial⟩ ?_
          · exact tx_ibB t e5 e6 hs he (len := 6) (k := 2) b2 (by decide) (by decide)
          refine br (fun b5 => ?_) (fun b5 => ?_)
          ·
            refine go hX 9 (gs := [True, True, ibd ((h.1 65 17) + 3) 96, True, True, True, True, True, True]) (z' := (if (h.1 78 ((h.1 65 17) + 3)) = 116 then 94 else 135, [some (.ref 65), some (.int 118), some (.int 105), some (.int 99), some (.int 116), some (.int 105), some (.int 109), some (.int 6)], [], h)) rfl ⟨trivial, trivial, ?_, trivial, trivial, trivial, trivial, trivial, trivial, trivial⟩ ?_
            · exact tx_ibB t e5 e6 hs he (len := 6) (k := 3) b2 (by decide) (by decide)
            refine br (fun b6 => ?_) (fun b6 => ?_)
            ·
              refine go hX 9 (gs := [True, True, ibd ((h.1 65 17) + 4) 96, True, True, True, True, True, True]) (z' := (if (h.1 78 ((h.1 65 17) + 4)) = 105 then 110 else 135, [some (.ref 65), some (.int 118), some (.int 105), some (.int 99), some (.int 116), some (.int 105), some (.int 109), some (.int 6)], [], h)) rfl ⟨trivial, trivial, ?_, trivial, trivial, trivial, trivial, trivial, trivial, trivial⟩ ?_
              · exact tx_ibB t e5 e6 hs he (len := 6) (k := 4) b2 (by decide) (by decide)
              refine br (fun b7 => ?_) (fun b7 => ?_)
              ·
                refine go hX 11 (gs := [True, True, ibd ((h.1 65 17) + 5) 96, True, True, True, True, True, True, True, True]) (z' := (if (h.1 78 ((h.1 65 17) + 5)) = 109 then 131 else 135, [some (.ref 65), some (.int 118), some (.int 105), some (.int 99), some (.int 116), some (.int 105), some (.int 109), some (.int 6)], [], h)) rfl ⟨trivial, trivial, ?_, trivial, trivial, trivial, trivial, trivial, trivial, trivial, trivial, trivial⟩ ?_
                · exact tx_ibB t e5 e6 hs he (len := 6) (k := 5) b2 (by decide) (by decide)
                refine br (fun b8 => ?_) (fun b8 => ?_)
                ·
                  refine go hX 2 (gs := [True, True]) (z' := (136, [some (.ref 65), some (.int 118), some (.int 105), some (.int 99), some (.int 116), some (.int 105), some (.int 109), some (.int 6)], [.int 1], h)) rfl ⟨trivial, trivial, trivial⟩ ?_
                  refine rt_ hX (G := isB 1) (r := some (.int 1)) rfl isB1 ?_
                  exact k1 ⟨b1, b2, b3, b4, b5, b6, b7, b8⟩
                ·
                  refine go hX 1 (gs := [True]) (z' := (136, [some (.ref 65), some (.int 118), some (.int 105), some (.int 99), some (.int 116), some (.int 105), some (.int 109), some (.int 6)], [.int 0], h)) rfl ⟨trivial, trivial⟩ ?_
                  refine rt_ hX (G := isB 0) (r := some (.int 0)) rfl isB0 ?_
                  exact k0 (fun q => b8 q.2.2.2.2.2.2.2)
              ·
                refine go hX 1 (gs := [True]) (z' := (136, [some (.ref 65), some (.int 118), some (.int 105), some (.int 99), some (.int 116), some (.int 105), some (.int 109), some (.int 6)], [.int 0], h)) rfl ⟨trivial, trivial⟩ ?_
                refine rt_ hX (G := isB 0) (r := some (.int 0)) rfl isB0 ?_
                exact k0 (fun q => b7 q.2.2.2.2.2.2.1)
            ·
              refine go hX 1 (gs := [True]) (z' := (136, [some (.ref 65), some (.int 118), some (.int 105), some (.int 99), some (.int 116), some (.int 105), some (.int 109), some (.int 6)], [.int 0], h)) rfl ⟨trivial, trivial⟩ ?_
              refine rt_ hX (G := isB 0) (r := some (.int 0)) rfl isB0 ?_
              exact k0 (fun q => b6 q.2.2.2.2.2.1)
          ·
            refine go hX 1 (gs := [True]) (z' := (136, [some (.ref 65), some (.int 118), some (.int 105), some (.int 99), some (.int 116), some (.int 105), some (.int 109), some (.int 6)], [.int 0], h)) rfl ⟨trivial, trivial⟩ ?_
            refine rt_ hX (G := isB 0) (r := some (.int 0)) rfl isB0 ?_
            exact k0 (fun q => b5 q.2.2.2.2.1)
        ·
          refine go hX 1 (gs := [True]) (z' := (136, [some (.ref 65), some (.int 118), some (.int 105), some (.int 99), some (.int 116), some (.int 105), some (.int 109), some (.int 6)], [.int 0], h)) rfl ⟨trivial, trivial⟩ ?_
          refine rt_ hX (G := isB 0) (r := some (.int 0)) rfl isB0 ?_
          exact k0 (fun q => b4 q.2.2.2.1)
      ·
        refine go hX 1 (gs := [True]) (z' := (136, [some (.ref 65), some (.int 118), some (.int 105), some (.int 99), some (.int 116), some (.int 105), some (.int 109), some (.int 6)], [.int 0], h)) rfl ⟨trivial, trivial⟩ ?_
        refine rt_ hX (G := isB 0) (r := some (.int 0)) rfl isB0 ?_
        exact k0 (fun q => b3 q.2.2.1)
    ·
      refine go hX 1 (gs := [True]) (z' := (136, [some (.ref 65), some (.int 118), some (.int 105), some (.int 99), some (.int 116), some (.int 105), some (.int 109), some (.int 6)], [.int 0], h)) rfl ⟨trivial, trivial⟩ ?_
      refine rt_ hX (G := isB 0) (r := some (.int 0)) rfl isB0 ?_
      exact k0 (fun q => b2 q.2.1)
  ·
    refine go hX 1 (gs := [True]) (z' := (136, [some (.ref 65), some (.int 118), some (.int 105), some (.int 99), some (.int 116), some (.int 105), some (.int 109), some (.int 6)], [.int 0], h)) rfl ⟨trivial, trivial⟩ ?_
    refine rt_ hX (G := isB 0) (r := some (.int 0)) rfl isB0 ?_
    exact k0 (fun q => b1 q.1)
theorem c_bspelt3 {d : Nat} {Q : Option Value → Hp → Prop} {h : Hp} {n s e : Nat} (t : TPB h n) (e5 : h.1 65 17 = nI s) (e6 : h.1 65 18 = nI e) (hs : s ≤ e) (he : e ≤ n) (k1 : bw3 h → Q (some (.int 1)) h) (k0 : ¬ bw3 h → Q (some (.int 0)) h) : Call (d + 1) 213 [.ref 65, .int 115, .int 97, .int 118, .int 101] h Q := by
  refine call_of (rfl : psM[213]? = some _) rfl rfl (rcvV rfl) (fun X hX => ?_)
  show X (0, [some (.ref 65), some (.int 115), some (.int 97), some (.int 118), some (.int 101), none], [], h)
  refine go hX 8 (gs := [True, True, True, True, True, True, True, True]) (z' := (if (h.1 65 19) = 1 then 20 else 102, [some (.ref 65), some (.int 115), some (.int 97), some (.int 118), some (.int 101), some (.int 4)], [], h)) rfl ⟨trivial, trivial, trivial, trivial, trivial, trivial, trivial, trivial, trivial⟩ ?_
  refine br (fun b1 => ?_) (fun b1 => ?_)
  ·
    refine go hX 7 (gs := [True, True, True, True, True, True, True]) (z' := (if ((h.1 65 18) - (h.1 65 17)) = 4 then 34 else 102, [some (.ref 65), some (.int 115), some (.int 97), some (.int 118), some (.int 101), some (.int 4)], [], h)) rfl ⟨trivial, trivial, trivial, trivial, trivial, trivial, trivial, trivial⟩ ?_
    refine br (fun b2 => ?_) (fun b2 => ?_)
    ·
      refine go hX 7 (gs := [True, True, ibd (h.1 65 17) 96, True, True, True, True]) (z' := (if (h.1 78 (h.1 65 17)) = 115 then 47 else 102, [some (.ref 65), some (.int 115), some (.int 97), some (.int 118), some (.int 101), some (.int 4)], [], h)) rfl ⟨trivial, trivial, ?_, trivial, trivial, trivial, trivial, trivial⟩ ?_
      · exact tx_ibB0 t e5 e6 hs he (len := 4) b2 (by decide) (by decide)
      refine br (fun b3 => ?_) (fun b3 => ?_)
      ·
        refine go hX 9 (gs := [True, True, ibd ((h.1 65 17) + 1) 96, True, True, True, True, True, True]) (z' := (if (h.1 78 ((h.1 65 17) + 1)) = 97 then 62 else 102, [some (.ref 65), some (.int 115), some (.int 97), some (.int 118), some (.int 101), some (.int 4)], [], h)) rfl ⟨trivial, trivial, ?_, trivial, trivial, trivial, trivial, trivial, trivial, trivial⟩ ?_
        · exact tx_ibB t e5 e6 hs he (len := 4) (k := 1) b2 (by decide) (by decide)
        refine br (fun b4 => ?_) (fun b4 => ?_)
        ·
          refine go hX 9 (gs := [True, True, ibd ((h.1 65 17) + 2) 96, True, True, True, True, True, True]) (z' := (if (h.1 78 ((h.1 65 17) + 2)) = 118 then 77 else 102, [some (.ref 65), some (.int 115), some (.int 97), some (.int 118), some (.int 101), some (.int 4)], [], h)) rfl ⟨trivial, trivial, ?_, trivial, trivial, trivial, trivial, trivial, trivial, trivial⟩ ?_
          · exact tx_ibB t e5 e6 hs he (len := 4) (k := 2) b2 (by decide) (by decide)
          refine br (fun b5 => ?_) (fun b5 => ?_)
          ·
            refine go hX 11 (gs := [True, True, ibd ((h.1 65 17) + 3) 96, True, True, True, True, True, True, True, True]) (z' := (if (h.1 78 ((h.1 65 17) + 3)) = 101 then 98 else 102, [some (.ref 65), some (.int 115), some (.int 97), some (.int 118), some (.int 101), some (.int 4)], [], h)) rfl ⟨trivial, trivial, ?_, trivial, trivial, trivial, trivial, trivial, trivial, trivial, trivial, trivial⟩ ?_
            · exact tx_ibB t e5 e6 hs he (len := 4) (k := 3) b2 (by decide) (by decide)
            refine br (fun b6 => ?_) (fun b6 => ?_)
            ·
              refine go hX 2 (gs := [True, True]) (z' := (103, [some (.ref 65), some (.int 115), some (.int 97), some (.int 118), some (.int 101), some (.int 4)], [.int 1], h)) rfl ⟨trivial, trivial, trivial⟩ ?_
              refine rt_ hX (G := isB 1) (r := some (.int 1)) rfl isB1 ?_
              exact k1 ⟨b1, b2, b3, b4, b5, b6⟩
            ·
              refine go hX 1 (gs := [True]) (z' := (103, [some (.ref 65), some (.int 115), some (.int 97), some (.int 118), some (.int 101), some (.int 4)], [.int 0], h)) rfl ⟨trivial, trivial⟩ ?_
              refine rt_ hX (G := isB 0) (r := some (.int 0)) rfl isB0 ?_
              exact k0 (fun q => b6 q.2.2.2.2.2)
          ·
            refine go hX 1 (gs := [True]) (z' := (103, [some (.ref 65), some (.int 115), some (.int 97), some (.int 118), some (.int 101), some (.int 4)], [.int 0], h)) rfl ⟨trivial, trivial⟩ ?_
            refine rt_ hX (G := isB 0) (r := some (.int 0)) rfl isB0 ?_
            exact k0 (fun q => b5 q.2.2.2.2.1)
        ·
          refine go hX 1 (gs := [True]) (z' := (103, [some (.ref 65), some (.int 115), some (.int 97), some (.int 118), some (.int 101), some (.int 4)], [.int 0], h)) rfl ⟨trivial, trivial⟩ ?_
          refine rt_ hX (G := isB 0) (r := some (.int 0)) rfl isB0 ?_
          exact k0 (fun q => b4 q.2.2.2.1)
      ·
        refine go hX 1 (gs := [True]) (z' := (103, [some (.ref 65), some (.int 115), some (.int 97), some (.int 118), some (.int 101), some (.int 4)], [.int 0], h)) rfl ⟨trivial, trivial⟩ ?_
        refine rt_ hX (G := isB 0) (r := some (.int 0)) rfl isB0 ?_
        exact k0 (fun q => b3 q.2.2.1)
    ·
      refine go hX 1 (gs := [True]) (z' := (103, [some (.ref 65), some (.int 115), some (.int 97), some (.int 118), some (.int 101), some (.int 4)], [.int 0], h)) rfl ⟨trivial, trivial⟩ ?_
      refine rt_ hX (G := isB 0) (r := some (.int 0)) rfl isB0 ?_
      exact k0 (fun q => b2 q.2.1)
  ·
    refine go hX 1 (gs := [True]) (z' := (103, [some (.ref 65), some (.int 115), some (.int 97), some (.int 118), some (.int 101), some (.int 4)], [.int 0], h)) rfl ⟨trivial, trivial⟩ ?_
    refine rt_ hX (G := isB 0) (r := some (.int 0)) rfl isB0 ?_
    exact k0 (fun q => b1 q.1)
theorem c_bspelt4 {d : Nat} {Q : Option Value → Hp → Prop} {h : Hp} {n s e : Nat} (t : TPB h n) (e5 : h.1 65 17 = nI s) (e6 : h.1 65 18 = nI e) (hs : s ≤ e) (he : e ≤ n) (k1 : bw4 h → Q (some (.int 1)) h) (k0 : ¬ bw4 h → Q (some (.int 0)) h) : Call (d + 1) 214 [.ref 65, .int 108, .int 101, .int 97, .int 115, .int 116, .int 0] h Q := by
  refine call_of (rfl : psM[214]? = some _) rfl rfl (rcvV rfl) (fun X hX => ?_)
  show X (0, [some (.ref 65), some (.int 108), some (.int 101), some (.int 97), some (.int 115), some (.int 116), some (.int 0), none], [], h)
  refine go hX 9 (gs := [True, True, True, True, True, True, True, True, True]) (z' := (if (h.1 65 19) = 1 then 21 else 135, [some (.ref 65), some (.int 108), some (.int 101), some (.int 97), some (.int 115), some (.int 116), some (.int 0), some (.int 5)], [], h)) rfl ⟨trivial, trivial, trivial, trivial, trivial, trivial, trivial, trivial, trivial, trivial⟩ ?_
  refine br (fun b1 => ?_) (fun b1 => ?_)
  ·
    refine go hX 7 (gs := [True, True, True, True, True, True, True]) (z' := (if ((h.1 65 18) - (h.1 65 17)) = 5 then 35 else 135, [some (.ref 65), some (.int 108), some (.int 101), some (.int 97), some (.int 115), some (.int 116), some (.int 0), some (.int 5)], [], h)) rfl ⟨trivial, trivial, trivial, trivial, trivial, trivial, trivial, trivial⟩ ?_
    refine br (fun b2 => ?_) (fun b2 => ?_)
    ·
      refine go hX 7 (gs := [True, True, ibd (h.1 65 17) 96, True, True, True, True]) (z' := (if (h.1 78 (h.1 65 17)) = 108 then 48 else 135, [some (.ref 65), some (.int 108), some (.int 101), some (.int 97), some (.int 115), some (.int 116), some (.int 0), some (.int 5)], [], h)) rfl ⟨trivial, trivial, ?_, trivial, trivial, trivial, trivial, trivial⟩ ?_
      · exact tx_ibB0 t e5 e6 hs he (len := 5) b2 (by decide) (by decide)
      refine br (fun b3 => ?_) (fun b3 => ?_)
      ·
        refine go hX 9 (gs := [True, True, ibd ((h.1 65 17) + 1) 96, True, True, True, True, True, True]) (z' := (if (h.1 78 ((h.1 65 17) + 1)) = 101 then 63 else 135, [some (.ref 65), some (.int 108), some (.int 101), some (.int 97), some (.int 115), some (.int 116), some (.int 0), some (.int 5)], [], h)) rfl ⟨trivial, trivial, ?_, trivial, trivial, trivial, trivial, trivial, trivial, trivial⟩ ?_
        · exact tx_ibB t e5 e6 hs he (len := 5) (k := 1) b2 (by decide) (by decide)
        refine br (fun b4 => ?_) (fun b4 => ?_)
        ·
          refine go hX 9 (gs := [True, True, ibd ((h.1 65 17) + 2) 96, True, True, True, True, True, True]) (z' := (if (h.1 78 ((h.1 65 17) + 2)) = 97 then 78 else 135, [some (.ref 65), some (.int 108), some (.int 101), some (.int 97), some (.int 115), some (.int 116), some (.int 0), some (.int 5)], [], h)) rfl ⟨trivial, trivial, ?_, trivial, trivial, trivial, trivial, trivial, trivial, trivial⟩ ?_
          · exact tx_ibB t e5 e6 hs he (len := 5) (k := 2) b2 (by decide) (by decide)
          refine br (fun b5 => ?_) (fun b5 => ?_)
          ·
            refine go hX 9 (gs := [True, True, ibd ((h.1 65 17) + 3) 96, True, True, True, True, True, True]) (z' := (if (h.1 78 ((h.1 65 17) + 3)) = 115 then 94 else 135, [some (.ref 65), some (.int 108), some (.int 101), some (.int 97), some (.int 115), some (.int 116), some (.int 0), some (.int 5)], [], h)) rfl ⟨trivial, trivial, ?_, trivial, trivial, trivial, trivial, trivial, trivial, trivial⟩ ?_
            · exact tx_ibB t e5 e6 hs he (len := 5) (k := 3) b2 (by decide) (by decide)
            refine br (fun b6 => ?_) (fun b6 => ?_)
            ·
              refine go hX 9 (gs := [True, True, ibd ((h.1 65 17) + 4) 96, True, True, True, True, True, True]) (z' := (if (h.1 78 ((h.1 65 17) + 4)) = 116 then 110 else 135, [some (.ref 65), some (.int 108), some (.int 101), some (.int 97), some (.int 115), some (.int 116), some (.int 0), some (.int 5)], [], h)) rfl ⟨trivial, trivial, ?_, trivial, trivial, trivial, trivial, trivial, trivial, trivial⟩ ?_
              · exact tx_ibB t e5 e6 hs he (len := 5) (k := 4) b2 (by decide) (by decide)
              refine br (fun b7 => ?_) (fun b7 => ?_)
              ·
                refine go hX 4 (gs := [True, True, True, True]) (z' := (136, [some (.ref 65), some (.int 108), some (.int 101), some (.int 97), some (.int 115), some (.int 116), some (.int 0), some (.int 5)], [.int 1], h)) rfl ⟨trivial, trivial, trivial, trivial, trivial⟩ ?_
                refine rt_ hX (G := isB 1) (r := some (.int 1)) rfl isB1 ?_
                exact k1 ⟨b1, b2, b3, b4, b5, b6, b7⟩
              ·
                refine go hX 1 (gs := [True]) (z' := (136, [some (.ref 65), some (.int 108), some (.int 101), some (.int 97), some (.int 115), some (.int 116), some (.int 0), some (.int 5)], [.int 0], h)) rfl ⟨trivial, trivial⟩ ?_
                refine rt_ hX (G := isB 0) (r := some (.int 0)) rfl isB0 ?_
                exact k0 (fun q => b7 q.2.2.2.2.2.2)
            ·
              refine go hX 1 (gs := [True]) (z' := (136, [some (.ref 65), some (.int 108), some (.int 101), some (.int 97), some (.int 115), some (.int 116), some (.int 0), some (.int 5)], [.int 0], h)) rfl ⟨trivial, trivial⟩ ?_
              refine rt_ hX (G := isB 0) (r := some (.int 0)) rfl isB0 ?_
              exact k0 (fun q => b6 q.2.2.2.2.2.1)
          ·
            refine go hX 1 (gs := [True]) (z' := (136, [some (.ref 65), some (.int 108), some (.int 101), some (.int 97), some (.int 115), some (.int 116), some (.int 0), some (.int 5)], [.int 0], h)) rfl ⟨trivial, trivial⟩ ?_
            refine rt_ hX (G := isB 0) (r := some (.int 0)) rfl isB0 ?_
            exact k0 (fun q => b5 q.2.2.2.2.1)
        ·
          refine go hX 1 (gs := [True]) (z' := (136, [some (.ref 65), some (.int 108), some (.int 101), some (.int 97), some (.int 115), some (.int 116), some (.int 0), some (.int 5)], [.int 0], h)) rfl ⟨trivial, trivial⟩ ?_
          refine rt_ hX (G := isB 0) (r := some (.int 0)) rfl isB0 ?_
          exact k0 (fun q => b4 q.2.2.2.1)
      ·
        refine go hX 1 (gs := [True]) (z' := (136, [some (.ref 65), some (.int 108), some (.int 101), some (.int 97), some (.int 115), some (.int 116), some (.int 0), some (.int 5)], [.int 0], h)) rfl ⟨trivial, trivial⟩ ?_
        refine rt_ hX (G := isB 0) (r := some (.int 0)) rfl isB0 ?_
        exact k0 (fun q => b3 q.2.2.1)
    ·
      refine go hX 1 (gs := [True]) (z' := (136, [some (.ref 65), some (.int 108), some (.int 101), some (.int 97), some (.int 115), some (.int 116), some (.int 0), some (.int 5)], [.int 0], h)) rfl ⟨trivial, trivial⟩ ?_
      refine rt_ hX (G := isB 0) (r := some (.int 0)) rfl isB0 ?_
      exact k0 (fun q => b2 q.2.1)
  ·
    refine go hX 1 (gs := [True]) (z' := (136, [some (.ref 65), some (.int 108), some (.int 101), some (.int 97), some (.int 115), some (.int 116), some (.int 0), some (.int 5)], [.int 0], h)) rfl ⟨trivial, trivial⟩ ?_
    refine rt_ hX (G := isB 0) (r := some (.int 0)) rfl isB0 ?_
    exact k0 (fun q => b1 q.1)
theorem c_bspelt5 {d : Nat} {Q : Option Value → Hp → Prop} {h : Hp} {n s e : Nat} (t : TPB h n) (e5 : h.1 65 17 = nI s) (e6 : h.1 65 18 = nI e) (hs : s ≤ e) (he : e ≤ n) (k1 : bw5 h → Q (some (.int 1)) h) (k0 : ¬ bw5 h → Q (some (.int 0)) h) : Call (d + 1) 213 [.ref 65, .int 100, .int 97, .int 121, .int 115] h Q := by
  refine call_of (rfl : psM[213]? = some _) rfl rfl (rcvV rfl) (fun X hX => ?_)
  show X (0, [some (.ref 65), some (.int 100), some (.int 97), some (.int 121), some (.int 115), none], [], h)
  refine go hX 8 (gs := [True, True, True, True, True, True, True, True]) (z' := (if (h.1 65 19) = 1 then 20 else 102, [some (.ref 65), some (.int 100), some (.int 97), some (.int 121), some (.int 115), some (.int 4)], [], h)) rfl ⟨trivial, trivial, trivial, trivial, trivial, trivial, trivial, trivial, trivial⟩ ?_
  refine br (fun b1 => ?_) (fun b1 => ?_)
  ·
    refine go hX 7 (gs := [True, True, True, True, True, True, True]) (z' := (if ((h.1 65 18) - (h.1 65 17)) = 4 then 34 else 102, [some (.ref 65), some (.int 100), some (.int 97), some (.int 121), some (.int 115), some (.int 4)], [], h)) rfl ⟨trivial, trivial, trivial, trivial, trivial, trivial, trivial, trivial⟩ ?_
    refine br (fun b2 => ?_) (fun b2 => ?_)
    ·
      refine go hX 7 (gs := [True, True, ibd (h.1 65 17) 96, True, True, True, True]) (z' := (if (h.1 78 (h.1 65 17)) = 100 then 47 else 102, [some (.ref 65), some (.int 100), some (.int 97), some (.int 121), some (.int 115), some (.int 4)], [], h)) rfl ⟨trivial, trivial, ?_, trivial, trivial, trivial, trivial, trivial⟩ ?_
      · exact tx_ibB0 t e5 e6 hs he (len := 4) b2 (by decide) (by decide)
      refine br (fun b3 => ?_) (fun b3 => ?_)
      ·
        refine go hX 9 (gs := [True, True, ibd ((h.1 65 17) + 1) 96, True, True, True, True, True, True]) (z' := (if (h.1 78 ((h.1 65 17) + 1)) = 97 then 62 else 102, [some (.ref 65), some (.int 100), some (.int 97), some (.int 121), some (.int 115), some (.int 4)], [], h)) rfl ⟨trivial, trivial, ?_, trivial, trivial, trivial, trivial, trivial, trivial, trivial⟩ ?_
        · exact tx_ibB t e5 e6 hs he (len := 4) (k := 1) b2 (by decide) (by decide)
        refine br (fun b4 => ?_) (fun b4 => ?_)
        ·
          refine go hX 9 (gs := [True, True, ibd ((h.1 65 17) + 2) 96, True, True, True, True, True, True]) (z' := (if (h.1 78 ((h.1 65 17) + 2)) = 121 then 77 else 102, [some (.ref 65), some (.int 100), some (.int 97), some (.int 121), some (.int 115), some (.int 4)], [], h)) rfl ⟨trivial, trivial, ?_, trivial, trivial, trivial, trivial, trivial, trivial, trivial⟩ ?_
          · exact tx_ibB t e5 e6 hs he (len := 4) (k := 2) b2 (by decide) (by decide)
          refine br (fun b5 => ?_) (fun b5 => ?_)
          ·
            refine go hX 11 (gs := [True, True, ibd ((h.1 65 17) + 3) 96, True, True, True, True, True, True, True, True]) (z' := (if (h.1 78 ((h.1 65 17) + 3)) = 115 then 98 else 102, [some (.ref 65), some (.int 100), some (.int 97), some (.int 121), some (.int 115), some (.int 4)], [], h)) rfl ⟨trivial, trivial, ?_, trivial, trivial, trivial, trivial, trivial, trivial, trivial, trivial, trivial⟩ ?_
            · exact tx_ibB t e5 e6 hs he (len := 4) (k := 3) b2 (by decide) (by decide)
            refine br (fun b6 => ?_) (fun b6 => ?_)
            ·
              refine go hX 2 (gs := [True, True]) (z' := (103, [some (.ref 65), some (.int 100), some (.int 97), some (.int 121), some (.int 115), some (.int 4)], [.int 1], h)) rfl ⟨trivial, trivial, trivial⟩ ?_
              refine rt_ hX (G := isB 1) (r := some (.int 1)) rfl isB1 ?_
              exact k1 ⟨b1, b2, b3, b4, b5, b6⟩
            ·
              refine go hX 1 (gs := [True]) (z' := (103, [some (.ref 65), some (.int 100), some (.int 97), some (.int 121), some (.int 115), some (.int 4)], [.int 0], h)) rfl ⟨trivial, trivial⟩ ?_
              refine rt_ hX (G := isB 0) (r := some (.int 0)) rfl isB0 ?_
              exact k0 (fun q => b6 q.2.2.2.2.2)
          ·
            refine go hX 1 (gs := [True]) (z' := (103, [some (.ref 65), some (.int 100), some (.int 97), some (.int 121), some (.int 115), some (.int 4)], [.int 0], h)) rfl ⟨trivial, trivial⟩ ?_
            refine rt_ hX (G := isB 0) (r := some (.int 0)) rfl isB0 ?_
            exact k0 (fun q => b5 q.2.2.2.2.1)
        ·
          refine go hX 1 (gs := [True]) (z' := (103, [some (.ref 65), some (.int 100), some (.int 97), some (.int 121), some (.int 115), some (.int 4)], [.int 0], h)) rfl ⟨trivial, trivial⟩ ?_
          refine rt_ hX (G := isB 0) (r := some (.int 0)) rfl isB0 ?_
          exact k0 (fun q => b4 q.2.2.2.1)
      ·
        refine go hX 1 (gs := [True]) (z' := (103, [some (.ref 65), some (.int 100), some (.int 97), some (.int 121), some (.int 115), some (.int 4)], [.int 0], h)) rfl ⟨trivial, trivial⟩ ?_
        refine rt_ hX (G := isB 0) (r := some (.int 0)) rfl isB0 ?_
        exact k0 (fun q => b3 q.2.2.1)
    ·
      refine go hX 1 (gs := [True]) (z' := (103, [some (.ref 65), some (.int 100), some (.int 97), some (.int 121), some (.int 115), some (.int 4)], [.int 0], h)) rfl ⟨trivial, trivial⟩ ?_
      refine rt_ hX (G := isB 0) (r := some (.int 0)) rfl isB0 ?_
      exact k0 (fun q => b2 q.2.1)
  ·
    refine go hX 1 (gs := [True]) (z' := (103, [some (.ref 65), some (.int 100), some (.int 97), some (.int 121), some (.int 115), some (.int 4)], [.int 0], h)) rfl ⟨trivial, trivial⟩ ?_
    refine rt_ hX (G := isB 0) (r := some (.int 0)) rfl isB0 ?_
    exact k0 (fun q => b1 q.1)
noncomputable def keyB (h : Hp) : Int32 := if bw2 h then 2 else if bw4 h then 4 else if bw0 h then 0 else if bw1 h then 1 else if bw3 h then 3 else if bw5 h then 5 else -1
theorem c_keyB {d : Nat} {Q : Option Value → Hp → Prop} {h : Hp} {n s e : Nat} (t : TPB h n) (e5 : h.1 65 17 = nI s) (e6 : h.1 65 18 = nI e) (hs : s ≤ e) (he : e ≤ n) (kk : Q (some (.int (keyB h))) h) : Call (d + 2) 215 [.ref 65] h Q := by
  refine call_of (rfl : psM[215]? = some _) rfl rfl (rcvV rfl) (fun X hX => ?_)
  show X (0, [some (.ref 65), none], [], h)
  refine go hX 5 (gs := [True, True, True, True, True]) (z' := (8, [some (.ref 65), none], [.int 0, .int 121, .int 97, .int 112, .ref 65], h)) rfl ⟨trivial, trivial, trivial, trivial, trivial, trivial⟩ ?_
  refine cl hX 213 5 [.ref 65, .int 112, .int 97, .int 121, .int 0] [] rfl rfl rfl rfl ?_
  refine c_bspelt0 t e5 e6 hs he (fun w1 => ?_) (fun w1 => ?_)
  ·
    show X (11, [some (.ref 65), none], [.int 1], h)
    refine go hX 11 (gs := [True, True, True, True, True, True, True, True, True, True, True]) (z' := (90, [some (.ref 65), some (.int 0)], [.int 109, .int 105, .int 116, .int 99, .int 105, .int 118, .ref 65], h)) rfl ⟨trivial, trivial, trivial, trivial, trivial, trivial, trivial, trivial, trivial, trivial, trivial, trivial⟩ ?_
    refine cl hX 214 7 [.ref 65, .int 118, .int 105, .int 99, .int 116, .int 105, .int 109] [] rfl rfl rfl rfl ?_
    refine c_bspelt2 t e5 e6 hs he (fun w2 => ?_) (fun w2 => ?_)
    ·
      show X (93, [some (.ref 65), some (.int 0)], [.int 1], h)
      refine go hX 3 (gs := [True, True, True]) (z' := (123, [some (.ref 65), some (.int 0)], [.int 2], h)) rfl ⟨trivial, trivial, trivial, trivial⟩ ?_
      refine rt_ hX (G := True) (r := some (.int 2)) rfl trivial ?_
      unfold keyB at kk; rw [if_pos w2] at kk; exact kk
    ·
      show X (93, [some (.ref 65), some (.int 0)], [.int 0], h)
      refine go hX 8 (gs := [True, True, True, True, True, True, True, True]) (z' := (112, [some (.ref 65), some (.int 0)], [.int 0, .int 116, .int 115, .int 97, .int 101, .int 108, .ref 65], h)) rfl ⟨trivial, trivial, trivial, trivial, trivial, trivial, trivial, trivial, trivial⟩ ?_
      refine cl hX 214 7 [.ref 65, .int 108, .int 101, .int 97, .int 115, .int 116, .int 0] [] rfl rfl rfl rfl ?_
      refine c_bspelt4 t e5 e6 hs he (fun w3 => ?_) (fun w3 => ?_)
      ·
        show X (115, [some (.ref 65), some (.int 0)], [.int 1], h)
        refine go hX 3 (gs := [True, True, True]) (z' := (123, [some (.ref 65), some (.int 0)], [.int 4], h)) rfl ⟨trivial, trivial, trivial, trivial⟩ ?_
        refine rt_ hX (G := True) (r := some (.int 4)) rfl trivial ?_
        unfold keyB at kk; rw [if_neg w2, if_pos w3] at kk; exact kk
      ·
        show X (115, [some (.ref 65), some (.int 0)], [.int 0], h)
        refine go hX 2 (gs := [True, True]) (z' := (123, [some (.ref 65), some (.int 0)], [.int 0], h)) rfl ⟨trivial, trivial, trivial⟩ ?_
        refine rt_ hX (G := True) (r := some (.int 0)) rfl trivial ?_
        unfold keyB at kk; rw [if_neg w2, if_neg w3, if_pos w1] at kk; exact kk
  ·
    show X (11, [some (.ref 65), none], [.int 0], h)
    refine go hX 6 (gs := [True, True, True, True, True, True]) (z' := (27, [some (.ref 65), none], [.int 116, .int 115, .int 111, .int 108, .ref 65], h)) rfl ⟨trivial, trivial, trivial, trivial, trivial, trivial, trivial⟩ ?_
    refine cl hX 213 5 [.ref 65, .int 108, .int 111, .int 115, .int 116] [] rfl rfl rfl rfl ?_
    refine c_bspelt1 t e5 e6 hs he (fun w4 => ?_) (fun w4 => ?_)
    ·
      show X (30, [some (.ref 65), none], [.int 1], h)
      refine go hX 11 (gs := [True, True, True, True, True, True, True, True, True, True, True]) (z' := (90, [some (.ref 65), some (.int 1)], [.int 109, .int 105, .int 116, .int 99, .int 105, .int 118, .ref 65], h)) rfl ⟨trivial, trivial, trivial, trivial, trivial, trivial, trivial, trivial, trivial, trivial, trivial, trivial⟩ ?_
      refine cl hX 214 7 [.ref 65, .int 118, .int 105, .int 99, .int 116, .int 105, .int 109] [] rfl rfl rfl rfl ?_
      refine c_bspelt2 t e5 e6 hs he (fun w5 => ?_) (fun w5 => ?_)
      ·
        show X (93, [some (.ref 65), some (.int 1)], [.int 1], h)
        refine go hX 3 (gs := [True, True, True]) (z' := (123, [some (.ref 65), some (.int 1)], [.int 2], h)) rfl ⟨trivial, trivial, trivial, trivial⟩ ?_
        refine rt_ hX (G := True) (r := some (.int 2)) rfl trivial ?_
        unfold keyB at kk; rw [if_pos w5] at kk; exact kk
      ·
        show X (93, [some (.ref 65), some (.int 1)], [.int 0], h)
        refine go hX 8 (gs := [True, True, True, True, True, True, True, True]) (z' := (112, [some (.ref 65), some (.int 1)], [.int 0, .int 116, .int 115, .int 97, .int 101, .int 108, .ref 65], h)) rfl ⟨trivial, trivial, trivial, trivial, trivial, trivial, trivial, trivial, trivial⟩ ?_
        refine cl hX 214 7 [.ref 65, .int 108, .int 101, .int 97, .int 115, .int 116, .int 0] [] rfl rfl rfl rfl ?_
        refine c_bspelt4 t e5 e6 hs he (fun w6 => ?_) (fun w6 => ?_)
        ·
          show X (115, [some (.ref 65), some (.int 1)], [.int 1], h)
          refine go hX 3 (gs := [True, True, True]) (z' := (123, [some (.ref 65), some (.int 1)], [.int 4], h)) rfl ⟨trivial, trivial, trivial, trivial⟩ ?_
          refine rt_ hX (G := True) (r := some (.int 4)) rfl trivial ?_
          unfold keyB at kk; rw [if_neg w5, if_pos w6] at kk; exact kk
        ·
          show X (115, [some (.ref 65), some (.int 1)], [.int 0], h)
          refine go hX 2 (gs := [True, True]) (z' := (123, [some (.ref 65), some (.int 1)], [.int 1], h)) rfl ⟨trivial, trivial, trivial⟩ ?_
          refine rt_ hX (G := True) (r := some (.int 1)) rfl trivial ?_
          unfold keyB at kk; rw [if_neg w5, if_neg w6, if_neg w1, if_pos w4] at kk; exact kk
    ·
      show X (30, [some (.ref 65), none], [.int 0], h)
      refine go hX 6 (gs := [True, True, True, True, True, True]) (z' := (46, [some (.ref 65), none], [.int 101, .int 118, .int 97, .int 115, .ref 65], h)) rfl ⟨trivial, trivial, trivial, trivial, trivial, trivial, trivial⟩ ?_
      refine cl hX 213 5 [.ref 65, .int 115, .int 97, .int 118, .int 101] [] rfl rfl rfl rfl ?_
      refine c_bspelt3 t e5 e6 hs he (fun w7 => ?_) (fun w7 => ?_)
      ·
        show X (49, [some (.ref 65), none], [.int 1], h)
        refine go hX 11 (gs := [True, True, True, True, True, True, True, True, True, True, True]) (z' := (90, [some (.ref 65), some (.int 3)], [.int 109, .int 105, .int 116, .int 99, .int 105, .int 118, .ref 65], h)) rfl ⟨trivial, trivial, trivial, trivial, trivial, trivial, trivial, trivial, trivial, trivial, trivial, trivial⟩ ?_
        refine cl hX 214 7 [.ref 65, .int 118, .int 105, .int 99, .int 116, .int 105, .int 109] [] rfl rfl rfl rfl ?_
        refine c_bspelt2 t e5 e6 hs he (fun w8 => ?_) (fun w8 => ?_)
        ·
          show X (93, [some (.ref 65), some (.int 3)], [.int 1], h)
          refine go hX 3 (gs := [True, True, True]) (z' := (123, [some (.ref 65), some (.int 3)], [.int 2], h)) rfl ⟨trivial, trivial, trivial, trivial⟩ ?_
          refine rt_ hX (G := True) (r := some (.int 2)) rfl trivial ?_
          unfold keyB at kk; rw [if_pos w8] at kk; exact kk
        ·
          show X (93, [some (.ref 65), some (.int 3)], [.int 0], h)
          refine go hX 8 (gs := [True, True, True, True, True, True, True, True]) (z' := (112, [some (.ref 65), some (.int 3)], [.int 0, .int 116, .int 115, .int 97, .int 101, .int 108, .ref 65], h)) rfl ⟨trivial, trivial, trivial, trivial, trivial, trivial, trivial, trivial, trivial⟩ ?_
          refine cl hX 214 7 [.ref 65, .int 108, .int 101, .int 97, .int 115, .int 116, .int 0] [] rfl rfl rfl rfl ?_
          refine c_bspelt4 t e5 e6 hs he (fun w9 => ?_) (fun w9 => ?_)
          ·
            show X (115, [some (.ref 65), some (.int 3)], [.int 1], h)
            refine go hX 3 (gs := [True, True, True]) (z' := (123, [some (.ref 65), some (.int 3)], [.int 4], h)) rfl ⟨trivial, trivial, trivial, trivial⟩ ?_
            refine rt_ hX (G := True) (r := some (.int 4)) rfl trivial ?_
            unfold keyB at kk; rw [if_neg w8, if_pos w9] at kk; exact kk
          ·
            show X (115, [some (.ref 65), some (.int 3)], [.int 0], h)
            refine go hX 2 (gs := [True, True]) (z' := (123, [some (.ref 65), some (.int 3)], [.int 3], h)) rfl ⟨trivial, trivial, trivial⟩ ?_
            refine rt_ hX (G := True) (r := some (.int 3)) rfl trivial ?_
            unfold keyB at kk; rw [if_neg w8, if_neg w9, if_neg w1, if_neg w4, if_pos w7] at kk; exact kk
      ·
        show X (49, [some (.ref 65), none], [.int 0], h)
        refine go hX 6 (gs := [True, True, True, True, True, True]) (z' := (65, [some (.ref 65), none], [.int 115, .int 121, .int 97, .int 100, .ref 65], h)) rfl ⟨trivial, trivial, trivial, trivial, trivial, trivial, trivial⟩ ?_
        refine cl hX 213 5 [.ref 65, .int 100, .int 97, .int 121, .int 115] [] rfl rfl rfl rfl ?_
        refine c_bspelt5 t e5 e6 hs he (fun w10 => ?_) (fun w10 => ?_)
        ·
          show X (68, [some (.ref 65), none], [.int 1], h)
          refine go hX 11 (gs := [True, True, True, True, True, True, True, True, True, True, True]) (z' := (90, [some (.ref 65), some (.int 5)], [.int 109, .int 105, .int 116, .int 99, .int 105, .int 118, .ref 65], h)) rfl ⟨trivial, trivial, trivial, trivial, trivial, trivial, trivial, trivial, trivial, trivial, trivial, trivial⟩ ?_
          refine cl hX 214 7 [.ref 65, .int 118, .int 105, .int 99, .int 116, .int 105, .int 109] [] rfl rfl rfl rfl ?_
          refine c_bspelt2 t e5 e6 hs he (fun w11 => ?_) (fun w11 => ?_)
          ·
            show X (93, [some (.ref 65), some (.int 5)], [.int 1], h)
            refine go hX 3 (gs := [True, True, True]) (z' := (123, [some (.ref 65), some (.int 5)], [.int 2], h)) rfl ⟨trivial, trivial, trivial, trivial⟩ ?_
            refine rt_ hX (G := True) (r := some (.int 2)) rfl trivial ?_
            unfold keyB at kk; rw [if_pos w11] at kk; exact kk
          ·
            show X (93, [some (.ref 65), some (.int 5)], [.int 0], h)
            refine go hX 8 (gs := [True, True, True, True, True, True, True, True]) (z' := (112, [some (.ref 65), some (.int 5)], [.int 0, .int 116, .int 115, .int 97, .int 101, .int 108, .ref 65], h)) rfl ⟨trivial, trivial, trivial, trivial, trivial, trivial, trivial, trivial, trivial⟩ ?_
            refine cl hX 214 7 [.ref 65, .int 108, .int 101, .int 97, .int 115, .int 116, .int 0] [] rfl rfl rfl rfl ?_
            refine c_bspelt4 t e5 e6 hs he (fun w12 => ?_) (fun w12 => ?_)
            ·
              show X (115, [some (.ref 65), some (.int 5)], [.int 1], h)
              refine go hX 3 (gs := [True, True, True]) (z' := (123, [some (.ref 65), some (.int 5)], [.int 4], h)) rfl ⟨trivial, trivial, trivial, trivial⟩ ?_
              refine rt_ hX (G := True) (r := some (.int 4)) rfl trivial ?_
              unfold keyB at kk; rw [if_neg w11, if_pos w12] at kk; exact kk
            ·
              show X (115, [some (.ref 65), some (.int 5)], [.int 0], h)
              refine go hX 2 (gs := [True, True]) (z' := (123, [some (.ref 65), some (.int 5)], [.int 5], h)) rfl ⟨trivial, trivial, trivial⟩ ?_
              refine rt_ hX (G := True) (r := some (.int 5)) rfl trivial ?_
              unfold keyB at kk; rw [if_neg w11, if_neg w12, if_neg w1, if_neg w4, if_neg w7, if_pos w10] at kk; exact kk
        ·
          show X (68, [some (.ref 65), none], [.int 0], h)
          refine go hX 10 (gs := [True, True, True, True, True, True, True, True, True, True]) (z' := (90, [some (.ref 65), some (.int (-1))], [.int 109, .int 105, .int 116, .int 99, .int 105, .int 118, .ref 65], h)) rfl ⟨trivial, trivial, trivial, trivial, trivial, trivial, trivial, trivial, trivial, trivial, trivial⟩ ?_
          refine cl hX 214 7 [.ref 65, .int 118, .int 105, .int 99, .int 116, .int 105, .int 109] [] rfl rfl rfl rfl ?_
          refine c_bspelt2 t e5 e6 hs he (fun w13 => ?_) (fun w13 => ?_)
          ·
            show X (93, [some (.ref 65), some (.int (-1))], [.int 1], h)
            refine go hX 3 (gs := [True, True, True]) (z' := (123, [some (.ref 65), some (.int (-1))], [.int 2], h)) rfl ⟨trivial, trivial, trivial, trivial⟩ ?_
            refine rt_ hX (G := True) (r := some (.int 2)) rfl trivial ?_
            unfold keyB at kk; rw [if_pos w13] at kk; exact kk
          ·
            show X (93, [some (.ref 65), some (.int (-1))], [.int 0], h)
            refine go hX 8 (gs := [True, True, True, True, True, True, True, True]) (z' := (112, [some (.ref 65), some (.int (-1))], [.int 0, .int 116, .int 115, .int 97, .int 101, .int 108, .ref 65], h)) rfl ⟨trivial, trivial, trivial, trivial, trivial, trivial, trivial, trivial, trivial⟩ ?_
            refine cl hX 214 7 [.ref 65, .int 108, .int 101, .int 97, .int 115, .int 116, .int 0] [] rfl rfl rfl rfl ?_
            refine c_bspelt4 t e5 e6 hs he (fun w14 => ?_) (fun w14 => ?_)
            ·
              show X (115, [some (.ref 65), some (.int (-1))], [.int 1], h)
              refine go hX 3 (gs := [True, True, True]) (z' := (123, [some (.ref 65), some (.int (-1))], [.int 4], h)) rfl ⟨trivial, trivial, trivial, trivial⟩ ?_
              refine rt_ hX (G := True) (r := some (.int 4)) rfl trivial ?_
              unfold keyB at kk; rw [if_neg w13, if_pos w14] at kk; exact kk
            ·
              show X (115, [some (.ref 65), some (.int (-1))], [.int 0], h)
              refine go hX 2 (gs := [True, True]) (z' := (123, [some (.ref 65), some (.int (-1))], [.int (-1)], h)) rfl ⟨trivial, trivial, trivial⟩ ?_
              refine rt_ hX (G := True) (r := some (.int (-1))) rfl trivial ?_
              unfold keyB at kk; rw [if_neg w13, if_neg w14, if_neg w1, if_neg w4, if_neg w7, if_neg w10] at kk; exact kk
theorem c_isName0 {d : Nat} {Q : Option Value → Hp → Prop} {h : Hp} {b : Int32} (k1 : (b = 110 ∨ b = 107 ∨ b = 114) → Q (some (.int 1)) h) (k0 : ¬ (b = 110 ∨ b = 107 ∨ b = 114) → Q (some (.int 0)) h) : Call (d + 1) 216 [.int 0, .int b] h Q := by
  refine call_of (rfl : psM[216]? = some _) rfl rfl (rcvS rfl) (fun X hX => ?_)
  show X (0, [some (.int 0), some (.int b)], [], h)
  refine go hX 5 (gs := [True, True, True, True, True]) (z' := (if b = 110 then 54 else 42, [some (.int 0), some (.int b)], [], h)) rfl ⟨trivial, trivial, trivial, trivial, trivial, trivial⟩ ?_
  refine br (fun b1 => ?_) (fun b1 => ?_)
  ·
    refine go hX 2 (gs := [True, True]) (z' := (59, [some (.int 0), some (.int b)], [.int 1], h)) rfl ⟨trivial, trivial, trivial⟩ ?_
    refine rt_ hX (G := isB 1) (r := some (.int 1)) rfl isB1 ?_
    exact k1 (by grind)
  ·
    refine go hX 3 (gs := [True, True, True]) (z' := (if b = 107 then 54 else 48, [some (.int 0), some (.int b)], [], h)) rfl ⟨trivial, trivial, trivial, trivial⟩ ?_
    refine br (fun b2 => ?_) (fun b2 => ?_)
    ·
      refine go hX 2 (gs := [True, True]) (z' := (59, [some (.int 0), some (.int b)], [.int 1], h)) rfl ⟨trivial, trivial, trivial⟩ ?_
      refine rt_ hX (G := isB 1) (r := some (.int 1)) rfl isB1 ?_
      exact k1 (by grind)
    ·
      refine go hX 3 (gs := [True, True, True]) (z' := (if b = 114 then 54 else 58, [some (.int 0), some (.int b)], [], h)) rfl ⟨trivial, trivial, trivial, trivial⟩ ?_
      refine br (fun b3 => ?_) (fun b3 => ?_)
      ·
        refine go hX 2 (gs := [True, True]) (z' := (59, [some (.int 0), some (.int b)], [.int 1], h)) rfl ⟨trivial, trivial, trivial⟩ ?_
        refine rt_ hX (G := isB 1) (r := some (.int 1)) rfl isB1 ?_
        exact k1 (by grind)
      ·
        refine go hX 1 (gs := [True]) (z' := (59, [some (.int 0), some (.int b)], [.int 0], h)) rfl ⟨trivial, trivial⟩ ?_
        refine rt_ hX (G := isB 0) (r := some (.int 0)) rfl isB0 ?_
        exact k0 (by grind)
theorem c_isName1 {d : Nat} {Q : Option Value → Hp → Prop} {h : Hp} {b : Int32} (k1 : (b = 107) → Q (some (.int 1)) h) (k0 : ¬ (b = 107) → Q (some (.int 0)) h) : Call (d + 1) 216 [.int 1, .int b] h Q := by
  refine call_of (rfl : psM[216]? = some _) rfl rfl (rcvS rfl) (fun X hX => ?_)
  show X (0, [some (.int 1), some (.int b)], [], h)
  refine go hX 5 (gs := [True, True, True, True, True]) (z' := (if b = 107 then 66 else 70, [some (.int 1), some (.int b)], [], h)) rfl ⟨trivial, trivial, trivial, trivial, trivial, trivial⟩ ?_
  refine br (fun b1 => ?_) (fun b1 => ?_)
  ·
    refine go hX 2 (gs := [True, True]) (z' := (71, [some (.int 1), some (.int b)], [.int 1], h)) rfl ⟨trivial, trivial, trivial⟩ ?_
    refine rt_ hX (G := isB 1) (r := some (.int 1)) rfl isB1 ?_
    exact k1 (by grind)
  ·
    refine go hX 1 (gs := [True]) (z' := (71, [some (.int 1), some (.int b)], [.int 0], h)) rfl ⟨trivial, trivial⟩ ?_
    refine rt_ hX (G := isB 0) (r := some (.int 0)) rfl isB0 ?_
    exact k0 (by grind)
theorem c_isName2 {d : Nat} {Q : Option Value → Hp → Prop} {h : Hp} {b : Int32} (k1 : (b = 103 ∨ b = 111) → Q (some (.int 1)) h) (k0 : ¬ (b = 103 ∨ b = 111) → Q (some (.int 0)) h) : Call (d + 1) 216 [.int 2, .int b] h Q := by
  refine call_of (rfl : psM[216]? = some _) rfl rfl (rcvS rfl) (fun X hX => ?_)
  show X (0, [some (.int 2), some (.int b)], [], h)
  refine go hX 5 (gs := [True, True, True, True, True]) (z' := (if b = 103 then 84 else 78, [some (.int 2), some (.int b)], [], h)) rfl ⟨trivial, trivial, trivial, trivial, trivial, trivial⟩ ?_
  refine br (fun b1 => ?_) (fun b1 => ?_)
  ·
    refine go hX 2 (gs := [True, True]) (z' := (89, [some (.int 2), some (.int b)], [.int 1], h)) rfl ⟨trivial, trivial, trivial⟩ ?_
    refine rt_ hX (G := isB 1) (r := some (.int 1)) rfl isB1 ?_
    exact k1 (by grind)
  ·
    refine go hX 3 (gs := [True, True, True]) (z' := (if b = 111 then 84 else 88, [some (.int 2), some (.int b)], [], h)) rfl ⟨trivial, trivial, trivial, trivial⟩ ?_
    refine br (fun b2 => ?_) (fun b2 => ?_)
    ·
      refine go hX 2 (gs := [True, True]) (z' := (89, [some (.int 2), some (.int b)], [.int 1], h)) rfl ⟨trivial, trivial, trivial⟩ ?_
      refine rt_ hX (G := isB 1) (r := some (.int 1)) rfl isB1 ?_
      exact k1 (by grind)
    ·
      refine go hX 1 (gs := [True]) (z' := (89, [some (.int 2), some (.int b)], [.int 0], h)) rfl ⟨trivial, trivial⟩ ?_
      refine rt_ hX (G := isB 0) (r := some (.int 0)) rfl isB0 ?_
      exact k0 (by grind)
theorem c_isName3 {d : Nat} {Q : Option Value → Hp → Prop} {h : Hp} {b : Int32} (k1 : (b = 103 ∨ b = 116) → Q (some (.int 1)) h) (k0 : ¬ (b = 103 ∨ b = 116) → Q (some (.int 0)) h) : Call (d + 1) 216 [.int 3, .int b] h Q := by
  refine call_of (rfl : psM[216]? = some _) rfl rfl (rcvS rfl) (fun X hX => ?_)
  show X (0, [some (.int 3), some (.int b)], [], h)
  refine go hX 5 (gs := [True, True, True, True, True]) (z' := (if b = 103 then 102 else 96, [some (.int 3), some (.int b)], [], h)) rfl ⟨trivial, trivial, trivial, trivial, trivial, trivial⟩ ?_
  refine br (fun b1 => ?_) (fun b1 => ?_)
  ·
    refine go hX 2 (gs := [True, True]) (z' := (107, [some (.int 3), some (.int b)], [.int 1], h)) rfl ⟨trivial, trivial, trivial⟩ ?_
    refine rt_ hX (G := isB 1) (r := some (.int 1)) rfl isB1 ?_
    exact k1 (by grind)
  ·
    refine go hX 3 (gs := [True, True, True]) (z' := (if b = 116 then 102 else 106, [some (.int 3), some (.int b)], [], h)) rfl ⟨trivial, trivial, trivial, trivial⟩ ?_
    refine br (fun b2 => ?_) (fun b2 => ?_)
    ·
      refine go hX 2 (gs := [True, True]) (z' := (107, [some (.int 3), some (.int b)], [.int 1], h)) rfl ⟨trivial, trivial, trivial⟩ ?_
      refine rt_ hX (G := isB 1) (r := some (.int 1)) rfl isB1 ?_
      exact k1 (by grind)
    ·
      refine go hX 1 (gs := [True]) (z' := (107, [some (.int 3), some (.int b)], [.int 0], h)) rfl ⟨trivial, trivial⟩ ?_
      refine rt_ hX (G := isB 0) (r := some (.int 0)) rfl isB0 ?_
      exact k0 (by grind)
theorem c_isName4 {d : Nat} {Q : Option Value → Hp → Prop} {h : Hp} {b : Int32} (k1 : (b = 103) → Q (some (.int 1)) h) (k0 : ¬ (b = 103) → Q (some (.int 0)) h) : Call (d + 1) 216 [.int 4, .int b] h Q := by
  refine call_of (rfl : psM[216]? = some _) rfl rfl (rcvS rfl) (fun X hX => ?_)
  show X (0, [some (.int 4), some (.int b)], [], h)
  refine go hX 5 (gs := [True, True, True, True, True]) (z' := (if b = 103 then 114 else 118, [some (.int 4), some (.int b)], [], h)) rfl ⟨trivial, trivial, trivial, trivial, trivial, trivial⟩ ?_
  refine br (fun b1 => ?_) (fun b1 => ?_)
  ·
    refine go hX 2 (gs := [True, True]) (z' := (119, [some (.int 4), some (.int b)], [.int 1], h)) rfl ⟨trivial, trivial, trivial⟩ ?_
    refine rt_ hX (G := isB 1) (r := some (.int 1)) rfl isB1 ?_
    exact k1 (by grind)
  ·
    refine go hX 1 (gs := [True]) (z' := (119, [some (.int 4), some (.int b)], [.int 0], h)) rfl ⟨trivial, trivial⟩ ?_
    refine rt_ hX (G := isB 0) (r := some (.int 0)) rfl isB0 ?_
    exact k0 (by grind)
theorem c_isName5 {d : Nat} {Q : Option Value → Hp → Prop} {h : Hp} {b : Int32} (k1 : (b = 119 ∨ b = 107) → Q (some (.int 1)) h) (k0 : ¬ (b = 119 ∨ b = 107) → Q (some (.int 0)) h) : Call (d + 1) 216 [.int 5, .int b] h Q := by
  refine call_of (rfl : psM[216]? = some _) rfl rfl (rcvS rfl) (fun X hX => ?_)
  show X (0, [some (.int 5), some (.int b)], [], h)
  refine go hX 5 (gs := [True, True, True, True, True]) (z' := (if b = 119 then 132 else 126, [some (.int 5), some (.int b)], [], h)) rfl ⟨trivial, trivial, trivial, trivial, trivial, trivial⟩ ?_
  refine br (fun b1 => ?_) (fun b1 => ?_)
  ·
    refine go hX 2 (gs := [True, True]) (z' := (137, [some (.int 5), some (.int b)], [.int 1], h)) rfl ⟨trivial, trivial, trivial⟩ ?_
    refine rt_ hX (G := isB 1) (r := some (.int 1)) rfl isB1 ?_
    exact k1 (by grind)
  ·
    refine go hX 3 (gs := [True, True, True]) (z' := (if b = 107 then 132 else 136, [some (.int 5), some (.int b)], [], h)) rfl ⟨trivial, trivial, trivial, trivial⟩ ?_
    refine br (fun b2 => ?_) (fun b2 => ?_)
    ·
      refine go hX 2 (gs := [True, True]) (z' := (137, [some (.int 5), some (.int b)], [.int 1], h)) rfl ⟨trivial, trivial, trivial⟩ ?_
      refine rt_ hX (G := isB 1) (r := some (.int 1)) rfl isB1 ?_
      exact k1 (by grind)
    ·
      refine go hX 1 (gs := [True]) (z' := (137, [some (.int 5), some (.int b)], [.int 0], h)) rfl ⟨trivial, trivial⟩ ?_
      refine rt_ hX (G := isB 0) (r := some (.int 0)) rfl isB0 ?_
      exact k0 (by grind)
