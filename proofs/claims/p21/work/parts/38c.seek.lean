/-- may work there, as the reference asks -/
noncomputable def mwB (h : Hp) (x k : Int32) : Prop := ¬ h.1 66 ((40 + (16 * x)) + 11) = 1 ∧ h.1 66 ((40 + (16 * x)) + 0) ≤ h.1 66 ((10 + (10 * k)) + 1) ∧ h.1 66 ((10 + (10 * k)) + 2) ≤ h.1 66 ((40 + (16 * x)) + 1) ∧ ¬ h.1 66 ((40 + (16 * x)) + 9) = h.1 66 0 ∧ h.1 66 ((10 + (10 * k)) + 4) = 0
/-- the reference goes no further -/
noncomputable def prnI (h : Hp) (x c s : Int32) : Prop := (c + h.1 66 2) - x < h.1 65 10 ∨ ((c + h.1 66 2) - x = h.1 65 10 ∧ ¬ s < h.1 65 11)
theorem c_handAtF {d : Nat} {Q : Option Value → Hp → Prop} {h : Hp} {x : Int32} (k : Q (some (.int (40 + (16 * x)))) h) : Call (d + 1) 164 [.ref 65, .int x] h Q := by
  refine call_of (rfl : psM[164]? = some _) rfl rfl (rcvV rfl) (fun X hX => ?_)
  show X (0, [some (.ref 65), some (.int x)], [], h)
  refine go hX 5 (gs := [True, True, True, True, True]) (z' := (7, [some (.ref 65), some (.int x)], [.int (40 + (16 * x))], h)) rfl ⟨trivial, trivial, trivial, trivial, trivial, trivial⟩ ?_
  refine rt_ hX (G := True) (r := some (.int (40 + (16 * x)))) rfl trivial ?_
  exact k
theorem c_shopAtF {d : Nat} {Q : Option Value → Hp → Prop} {h : Hp} {x : Int32} (k : Q (some (.int (10 + (10 * x)))) h) : Call (d + 1) 163 [.ref 65, .int x] h Q := by
  refine call_of (rfl : psM[163]? = some _) rfl rfl (rcvV rfl) (fun X hX => ?_)
  show X (0, [some (.ref 65), some (.int x)], [], h)
  refine go hX 5 (gs := [True, True, True, True, True]) (z' := (7, [some (.ref 65), some (.int x)], [.int (10 + (10 * x))], h)) rfl ⟨trivial, trivial, trivial, trivial, trivial, trivial⟩ ?_
  refine rt_ hX (G := True) (r := some (.int (10 + (10 * x)))) rfl trivial ?_
  exact k
theorem c_isFrB {d : Nat} {Q : Option Value → Hp → Prop} {h : Hp} {x : Int32} (x0 : 0 ≤ x) (x1 : x < 10) (k1 : h.1 66 ((40 + (16 * x)) + 11) = 1 → Q (some (.int 1)) h) (k0 : ¬ h.1 66 ((40 + (16 * x)) + 11) = 1 → Q (some (.int 0)) h) : Call (d + 2) 172 [.ref 65, .int x] h Q := by
  refine call_of (rfl : psM[172]? = some _) rfl rfl (rcvV rfl) (fun X hX => ?_)
  show X (0, [some (.ref 65), some (.int x)], [], h)
  refine go hX 4 (gs := [True, True, True, True]) (z' := (6, [some (.ref 65), some (.int x)], [.int x, .ref 65, .ref 66], h)) rfl ⟨trivial, trivial, trivial, trivial, trivial⟩ ?_
  refine cl hX 164 2 [.ref 65, .int x] [.ref 66] rfl rfl rfl rfl ?_
  refine c_handAtF ?_
  show X (9, [some (.ref 65), some (.int x)], [.int (40 + (16 * x)), .ref 66], h)
  refine go hX 5 (gs := [True, True, ibd ((40 + (16 * x)) + 11) 3400, True, True]) (z' := (if (h.1 66 ((40 + (16 * x)) + 11)) = 1 then 17 else 21, [some (.ref 65), some (.int x)], [], h)) rfl ⟨trivial, trivial, ?_, trivial, trivial, trivial⟩ ?_
  · exact ibd_of (B := 3400) rfl (by grind) (by grind)
  refine br (fun b1 => ?_) (fun b1 => ?_)
  ·
    refine go hX 2 (gs := [True, True]) (z' := (22, [some (.ref 65), some (.int x)], [.int 1], h)) rfl ⟨trivial, trivial, trivial⟩ ?_
    refine rt_ hX (G := isB 1) (r := some (.int 1)) rfl isB1 ?_
    exact k1 (by assumption)
  ·
    refine go hX 1 (gs := [True]) (z' := (22, [some (.ref 65), some (.int x)], [.int 0], h)) rfl ⟨trivial, trivial⟩ ?_
    refine rt_ hX (G := isB 0) (r := some (.int 0)) rfl isB0 ?_
    exact k0 (by assumption)
theorem c_mayB {d : Nat} {Q : Option Value → Hp → Prop} {h : Hp} {x k : Int32} (x0 : 0 ≤ x) (x1 : x < 10) (y0 : 0 ≤ k) (y1 : k < 3) (k1 : mwB h x k → Q (some (.int 1)) h) (k0 : ¬ mwB h x k → Q (some (.int 0)) h) : Call (d + 3) 186 [.ref 65, .int x, .int k] h Q := by
  refine call_of (rfl : psM[186]? = some _) rfl rfl (rcvV rfl) (fun X hX => ?_)
  show X (0, [some (.ref 65), some (.int x), some (.int k), none, none], [], h)
  refine go hX 2 (gs := [True, True]) (z' := (2, [some (.ref 65), some (.int x), some (.int k), none, none], [.int x, .ref 65], h)) rfl ⟨trivial, trivial, trivial⟩ ?_
  refine cl hX 164 2 [.ref 65, .int x] [] rfl rfl rfl rfl ?_
  refine c_handAtF ?_
  show X (5, [some (.ref 65), some (.int x), some (.int k), none, none], [.int (40 + (16 * x))], h)
  refine go hX 3 (gs := [True, True, True]) (z' := (8, [some (.ref 65), some (.int x), some (.int k), some (.int (40 + (16 * x))), none], [.int k, .ref 65], h)) rfl ⟨trivial, trivial, trivial, trivial⟩ ?_
  refine cl hX 163 2 [.ref 65, .int k] [] rfl rfl rfl rfl ?_
  refine c_shopAtF ?_
  show X (11, [some (.ref 65), some (.int x), some (.int k), some (.int (40 + (16 * x))), none], [.int (10 + (10 * k))], h)
  refine go hX 3 (gs := [True, True, True]) (z' := (15, [some (.ref 65), some (.int x), some (.int k), some (.int (40 + (16 * x))), some (.int (10 + (10 * k)))], [.int x, .ref 65], h)) rfl ⟨trivial, trivial, trivial, trivial⟩ ?_
  refine cl hX 172 2 [.ref 65, .int x] [] rfl rfl rfl rfl ?_
  refine c_isFrB x0 x1 (fun b1 => ?_) (fun b1 => ?_)
  ·
    show X (18, [some (.ref 65), some (.int x), some (.int k), some (.int (40 + (16 * x))), some (.int (10 + (10 * k)))], [.int 1], h)
    refine go hX 2 (gs := [True, True]) (z' := (96, [some (.ref 65), some (.int x), some (.int k), some (.int (40 + (16 * x))), some (.int (10 + (10 * k)))], [.int 0], h)) rfl ⟨trivial, trivial, trivial⟩ ?_
    refine rt_ hX (G := isB 0) (r := some (.int 0)) rfl isB0 ?_
    exact k0 (by unfold mwB; grind)
  ·
    show X (18, [some (.ref 65), some (.int x), some (.int k), some (.int (40 + (16 * x))), some (.int (10 + (10 * k)))], [.int 0], h)
    refine go hX 14 (gs := [True, ibd ((10 + (10 * k)) + 1) 3400, True, True, True, True, True, ibd ((40 + (16 * x)) + 0) 3400, True, True, True, True, True, True]) (z' := (if (h.1 66 ((10 + (10 * k)) + 1)) < (h.1 66 ((40 + (16 * x)) + 0)) then 95 else 41, [some (.ref 65), some (.int x), some (.int k), some (.int (40 + (16 * x))), some (.int (10 + (10 * k)))], [], h)) rfl ⟨trivial, ?_, trivial, trivial, trivial, trivial, trivial, ?_, trivial, trivial, trivial, trivial, trivial, trivial, trivial⟩ ?_
    · exact ibd_of (B := 3400) rfl (by grind) (by grind)
    · exact ibd_of (B := 3400) rfl (by grind) (by grind)
    refine br (fun b2 => ?_) (fun b2 => ?_)
    ·
      refine go hX 1 (gs := [True]) (z' := (96, [some (.ref 65), some (.int x), some (.int k), some (.int (40 + (16 * x))), some (.int (10 + (10 * k)))], [.int 0], h)) rfl ⟨trivial, trivial⟩ ?_
      refine rt_ hX (G := isB 0) (r := some (.int 0)) rfl isB0 ?_
      exact k0 (by unfold mwB; grind)
    ·
      refine go hX 13 (gs := [True, ibd ((10 + (10 * k)) + 2) 3400, True, True, True, True, True, ibd ((40 + (16 * x)) + 1) 3400, True, True, True, True, True]) (z' := (if (h.1 66 ((40 + (16 * x)) + 1)) < (h.1 66 ((10 + (10 * k)) + 2)) then 95 else 61, [some (.ref 65), some (.int x), some (.int k), some (.int (40 + (16 * x))), some (.int (10 + (10 * k)))], [], h)) rfl ⟨trivial, ?_, trivial, trivial, trivial, trivial, trivial, ?_, trivial, trivial, trivial, trivial, trivial, trivial⟩ ?_
      · exact ibd_of (B := 3400) rfl (by grind) (by grind)
      · exact ibd_of (B := 3400) rfl (by grind) (by grind)
      refine br (fun b3 => ?_) (fun b3 => ?_)
      ·
        refine go hX 1 (gs := [True]) (z' := (96, [some (.ref 65), some (.int x), some (.int k), some (.int (40 + (16 * x))), some (.int (10 + (10 * k)))], [.int 0], h)) rfl ⟨trivial, trivial⟩ ?_
        refine rt_ hX (G := isB 0) (r := some (.int 0)) rfl isB0 ?_
        exact k0 (by unfold mwB; grind)
      ·
        refine go hX 11 (gs := [True, ibd 0 3400, True, True, True, ibd ((40 + (16 * x)) + 9) 3400, True, True, True, True, True]) (z' := (if (h.1 66 ((40 + (16 * x)) + 9)) = (h.1 66 0) then 95 else 79, [some (.ref 65), some (.int x), some (.int k), some (.int (40 + (16 * x))), some (.int (10 + (10 * k)))], [], h)) rfl ⟨trivial, ?_, trivial, trivial, trivial, ?_, trivial, trivial, trivial, trivial, trivial, trivial⟩ ?_
        · exact ibd_of (B := 3400) rfl (by grind) (by grind)
        · exact ibd_of (B := 3400) rfl (by grind) (by grind)
        refine br (fun b4 => ?_) (fun b4 => ?_)
        ·
          refine go hX 1 (gs := [True]) (z' := (96, [some (.ref 65), some (.int x), some (.int k), some (.int (40 + (16 * x))), some (.int (10 + (10 * k)))], [.int 0], h)) rfl ⟨trivial, trivial⟩ ?_
          refine rt_ hX (G := isB 0) (r := some (.int 0)) rfl isB0 ?_
          exact k0 (by unfold mwB; grind)
        ·
          refine go hX 7 (gs := [True, ibd ((10 + (10 * k)) + 4) 3400, True, True, True, True, True]) (z' := (if (h.1 66 ((10 + (10 * k)) + 4)) = 0 then 91 else 95, [some (.ref 65), some (.int x), some (.int k), some (.int (40 + (16 * x))), some (.int (10 + (10 * k)))], [], h)) rfl ⟨trivial, ?_, trivial, trivial, trivial, trivial, trivial, trivial⟩ ?_
          · exact ibd_of (B := 3400) rfl (by grind) (by grind)
          refine br (fun b5 => ?_) (fun b5 => ?_)
          ·
            refine go hX 2 (gs := [True, True]) (z' := (96, [some (.ref 65), some (.int x), some (.int k), some (.int (40 + (16 * x))), some (.int (10 + (10 * k)))], [.int 1], h)) rfl ⟨trivial, trivial, trivial⟩ ?_
            refine rt_ hX (G := isB 1) (r := some (.int 1)) rfl isB1 ?_
            exact k1 (by unfold mwB; grind)
          ·
            refine go hX 1 (gs := [True]) (z' := (96, [some (.ref 65), some (.int x), some (.int k), some (.int (40 + (16 * x))), some (.int (10 + (10 * k)))], [.int 0], h)) rfl ⟨trivial, trivial⟩ ?_
            refine rt_ hX (G := isB 0) (r := some (.int 0)) rfl isB0 ?_
            exact k0 (by unfold mwB; grind)
theorem c_isBrB {d : Nat} {Q : Option Value → Hp → Prop} {h : Hp} {a b : Int32} (a0 : 0 ≤ a) (a1 : a < 10) (b0 : 0 ≤ b) (b9 : b < 10) (k1 : h.1 66 ((200 + (10 * a)) + b) = 1 → Q (some (.int 1)) h) (k0 : ¬ h.1 66 ((200 + (10 * a)) + b) = 1 → Q (some (.int 0)) h) : Call (d + 1) 184 [.ref 65, .int a, .int b] h Q := by
  refine call_of (rfl : psM[184]? = some _) rfl rfl (rcvV rfl) (fun X hX => ?_)
  show X (0, [some (.ref 65), some (.int a), some (.int b)], [], h)
  refine go hX 12 (gs := [True, True, ibd ((200 + (10 * a)) + b) 3400, True, True, True, True, True, True, True, True, True]) (z' := (if (h.1 66 ((200 + (10 * a)) + b)) = 1 then 19 else 23, [some (.ref 65), some (.int a), some (.int b)], [], h)) rfl ⟨trivial, trivial, ?_, trivial, trivial, trivial, trivial, trivial, trivial, trivial, trivial, trivial, trivial⟩ ?_
  · exact ibd_of (B := 3400) rfl (by grind) (by grind)
  refine br (fun b1 => ?_) (fun b1 => ?_)
  ·
    refine go hX 2 (gs := [True, True]) (z' := (24, [some (.ref 65), some (.int a), some (.int b)], [.int 1], h)) rfl ⟨trivial, trivial, trivial⟩ ?_
    refine rt_ hX (G := isB 1) (r := some (.int 1)) rfl isB1 ?_
    exact k1 (by assumption)
  ·
    refine go hX 1 (gs := [True]) (z' := (24, [some (.ref 65), some (.int a), some (.int b)], [.int 0], h)) rfl ⟨trivial, trivial⟩ ?_
    refine rt_ hX (G := isB 0) (r := some (.int 0)) rfl isB0 ?_
    exact k0 (by assumption)
theorem dn_ind {x : Nat} {P : Nat → Prop} (step : ∀ j, j ≤ x → (∀ j', j < j' → j' ≤ x → P j') → P j) {j : Nat} (hj : j ≤ x) : P j := by
  have H : ∀ m j, j ≤ x → x - j ≤ m → P j := by
    intro m
    induction m with
    | zero => exact fun j hj hm => step j hj (fun j' a b => by omega)
    | succ m ih => exact fun j hj hm => step j hj (fun j' a b => ih j' b (by omega))
  exact H (x - j) j hj (Nat.le_refl _)
theorem lp_can {d : Nat} {Q : Option Value → Hp → Prop} {X : Cf → Prop} (hX : Clo (Call (d + 1)) cd190 (some .boolean) Q X) {h : Hp} {x k : Nat} (hx : x < 10) (hk : k < 3) (k1 : (∀ i, i < x → ¬ (h.1 72 (nI i) = nI k ∧ h.1 66 ((200 + (10 * nI i)) + nI x) = 1)) → Q (some (.int 1)) h) (k0 : ¬ (∀ i, i < x → ¬ (h.1 72 (nI i) = nI k ∧ h.1 66 ((200 + (10 * nI i)) + nI x) = 1)) → Q (some (.int 0)) h) {j : Nat} (hj : j ≤ x) : ((∀ i, i < j → ¬ (h.1 72 (nI i) = nI k ∧ h.1 66 ((200 + (10 * nI i)) + nI x) = 1)) → X (37, [some (.ref 65), some (.int (nI x)), some (.int (nI k)), some (.int 1), some (.int (nI j))], [], h)) ∧ (¬ (∀ i, i < j → ¬ (h.1 72 (nI i) = nI k ∧ h.1 66 ((200 + (10 * nI i)) + nI x) = 1)) → X (37, [some (.ref 65), some (.int (nI x)), some (.int (nI k)), some (.int 0), some (.int (nI j))], [], h)) := by
  have x0 : (0 : Int32) ≤ nI x := tx_0 x (by omega)
  have x1 : nI x < (10 : Int32) := (tx_lt (b := 10) (by omega) (by decide)).mpr hx
  refine dn_ind (P := fun j => ((∀ i, i < j → ¬ (h.1 72 (nI i) = nI k ∧ h.1 66 ((200 + (10 * nI i)) + nI x) = 1)) → X (37, [some (.ref 65), some (.int (nI x)), some (.int (nI k)), some (.int 1), some (.int (nI j))], [], h)) ∧ (¬ (∀ i, i < j → ¬ (h.1 72 (nI i) = nI k ∧ h.1 66 ((200 + (10 * nI i)) + nI x) = 1)) → X (37, [some (.ref 65), some (.int (nI x)), some (.int (nI k)), some (.int 0), some (.int (nI j))], [], h))) (fun j hj ih => ⟨fun c1 => ?_, fun c0 => ?_⟩) hj
  ·
    refine go hX 3 (gs := [True, True, True]) (z' := (if (nI x) ≤ (nI j) then 80 else 43, [some (.ref 65), some (.int (nI x)), some (.int (nI k)), some (.int 1), some (.int (nI j))], [], h)) rfl ⟨trivial, trivial, trivial, trivial⟩ ?_
    refine br (fun b1 => ?_) (fun b1 => ?_)
    ·
      refine go hX 1 (gs := [True]) (z' := (81, [some (.ref 65), some (.int (nI x)), some (.int (nI k)), some (.int 1), some (.int (nI j))], [.int 1], h)) rfl ⟨trivial, trivial⟩ ?_
      refine rt_ hX (G := isB 1) (r := some (.int 1)) rfl isB1 ?_
      have e : x = j := Nat.le_antisymm ((tx_le (by omega) (by omega)).mp b1) hj
      subst e
      exact k1 c1
    ·
      have jx : j < x := Nat.lt_of_not_le (fun z => b1 ((tx_le (by omega) (by omega)).mpr z))
      refine go hX 8 (gs := [True, True, ibd (nI j) 10, True, True, True, True, True]) (z' := (if (h.1 72 (nI j)) = (nI k) then 58 else 68, [some (.ref 65), some (.int (nI x)), some (.int (nI k)), some (.int 1), some (.int (nI j))], [], h)) rfl ⟨trivial, trivial, ?_, trivial, trivial, trivial, trivial, trivial, trivial⟩ ?_
      · exact ibd_of (B := 10) rfl (tx_0 j (by omega)) ((tx_lt (b := 10) (by omega) (by decide)).mpr (by omega))
      refine br (fun b2 => ?_) (fun b2 => ?_)
      ·
        refine go hX 3 (gs := [True, True, True]) (z' := (62, [some (.ref 65), some (.int (nI x)), some (.int (nI k)), some (.int 1), some (.int (nI j))], [.int (nI x), .int (nI j), .ref 65], h)) rfl ⟨trivial, trivial, trivial, trivial⟩ ?_
        refine cl hX 184 3 [.ref 65, .int (nI j), .int (nI x)] [] rfl rfl rfl rfl ?_
        refine c_isBrB (tx_0 j (by omega)) ((tx_lt (b := 10) (by omega) (by decide)).mpr (by omega)) x0 x1 (fun b3 => ?_) (fun b3 => ?_)
        ·
          show X (65, [some (.ref 65), some (.int (nI x)), some (.int (nI k)), some (.int 1), some (.int (nI j))], [.int 1], h)
          refine go hX 5 (gs := [True, True, True, True, True]) (z' := (37, [some (.ref 65), some (.int (nI x)), some (.int (nI k)), some (.int 0), some (.int ((nI j) + 1))], [], h)) rfl ⟨trivial, trivial, trivial, trivial, trivial, trivial⟩ ?_
          rw [tx_1]
          exact (ih (j + 1) (Nat.lt_succ_self j) (by omega)).2 (fun z => z j (Nat.lt_succ_self j) ⟨b2, b3⟩)
        ·
          show X (65, [some (.ref 65), some (.int (nI x)), some (.int (nI k)), some (.int 1), some (.int (nI j))], [.int 0], h)
          refine go hX 6 (gs := [True, True, True, True, True, True]) (z' := (37, [some (.ref 65), some (.int (nI x)), some (.int (nI k)), some (.int 1), some (.int ((nI j) + 1))], [], h)) rfl ⟨trivial, trivial, trivial, trivial, trivial, trivial, trivial⟩ ?_
          rw [tx_1]
          exact (ih (j + 1) (Nat.lt_succ_self j) (by omega)).1 (fun i hi => by
            by_cases e : i = j
            · subst e
              exact (fun z => b3 z.2)
            · exact c1 i (by omega))
      ·
        refine go hX 5 (gs := [True, True, True, True, True]) (z' := (37, [some (.ref 65), some (.int (nI x)), some (.int (nI k)), some (.int 1), some (.int ((nI j) + 1))], [], h)) rfl ⟨trivial, trivial, trivial, trivial, trivial, trivial⟩ ?_
        rw [tx_1]
        exact (ih (j + 1) (Nat.lt_succ_self j) (by omega)).1 (fun i hi => by
          by_cases e : i = j
          · subst e
            exact (fun z => b2 z.1)
          · exact c1 i (by omega))
  ·
    refine go hX 3 (gs := [True, True, True]) (z' := (if (nI x) ≤ (nI j) then 80 else 43, [some (.ref 65), some (.int (nI x)), some (.int (nI k)), some (.int 0), some (.int (nI j))], [], h)) rfl ⟨trivial, trivial, trivial, trivial⟩ ?_
    refine br (fun b1 => ?_) (fun b1 => ?_)
    ·
      refine go hX 1 (gs := [True]) (z' := (81, [some (.ref 65), some (.int (nI x)), some (.int (nI k)), some (.int 0), some (.int (nI j))], [.int 0], h)) rfl ⟨trivial, trivial⟩ ?_
      refine rt_ hX (G := isB 0) (r := some (.int 0)) rfl isB0 ?_
      have e : x = j := Nat.le_antisymm ((tx_le (by omega) (by omega)).mp b1) hj
      subst e
      exact k0 c0
    ·
      have jx : j < x := Nat.lt_of_not_le (fun z => b1 ((tx_le (by omega) (by omega)).mpr z))
      refine go hX 6 (gs := [True, True, True, True, True, True]) (z' := (37, [some (.ref 65), some (.int (nI x)), some (.int (nI k)), some (.int 0), some (.int ((nI j) + 1))], [], h)) rfl ⟨trivial, trivial, trivial, trivial, trivial, trivial, trivial⟩ ?_
      rw [tx_1]
      exact (ih (j + 1) (Nat.lt_succ_self j) (by omega)).2 (fun z => c0 (fun i hi => z i (by omega)))
theorem c_canHave {d : Nat} {Q : Option Value → Hp → Prop} {h : Hp} {x k : Nat} (hx : x < 10) (hk : k < 3) (k1 : (mwB h (nI x) (nI k) ∧ ¬ h.1 74 (nI k) = h.1 66 ((10 + (10 * (nI k))) + 0) ∧ (∀ i, i < x → ¬ (h.1 72 (nI i) = nI k ∧ h.1 66 ((200 + (10 * nI i)) + nI x) = 1))) → Q (some (.int 1)) h) (k0 : ¬ (mwB h (nI x) (nI k) ∧ ¬ h.1 74 (nI k) = h.1 66 ((10 + (10 * (nI k))) + 0) ∧ (∀ i, i < x → ¬ (h.1 72 (nI i) = nI k ∧ h.1 66 ((200 + (10 * nI i)) + nI x) = 1))) → Q (some (.int 0)) h) : Call (d + 4) 190 [.ref 65, .int (nI x), .int (nI k)] h Q := by
  have x0 : (0 : Int32) ≤ nI x := tx_0 x (by omega)
  have x1 : nI x < (10 : Int32) := (tx_lt (b := 10) (by omega) (by decide)).mpr hx
  have y0 : (0 : Int32) ≤ nI k := tx_0 k (by omega)
  have y1 : nI k < (3 : Int32) := (tx_lt (b := 3) (by omega) (by decide)).mpr hk
  refine call_of (rfl : psM[190]? = some _) rfl rfl (rcvV rfl) (fun X hX => ?_)
  show X (0, [some (.ref 65), some (.int (nI x)), some (.int (nI k)), none, none], [], h)
  refine go hX 3 (gs := [True, True, True]) (z' := (3, [some (.ref 65), some (.int (nI x)), some (.int (nI k)), none, none], [.int (nI k), .int (nI x), .ref 65], h)) rfl ⟨trivial, trivial, trivial, trivial⟩ ?_
  refine cl hX 186 3 [.ref 65, .int (nI x), .int (nI k)] [] rfl rfl rfl rfl ?_
  refine c_mayB x0 x1 y0 y1 (fun b1 => ?_) (fun b1 => ?_)
  ·
    show X (6, [some (.ref 65), some (.int (nI x)), some (.int (nI k)), none, none], [.int 1], h)
    refine go hX 9 (gs := [True, True, True, True, ibd (nI k) 3, True, True, True, True]) (z' := (21, [some (.ref 65), some (.int (nI x)), some (.int (nI k)), none, none], [.int (nI k), .ref 65, .ref 66, .int (h.1 74 (nI k))], h)) rfl ⟨trivial, trivial, trivial, trivial, ?_, trivial, trivial, trivial, trivial, trivial⟩ ?_
    · exact ibd_of (B := 3) rfl (by grind) (by grind)
    refine cl hX 163 2 [.ref 65, .int (nI k)] [.ref 66, .int (h.1 74 (nI k))] rfl rfl rfl rfl ?_
    refine c_shopAtF ?_
    show X (24, [some (.ref 65), some (.int (nI x)), some (.int (nI k)), none, none], [.int (10 + (10 * (nI k))), .ref 66, .int (h.1 74 (nI k))], h)
    refine go hX 4 (gs := [True, ibd ((10 + (10 * (nI k))) + 0) 3400, True, True]) (z' := (if (h.1 74 (nI k)) = (h.1 66 ((10 + (10 * (nI k))) + 0)) then 30 else 32, [some (.ref 65), some (.int (nI x)), some (.int (nI k)), none, none], [], h)) rfl ⟨trivial, ?_, trivial, trivial, trivial⟩ ?_
    · exact ibd_of (B := 3400) rfl (by grind) (by grind)
    refine br (fun b2 => ?_) (fun b2 => ?_)
    ·
      refine go hX 1 (gs := [True]) (z' := (31, [some (.ref 65), some (.int (nI x)), some (.int (nI k)), none, none], [.int 0], h)) rfl ⟨trivial, trivial⟩ ?_
      refine rt_ hX (G := isB 0) (r := some (.int 0)) rfl isB0 ?_
      exact k0 (fun z => z.2.1 b2)
    ·
      refine go hX 4 (gs := [True, True, True, True]) (z' := (37, [some (.ref 65), some (.int (nI x)), some (.int (nI k)), some (.int 1), some (.int 0)], [], h)) rfl ⟨trivial, trivial, trivial, trivial, trivial⟩ ?_
      exact (lp_can hX hx hk (fun q => k1 ⟨b1, b2, q⟩) (fun q => k0 (fun z => q z.2.2)) (Nat.zero_le x)).1 (fun i hi => absurd hi (Nat.not_lt_zero i))
  ·
    show X (6, [some (.ref 65), some (.int (nI x)), some (.int (nI k)), none, none], [.int 0], h)
    refine go hX 2 (gs := [True, True]) (z' := (31, [some (.ref 65), some (.int (nI x)), some (.int (nI k)), none, none], [.int 0], h)) rfl ⟨trivial, trivial, trivial⟩ ?_
    refine rt_ hX (G := isB 0) (r := some (.int 0)) rfl isB0 ?_
    exact k0 (fun z => b1 z.1)
theorem c_seek0 {d : Nat} {Q : Option Value → Hp → Prop} {h : Hp} {x c s : Int32} (x0 : 0 ≤ x) (x1 : x ≤ 10) (k0 : prnI h x c s → Q none h) (kL : ∀ X : Cf → Prop, Clo (Call d) cd191 none Q X → ¬ prnI h x c s → x = h.1 66 2 → X (62, [some (.ref 65), some (.int x), some (.int c), some (.int s), some (.int ((c + (h.1 66 2)) - x)), some (.int 0)], [], (hI (hI h 65 10 c) 65 11 s))) (kS : ∀ X : Cf → Prop, Clo (Call d) cd191 none Q X → ¬ prnI h x c s → ¬ x = h.1 66 2 → X (92, [some (.ref 65), some (.int x), some (.int c), some (.int s), some (.int ((c + (h.1 66 2)) - x)), some (.int 0)], [], h)) : Call (d + 1) 191 [.ref 65, .int x, .int c, .int s] h Q := by
  refine call_of (rfl : psM[191]? = some _) rfl rfl (rcvV rfl) (fun X hX => ?_)
  show X (0, [some (.ref 65), some (.int x), some (.int c), some (.int s), none, none], [], h)
  refine go hX 13 (gs := [True, True, True, True, True, True, True, True, ibd 2 3400, True, True, True, True]) (z' := (if ((c + (h.1 66 2)) - x) < (h.1 65 10) then 38 else 21, [some (.ref 65), some (.int x), some (.int c), some (.int s), some (.int ((c + (h.1 66 2)) - x)), none], [], h)) rfl ⟨trivial, trivial, trivial, trivial, trivial, trivial, trivial, trivial, ?_, trivial, trivial, trivial, trivial, trivial⟩ ?_
  · exact ibd_of (B := 3400) rfl (by grind) (by grind)
  refine br (fun b1 => ?_) (fun b1 => ?_)
  ·
    refine rt_ hX (G := True) (r := none) rfl trivial ?_
    exact k0 (by unfold prnI; grind)
  ·
    refine go hX 4 (gs := [True, True, True, True]) (z' := (if ((c + (h.1 66 2)) - x) = (h.1 65 10) then 30 else 39, [some (.ref 65), some (.int x), some (.int c), some (.int s), some (.int ((c + (h.1 66 2)) - x)), none], [], h)) rfl ⟨trivial, trivial, trivial, trivial, trivial⟩ ?_
    refine br (fun b2 => ?_) (fun b2 => ?_)
    ·
      refine go hX 4 (gs := [True, True, True, True]) (z' := (if s < (h.1 65 11) then 39 else 38, [some (.ref 65), some (.int x), some (.int c), some (.int s), some (.int ((c + (h.1 66 2)) - x)), none], [], h)) rfl ⟨trivial, trivial, trivial, trivial, trivial⟩ ?_
      refine br (fun b3 => ?_) (fun b3 => ?_)
      ·
        refine go hX 6 (gs := [True, ibd 2 3400, True, True, True, True]) (z' := (if x = (h.1 66 2) then 49 else 89, [some (.ref 65), some (.int x), some (.int c), some (.int s), some (.int ((c + (h.1 66 2)) - x)), none], [], h)) rfl ⟨trivial, ?_, trivial, trivial, trivial, trivial, trivial⟩ ?_
        · exact ibd_of (B := 3400) rfl (by grind) (by grind)
        refine br (fun b4 => ?_) (fun b4 => ?_)
        ·
          refine go hX 8 (gs := [True, True, True, True, True, True, True, True]) (z' := (62, [some (.ref 65), some (.int x), some (.int c), some (.int s), some (.int ((c + (h.1 66 2)) - x)), some (.int 0)], [], (hI (hI h 65 10 c) 65 11 s))) rfl ⟨trivial, trivial, trivial, trivial, trivial, trivial, trivial, trivial, trivial⟩ ?_
          exact kL X hX (by unfold prnI; grind) (by assumption)
        ·
          refine go hX 2 (gs := [True, True]) (z' := (92, [some (.ref 65), some (.int x), some (.int c), some (.int s), some (.int ((c + (h.1 66 2)) - x)), some (.int 0)], [], h)) rfl ⟨trivial, trivial, trivial⟩ ?_
          exact kS X hX (by unfold prnI; grind) (by assumption)
      ·
        refine rt_ hX (G := True) (r := none) rfl trivial ?_
        exact k0 (by unfold prnI; grind)
    ·
      refine go hX 6 (gs := [True, ibd 2 3400, True, True, True, True]) (z' := (if x = (h.1 66 2) then 49 else 89, [some (.ref 65), some (.int x), some (.int c), some (.int s), some (.int ((c + (h.1 66 2)) - x)), none], [], h)) rfl ⟨trivial, ?_, trivial, trivial, trivial, trivial, trivial⟩ ?_
      · exact ibd_of (B := 3400) rfl (by grind) (by grind)
      refine br (fun b5 => ?_) (fun b5 => ?_)
      ·
        refine go hX 8 (gs := [True, True, True, True, True, True, True, True]) (z' := (62, [some (.ref 65), some (.int x), some (.int c), some (.int s), some (.int ((c + (h.1 66 2)) - x)), some (.int 0)], [], (hI (hI h 65 10 c) 65 11 s))) rfl ⟨trivial, trivial, trivial, trivial, trivial, trivial, trivial, trivial, trivial⟩ ?_
        exact kL X hX (by unfold prnI; grind) (by assumption)
      ·
        refine go hX 2 (gs := [True, True]) (z' := (92, [some (.ref 65), some (.int x), some (.int c), some (.int s), some (.int ((c + (h.1 66 2)) - x)), some (.int 0)], [], h)) rfl ⟨trivial, trivial, trivial⟩ ?_
        exact kS X hX (by unfold prnI; grind) (by assumption)
theorem lp_cpy {d : Nat} {Q : Option Value → Hp → Prop} {X : Cf → Prop} (hX : Clo (Call d) cd191 none Q X) {x : Nat} (hx : x ≤ 10) {c s m : Int32} {I : Nat → Hp → Prop} (step : ∀ j, j < x → ∀ h, I j h → I (j + 1) (hI h 73 (nI j) (h.1 72 (nI j)))) (K : ∀ h, I x h → Q none h) {j : Nat} (hj : j ≤ x) : ∀ h, I j h → X (62, [some (.ref 65), some (.int (nI x)), some (.int c), some (.int s), some (.int m), some (.int (nI j))], [], h) := by
  refine dn_ind (P := fun j => ∀ h, I j h → X (62, [some (.ref 65), some (.int (nI x)), some (.int c), some (.int s), some (.int m), some (.int (nI j))], [], h)) (fun j hj ih h f => ?_) hj
  refine go hX 3 (gs := [True, True, True]) (z' := (if (nI x) ≤ (nI j) then 88 else 68, [some (.ref 65), some (.int (nI x)), some (.int c), some (.int s), some (.int m), some (.int (nI j))], [], h)) rfl ⟨trivial, trivial, trivial, trivial⟩ ?_
  refine br (fun b1 => ?_) (fun b1 => ?_)
  ·
    refine rt_ hX (G := True) (r := none) rfl trivial ?_
    have e : x = j := Nat.le_antisymm ((tx_le (by omega) (by omega)).mp b1) hj
    subst e
    exact K h f
  ·
    have jx : j < x := Nat.lt_of_not_le (fun z => b1 ((tx_le (by omega) (by omega)).mpr z))
    refine go hX 10 (gs := [True, True, ibd (nI j) 10, ibd (nI j) 10, True, True, True, True, True, True]) (z' := (62, [some (.ref 65), some (.int (nI x)), some (.int c), some (.int s), some (.int m), some (.int ((nI j) + 1))], [], (hI h 73 (nI j) (h.1 72 (nI j))))) rfl ⟨trivial, trivial, ?_, ?_, trivial, trivial, trivial, trivial, trivial, trivial, trivial⟩ ?_
    · exact ibd_of (B := 10) rfl (tx_0 j (by omega)) ((tx_lt (b := 10) (by omega) (by decide)).mpr (by omega))
    · exact ibd_of (B := 10) rfl (tx_0 j (by omega)) ((tx_lt (b := 10) (by omega) (by decide)).mpr (by omega))
    rw [tx_1]
    exact ih (j + 1) (Nat.lt_succ_self j) (by omega) _ (step j jx h f)
theorem lp_shops {d : Nat} {Q : Option Value → Hp → Prop} {X : Cf → Prop} (hX : Clo (Call (d + 4)) cd191 none Q X) {x nS : Nat} (hx : x < 10) (hn : nS ≤ 3) {c s m : Int32} {J : Nat → Hp → Prop} {R : Nat → Hp → Hp → Prop} {L : Hp → Prop}
  (es : ∀ h, ∀ {q : Nat} (f : J q h) (k : Nat), h.1 66 1 = nI nS)
  (sub : ∀ k, k < nS → ∀ h, J k h → (mwB h (nI x) (nI k) ∧ ¬ h.1 74 (nI k) = h.1 66 ((10 + (10 * (nI k))) + 0) ∧ (∀ i, i < x → ¬ (h.1 72 (nI i) = nI k ∧ h.1 66 ((200 + (10 * nI i)) + nI x) = 1))) → ∀ Q' : Option Value → Hp → Prop, (∀ h1, R k h h1 → Q' none h1) → Call (d + 4) 191 [.ref 65, .int (nI x + 1), .int (c + 1), .int (s + (h.1 66 ((40 + (16 * (nI x))) + 6)))] (hI (hI h 72 (nI x) (nI k)) 74 (nI k) ((h.1 74 (nI k)) + 1)) Q')
  (stp1 : ∀ k, k < nS → ∀ h, J k h → (mwB h (nI x) (nI k) ∧ ¬ h.1 74 (nI k) = h.1 66 ((10 + (10 * (nI k))) + 0) ∧ (∀ i, i < x → ¬ (h.1 72 (nI i) = nI k ∧ h.1 66 ((200 + (10 * nI i)) + nI x) = 1))) → ∀ h1, R k h h1 → J (k + 1) (hI h1 74 (nI k) ((h1.1 74 (nI k)) - 1)))
  (stp0 : ∀ k, k < nS → ∀ h, J k h → ¬ (mwB h (nI x) (nI k) ∧ ¬ h.1 74 (nI k) = h.1 66 ((10 + (10 * (nI k))) + 0) ∧ (∀ i, i < x → ¬ (h.1 72 (nI i) = nI k ∧ h.1 66 ((200 + (10 * nI i)) + nI x) = 1))) → J (k + 1) h)
  (last : ∀ h, J nS h → ∀ Q' : Option Value → Hp → Prop, (∀ h1, L h1 → Q' none h1) → Call (d + 4) 191 [.ref 65, .int (nI x + 1), .int c, .int s] (hI h 72 (nI x) 3) Q')
  (K : ∀ h, L h → Q none h) {k : Nat} (hk : k ≤ nS) : ∀ h, J k h → X (92, [some (.ref 65), some (.int (nI x)), some (.int c), some (.int s), some (.int m), some (.int (nI k))], [], h) := by
  have x0 : (0 : Int32) ≤ nI x := tx_0 x (by omega)
  have x1 : nI x < (10 : Int32) := (tx_lt (b := 10) (by omega) (by decide)).mpr hx
  refine dn_ind (P := fun k => ∀ h, J k h → X (92, [some (.ref 65), some (.int (nI x)), some (.int c), some (.int s), some (.int m), some (.int (nI k))], [], h)) (fun k hk ih h f => ?_) hk
  refine go hX 6 (gs := [True, ibd 1 3400, True, True, True, True]) (z' := (if (h.1 66 1) ≤ (nI k) then 174 else 103, [some (.ref 65), some (.int (nI x)), some (.int c), some (.int s), some (.int m), some (.int (nI k))], [], h)) rfl ⟨trivial, ?_, trivial, trivial, trivial, trivial, trivial⟩ ?_
  · exact ⟨by decide, by decide⟩
  refine br (fun b1 => ?_) (fun b1 => ?_)
  ·
    have e : k = nS := Nat.le_antisymm hk ((tx_le (by omega) (by omega)).mp (by rw [← es h f k]; exact b1))
    refine go hX 11 (gs := [True, True, True, True, True, True, ibd (nI x) 10, True, True, True, True]) (z' := (187, [some (.ref 65), some (.int (nI x)), some (.int c), some (.int s), some (.int m), some (.int (nI k))], [.int s, .int c, .int ((nI x) + 1), .ref 65], (hI h 72 (nI x) 3))) rfl ⟨trivial, trivial, trivial, trivial, trivial, trivial, ?_, trivial, trivial, trivial, trivial, trivial⟩ ?_
    · exact ibd_of (B := 10) rfl x0 x1
    refine cl hX 191 4 [.ref 65, .int ((nI x) + 1), .int c, .int s] [] rfl rfl rfl rfl ?_
    refine last h (by subst e; exact f) _ (fun h2 r3 => ?_)
    show X (190, [some (.ref 65), some (.int (nI x)), some (.int c), some (.int s), some (.int m), some (.int (nI k))], [], h2)
    refine rt_ hX (G := True) (r := none) rfl trivial ?_
    exact K _ r3
  ·
    have kx : k < nS := Nat.lt_of_not_le (fun z => b1 (by rw [es h f k]; exact (tx_le (by omega) (by omega)).mpr z))
    refine go hX 3 (gs := [True, True, True]) (z' := (107, [some (.ref 65), some (.int (nI x)), some (.int c), some (.int s), some (.int m), some (.int (nI k))], [.int (nI k), .int (nI x), .ref 65], h)) rfl ⟨trivial, trivial, trivial, trivial⟩ ?_
    refine cl hX 190 3 [.ref 65, .int (nI x), .int (nI k)] [] rfl rfl rfl rfl ?_
    refine c_canHave (by omega) (by omega) (fun b4 => ?_) (fun b4 => ?_)
    ·
      show X (110, [some (.ref 65), some (.int (nI x)), some (.int c), some (.int s), some (.int m), some (.int (nI k))], [.int 1], h)
      refine go hX 26 (gs := [True, True, True, True, True, True, True, True, True, True, True, True, ibd (nI k) 3, True, True, ibd (nI k) 3, True, True, True, True, ibd (nI x) 10, True, True, True, True, True]) (z' := (146, [some (.ref 65), some (.int (nI x)), some (.int c), some (.int s), some (.int m), some (.int (nI k))], [.int (nI x), .ref 65, .ref 66, .int s, .int (c + 1), .int ((nI x) + 1), .ref 65], (hI (hI h 72 (nI x) (nI k)) 74 (nI k) ((h.1 74 (nI k)) + 1)))) rfl ⟨trivial, trivial, trivial, trivial, trivial, trivial, trivial, trivial, trivial, trivial, trivial, trivial, ?_, trivial, trivial, ?_, trivial, trivial, trivial, trivial, ?_, trivial, trivial, trivial, trivial, trivial, trivial⟩ ?_
      · exact ibd_of (B := 3) rfl (tx_0 k (by omega)) ((tx_lt (b := 3) (by omega) (by decide)).mpr (by omega))
      · exact ibd_of (B := 3) rfl (tx_0 k (by omega)) ((tx_lt (b := 3) (by omega) (by decide)).mpr (by omega))
      · exact ibd_of (B := 10) rfl x0 x1
      refine cl hX 164 2 [.ref 65, .int (nI x)] [.ref 66, .int s, .int (c + 1), .int ((nI x) + 1), .ref 65] rfl rfl rfl rfl ?_
      refine c_handAtF ?_
      show X (149, [some (.ref 65), some (.int (nI x)), some (.int c), some (.int s), some (.int m), some (.int (nI k))], [.int (40 + (16 * (nI x))), .ref 66, .int s, .int (c + 1), .int ((nI x) + 1), .ref 65], (hI (hI h 72 (nI x) (nI k)) 74 (nI k) ((h.1 74 (nI k)) + 1)))
      refine go hX 4 (gs := [True, ibd ((40 + (16 * (nI x))) + 6) 3400, True, True]) (z' := (154, [some (.ref 65), some (.int (nI x)), some (.int c), some (.int s), some (.int m), some (.int (nI k))], [.int (s + (h.1 66 ((40 + (16 * (nI x))) + 6))), .int (c + 1), .int ((nI x) + 1), .ref 65], (hI (hI h 72 (nI x) (nI k)) 74 (nI k) ((h.1 74 (nI k)) + 1)))) rfl ⟨trivial, ?_, trivial, trivial, trivial⟩ ?_
      · exact ibd_of (B := 3400) rfl (by grind) (by grind)
      refine cl hX 191 4 [.ref 65, .int ((nI x) + 1), .int (c + 1), .int (s + (h.1 66 ((40 + (16 * (nI x))) + 6)))] [] rfl rfl rfl rfl ?_
      refine sub k kx h f b4 _ (fun h5 r6 => ?_)
      show X (157, [some (.ref 65), some (.int (nI x)), some (.int c), some (.int s), some (.int m), some (.int (nI k))], [], h5)
      refine go hX 10 (gs := [True, True, ibd (nI k) 3, True, True, ibd (nI k) 3, True, True, True, True]) (z' := (92, [some (.ref 65), some (.int (nI x)), some (.int c), some (.int s), some (.int m), some (.int ((nI k) + 1))], [], (hI h5 74 (nI k) ((h5.1 74 (nI k)) - 1)))) rfl ⟨trivial, trivial, ?_, trivial, trivial, ?_, trivial, trivial, trivial, trivial, trivial⟩ ?_
      · exact ibd_of (B := 3) rfl (tx_0 k (by omega)) ((tx_lt (b := 3) (by omega) (by decide)).mpr (by omega))
      · exact ibd_of (B := 3) rfl (tx_0 k (by omega)) ((tx_lt (b := 3) (by omega) (by decide)).mpr (by omega))
      rw [tx_1]
      exact ih (k + 1) (Nat.lt_succ_self k) (by omega) _ (stp1 k kx h f b4 _ r6)
    ·
      show X (110, [some (.ref 65), some (.int (nI x)), some (.int c), some (.int s), some (.int m), some (.int (nI k))], [.int 0], h)
      refine go hX 3 (gs := [True, True, True]) (z' := (92, [some (.ref 65), some (.int (nI x)), some (.int c), some (.int s), some (.int m), some (.int ((nI k) + 1))], [], h)) rfl ⟨trivial, trivial, trivial, trivial⟩ ?_
      rw [tx_1]
      exact ih (k + 1) (Nat.lt_succ_self k) (by omega) _ (stp0 k kx h f b4)
/-! The reference's filling: what lies where; all ways are tried. -/
noncomputable abbrev RfS (F : Fp) (nS : Nat) (h : Hp) : Prop := (F.n ≤ 10) ∧ (nS ≤ 3) ∧ (h.1 66 2 = nI F.n) ∧ (h.1 66 1 = nI nS) ∧ (∀ i k, i < F.n → k < nS → (mwB h (nI i) (nI k) ↔ F.W i k = true)) ∧ (∀ i k, nS ≤ k → F.W i k = false) ∧ (∀ k, k < nS → (h.1 66 ((10 + (10 * nI k)) + 0)).toInt = F.C k ∧ 0 ≤ F.C k ∧ F.C k ≤ 5) ∧ (∀ i, i < F.n → (h.1 66 ((40 + (16 * nI i)) + 6)).toInt = F.T i ∧ 0 ≤ F.T i ∧ F.T i ≤ 20000) ∧ (∀ i, 0 ≤ F.T i) ∧ (∀ i j, i < F.n → j < F.n → (h.1 66 ((200 + (10 * nI j)) + nI i) = 1 ↔ (F.B i).testBit j = true))
theorem RfS.n10 {F : Fp} {nS : Nat} {h : Hp} (self_ : RfS F nS h) : F.n ≤ 10 := self_.1
theorem RfS.s3 {F : Fp} {nS : Nat} {h : Hp} (self_ : RfS F nS h) : nS ≤ 3 := self_.2.1
theorem RfS.en {F : Fp} {nS : Nat} {h : Hp} (self_ : RfS F nS h) : h.1 66 2 = nI F.n := self_.2.2.1
theorem RfS.es {F : Fp} {nS : Nat} {h : Hp} (self_ : RfS F nS h) : h.1 66 1 = nI nS := self_.2.2.2.1
theorem RfS.W {F : Fp} {nS : Nat} {h : Hp} (self_ : RfS F nS h) : ∀ i k, i < F.n → k < nS → (mwB h (nI i) (nI k) ↔ F.W i k = true) := self_.2.2.2.2.1
theorem RfS.W0 {F : Fp} {nS : Nat} {h : Hp} (self_ : RfS F nS h) : ∀ i k, nS ≤ k → F.W i k = false := self_.2.2.2.2.2.1
theorem RfS.ro {F : Fp} {nS : Nat} {h : Hp} (self_ : RfS F nS h) : ∀ k, k < nS → (h.1 66 ((10 + (10 * nI k)) + 0)).toInt = F.C k ∧ 0 ≤ F.C k ∧ F.C k ≤ 5 := self_.2.2.2.2.2.2.1
theorem RfS.tu {F : Fp} {nS : Nat} {h : Hp} (self_ : RfS F nS h) : ∀ i, i < F.n → (h.1 66 ((40 + (16 * nI i)) + 6)).toInt = F.T i ∧ 0 ≤ F.T i ∧ F.T i ≤ 20000 := self_.2.2.2.2.2.2.2.1
theorem RfS.T0 {F : Fp} {nS : Nat} {h : Hp} (self_ : RfS F nS h) : ∀ i, 0 ≤ F.T i := self_.2.2.2.2.2.2.2.2.1
theorem RfS.ba {F : Fp} {nS : Nat} {h : Hp} (self_ : RfS F nS h) : ∀ i j, i < F.n → j < F.n → (h.1 66 ((200 + (10 * nI j)) + nI i) = 1 ↔ (F.B i).testBit j = true) := self_.2.2.2.2.2.2.2.2.2
noncomputable abbrev RfD (F : Fp) (h : Hp) (g : Nat → Nat) (x : Nat) (b : Bst) : Prop := (∀ k, k < 3 → h.1 74 (nI k) = nI (cntK g k x)) ∧ (∀ k, k < 3 → 0 ≤ rmK F.C g x k) ∧ (∀ i, i < x → h.1 72 (nI i) = nI (g i) ∧ g i ≤ 3) ∧ ((h.1 65 10).toInt = b.c ∧ -1 ≤ b.c ∧ b.c ≤ 10) ∧ ((h.1 65 11).toInt = b.s ∧ 0 ≤ b.s ∧ b.s ≤ 200000) ∧ (0 ≤ b.c → ∀ i, i < F.n → h.1 73 (nI i) = nI (b.g i) ∧ b.g i ≤ 3)
theorem RfD.is {F : Fp} {h : Hp} {g : Nat → Nat} {x : Nat} {b : Bst} (self_ : RfD F h g x b) : ∀ k, k < 3 → h.1 74 (nI k) = nI (cntK g k x) := self_.1
theorem RfD.rm {F : Fp} {h : Hp} {g : Nat → Nat} {x : Nat} {b : Bst} (self_ : RfD F h g x b) : ∀ k, k < 3 → 0 ≤ rmK F.C g x k := self_.2.1
theorem RfD.gv {F : Fp} {h : Hp} {g : Nat → Nat} {x : Nat} {b : Bst} (self_ : RfD F h g x b) : ∀ i, i < x → h.1 72 (nI i) = nI (g i) ∧ g i ≤ 3 := self_.2.2.1
theorem RfD.bc {F : Fp} {h : Hp} {g : Nat → Nat} {x : Nat} {b : Bst} (self_ : RfD F h g x b) : (h.1 65 10).toInt = b.c ∧ -1 ≤ b.c ∧ b.c ≤ 10 := self_.2.2.2.1
theorem RfD.bs {F : Fp} {h : Hp} {g : Nat → Nat} {x : Nat} {b : Bst} (self_ : RfD F h g x b) : (h.1 65 11).toInt = b.s ∧ 0 ≤ b.s ∧ b.s ≤ 200000 := self_.2.2.2.2.1
theorem RfD.fi {F : Fp} {h : Hp} {g : Nat → Nat} {x : Nat} {b : Bst} (self_ : RfD F h g x b) : 0 ≤ b.c → ∀ i, i < F.n → h.1 73 (nI i) = nI (b.g i) ∧ b.g i ≤ 3 := self_.2.2.2.2.2
noncomputable def frR (h h' : Hp) : Prop := (∀ o (j : Int32), ¬ (o = 65 ∧ (j = 10 ∨ j = 11) ∨ o = 72 ∨ o = 73 ∨ o = 74) → h'.1 o j = h.1 o j) ∧ h'.2 = h.2
theorem frR_rf {h : Hp} : frR h h := ⟨fun _ _ _ => rfl, rfl⟩
theorem frR.tr {h h1 h2 : Hp} (a : frR h h1) (b : frR h1 h2) : frR h h2 := ⟨fun o j q => (b.1 o j q).trans (a.1 o j q), b.2.trans a.2⟩
theorem frR.st {h h1 : Hp} (f : frR h h1) {o : Nat} {j v : Int32} (hj : o = 65 ∧ (j = 10 ∨ j = 11) ∨ o = 72 ∨ o = 73 ∨ o = 74) : frR h (hI h1 o j v) := by
  refine ⟨fun a k q => ?_, f.2⟩
  show (if a = o ∧ k = j then v else h1.1 a k) = _
  rw [if_neg (fun (e : a = o ∧ k = j) => q (by rw [e.1, e.2]; exact hj))]
  exact f.1 a k q
theorem frR.s {h h' : Hp} (f : frR h h') (j : Int32) : h'.1 66 j = h.1 66 j := f.1 66 j (by
  rintro (⟨q, -⟩ | q | q | q) <;> exact absurd q (by decide))
theorem RfS.fr {F : Fp} {nS : Nat} {h h' : Hp} (S : RfS F nS h) (f : frR h h') : RfS F nS h' := by
  have e := f.s
  refine ⟨S.n10, S.s3, (e 2).trans S.en, (e 1).trans S.es, fun i k hi hk => ?_, S.W0, fun k hk => ?_, fun i hi => ?_, S.T0, fun i j hi hj => ?_⟩
  · have := S.W i k hi hk
    unfold mwB at this ⊢
    rw [e, e, e, e, e, e, e, e]
    exact this
  · rw [e]; exact S.ro k hk
  · rw [e]; exact S.tu i hi
  · rw [e]; exact S.ba i j hi hj
theorem cntK_le {g : Nat → Nat} {k : Nat} : ∀ {x : Nat}, cntK g k x ≤ x
  | 0 => Nat.le_refl 0
  | x + 1 => by
    have := cntK_le (g := g) (k := k) (x := x)
    unfold cntK
    split <;> omega
theorem have_ok {F : Fp} {nS : Nat} {h : Hp} {g : Nat → Nat} {x k : Nat} {b : Bst} (S : RfS F nS h) (D : RfD F h g x b) (hx : x < F.n) (hk : k < nS) : (mwB h (nI x) (nI k) ∧ ¬ h.1 74 (nI k) = h.1 66 ((10 + (10 * (nI k))) + 0) ∧ (∀ i, i < x → ¬ (h.1 72 (nI i) = nI k ∧ h.1 66 ((200 + (10 * nI i)) + nI x) = 1))) ↔ okFi F x k g = true := by
  have n10 := S.n10
  have s3 := S.s3
  obtain ⟨er, r0, r5⟩ := S.ro k hk
  have ec := D.is k (by omega)
  have cl := cntK_le (g := g) (k := k) (x := x)
  have rm := D.rm k (by omega)
  unfold okFi
  rw [Bool.and_eq_true, Bool.and_eq_true, decide_eq_true_iff, decide_eq_true_iff, S.W x k hx hk, mbK_and, ec, ← Int32.toInt_inj, er, nI_i (by omega)]
  have e1 : (¬ (cntK g k x : Int) = F.C k) ↔ 1 ≤ rmK F.C g x k := by
    unfold rmK at rm ⊢
    omega
  have e2 : (∀ i, i < x → ¬ (h.1 72 (nI i) = nI k ∧ h.1 66 ((200 + (10 * nI i)) + nI x) = 1)) ↔ ∀ i, i < x → g i = k → (F.B x).testBit i = false := by
    constructor
    · intro H i hi hg
      obtain ⟨gi, g3⟩ := D.gv i hi
      have := H i hi
      rw [gi, hg, S.ba x i hx (by omega)] at this
      exact (Bool.not_eq_true _).mp (fun z => this ⟨rfl, z⟩)
    · intro H i hi ⟨q1, q2⟩
      obtain ⟨gi, g3⟩ := D.gv i hi
      rw [gi] at q1
      have := H i hi ((nIle_eq (by omega) (by omega)).mp q1)
      rw [S.ba x i hx (by omega), this] at q2
      cases q2
  rw [e1, e2]
theorem RfD.put {F : Fp} {h : Hp} {g : Nat → Nat} {x k : Nat} {b : Bst} (D : RfD F h g x b) (hx : x < 10) (hk : k < 3) (r1 : 1 ≤ rmK F.C g x k) : RfD F (hI (hI h 72 (nI x) (nI k)) 74 (nI k) ((h.1 74 (nI k)) + 1)) (upg g x k) (x + 1) b := by
  have e : ∀ o (j : Int32), o ≠ 72 → o ≠ 74 → (hI (hI h 72 (nI x) (nI k)) 74 (nI k) ((h.1 74 (nI k)) + 1)).1 o j = h.1 o j := fun o j a1 a2 => by rw [hI_ne a2, hI_ne a1]
  refine ⟨fun j hj => ?_, fun j hj => ?_, fun i hi => ?_, ?_, ?_, fun h0 i hi => ?_⟩
  · rw [cntK_up]
    by_cases q : k = j
    · subst q
      rw [hI_eq, if_pos rfl, D.is k hk, tx_1]
    · rw [hI_j (fun z => q ((nI3 hj hk).mp z).symm), hI_ne (by decide), if_neg q]
      exact D.is j hj
  · rw [rmK_up]
    have := D.rm j hj
    split
    · rename_i q
      subst q
      omega
    · omega
  · rw [hI_ne (by decide)]
    by_cases q : i = x
    · subst q
      rw [hI_eq, upg_at]
      exact ⟨rfl, by omega⟩
    · rw [hI_j (fun z => q ((nIle_eq (by omega) (by omega)).mp z)), upg_lt (by omega)]
      exact D.gv i (by omega)
  · rw [e 65 10 (by decide) (by decide)]
    exact D.bc
  · rw [e 65 11 (by decide) (by decide)]
    exact D.bs
  · rw [e 73 _ (by decide) (by decide)]
    exact D.fi h0 i hi
theorem RfD.unput {F : Fp} {h h1 : Hp} {g : Nat → Nat} {x k : Nat} {b b' : Bst} (D0 : RfD F h g x b) (D : RfD F h1 (upg g x k) (x + 1) b') (hx : x < 10) (hk : k < 3) : RfD F (hI h1 74 (nI k) ((h1.1 74 (nI k)) - 1)) g x b' := by
  have cl := cntK_le (g := g) (k := k) (x := x)
  refine ⟨fun j hj => ?_, D0.rm, fun i hi => ?_, ?_, ?_, fun h0 i hi => ?_⟩
  · have e := D.is j hj
    rw [cntK_up] at e
    by_cases q : k = j
    · subst q
      rw [if_pos rfl] at e
      rw [hI_eq, e]
      show nI (cntK g k x + 1) - nI 1 = _
      rw [nI_sb (by omega) (by omega)]
      rfl
    · rw [if_neg q] at e
      rw [hI_j (fun z => q ((nI3 hj hk).mp z).symm)]
      exact e
  · rw [hI_ne (by decide)]
    have := D.gv i (by omega)
    rwa [upg_lt hi] at this
  · rw [hI_ne (by decide)]
    exact D.bc
  · rw [hI_ne (by decide)]
    exact D.bs
  · rw [hI_ne (by decide)]
    exact D.fi h0 i hi
theorem RfD.skip {F : Fp} {h : Hp} {g : Nat → Nat} {x : Nat} {b : Bst} (D : RfD F h g x b) (hx : x < 10) : RfD F (hI h 72 (nI x) 3) (upg g x 3) (x + 1) b := by
  refine ⟨fun j hj => ?_, fun j hj => ?_, fun i hi => ?_, ?_, ?_, fun h0 i hi => ?_⟩
  · rw [cntK_up, if_neg (by omega), hI_ne (by decide)]
    exact D.is j hj
  · rw [rmK_up, if_neg (by omega), Int.sub_zero]
    exact D.rm j hj
  · by_cases q : i = x
    · subst q
      rw [hI_eq, upg_at]
      exact ⟨rfl, Nat.le_refl 3⟩
    · rw [hI_j (fun z => q ((nIle_eq (by omega) (by omega)).mp z)), upg_lt (by omega)]
      exact D.gv i (by omega)
  · rw [hI_ne (by decide)]
    exact D.bc
  · rw [hI_ne (by decide)]
    exact D.bs
  · rw [hI_ne (by decide)]
    exact D.fi h0 i hi
theorem RfD.unskip {F : Fp} {h h1 : Hp} {g : Nat → Nat} {x : Nat} {b b' : Bst} (D0 : RfD F h g x b) (D : RfD F h1 (upg g x 3) (x + 1) b') : RfD F h1 g x b' := by
  refine ⟨fun j hj => ?_, D0.rm, fun i hi => ?_, D.bc, D.bs, D.fi⟩
  · have := D.is j hj
    rwa [cntK_up, if_neg (by omega)] at this
  · have := D.gv i (by omega)
    rwa [upg_lt hi] at this
/-- what a call of seek for r more of them does -/
noncomputable def SkC (F : Fp) (nS r d : Nat) : Prop := ∀ {x : Nat} {h : Hp} {g : Nat → Nat} {b : Bst} {cI sI : Int32} {c s : Int} {Q : Option Value → Hp → Prop}, x + r = F.n → RfS F nS h → RfD F h g x b → cI.toInt = c → sI.toInt = s → 0 ≤ c → c ≤ x → 0 ≤ s → s ≤ 20000 * x → (∀ h', frR h h' → RfD F h' g x (srch F.T (okFi F) r x g c s b) → Q none h') → Call d 191 [.ref 65, .int (nI x), .int cI, .int sI] h Q
theorem prn_ok {F : Fp} {nS : Nat} {h : Hp} {g : Nat → Nat} {x r : Nat} {b : Bst} {cI sI : Int32} {c s : Int} (S : RfS F nS h) (D : RfD F h g x b) (hr : x + r = F.n) (hc : cI.toInt = c) (hs : sI.toInt = s) (c0 : 0 ≤ c) (c1 : c ≤ x) : prnI h (nI x) cI sI ↔ (c + r < b.c ∨ (c + r = b.c ∧ b.s ≤ s)) := by
  have n10 := S.n10
  have eM : ((cI + h.1 66 2) - nI x).toInt = c + r := by
    rw [S.en, Int32.toInt_sub, Int32.toInt_add, hc, nI_i (by omega), nI_i (by omega), b32 (x := c + (F.n : Int)) (by omega) (by omega), b32 (by omega) (by omega)]
    omega
  unfold prnI
  rw [Int32.lt_iff_toInt_lt, ← Int32.toInt_inj, Int32.lt_iff_toInt_lt, eM, hs, D.bc.1, D.bs.1, Int.not_lt]
/-- behind the first k SHOPS -/
noncomputable def bSh (F : Fp) (r x : Nat) (g : Nat → Nat) (c s : Int) (b : Bst) : Nat → Bst
  | 0 => b
  | k + 1 => if okFi F x k g = true then srch F.T (okFi F) r (x + 1) (upg g x k) (c + 1) (s + F.T x) (bSh F r x g c s b k) else bSh F r x g c s b k
theorem bSh_up {F : Fp} {nS r x : Nat} {g : Nat → Nat} {c s : Int} {b : Bst} (W0 : ∀ i k, nS ≤ k → F.W i k = false) : ∀ {m : Nat}, bSh F r x g c s b (nS + m) = bSh F r x g c s b nS
  | 0 => rfl
  | m + 1 => by
    show (if okFi F x (nS + m) g = true then _ else bSh F r x g c s b (nS + m)) = _
    rw [if_neg (fun q => by
      unfold okFi at q
      rw [W0 x (nS + m) (Nat.le_add_right _ _)] at q
      cases q), bSh_up W0]
theorem srch_bSh {F : Fp} {nS r x : Nat} {g : Nat → Nat} {c s : Int} {b : Bst} (W0 : ∀ i k, nS ≤ k → F.W i k = false) (s3 : nS ≤ 3) : srch F.T (okFi F) (r + 1) x g c s b = srch F.T (okFi F) r (x + 1) (upg g x 3) c s (bSh F r x g c s b nS) := by
  have := bSh_up (F := F) (r := r) (x := x) (g := g) (c := c) (s := s) (b := b) W0 (m := 3 - nS)
  rw [show nS + (3 - nS) = 3 by omega] at this
  rw [← this]
  rfl
theorem RfD.leaf {F : Fp} {h h' : Hp} {g : Nat → Nat} {b : Bst} {cI sI : Int32} {c s : Int} (D : RfD F h g F.n b) (hc : cI.toInt = c) (hs : sI.toInt = s) (c0 : 0 ≤ c) (c1 : c ≤ 10) (s0 : 0 ≤ s) (s1 : s ≤ 200000) (e : ∀ o (j : Int32), o ≠ 73 → h'.1 o j = (hI (hI h 65 10 cI) 65 11 sI).1 o j) (ef : ∀ i, i < F.n → h'.1 73 (nI i) = h.1 72 (nI i)) : RfD F h' g F.n ⟨c, s, g⟩ := by
  have e2 : ∀ o (j : Int32), o ≠ 73 → o ≠ 65 → h'.1 o j = h.1 o j := fun o j a1 a2 => by rw [e o j a1, hI_ne a2, hI_ne a2]
  refine ⟨fun k hk => ?_, D.rm, fun i hi => ?_, ⟨?_, by show (-1 : Int) ≤ c; omega, c1⟩, ⟨?_, s0, s1⟩, fun _ i hi => ?_⟩
  · rw [e2 74 _ (by decide) (by decide)]
    exact D.is k hk
  · rw [e2 72 _ (by decide) (by decide)]
    exact D.gv i hi
  · rw [e 65 10 (by decide), hI_j (by decide), hI_eq]
    exact hc
  · rw [e 65 11 (by decide), hI_eq]
    exact hs
  · rw [ef i hi]
    exact D.gv i hi
theorem c_seek {F : Fp} {nS : Nat} : ∀ (r : Nat) {d : Nat}, SkC F nS r (d + r + 5)
  | r, d, x, h, g, b, cI, sI, c, s, Q, hr, S, D, hc, hs, c0, c1, s0, s1, K => by
    have n10 := S.n10
    have hp := prn_ok S D hr hc hs c0 c1
    have z1 : (1 : Int32).toInt = 1 := rfl
    have x0 : (0 : Int32) ≤ nI x := tx_0 x (by omega)
    have x10 : nI x ≤ (10 : Int32) := (tx_le (b := 10) (by omega) (by decide)).mpr (by omega)
    have hxn : nI x = h.1 66 2 ↔ x = F.n := by rw [S.en]; exact nIle_eq (by omega) (by omega)
    refine c_seek0 (d := d + r + 4) x0 x10 (fun q => ?_) (fun X hX hn hx => ?_) (fun X hX hn hx => ?_)
    · refine K h frR_rf ?_
      rw [srch_B S.T0 (hp.mp q)]
      exact D
    · have hx := hxn.mp hx
      have r0 : r = 0 := by omega
      subst r0
      have bt : bet c s b := by
        have hn' : ¬ (c + ((0 : Nat) : Int) < b.c ∨ (c + ((0 : Nat) : Int) = b.c ∧ b.s ≤ s)) := fun z => hn (hp.mpr z)
        unfold bet
        omega
      subst hx
      refine lp_cpy hX (by omega) (I := fun j h' => (∀ o (i : Int32), o ≠ 73 → h'.1 o i = (hI (hI h 65 10 cI) 65 11 sI).1 o i) ∧ h'.2 = h.2 ∧ ∀ i, i < j → h'.1 73 (nI i) = h.1 72 (nI i)) (fun j hj h1 I => ?_) (fun h1 I => ?_) (Nat.zero_le _) _ ⟨fun _ _ _ => rfl, rfl, fun i hi => absurd hi (Nat.not_lt_zero i)⟩
      · obtain ⟨i1, i2, i3⟩ := I
        refine ⟨fun o i ho => by rw [hI_ne ho]; exact i1 o i ho, i2, fun i hi => ?_⟩
        have e72 : h1.1 72 (nI j) = h.1 72 (nI j) := by rw [i1 72 _ (by decide), hI_ne (by decide), hI_ne (by decide)]
        by_cases q : i = j
        · subst q
          rw [hI_eq, e72]
        · rw [hI_j (fun z => q ((nIle_eq (by omega) (by omega)).mp z))]
          exact i3 i (by omega)
      · obtain ⟨i1, i2, i3⟩ := I
        refine K h1 ⟨fun o j q => ?_, i2⟩ ?_
        · rw [i1 o j (fun z => q (Or.inr (Or.inr (Or.inl z))))]
          exact ((frR_rf.st (Or.inl ⟨rfl, Or.inl rfl⟩)).st (Or.inl ⟨rfl, Or.inr rfl⟩)).1 o j q
        · unfold srch
          rw [if_pos bt]
          exact D.leaf hc hs c0 (by omega) s0 (by omega) i1 i3
    · obtain ⟨r, rfl⟩ : ∃ r', r = r' + 1 := ⟨r - 1, by have : ¬ x = F.n := fun z => hx (hxn.mpr z); omega⟩
      have IH : SkC F nS r (d + r + 5) := c_seek r
      have IH2 : SkC F nS r ((d + r + 1) + 4) := IH
      obtain ⟨et, t0, t1⟩ := S.tu x (by omega)
      refine lp_shops (d := d + r + 1) hX (nS := nS) (by omega) S.s3 (J := fun k h' => frR h h' ∧ RfD F h' g x (bSh F r x g c s b k)) (R := fun k hk h' => frR h h' ∧ okFi F x k g = true ∧ RfD F h' (upg g x k) (x + 1) (srch F.T (okFi F) r (x + 1) (upg g x k) (c + 1) (s + F.T x) (bSh F r x g c s b k))) (L := fun h' => frR h h' ∧ RfD F h' g x (srch F.T (okFi F) (r + 1) x g c s b)) (fun h1 q f k => ?_) (fun k hk h1 J hcan Q' kq => ?_) (fun k hk h1 J hcan h2 R => ?_) (fun k hk h1 J hcan => ?_) (fun h1 J Q' kq => ?_) (fun h1 L => K h1 L.1 L.2) (Nat.zero_le nS) h ⟨frR_rf, D⟩
      · exact (S.fr f.1).es
      · have s3 := S.s3
        have S1 := S.fr J.1
        have ok := (have_ok S1 J.2 (by omega) hk).mp hcan
        have r1 : 1 ≤ rmK F.C g x k := by
          unfold okFi at ok
          rw [Bool.and_eq_true, Bool.and_eq_true, decide_eq_true_iff] at ok
          exact ok.2.1
        have f := (frR_rf (h := h1).st (o := 72) (j := nI x) (v := nI k) (Or.inr (Or.inl rfl))).st (o := 74) (j := nI k) (v := (h1.1 74 (nI k)) + 1) (Or.inr (Or.inr (Or.inr rfl)))
        rw [tx_1]
        refine IH2 (c := c + 1) (s := s + F.T x) (by omega) (S1.fr f) (J.2.put (by omega) (by omega) r1) ?_ ?_ (by omega) (by omega) (by omega) (by omega) (fun h2 f2 D2 => kq h2 ⟨(J.1.tr f).tr f2, ok, D2⟩)
        · rw [Int32.toInt_add, hc, z1, b32 (by omega) (by omega)]
        · rw [Int32.toInt_add, hs, (S1.tu x (by omega)).1, b32 (by omega) (by omega)]
      · have s3 := S.s3
        obtain ⟨f, ok, D2⟩ := R
        refine ⟨f.st (Or.inr (Or.inr (Or.inr rfl))), ?_⟩
        show RfD F _ g x (if okFi F x k g = true then _ else _)
        rw [if_pos ok]
        exact J.2.unput D2 (by omega) (by omega)
      · refine ⟨J.1, ?_⟩
        show RfD F _ g x (if okFi F x k g = true then _ else _)
        rw [if_neg (fun z => hcan ((have_ok (S.fr J.1) J.2 (by omega) hk).mpr z))]
        exact J.2
      · have f := (frR_rf (h := h1)).st (o := 72) (j := nI x) (v := 3) (Or.inr (Or.inl rfl))
        rw [tx_1]
        refine IH2 (by omega) (S.fr (J.1.tr f)) (J.2.skip (by omega)) hc hs c0 (by omega) s0 (by omega) (fun h2 f2 D2 => kq h2 ⟨(J.1.tr f).tr f2, ?_⟩)
        rw [srch_bSh S.W0 S.s3]
        exact J.2.unskip D2
