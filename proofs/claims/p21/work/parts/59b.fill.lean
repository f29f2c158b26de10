/-! By hand (contracts printed by wip/se/m31.py). -/
/-- where the filling sends one -/
noncomputable def tgI (k : Nat) : Int32 := if k = 3 then -1 else nI k
/-- so many have gone where the filling sends them -/
noncomputable def FiI (h1 : Hp) (g : Nat → Nat) (i : Nat) (h : Hp) : Prop := (∀ o (j : Int32), o ≠ 66 → h.1 o j = h1.1 o j) ∧ (∀ j : Nat, j < 300 → (∀ i', i' < 10 → j ≠ 48 + 16 * i') → h.1 66 (nI j) = h1.1 66 (nI j)) ∧ (∀ i', i ≤ i' → i' < 10 → h.1 66 (nI (48 + 16 * i')) = h1.1 66 (nI (48 + 16 * i'))) ∧ ∀ i', i' < i → (h1.1 66 (nI (51 + 16 * i')) = 1 → h.1 66 (nI (48 + 16 * i')) = h1.1 66 (nI (48 + 16 * i'))) ∧ (¬ h1.1 66 (nI (51 + 16 * i')) = 1 → h.1 66 (nI (48 + 16 * i')) = tgI (g i'))
theorem FiI.st {h1 h h2 : Hp} {g : Nat → Nat} {i : Nat} (w : FiI h1 g i h) (hi : i < 10) (a : ∀ o (j : Int32), o ≠ 66 → h2.1 o j = h.1 o j) (b : ∀ j : Nat, j < 300 → j ≠ 48 + 16 * i → h2.1 66 (nI j) = h.1 66 (nI j)) (c : (h1.1 66 (nI (51 + 16 * i)) = 1 → h2.1 66 (nI (48 + 16 * i)) = h.1 66 (nI (48 + 16 * i))) ∧ (¬ h1.1 66 (nI (51 + 16 * i)) = 1 → h2.1 66 (nI (48 + 16 * i)) = tgI (g i))) : FiI h1 g (i + 1) h2 := by
  obtain ⟨w1, w2, w3, w4⟩ := w
  refine ⟨fun o j q => (a o j q).trans (w1 o j q), fun j j0 j1 => (b j j0 (j1 i hi)).trans (w2 j j0 j1), fun i' i0 i1 => (b _ (by omega) (by omega)).trans (w3 i' (by omega) i1), fun i' i0 => ?_⟩
  by_cases e : i' = i
  · subst e
    exact ⟨fun q => (c.1 q).trans (w3 i' (Nat.le_refl _) hi), c.2⟩
  · obtain ⟨p, q⟩ := w4 i' (by omega)
    rw [b _ (by omega) (by omega)]
    exact ⟨p, q⟩
theorem FiI.rf {h1 : Hp} {g : Nat → Nat} : FiI h1 g 0 h1 := ⟨fun _ _ _ => rfl, fun _ _ _ => rfl, fun _ _ _ => rfl, fun i' h => absurd h (Nat.not_lt_zero i')⟩
theorem FiI.fr {h1 h : Hp} {g : Nat → Nat} {i k : Nat} (w : FiI h1 g i h) (hk : k < 10) : h.1 66 ((40 + (16 * nI k)) + 11) = h1.1 66 (nI (51 + 16 * k)) := by
  have ix : ((40 : Int32) + (16 * nI k)) + 11 = nI (51 + 16 * k) := by
    show (nI 40 + nI 16 * nI k) + nI 11 = _
    rw [ix3, nI_add]
    congr 1
    omega
  rw [ix]
  exact w.2.1 _ (by omega) (fun i' _ => by omega)
theorem tgI_3 {k : Nat} (h : nI k = 3) (hk : k ≤ 3) : tgI k = -1 := if_pos ((nIle_eq (b := 3) (by omega) (by decide)).mp h)
theorem tgI_n {k : Nat} (h : ¬ nI k = 3) : tgI k = nI k := if_neg (fun e => h (by rw [e]; rfl))
theorem lp_fill {d : Nat} {Q : Option Value → Hp → Prop} {X : Cf → Prop} (hX : Clo (Call (d + 2)) cd194 (some .int) Q X) {h1 : Hp} {n m : Nat} {g : Nat → Nat} (n10 : n ≤ 10) (en : h1.1 66 2 = nI n) (m30 : m ≤ 30) (e30 : h1.1 66 3 = nI m) (hg : ∀ i, i < n → h1.1 73 (nI i) = nI (g i) ∧ g i ≤ 3) (K : ∀ (r : Int32) h, FiI h1 g n h → Q (some (.int r)) h) {i : Nat} (hi : i ≤ n) : ∀ (h : Hp) (cnt : Int32) (l3 : Option Value), (l3 = none ∨ ∃ y, l3 = some (.int y)) → FiI h1 g i h → X (8, [some (.ref 65), some (.int cnt), some (.int (nI i)), l3], [], h) := by
  refine dn_ind (P := fun i => ∀ (h : Hp) (cnt : Int32) (l3 : Option Value), (l3 = none ∨ ∃ y, l3 = some (.int y)) → FiI h1 g i h → X (8, [some (.ref 65), some (.int cnt), some (.int (nI i)), l3], [], h)) (fun i hi ih h cnt l3 hl w => ?_) hi
  have e2 : h.1 66 2 = nI n := (w.2.1 2 (by decide) (fun i' _ => by omega)).trans en
  rcases hl with rfl | ⟨y3, rfl⟩
  ·
    refine go hX 6 (gs := [True, ibd 2 3400, True, True, True, True]) (z' := (if (h.1 66 2) ≤ (nI i) then 79 else 18, [some (.ref 65), some (.int cnt), some (.int (nI i)), none], [], h)) rfl ⟨trivial, ?_, trivial, trivial, trivial, trivial, trivial⟩ ?_
    · exact ⟨by decide, by decide⟩
    refine br (fun b1 => ?_) (fun b1 => ?_)
    ·
      have e : i = n := Nat.le_antisymm hi ((tx_le (by omega) (by omega)).mp (by rw [← e2]; exact b1))
      subst e
      refine go hX 1 (gs := [True]) (z' := (80, [some (.ref 65), some (.int cnt), some (.int (nI i)), none], [.int cnt], h)) rfl ⟨trivial, trivial⟩ ?_
      refine rt_ hX (G := True) (r := some (.int cnt)) rfl trivial ?_
      exact K _ _ w
    ·
      have ix : i < n := Nat.lt_of_not_le (fun z => b1 (by rw [e2]; exact (tx_le (by omega) (by omega)).mpr z))
      have i10 : i < 10 := by omega
      refine go hX 6 (gs := [True, True, ibd (nI i) 10, True, True, True]) (z' := (if (h.1 73 (nI i)) = 3 then 28 else 32, [some (.ref 65), some (.int cnt), some (.int (nI i)), none], [], h)) rfl ⟨trivial, trivial, ?_, trivial, trivial, trivial, trivial⟩ ?_
      · exact ibd_of (B := 10) rfl (tx_0 i (by omega)) ((tx_lt (b := 10) (by omega) (by decide)).mpr i10)
      refine br (fun b2 => ?_) (fun b2 => ?_)
      ·
        refine go hX 5 (gs := [True, True, True, True, True]) (z' := (41, [some (.ref 65), some (.int cnt), some (.int (nI i)), some (.int (-1))], [.int (nI i), .ref 65], h)) rfl ⟨trivial, trivial, trivial, trivial, trivial, trivial⟩ ?_
        refine cl hX 172 2 [.ref 65, .int (nI i)] [] rfl rfl rfl rfl ?_
        refine c_isFrB (tx_0 i (by omega)) ((tx_lt (b := 10) (by omega) (by decide)).mpr i10) (fun bf => ?_) (fun bf => ?_)
        ·
          show X (44, [some (.ref 65), some (.int cnt), some (.int (nI i)), some (.int (-1))], [.int 1], h)
          refine go hX 3 (gs := [True, True, True]) (z' := (8, [some (.ref 65), some (.int cnt), some (.int ((nI i) + 1)), some (.int (-1))], [], h)) rfl ⟨trivial, trivial, trivial, trivial⟩ ?_
          have w2 := w.st (h2 := h) i10 (fun _ _ _ => rfl) (fun _ _ _ => rfl) ⟨fun _ => rfl, fun q => absurd (by rw [← w.fr i10]; exact bf) q⟩
          rw [tx_1]
          exact ih (i + 1) (Nat.lt_succ_self i) (by omega) _ _ _ (Or.inr ⟨_, rfl⟩) w2
        ·
          show X (44, [some (.ref 65), some (.int cnt), some (.int (nI i)), some (.int (-1))], [.int 0], h)
          refine go hX 5 (gs := [True, True, True, True, True]) (z' := (53, [some (.ref 65), some (.int cnt), some (.int (nI i)), some (.int (-1))], [.int (nI i), .ref 65, .ref 66], h)) rfl ⟨trivial, trivial, trivial, trivial, trivial, trivial⟩ ?_
          refine cl hX 164 2 [.ref 65, .int (nI i)] [.ref 66] rfl rfl rfl rfl ?_
          refine c_handAtP ?_
          show X (56, [some (.ref 65), some (.int cnt), some (.int (nI i)), some (.int (-1))], [.int (40 + (16 * (nI i))), .ref 66], h)
          refine go hX 5 (gs := [True, True, ibd ((40 + (16 * (nI i))) + 8) 3400, True, True]) (z' := (if (h.1 66 ((40 + (16 * (nI i))) + 8)) = (-1) then 73 else 64, [some (.ref 65), some (.int cnt), some (.int (nI i)), some (.int (-1))], [], h)) rfl ⟨trivial, trivial, ?_, trivial, trivial, trivial⟩ ?_
          · rw [ixH8]; exact ibd_of (B := 3400) rfl (tx_0 _ (by omega)) ((tx_lt (b := 3400) (by omega) (by decide)).mpr (by omega))
          refine br (fun b3 => ?_) (fun b3 => ?_)
          ·
            refine go hX 2 (gs := [True, True]) (z' := (8, [some (.ref 65), some (.int cnt), some (.int ((nI i) + 1)), some (.int (-1))], [], h)) rfl ⟨trivial, trivial, trivial⟩ ?_
            have et : tgI (g i) = (-1) := by rw [w.1 73 _ (by decide), (hg i ix).1] at b2; exact tgI_3 b2 (hg i ix).2
            have w2 := w.st (h2 := h) i10 (fun _ _ _ => rfl) (fun _ _ _ => rfl) ⟨fun _ => rfl, fun _ => by rw [et, ← b3, ixH8]⟩
            rw [tx_1]
            exact ih (i + 1) (Nat.lt_succ_self i) (by omega) _ _ _ (Or.inr ⟨_, rfl⟩) w2
          ·
            refine go hX 3 (gs := [True, True, True]) (z' := (67, [some (.ref 65), some (.int cnt), some (.int (nI i)), some (.int (-1))], [.int (-1), .int (nI i), .ref 65], h)) rfl ⟨trivial, trivial, trivial, trivial⟩ ?_
            refine cl hX 188 3 [.ref 65, .int (nI i), .int (-1)] [] rfl rfl rfl rfl ?_
            refine c_goesB (m := m) i10 m30 ((w.2.1 3 (by decide) (fun i' _ => by omega)).trans e30) (fun h2 z1 z2 z3 => ?_)
            show X (70, [some (.ref 65), some (.int cnt), some (.int (nI i)), some (.int (-1))], [], h2)
            refine go hX 3 (gs := [True, True, True]) (z' := (8, [some (.ref 65), some (.int (cnt + 1)), some (.int ((nI i) + 1)), some (.int (-1))], [], h2)) rfl ⟨trivial, trivial, trivial, trivial⟩ ?_
            have et : tgI (g i) = (-1) := by rw [w.1 73 _ (by decide), (hg i ix).1] at b2; exact tgI_3 b2 (hg i ix).2
            have w2 := w.st (h2 := h2) i10 z3 z2 ⟨fun q => absurd (by rw [w.fr i10]; exact q) bf, fun _ => by rw [z1, et]⟩
            rw [tx_1]
            exact ih (i + 1) (Nat.lt_succ_self i) (by omega) _ _ _ (Or.inr ⟨_, rfl⟩) w2
      ·
        refine go hX 7 (gs := [True, True, True, ibd (nI i) 10, True, True, True]) (z' := (41, [some (.ref 65), some (.int cnt), some (.int (nI i)), some (.int (h.1 73 (nI i)))], [.int (nI i), .ref 65], h)) rfl ⟨trivial, trivial, trivial, ?_, trivial, trivial, trivial, trivial⟩ ?_
        · exact ibd_of (B := 10) rfl (tx_0 i (by omega)) ((tx_lt (b := 10) (by omega) (by decide)).mpr i10)
        refine cl hX 172 2 [.ref 65, .int (nI i)] [] rfl rfl rfl rfl ?_
        refine c_isFrB (tx_0 i (by omega)) ((tx_lt (b := 10) (by omega) (by decide)).mpr i10) (fun bf => ?_) (fun bf => ?_)
        ·
          show X (44, [some (.ref 65), some (.int cnt), some (.int (nI i)), some (.int (h.1 73 (nI i)))], [.int 1], h)
          refine go hX 3 (gs := [True, True, True]) (z' := (8, [some (.ref 65), some (.int cnt), some (.int ((nI i) + 1)), some (.int (h.1 73 (nI i)))], [], h)) rfl ⟨trivial, trivial, trivial, trivial⟩ ?_
          have w2 := w.st (h2 := h) i10 (fun _ _ _ => rfl) (fun _ _ _ => rfl) ⟨fun _ => rfl, fun q => absurd (by rw [← w.fr i10]; exact bf) q⟩
          rw [tx_1]
          exact ih (i + 1) (Nat.lt_succ_self i) (by omega) _ _ _ (Or.inr ⟨_, rfl⟩) w2
        ·
          show X (44, [some (.ref 65), some (.int cnt), some (.int (nI i)), some (.int (h.1 73 (nI i)))], [.int 0], h)
          refine go hX 5 (gs := [True, True, True, True, True]) (z' := (53, [some (.ref 65), some (.int cnt), some (.int (nI i)), some (.int (h.1 73 (nI i)))], [.int (nI i), .ref 65, .ref 66], h)) rfl ⟨trivial, trivial, trivial, trivial, trivial, trivial⟩ ?_
          refine cl hX 164 2 [.ref 65, .int (nI i)] [.ref 66] rfl rfl rfl rfl ?_
          refine c_handAtP ?_
          show X (56, [some (.ref 65), some (.int cnt), some (.int (nI i)), some (.int (h.1 73 (nI i)))], [.int (40 + (16 * (nI i))), .ref 66], h)
          refine go hX 5 (gs := [True, True, ibd ((40 + (16 * (nI i))) + 8) 3400, True, True]) (z' := (if (h.1 66 ((40 + (16 * (nI i))) + 8)) = (h.1 73 (nI i)) then 73 else 64, [some (.ref 65), some (.int cnt), some (.int (nI i)), some (.int (h.1 73 (nI i)))], [], h)) rfl ⟨trivial, trivial, ?_, trivial, trivial, trivial⟩ ?_
          · rw [ixH8]; exact ibd_of (B := 3400) rfl (tx_0 _ (by omega)) ((tx_lt (b := 3400) (by omega) (by decide)).mpr (by omega))
          refine br (fun b4 => ?_) (fun b4 => ?_)
          ·
            refine go hX 2 (gs := [True, True]) (z' := (8, [some (.ref 65), some (.int cnt), some (.int ((nI i) + 1)), some (.int (h.1 73 (nI i)))], [], h)) rfl ⟨trivial, trivial, trivial⟩ ?_
            have et : tgI (g i) = (h.1 73 (nI i)) := by rw [w.1 73 _ (by decide), (hg i ix).1] at b2 ⊢; exact tgI_n b2
            have w2 := w.st (h2 := h) i10 (fun _ _ _ => rfl) (fun _ _ _ => rfl) ⟨fun _ => rfl, fun _ => by rw [et, ← b4, ixH8]⟩
            rw [tx_1]
            exact ih (i + 1) (Nat.lt_succ_self i) (by omega) _ _ _ (Or.inr ⟨_, rfl⟩) w2
          ·
            refine go hX 3 (gs := [True, True, True]) (z' := (67, [some (.ref 65), some (.int cnt), some (.int (nI i)), some (.int (h.1 73 (nI i)))], [.int (h.1 73 (nI i)), .int (nI i), .ref 65], h)) rfl ⟨trivial, trivial, trivial, trivial⟩ ?_
            refine cl hX 188 3 [.ref 65, .int (nI i), .int (h.1 73 (nI i))] [] rfl rfl rfl rfl ?_
            refine c_goesB (m := m) i10 m30 ((w.2.1 3 (by decide) (fun i' _ => by omega)).trans e30) (fun h2 z1 z2 z3 => ?_)
            show X (70, [some (.ref 65), some (.int cnt), some (.int (nI i)), some (.int (h.1 73 (nI i)))], [], h2)
            refine go hX 3 (gs := [True, True, True]) (z' := (8, [some (.ref 65), some (.int (cnt + 1)), some (.int ((nI i) + 1)), some (.int (h.1 73 (nI i)))], [], h2)) rfl ⟨trivial, trivial, trivial, trivial⟩ ?_
            have et : tgI (g i) = (h.1 73 (nI i)) := by rw [w.1 73 _ (by decide), (hg i ix).1] at b2 ⊢; exact tgI_n b2
            have w2 := w.st (h2 := h2) i10 z3 z2 ⟨fun q => absurd (by rw [w.fr i10]; exact q) bf, fun _ => by rw [z1, et]⟩
            rw [tx_1]
            exact ih (i + 1) (Nat.lt_succ_self i) (by omega) _ _ _ (Or.inr ⟨_, rfl⟩) w2
  ·
    refine go hX 6 (gs := [True, ibd 2 3400, True, True, True, True]) (z' := (if (h.1 66 2) ≤ (nI i) then 79 else 18, [some (.ref 65), some (.int cnt), some (.int (nI i)), some (.int y3)], [], h)) rfl ⟨trivial, ?_, trivial, trivial, trivial, trivial, trivial⟩ ?_
    · exact ⟨by decide, by decide⟩
    refine br (fun b1 => ?_) (fun b1 => ?_)
    ·
      have e : i = n := Nat.le_antisymm hi ((tx_le (by omega) (by omega)).mp (by rw [← e2]; exact b1))
      subst e
      refine go hX 1 (gs := [True]) (z' := (80, [some (.ref 65), some (.int cnt), some (.int (nI i)), some (.int y3)], [.int cnt], h)) rfl ⟨trivial, trivial⟩ ?_
      refine rt_ hX (G := True) (r := some (.int cnt)) rfl trivial ?_
      exact K _ _ w
    ·
      have ix : i < n := Nat.lt_of_not_le (fun z => b1 (by rw [e2]; exact (tx_le (by omega) (by omega)).mpr z))
      have i10 : i < 10 := by omega
      refine go hX 6 (gs := [True, True, ibd (nI i) 10, True, True, True]) (z' := (if (h.1 73 (nI i)) = 3 then 28 else 32, [some (.ref 65), some (.int cnt), some (.int (nI i)), some (.int y3)], [], h)) rfl ⟨trivial, trivial, ?_, trivial, trivial, trivial, trivial⟩ ?_
      · exact ibd_of (B := 10) rfl (tx_0 i (by omega)) ((tx_lt (b := 10) (by omega) (by decide)).mpr i10)
      refine br (fun b2 => ?_) (fun b2 => ?_)
      ·
        refine go hX 5 (gs := [True, True, True, True, True]) (z' := (41, [some (.ref 65), some (.int cnt), some (.int (nI i)), some (.int (-1))], [.int (nI i), .ref 65], h)) rfl ⟨trivial, trivial, trivial, trivial, trivial, trivial⟩ ?_
        refine cl hX 172 2 [.ref 65, .int (nI i)] [] rfl rfl rfl rfl ?_
        refine c_isFrB (tx_0 i (by omega)) ((tx_lt (b := 10) (by omega) (by decide)).mpr i10) (fun bf => ?_) (fun bf => ?_)
        ·
          show X (44, [some (.ref 65), some (.int cnt), some (.int (nI i)), some (.int (-1))], [.int 1], h)
          refine go hX 3 (gs := [True, True, True]) (z' := (8, [some (.ref 65), some (.int cnt), some (.int ((nI i) + 1)), some (.int (-1))], [], h)) rfl ⟨trivial, trivial, trivial, trivial⟩ ?_
          have w2 := w.st (h2 := h) i10 (fun _ _ _ => rfl) (fun _ _ _ => rfl) ⟨fun _ => rfl, fun q => absurd (by rw [← w.fr i10]; exact bf) q⟩
          rw [tx_1]
          exact ih (i + 1) (Nat.lt_succ_self i) (by omega) _ _ _ (Or.inr ⟨_, rfl⟩) w2
        ·
          show X (44, [some (.ref 65), some (.int cnt), some (.int (nI i)), some (.int (-1))], [.int 0], h)
          refine go hX 5 (gs := [True, True, True, True, True]) (z' := (53, [some (.ref 65), some (.int cnt), some (.int (nI i)), some (.int (-1))], [.int (nI i), .ref 65, .ref 66], h)) rfl ⟨trivial, trivial, trivial, trivial, trivial, trivial⟩ ?_
          refine cl hX 164 2 [.ref 65, .int (nI i)] [.ref 66] rfl rfl rfl rfl ?_
          refine c_handAtP ?_
          show X (56, [some (.ref 65), some (.int cnt), some (.int (nI i)), some (.int (-1))], [.int (40 + (16 * (nI i))), .ref 66], h)
          refine go hX 5 (gs := [True, True, ibd ((40 + (16 * (nI i))) + 8) 3400, True, True]) (z' := (if (h.1 66 ((40 + (16 * (nI i))) + 8)) = (-1) then 73 else 64, [some (.ref 65), some (.int cnt), some (.int (nI i)), some (.int (-1))], [], h)) rfl ⟨trivial, trivial, ?_, trivial, trivial, trivial⟩ ?_
          · rw [ixH8]; exact ibd_of (B := 3400) rfl (tx_0 _ (by omega)) ((tx_lt (b := 3400) (by omega) (by decide)).mpr (by omega))
          refine br (fun b3 => ?_) (fun b3 => ?_)
          ·
            refine go hX 2 (gs := [True, True]) (z' := (8, [some (.ref 65), some (.int cnt), some (.int ((nI i) + 1)), some (.int (-1))], [], h)) rfl ⟨trivial, trivial, trivial⟩ ?_
            have et : tgI (g i) = (-1) := by rw [w.1 73 _ (by decide), (hg i ix).1] at b2; exact tgI_3 b2 (hg i ix).2
            have w2 := w.st (h2 := h) i10 (fun _ _ _ => rfl) (fun _ _ _ => rfl) ⟨fun _ => rfl, fun _ => by rw [et, ← b3, ixH8]⟩
            rw [tx_1]
            exact ih (i + 1) (Nat.lt_succ_self i) (by omega) _ _ _ (Or.inr ⟨_, rfl⟩) w2
          ·
            refine go hX 3 (gs := [True, True, True]) (z' := (67, [some (.ref 65), some (.int cnt), some (.int (nI i)), some (.int (-1))], [.int (-1), .int (nI i), .ref 65], h)) rfl ⟨trivial, trivial, trivial, trivial⟩ ?_
            refine cl hX 188 3 [.ref 65, .int (nI i), .int (-1)] [] rfl rfl rfl rfl ?_
            refine c_goesB (m := m) i10 m30 ((w.2.1 3 (by decide) (fun i' _ => by omega)).trans e30) (fun h2 z1 z2 z3 => ?_)
            show X (70, [some (.ref 65), some (.int cnt), some (.int (nI i)), some (.int (-1))], [], h2)
            refine go hX 3 (gs := [True, True, True]) (z' := (8, [some (.ref 65), some (.int (cnt + 1)), some (.int ((nI i) + 1)), some (.int (-1))], [], h2)) rfl ⟨trivial, trivial, trivial, trivial⟩ ?_
            have et : tgI (g i) = (-1) := by rw [w.1 73 _ (by decide), (hg i ix).1] at b2; exact tgI_3 b2 (hg i ix).2
            have w2 := w.st (h2 := h2) i10 z3 z2 ⟨fun q => absurd (by rw [w.fr i10]; exact q) bf, fun _ => by rw [z1, et]⟩
            rw [tx_1]
            exact ih (i + 1) (Nat.lt_succ_self i) (by omega) _ _ _ (Or.inr ⟨_, rfl⟩) w2
      ·
        refine go hX 7 (gs := [True, True, True, ibd (nI i) 10, True, True, True]) (z' := (41, [some (.ref 65), some (.int cnt), some (.int (nI i)), some (.int (h.1 73 (nI i)))], [.int (nI i), .ref 65], h)) rfl ⟨trivial, trivial, trivial, ?_, trivial, trivial, trivial, trivial⟩ ?_
        · exact ibd_of (B := 10) rfl (tx_0 i (by omega)) ((tx_lt (b := 10) (by omega) (by decide)).mpr i10)
        refine cl hX 172 2 [.ref 65, .int (nI i)] [] rfl rfl rfl rfl ?_
        refine c_isFrB (tx_0 i (by omega)) ((tx_lt (b := 10) (by omega) (by decide)).mpr i10) (fun bf => ?_) (fun bf => ?_)
        ·
          show X (44, [some (.ref 65), some (.int cnt), some (.int (nI i)), some (.int (h.1 73 (nI i)))], [.int 1], h)
          refine go hX 3 (gs := [True, True, True]) (z' := (8, [some (.ref 65), some (.int cnt), some (.int ((nI i) + 1)), some (.int (h.1 73 (nI i)))], [], h)) rfl ⟨trivial, trivial, trivial, trivial⟩ ?_
          have w2 := w.st (h2 := h) i10 (fun _ _ _ => rfl) (fun _ _ _ => rfl) ⟨fun _ => rfl, fun q => absurd (by rw [← w.fr i10]; exact bf) q⟩
          rw [tx_1]
          exact ih (i + 1) (Nat.lt_succ_self i) (by omega) _ _ _ (Or.inr ⟨_, rfl⟩) w2
        ·
          show X (44, [some (.ref 65), some (.int cnt), some (.int (nI i)), some (.int (h.1 73 (nI i)))], [.int 0], h)
          refine go hX 5 (gs := [True, True, True, True, True]) (z' := (53, [some (.ref 65), some (.int cnt), some (.int (nI i)), some (.int (h.1 73 (nI i)))], [.int (nI i), .ref 65, .ref 66], h)) rfl ⟨trivial, trivial, trivial, trivial, trivial, trivial⟩ ?_
          refine cl hX 164 2 [.ref 65, .int (nI i)] [.ref 66] rfl rfl rfl rfl ?_
          refine c_handAtP ?_
          show X (56, [some (.ref 65), some (.int cnt), some (.int (nI i)), some (.int (h.1 73 (nI i)))], [.int (40 + (16 * (nI i))), .ref 66], h)
          refine go hX 5 (gs := [True, True, ibd ((40 + (16 * (nI i))) + 8) 3400, True, True]) (z' := (if (h.1 66 ((40 + (16 * (nI i))) + 8)) = (h.1 73 (nI i)) then 73 else 64, [some (.ref 65), some (.int cnt), some (.int (nI i)), some (.int (h.1 73 (nI i)))], [], h)) rfl ⟨trivial, trivial, ?_, trivial, trivial, trivial⟩ ?_
          · rw [ixH8]; exact ibd_of (B := 3400) rfl (tx_0 _ (by omega)) ((tx_lt (b := 3400) (by omega) (by decide)).mpr (by omega))
          refine br (fun b4 => ?_) (fun b4 => ?_)
          ·
            refine go hX 2 (gs := [True, True]) (z' := (8, [some (.ref 65), some (.int cnt), some (.int ((nI i) + 1)), some (.int (h.1 73 (nI i)))], [], h)) rfl ⟨trivial, trivial, trivial⟩ ?_
            have et : tgI (g i) = (h.1 73 (nI i)) := by rw [w.1 73 _ (by decide), (hg i ix).1] at b2 ⊢; exact tgI_n b2
            have w2 := w.st (h2 := h) i10 (fun _ _ _ => rfl) (fun _ _ _ => rfl) ⟨fun _ => rfl, fun _ => by rw [et, ← b4, ixH8]⟩
            rw [tx_1]
            exact ih (i + 1) (Nat.lt_succ_self i) (by omega) _ _ _ (Or.inr ⟨_, rfl⟩) w2
          ·
            refine go hX 3 (gs := [True, True, True]) (z' := (67, [some (.ref 65), some (.int cnt), some (.int (nI i)), some (.int (h.1 73 (nI i)))], [.int (h.1 73 (nI i)), .int (nI i), .ref 65], h)) rfl ⟨trivial, trivial, trivial, trivial⟩ ?_
            refine cl hX 188 3 [.ref 65, .int (nI i), .int (h.1 73 (nI i))] [] rfl rfl rfl rfl ?_
            refine c_goesB (m := m) i10 m30 ((w.2.1 3 (by decide) (fun i' _ => by omega)).trans e30) (fun h2 z1 z2 z3 => ?_)
            show X (70, [some (.ref 65), some (.int cnt), some (.int (nI i)), some (.int (h.1 73 (nI i)))], [], h2)
            refine go hX 3 (gs := [True, True, True]) (z' := (8, [some (.ref 65), some (.int (cnt + 1)), some (.int ((nI i) + 1)), some (.int (h.1 73 (nI i)))], [], h2)) rfl ⟨trivial, trivial, trivial, trivial⟩ ?_
            have et : tgI (g i) = (h.1 73 (nI i)) := by rw [w.1 73 _ (by decide), (hg i ix).1] at b2 ⊢; exact tgI_n b2
            have w2 := w.st (h2 := h2) i10 z3 z2 ⟨fun q => absurd (by rw [w.fr i10]; exact q) bf, fun _ => by rw [z1, et]⟩
            rw [tx_1]
            exact ih (i + 1) (Nat.lt_succ_self i) (by omega) _ _ _ (Or.inr ⟨_, rfl⟩) w2
theorem c_fillB {d : Nat} {Q : Option Value → Hp → Prop} {h : Hp} {n m : Nat} {R : Hp → Prop} {R2 : Hp → (Nat → Nat) → Prop} (n10 : n ≤ 10) (m30 : m ≤ 30) (cf : ∀ {Q : Option Value → Hp → Prop}, (∀ h1, R h1 → Q none h1) → Call (d + 2) 192 [.ref 65] h Q) (pp : ∀ h1, R h1 → ∃ g : Nat → Nat, h1.1 66 2 = nI n ∧ h1.1 66 3 = nI m ∧ (∀ i, i < n → h1.1 73 (nI i) = nI (g i) ∧ g i ≤ 3) ∧ R2 h1 g) (K : ∀ h1, R h1 → ∀ g, R2 h1 g → ∀ (r : Int32) h', FiI h1 g n h' → Q (some (.int r)) h') : Call (d + 3) 194 [.ref 65] h Q := by
  refine call_of (rfl : psM[194]? = some _) rfl rfl (rcvV rfl) (fun X hX => ?_)
  show X (0, [some (.ref 65), none, none, none], [], h)
  refine go hX 1 (gs := [True]) (z' := (1, [some (.ref 65), none, none, none], [.ref 65], h)) rfl ⟨trivial, trivial⟩ ?_
  refine cl hX 192 1 [.ref 65] [] rfl rfl rfl rfl ?_
  refine cf (fun h1 p => ?_)
  obtain ⟨g, en, e30, hg, kk⟩ := pp h1 p
  show X (4, [some (.ref 65), none, none, none], [], h1)
  refine go hX 4 (gs := [True, True, True, True]) (z' := (8, [some (.ref 65), some (.int 0), some (.int 0), none], [], h1)) rfl ⟨trivial, trivial, trivial, trivial, trivial⟩ ?_
  exact lp_fill hX n10 en m30 e30 hg (fun r h w => K h1 p g kk r h w) (Nat.zero_le n) h1 0 none (Or.inl rfl) FiI.rf
/-! By hand: fill puts nobody where there is no room. -/
theorem srch_fit {T : Nat → Int} {ok : Nat → Nat → (Nat → Nat) → Bool} {C : Nat → Int} {n : Nat} (ho : ∀ x k g, k < 3 → ok x k g = true → 1 ≤ rmK C g x k) : ∀ {r h : Nat} {g : Nat → Nat} {c s : Int} {b : Bst}, h + r = n → (∀ k, k < 3 → (cntK g k h : Int) ≤ C k) → (∀ k, k < 3 → (cntK b.g k n : Int) ≤ C k) → ∀ k, k < 3 → (cntK (srch T ok r h g c s b).g k n : Int) ≤ C k
  | 0, h, g, c, s, b, hr, hg, hb => by
    unfold srch
    have e : h = n := by omega
    subst e
    split
    · exact hg
    · exact hb
  | r + 1, h, g, c, s, b, hr, hg, hb => by
    have up : ∀ k, (k < 3 → 1 ≤ rmK C g h k) → ∀ j, j < 3 → (cntK (upg g h k) j (h + 1) : Int) ≤ C j := fun k hk j hj => by
      rw [cntK_up]
      have := hg j hj
      by_cases e : k = j
      · subst e
        have := hk hj
        unfold rmK at this
        rw [if_pos rfl]
        omega
      · rw [if_neg e]
        omega
    have st : ∀ k, k < 3 → ∀ b : Bst, (∀ j, j < 3 → (cntK b.g j n : Int) ≤ C j) → ∀ j, j < 3 → (cntK (if ok h k g = true then srch T ok r (h + 1) (upg g h k) (c + 1) (s + T h) b else b).g j n : Int) ≤ C j := fun k hk b hb => by
      split
      · rename_i q
        exact srch_fit ho (by omega) (up k (fun _ => ho h k g hk q)) hb
      · exact hb
    unfold srch
    exact srch_fit ho (by omega) (up 3 (fun z => absurd z (by decide))) (st 2 (by decide) _ (st 1 (by decide) _ (st 0 (by decide) b hb)))
theorem cntK_3 {k : Nat} (hk : k < 3) : ∀ {n : Nat}, cntK (fun _ => 3) k n = 0
  | 0 => rfl
  | n + 1 => by
    show cntK (fun _ => 3) k n + (if 3 = k then 1 else 0) = 0
    rw [cntK_3 hk, if_neg (by omega)]
theorem cntK_n {g : Nat → Nat} {k : Nat} : ∀ {n : Nat}, cntK g k n = (List.range n).countP (fun i => decide (g i = k))
  | 0 => rfl
  | n + 1 => by
    rw [List.range_succ, List.countP_append, ← cntK_n]
    show cntK g k n + (if g n = k then 1 else 0) = _
    rw [List.countP_cons]
    simp
theorem cntK_10 {g : Nat → Nat} {k n : Nat} (hn : n ≤ 10) : (List.range 10).countP (fun i => decide (i < n) && decide (g i = k)) = cntK g k n := by
  rw [cntK_n, ← pbC_n (a := fun i => decide (g i = k))]
  exact pbC_r (a := fun i => decide (g i = k)) hn
theorem k3_cases {k : Nat} (hk : k < 3) : k = 0 ∨ k = 1 ∨ k = 2 := by omega
theorem fill_core {d' : Nat} {h hB : Hp} {rB : Option Value} {n nS : Nat} {y : Int} (n10 : n ≤ 10) (s3 : nS ≤ 3) (y1 : y ≤ 20000) (en : h.1 4 2 = nI n) (en2 : h.1 66 2 = nI n) (es : h.1 2 2 = nI nS) (es2 : h.1 66 1 = nI nS) (day : (h.1 1 5).toInt = (h.1 66 0).toInt) (d0 : 0 ≤ (h.1 66 0).toInt) (R0 : RLO h 0 0 0) (R16 : RLO h 16 0 0) (R32 : RLO h 32 0 0) (R64 : RLO h 64 0 0) (R112 : RLO h 112 0 0) (R128 : RLO h 128 0 0) (R208 : RLO h 208 0 0) (R256 : RLO h 256 0 0) (R288 : RLO h 288 0 0) (BB : BG h 0 (n : Int)) (U : UBO h 16 y) (FR : FRO h 0 (-1)) (z74 : ∀ k, k < 3 → h.1 74 (nI k) = 0) (hR : ∀ q ∈ rgT, RgO h q) (cB : CRun (d' + 20) 194 [.ref 65] h rB hB) : PLO hB 0 := by
  obtain ⟨T, C, W, B, -, FB, C0, Wp, Cr⟩ := fn_same (h := h) n10 s3 en en2 es es2 day d0 R0 R16 R32 R64 R112 R128 R208 R256 R288 BB U y1 hR
  obtain ⟨F, hF⟩ : ∃ F : Fp, F = mkF n T C W B := ⟨_, rfl⟩
  have FS : RfS F nS h := FB F (by rw [hF]; rfl) (by rw [hF]; rfl) (by rw [hF]; rfl) (by rw [hF]; rfl) (by rw [hF]; rfl)
  have Fn : F.n = n := by rw [hF]; rfl
  have FC : F.C = C := by rw [hF]; rfl
  have FW : F.W = W := by rw [hF]; rfl
  obtain ⟨b, hb'⟩ : ∃ b : Bst, b = srch F.T (okFi F) F.n 0 (fun _ => 3) 0 0 ⟨-1, 0, fun _ => 3⟩ := ⟨_, rfl⟩
  have b0 : 0 ≤ b.c := by rw [hb']; exact srch_c
  have oW : ∀ x k g, okFi F x k g = true → W x k = true ∧ 1 ≤ rmK C g x k := fun x k g q => by
    unfold okFi at q
    rw [Bool.and_eq_true, Bool.and_eq_true, FW, FC, decide_eq_true_eq] at q
    exact ⟨q.1, q.2.1⟩
  have bg : ∀ i, b.g i = 3 ∨ (b.g i < 3 ∧ (b.g i < nS ∧ h.1 66 (nI (51 + 16 * i)) ≠ 1)) := by
    rw [hb']
    exact srch_g (R := fun i k => k < nS ∧ h.1 66 (nI (51 + 16 * i)) ≠ 1) (fun x k g _ q => Wp x k (oW x k g q).1) (fun i => Or.inl rfl) (fun i => Or.inl rfl)
  have bf : ∀ k, k < 3 → (cntK b.g k n : Int) ≤ C k := by
    rw [hb']
    refine srch_fit (n := n) (fun x k g _ q => (oW x k g q).2) (by rw [Fn]; omega) (fun k hk => C0 k hk) (fun k hk => ?_)
    have := C0 k hk
    rw [show Bst.g ((-1, 0, fun _ => 3) : Bst) = fun _ => 3 from rfl, cntK_3 hk]
    exact this
  obtain ⟨m, m30, e30⟩ : ∃ m : Nat, m ≤ 30 ∧ h.1 66 3 = nI m := by
    have q := hR (66, 3, 1, 1, 0, 30) (by decide +kernel) 3 0 (by decide) (by decide) (by decide)
    exact ⟨(h.1 66 3).toInt.toNat, by dsimp only at q; omega, i_nI q.1⟩
  obtain ⟨dB, hdB⟩ : ∃ dB, d' + 19 = dB + F.n + 6 := ⟨d' + 13 - n, by omega⟩
  refine CRun.of (Q := fun _ H => PLO H 0) cB (c_fillB (d := d' + 17) (n := n) (m := m) (R := fun h1 => frR h h1 ∧ RfD F h1 (fun _ => 3) 0 b) (R2 := fun h1 g => g = b.g) n10 m30 (fun {Q} q => ?_) (fun h1 p => ?_) (fun h1 p g eg r h' w => ?_))
  · rw [show d' + 17 + 2 = dB + F.n + 6 from hdB]
    refine c_findB FS (fun k hk => ⟨z74 k hk, by rw [FC]; exact C0 k hk⟩) (fun h' f1 f2 => q h' ⟨f1, ?_⟩)
    rw [hb']
    exact f2
  · obtain ⟨f, D⟩ := p
    have fi := D.fi b0
    rw [Fn] at fi
    exact ⟨b.g, (f.1 66 2 (by omega)).trans en2, (f.1 66 3 (by omega)).trans e30, fi, rfl⟩
  · obtain ⟨f, D⟩ := p
    subst eg
    have nx : ∀ j, h1.1 66 j = h.1 66 j := fun j => f.1 66 j (by omega)
    obtain ⟨w1, w2, w3, w4⟩ := w
    have en' : h'.1 66 2 = nI n := (w2 2 (by decide) (fun i' _ => by omega)).trans ((nx _).trans en2)
    intro k' k0 k3
    obtain ⟨k, rfl⟩ : ∃ k : Nat, k' = (k : Int) := ⟨k'.toNat, by omega⟩
    have k3 : k < 3 := by omega
    have at_ : ∀ i, i < n → (h'.1 66 (nI (48 + 16 * i))).toInt = k → b.g i = k := fun i hi q => by
      obtain ⟨p1, p2⟩ := w4 i hi
      rw [nx] at p1 p2
      by_cases fr : h.1 66 (nI (51 + 16 * i)) = 1
      · rw [p1 fr, nx] at q
        have e51 : rlV h 0 (ubC 0) (51 + 16 * (i : Int)) = 1 := by
          show (h.1 66 (Int32.ofInt _)).toInt = 1
          rw [show (51 + 16 * (i : Int)) = ((51 + 16 * i : Nat) : Int) by omega, nI_ofI (by omega), fr]
          rfl
        have e48 : rlV h 0 (ubC 0) (48 + 16 * (i : Int)) = k := by
          show (h.1 66 (Int32.ofInt _)).toInt = _
          rw [show (48 + 16 * (i : Int)) = ((48 + 16 * i : Nat) : Int) by omega, nI_ofI (by omega), q]
        rcases FR i (by omega) (by omega) (by show (i : Int) < (h.1 66 2).toInt; rw [en2, nI_i (by omega)]; omega) e51 with z | z
        · rw [e48] at z; omega
        · omega
      · rw [p2 fr] at q
        unfold tgI at q
        by_cases g3 : b.g i = 3
        · rw [if_pos g3] at q
          have : (-1 : Int32).toInt = -1 := rfl
          omega
        · rw [if_neg g3] at q
          rcases bg i with z | ⟨z, -⟩
          · exact absurd z g3
          · rw [nI_i (by omega)] at q
            omega
    have le : plN h' 0 k ≤ cntK b.g k n := by
      rw [← cntK_10 n10]
      exact countP_le (fun i hi q => by
        rw [plB_i hi en' n10, Bool.and_eq_true, decide_eq_true_eq, decide_eq_true_eq] at q
        rw [Bool.and_eq_true, decide_eq_true_eq, decide_eq_true_eq]
        exact ⟨q.1, at_ i q.1 q.2⟩)
    by_cases hk : k < nS
    · have q := bf k k3
      rw [Cr k hk] at q
      rw [room_i k3, (w2 (10 + 10 * k) (by omega) (fun i' _ => by omega)).trans (nx _)]
      exact Or.inr (by omega)
    · refine Or.inl (Nat.le_zero.mp (Nat.le_trans le (Nat.le_of_eq ?_)))
      rw [← cntK_10 n10]
      refine List.countP_eq_zero.mpr (fun i _ q => ?_)
      rw [Bool.and_eq_true, decide_eq_true_eq, decide_eq_true_eq] at q
      rcases bg i with z | ⟨-, z, -⟩
      · omega
      · omega
set_option maxHeartbeats 4000000 in
set_option maxRecDepth 100000 in
theorem okP45 : PmOK rgT pm45 := by
  intro d hd ρ as bs h hlen hin hb hc hf hR
  have hd : 28 ≤ d := hd
  have hlen : as.length = 1 := hlen
  generalize hL : as ++ bs = L at hin
  have hin0 := hin
  obtain ⟨v0, s0, rfl, hin⟩ := hin
  rw [if_pos rfl] at hin
  obtain ⟨rfl, -, hin⟩ := hin
  obtain ⟨v1, s1, rfl, hin⟩ := hin
  rw [if_pos rfl] at hin
  obtain ⟨rfl, -, hin⟩ := hin
  cases hin
  obtain ⟨rfl, rfl⟩ := List.append_inj (show as ++ bs = [Value.ref 0] ++ [Value.ref 65] from hL) hlen
  have f0 : (0 : Int) ≤ 0 + (1 * ρ 0 + (-1 * ρ 1 + 0)) := hf _ (List.mem_of_getElem? (i := 0) rfl)
  have f1 : (0 : Int) ≤ 0 + (-1 * ρ 0 + (1 * ρ 1 + 0)) := hf _ (List.mem_of_getElem? (i := 1) rfl)
  have f2 : (0 : Int) ≤ 0 + (1 * ρ 2 + (-1 * ρ 3 + 0)) := hf _ (List.mem_of_getElem? (i := 2) rfl)
  have f3 : (0 : Int) ≤ 0 + (-1 * ρ 2 + (1 * ρ 3 + 0)) := hf _ (List.mem_of_getElem? (i := 3) rfl)
  have f4 : (0 : Int) ≤ 0 + (1 * ρ 4 + (-1 * ρ 5 + 0)) := hf _ (List.mem_of_getElem? (i := 4) rfl)
  have f5 : (0 : Int) ≤ 0 + (-1 * ρ 4 + (1 * ρ 5 + 0)) := hf _ (List.mem_of_getElem? (i := 5) rfl)
  have f6 : (0 : Int) ≤ 0 + (1 * ρ 6 + (-1 * ρ 7 + 0)) := hf _ (List.mem_of_getElem? (i := 6) rfl)
  have f7 : (0 : Int) ≤ 0 + (-1 * ρ 6 + (1 * ρ 7 + 0)) := hf _ (List.mem_of_getElem? (i := 7) rfl)
  have f8 : (0 : Int) ≤ 0 + (1 * ρ 8 + (-1 * ρ 9 + 0)) := hf _ (List.mem_of_getElem? (i := 8) rfl)
  have f9 : (0 : Int) ≤ 0 + (-1 * ρ 8 + (1 * ρ 9 + 0)) := hf _ (List.mem_of_getElem? (i := 9) rfl)
  have f10 : (0 : Int) ≤ 0 + (1 * ρ 10 + (-1 * ρ 11 + 0)) := hf _ (List.mem_of_getElem? (i := 10) rfl)
  have f11 : (0 : Int) ≤ 0 + (-1 * ρ 10 + (1 * ρ 11 + 0)) := hf _ (List.mem_of_getElem? (i := 11) rfl)
  have f12 : (0 : Int) ≤ 0 + (1 * ρ 12 + (-1 * ρ 13 + 0)) := hf _ (List.mem_of_getElem? (i := 12) rfl)
  have f13 : (0 : Int) ≤ 0 + (-1 * ρ 12 + (1 * ρ 13 + 0)) := hf _ (List.mem_of_getElem? (i := 13) rfl)
  have f14 : (0 : Int) ≤ 0 + (1 * ρ 14 + (-1 * ρ 15 + 0)) := hf _ (List.mem_of_getElem? (i := 14) rfl)
  have f15 : (0 : Int) ≤ 0 + (-1 * ρ 14 + (1 * ρ 15 + 0)) := hf _ (List.mem_of_getElem? (i := 15) rfl)
  have f16 : (0 : Int) ≤ 0 + (1 * ρ 16 + (-1 * ρ 17 + 0)) := hf _ (List.mem_of_getElem? (i := 16) rfl)
  have f17 : (0 : Int) ≤ 0 + (-1 * ρ 16 + (1 * ρ 17 + 0)) := hf _ (List.mem_of_getElem? (i := 17) rfl)
  have f18 : (0 : Int) ≤ 0 + (1 * ρ 18 + (-1 * ρ 19 + 0)) := hf _ (List.mem_of_getElem? (i := 18) rfl)
  have f19 : (0 : Int) ≤ 0 + (-1 * ρ 18 + (1 * ρ 19 + 0)) := hf _ (List.mem_of_getElem? (i := 19) rfl)
  have f20 : (0 : Int) ≤ 0 + (1 * ρ 0 + (-1 * ρ 52 + 0)) := hf _ (List.mem_of_getElem? (i := 20) rfl)
  have f21 : (0 : Int) ≤ 0 + (-1 * ρ 0 + (1 * ρ 52 + 0)) := hf _ (List.mem_of_getElem? (i := 21) rfl)
  have f22 : (0 : Int) ≤ 0 + (1 * ρ 2 + (-1 * ρ 53 + 0)) := hf _ (List.mem_of_getElem? (i := 22) rfl)
  have f23 : (0 : Int) ≤ 0 + (-1 * ρ 2 + (1 * ρ 53 + 0)) := hf _ (List.mem_of_getElem? (i := 23) rfl)
  have f24 : (0 : Int) ≤ 0 + (1 * ρ 2 + (-1 * ρ 54 + 0)) := hf _ (List.mem_of_getElem? (i := 24) rfl)
  have f25 : (0 : Int) ≤ 0 + (-1 * ρ 2 + (1 * ρ 54 + 0)) := hf _ (List.mem_of_getElem? (i := 25) rfl)
  have f26 : (0 : Int) ≤ 0 + (1 * ρ 2 + (-1 * ρ 55 + 0)) := hf _ (List.mem_of_getElem? (i := 26) rfl)
  have f27 : (0 : Int) ≤ 0 + (-1 * ρ 2 + (1 * ρ 55 + 0)) := hf _ (List.mem_of_getElem? (i := 27) rfl)
  have f28 : (0 : Int) ≤ 0 + (1 * ρ 2 + (-1 * ρ 56 + 0)) := hf _ (List.mem_of_getElem? (i := 28) rfl)
  have f29 : (0 : Int) ≤ 0 + (-1 * ρ 2 + (1 * ρ 56 + 0)) := hf _ (List.mem_of_getElem? (i := 29) rfl)
  have f30 : (0 : Int) ≤ 0 + (1 * ρ 0 + (-1 * ρ 57 + 0)) := hf _ (List.mem_of_getElem? (i := 30) rfl)
  have f31 : (0 : Int) ≤ 0 + (-1 * ρ 0 + (1 * ρ 57 + 0)) := hf _ (List.mem_of_getElem? (i := 31) rfl)
  have f32 : (0 : Int) ≤ 0 + (1 * ρ 0 + (-1 * ρ 58 + 0)) := hf _ (List.mem_of_getElem? (i := 32) rfl)
  have f33 : (0 : Int) ≤ 0 + (-1 * ρ 0 + (1 * ρ 58 + 0)) := hf _ (List.mem_of_getElem? (i := 33) rfl)
  have f34 : (0 : Int) ≤ 0 + (1 * ρ 8 + (-1 * ρ 59 + 0)) := hf _ (List.mem_of_getElem? (i := 34) rfl)
  have f35 : (0 : Int) ≤ 0 + (-1 * ρ 8 + (1 * ρ 59 + 0)) := hf _ (List.mem_of_getElem? (i := 35) rfl)
  have f36 : (0 : Int) ≤ 0 + (10 * ρ 6 + (-1 * ρ 60 + 0)) := hf _ (List.mem_of_getElem? (i := 36) rfl)
  have f37 : (0 : Int) ≤ 0 + (-10 * ρ 6 + (1 * ρ 60 + 0)) := hf _ (List.mem_of_getElem? (i := 37) rfl)
  have f38 : (0 : Int) ≤ 0 + (1 * ρ 2 + (-1 * ρ 61 + 0)) := hf _ (List.mem_of_getElem? (i := 38) rfl)
  have f39 : (0 : Int) ≤ 0 + (-1 * ρ 2 + (1 * ρ 61 + 0)) := hf _ (List.mem_of_getElem? (i := 39) rfl)
  have r0 : (0 : Int) ≤ ρ 0 ∧ ρ 0 ≤ 3 := hb (0, 0, 3) (List.mem_of_getElem? (i := 0) rfl)
  have c0 : ρ 0 = (h.1 2 2).toInt := hc_i (hc (0, 2, (2, []), leX 0) (List.mem_of_getElem? (i := 0) rfl)) rfl
  have r1 : (0 : Int) ≤ ρ 1 ∧ ρ 1 ≤ 3 := hb (1, 0, 3) (List.mem_of_getElem? (i := 1) rfl)
  have c1 : ρ 1 = (h.1 66 1).toInt := hc_i (hc (0, 66, (1, []), leX 1) (List.mem_of_getElem? (i := 1) rfl)) rfl
  have r2 : (0 : Int) ≤ ρ 2 ∧ ρ 2 ≤ 10 := hb (2, 0, 10) (List.mem_of_getElem? (i := 2) rfl)
  have c2 : ρ 2 = (h.1 4 2).toInt := hc_i (hc (0, 4, (2, []), leX 2) (List.mem_of_getElem? (i := 2) rfl)) rfl
  have r3 : (0 : Int) ≤ ρ 3 ∧ ρ 3 ≤ 10 := hb (3, 0, 10) (List.mem_of_getElem? (i := 3) rfl)
  have c3 : ρ 3 = (h.1 66 2).toInt := hc_i (hc (0, 66, (2, []), leX 3) (List.mem_of_getElem? (i := 3) rfl)) rfl
  have r4 : (0 : Int) ≤ ρ 4 ∧ ρ 4 ≤ 12 := hb (4, 0, 12) (List.mem_of_getElem? (i := 4) rfl)
  have c4 : ρ 4 = (h.1 8 2).toInt := hc_i (hc (0, 8, (2, []), leX 4) (List.mem_of_getElem? (i := 4) rfl)) rfl
  have r5 : (0 : Int) ≤ ρ 5 ∧ ρ 5 ≤ 12 := hb (5, 0, 12) (List.mem_of_getElem? (i := 5) rfl)
  have c5 : ρ 5 = (h.1 66 4).toInt := hc_i (hc (0, 66, (4, []), leX 5) (List.mem_of_getElem? (i := 5) rfl)) rfl
  have r6 : (0 : Int) ≤ ρ 6 ∧ ρ 6 ≤ 999 := hb (6, 0, 999) (List.mem_of_getElem? (i := 6) rfl)
  have c6 : ρ 6 = (h.1 1 5).toInt := hc_i (hc (0, 1, (5, []), leX 6) (List.mem_of_getElem? (i := 6) rfl)) rfl
  have r7 : (0 : Int) ≤ ρ 7 ∧ ρ 7 ≤ 999 := hb (7, 0, 999) (List.mem_of_getElem? (i := 7) rfl)
  have c7 : ρ 7 = (h.1 66 0).toInt := hc_i (hc (0, 66, (0, []), leX 7) (List.mem_of_getElem? (i := 7) rfl)) rfl
  have r8 : (0 : Int) ≤ ρ 8 ∧ ρ 8 ≤ 30 := hb (8, 0, 30) (List.mem_of_getElem? (i := 8) rfl)
  have c8 : ρ 8 = (h.1 6 2).toInt := hc_i (hc (0, 6, (2, []), leX 8) (List.mem_of_getElem? (i := 8) rfl)) rfl
  have r9 : (0 : Int) ≤ ρ 9 ∧ ρ 9 ≤ 30 := hb (9, 0, 30) (List.mem_of_getElem? (i := 9) rfl)
  have c9 : ρ 9 = (h.1 66 3).toInt := hc_i (hc (0, 66, (3, []), leX 9) (List.mem_of_getElem? (i := 9) rfl)) rfl
  have r10 : (0 : Int) ≤ ρ 10 ∧ ρ 10 ≤ 3 := hb (10, 0, 3) (List.mem_of_getElem? (i := 10) rfl)
  have c10 : ρ 10 = (h.1 13 2).toInt := hc_i (hc (0, 13, (2, []), leX 10) (List.mem_of_getElem? (i := 10) rfl)) rfl
  have r11 : (0 : Int) ≤ ρ 11 ∧ ρ 11 ≤ 3 := hb (11, 0, 3) (List.mem_of_getElem? (i := 11) rfl)
  have c11 : ρ 11 = (h.1 67 1).toInt := hc_i (hc (0, 67, (1, []), leX 11) (List.mem_of_getElem? (i := 11) rfl)) rfl
  have r12 : (0 : Int) ≤ ρ 12 ∧ ρ 12 ≤ 10 := hb (12, 0, 10) (List.mem_of_getElem? (i := 12) rfl)
  have c12 : ρ 12 = (h.1 15 2).toInt := hc_i (hc (0, 15, (2, []), leX 12) (List.mem_of_getElem? (i := 12) rfl)) rfl
  have r13 : (0 : Int) ≤ ρ 13 ∧ ρ 13 ≤ 10 := hb (13, 0, 10) (List.mem_of_getElem? (i := 13) rfl)
  have c13 : ρ 13 = (h.1 67 2).toInt := hc_i (hc (0, 67, (2, []), leX 13) (List.mem_of_getElem? (i := 13) rfl)) rfl
  have r14 : (0 : Int) ≤ ρ 14 ∧ ρ 14 ≤ 12 := hb (14, 0, 12) (List.mem_of_getElem? (i := 14) rfl)
  have c14 : ρ 14 = (h.1 19 2).toInt := hc_i (hc (0, 19, (2, []), leX 14) (List.mem_of_getElem? (i := 14) rfl)) rfl
  have r15 : (0 : Int) ≤ ρ 15 ∧ ρ 15 ≤ 12 := hb (15, 0, 12) (List.mem_of_getElem? (i := 15) rfl)
  have c15 : ρ 15 = (h.1 67 4).toInt := hc_i (hc (0, 67, (4, []), leX 15) (List.mem_of_getElem? (i := 15) rfl)) rfl
  have r16 : (0 : Int) ≤ ρ 16 ∧ ρ 16 ≤ 999 := hb (16, 0, 999) (List.mem_of_getElem? (i := 16) rfl)
  have c16 : ρ 16 = (h.1 12 5).toInt := hc_i (hc (0, 12, (5, []), leX 16) (List.mem_of_getElem? (i := 16) rfl)) rfl
  have r17 : (0 : Int) ≤ ρ 17 ∧ ρ 17 ≤ 999 := hb (17, 0, 999) (List.mem_of_getElem? (i := 17) rfl)
  have c17 : ρ 17 = (h.1 67 0).toInt := hc_i (hc (0, 67, (0, []), leX 17) (List.mem_of_getElem? (i := 17) rfl)) rfl
  have r18 : (0 : Int) ≤ ρ 18 ∧ ρ 18 ≤ 30 := hb (18, 0, 30) (List.mem_of_getElem? (i := 18) rfl)
  have c18 : ρ 18 = (h.1 17 2).toInt := hc_i (hc (0, 17, (2, []), leX 18) (List.mem_of_getElem? (i := 18) rfl)) rfl
  have r19 : (0 : Int) ≤ ρ 19 ∧ ρ 19 ≤ 30 := hb (19, 0, 30) (List.mem_of_getElem? (i := 19) rfl)
  have c19 : ρ 19 = (h.1 67 3).toInt := hc_i (hc (0, 67, (3, []), leX 19) (List.mem_of_getElem? (i := 19) rfl)) rfl
  have r20 : (0 : Int) ≤ ρ 20 ∧ ρ 20 ≤ 0 := hb (20, 0, 0) (List.mem_of_getElem? (i := 20) rfl)
  have c20 : KC h 14 0 0 (ρ 20) := kc_at (hc (14, 0, (0, []), leX 20) (List.mem_of_getElem? (i := 20) rfl))
  have r21 : (0 : Int) ≤ ρ 21 ∧ ρ 21 ≤ 0 := hb (21, 0, 0) (List.mem_of_getElem? (i := 21) rfl)
  have c21 : KC h 14 4 0 (ρ 21) := kc_at (hc (14, 4, (0, []), leX 21) (List.mem_of_getElem? (i := 21) rfl))
  have r22 : (0 : Int) ≤ ρ 22 ∧ ρ 22 ≤ 0 := hb (22, 0, 0) (List.mem_of_getElem? (i := 22) rfl)
  have c22 : ρ 22 = (h.1 74 0).toInt := hc_i (hc (0, 74, (0, []), leX 22) (List.mem_of_getElem? (i := 22) rfl)) rfl
  have r23 : (0 : Int) ≤ ρ 23 ∧ ρ 23 ≤ 0 := hb (23, 0, 0) (List.mem_of_getElem? (i := 23) rfl)
  have c23 : ρ 23 = (h.1 74 1).toInt := hc_i (hc (0, 74, (1, []), leX 23) (List.mem_of_getElem? (i := 23) rfl)) rfl
  have r24 : (0 : Int) ≤ ρ 24 ∧ ρ 24 ≤ 0 := hb (24, 0, 0) (List.mem_of_getElem? (i := 24) rfl)
  have c24 : ρ 24 = (h.1 74 2).toInt := hc_i (hc (0, 74, (2, []), leX 24) (List.mem_of_getElem? (i := 24) rfl)) rfl
  have r25 : (-1 : Int) ≤ ρ 25 ∧ ρ 25 ≤ -1 := hb (25, (-1), (-1)) (List.mem_of_getElem? (i := 25) rfl)
  have c25 : KC h 17 0 0 (ρ 25) := kc_at (hc (17, 0, (0, []), leX 25) (List.mem_of_getElem? (i := 25) rfl))
  have r26 : (0 : Int) ≤ ρ 26 ∧ ρ 26 ≤ 0 := hb (26, 0, 0) (List.mem_of_getElem? (i := 26) rfl)
  have c26 : KC h 9 0 0 (ρ 26) := kc_at (hc (9, 0, (0, []), leX 26) (List.mem_of_getElem? (i := 26) rfl))
  have r27 : (0 : Int) ≤ ρ 27 ∧ ρ 27 ≤ 0 := hb (27, 0, 0) (List.mem_of_getElem? (i := 27) rfl)
  have c27 : KC h 9 16 0 (ρ 27) := kc_at (hc (9, 16, (0, []), leX 27) (List.mem_of_getElem? (i := 27) rfl))
  have r28 : (0 : Int) ≤ ρ 28 ∧ ρ 28 ≤ 0 := hb (28, 0, 0) (List.mem_of_getElem? (i := 28) rfl)
  have c28 : KC h 9 32 0 (ρ 28) := kc_at (hc (9, 32, (0, []), leX 28) (List.mem_of_getElem? (i := 28) rfl))
  have r29 : (0 : Int) ≤ ρ 29 ∧ ρ 29 ≤ 0 := hb (29, 0, 0) (List.mem_of_getElem? (i := 29) rfl)
  have c29 : KC h 9 48 0 (ρ 29) := kc_at (hc (9, 48, (0, []), leX 29) (List.mem_of_getElem? (i := 29) rfl))
  have r30 : (0 : Int) ≤ ρ 30 ∧ ρ 30 ≤ 0 := hb (30, 0, 0) (List.mem_of_getElem? (i := 30) rfl)
  have c30 : KC h 9 64 0 (ρ 30) := kc_at (hc (9, 64, (0, []), leX 30) (List.mem_of_getElem? (i := 30) rfl))
  have r31 : (0 : Int) ≤ ρ 31 ∧ ρ 31 ≤ 0 := hb (31, 0, 0) (List.mem_of_getElem? (i := 31) rfl)
  have c31 : KC h 9 80 0 (ρ 31) := kc_at (hc (9, 80, (0, []), leX 31) (List.mem_of_getElem? (i := 31) rfl))
  have r32 : (0 : Int) ≤ ρ 32 ∧ ρ 32 ≤ 0 := hb (32, 0, 0) (List.mem_of_getElem? (i := 32) rfl)
  have c32 : KC h 9 96 0 (ρ 32) := kc_at (hc (9, 96, (0, []), leX 32) (List.mem_of_getElem? (i := 32) rfl))
  have r33 : (0 : Int) ≤ ρ 33 ∧ ρ 33 ≤ 0 := hb (33, 0, 0) (List.mem_of_getElem? (i := 33) rfl)
  have c33 : KC h 9 112 0 (ρ 33) := kc_at (hc (9, 112, (0, []), leX 33) (List.mem_of_getElem? (i := 33) rfl))
  have r34 : (0 : Int) ≤ ρ 34 ∧ ρ 34 ≤ 0 := hb (34, 0, 0) (List.mem_of_getElem? (i := 34) rfl)
  have c34 : KC h 9 128 0 (ρ 34) := kc_at (hc (9, 128, (0, []), leX 34) (List.mem_of_getElem? (i := 34) rfl))
  have r35 : (0 : Int) ≤ ρ 35 ∧ ρ 35 ≤ 0 := hb (35, 0, 0) (List.mem_of_getElem? (i := 35) rfl)
  have c35 : KC h 9 144 0 (ρ 35) := kc_at (hc (9, 144, (0, []), leX 35) (List.mem_of_getElem? (i := 35) rfl))
  have r36 : (0 : Int) ≤ ρ 36 ∧ ρ 36 ≤ 0 := hb (36, 0, 0) (List.mem_of_getElem? (i := 36) rfl)
  have c36 : KC h 9 208 0 (ρ 36) := kc_at (hc (9, 208, (0, []), leX 36) (List.mem_of_getElem? (i := 36) rfl))
  have r37 : (0 : Int) ≤ ρ 37 ∧ ρ 37 ≤ 0 := hb (37, 0, 0) (List.mem_of_getElem? (i := 37) rfl)
  have c37 : KC h 9 224 0 (ρ 37) := kc_at (hc (9, 224, (0, []), leX 37) (List.mem_of_getElem? (i := 37) rfl))
  have r38 : (0 : Int) ≤ ρ 38 ∧ ρ 38 ≤ 0 := hb (38, 0, 0) (List.mem_of_getElem? (i := 38) rfl)
  have c38 : KC h 9 240 0 (ρ 38) := kc_at (hc (9, 240, (0, []), leX 38) (List.mem_of_getElem? (i := 38) rfl))
  have r39 : (0 : Int) ≤ ρ 39 ∧ ρ 39 ≤ 0 := hb (39, 0, 0) (List.mem_of_getElem? (i := 39) rfl)
  have c39 : KC h 9 256 0 (ρ 39) := kc_at (hc (9, 256, (0, []), leX 39) (List.mem_of_getElem? (i := 39) rfl))
  have r40 : (0 : Int) ≤ ρ 40 ∧ ρ 40 ≤ 0 := hb (40, 0, 0) (List.mem_of_getElem? (i := 40) rfl)
  have c40 : KC h 9 288 0 (ρ 40) := kc_at (hc (9, 288, (0, []), leX 40) (List.mem_of_getElem? (i := 40) rfl))
  have r41 : (0 : Int) ≤ ρ 41 ∧ ρ 41 ≤ 0 := hb (41, 0, 0) (List.mem_of_getElem? (i := 41) rfl)
  have c41 : KC h 9 304 0 (ρ 41) := kc_at (hc (9, 304, (0, []), leX 41) (List.mem_of_getElem? (i := 41) rfl))
  have r42 : (0 : Int) ≤ ρ 42 ∧ ρ 42 ≤ 0 := hb (42, 0, 0) (List.mem_of_getElem? (i := 42) rfl)
  have c42 : KC h 9 320 0 (ρ 42) := kc_at (hc (9, 320, (0, []), leX 42) (List.mem_of_getElem? (i := 42) rfl))
  have r43 : (0 : Int) ≤ ρ 43 ∧ ρ 43 ≤ 0 := hb (43, 0, 0) (List.mem_of_getElem? (i := 43) rfl)
  have c43 : KC h 9 336 0 (ρ 43) := kc_at (hc (9, 336, (0, []), leX 43) (List.mem_of_getElem? (i := 43) rfl))
  have r44 : (0 : Int) ≤ ρ 44 ∧ ρ 44 ≤ 0 := hb (44, 0, 0) (List.mem_of_getElem? (i := 44) rfl)
  have c44 : KC h 9 352 0 (ρ 44) := kc_at (hc (9, 352, (0, []), leX 44) (List.mem_of_getElem? (i := 44) rfl))
  have r45 : (0 : Int) ≤ ρ 45 ∧ ρ 45 ≤ 0 := hb (45, 0, 0) (List.mem_of_getElem? (i := 45) rfl)
  have c45 : KC h 9 368 0 (ρ 45) := kc_at (hc (9, 368, (0, []), leX 45) (List.mem_of_getElem? (i := 45) rfl))
  have r46 : (0 : Int) ≤ ρ 46 ∧ ρ 46 ≤ 0 := hb (46, 0, 0) (List.mem_of_getElem? (i := 46) rfl)
  have c46 : KC h 9 384 0 (ρ 46) := kc_at (hc (9, 384, (0, []), leX 46) (List.mem_of_getElem? (i := 46) rfl))
  have r47 : (0 : Int) ≤ ρ 47 ∧ ρ 47 ≤ 0 := hb (47, 0, 0) (List.mem_of_getElem? (i := 47) rfl)
  have c47 : KC h 9 400 0 (ρ 47) := kc_at (hc (9, 400, (0, []), leX 47) (List.mem_of_getElem? (i := 47) rfl))
  have r48 : (0 : Int) ≤ ρ 48 ∧ ρ 48 ≤ 0 := hb (48, 0, 0) (List.mem_of_getElem? (i := 48) rfl)
  have c48 : KC h 9 416 0 (ρ 48) := kc_at (hc (9, 416, (0, []), leX 48) (List.mem_of_getElem? (i := 48) rfl))
  have r49 : (0 : Int) ≤ ρ 49 ∧ ρ 49 ≤ 0 := hb (49, 0, 0) (List.mem_of_getElem? (i := 49) rfl)
  have c49 : KC h 9 432 0 (ρ 49) := kc_at (hc (9, 432, (0, []), leX 49) (List.mem_of_getElem? (i := 49) rfl))
  have r50 : (0 : Int) ≤ ρ 50 ∧ ρ 50 ≤ 0 := hb (50, 0, 0) (List.mem_of_getElem? (i := 50) rfl)
  have c50 : KC h 9 576 0 (ρ 50) := kc_at (hc (9, 576, (0, []), leX 50) (List.mem_of_getElem? (i := 50) rfl))
  have r51 : (0 : Int) ≤ ρ 51 ∧ ρ 51 ≤ 0 := hb (51, 0, 0) (List.mem_of_getElem? (i := 51) rfl)
  have c51 : KC h 9 592 0 (ρ 51) := kc_at (hc (9, 592, (0, []), leX 51) (List.mem_of_getElem? (i := 51) rfl))
  have r52 : (0 : Int) ≤ ρ 52 ∧ ρ 52 ≤ 3 := hb (52, 0, 3) (List.mem_of_getElem? (i := 52) rfl)
  have c52 : KC h 11 64 0 (ρ 52) := kc_at (hc (11, 64, (0, []), leX 52) (List.mem_of_getElem? (i := 52) rfl))
  have r53 : (0 : Int) ≤ ρ 53 ∧ ρ 53 ≤ 10 := hb (53, 0, 10) (List.mem_of_getElem? (i := 53) rfl)
  have c53 : KC h 11 208 0 (ρ 53) := kc_at (hc (11, 208, (0, []), leX 53) (List.mem_of_getElem? (i := 53) rfl))
  have r54 : (0 : Int) ≤ ρ 54 ∧ ρ 54 ≤ 10 := hb (54, 0, 10) (List.mem_of_getElem? (i := 54) rfl)
  have c54 : KC h 11 224 0 (ρ 54) := kc_at (hc (11, 224, (0, []), leX 54) (List.mem_of_getElem? (i := 54) rfl))
  have r55 : (0 : Int) ≤ ρ 55 ∧ ρ 55 ≤ 10 := hb (55, 0, 10) (List.mem_of_getElem? (i := 55) rfl)
  have c55 : KC h 11 288 0 (ρ 55) := kc_at (hc (11, 288, (0, []), leX 55) (List.mem_of_getElem? (i := 55) rfl))
  have r56 : (0 : Int) ≤ ρ 56 ∧ ρ 56 ≤ 10 := hb (56, 0, 10) (List.mem_of_getElem? (i := 56) rfl)
  have c56 : KC h 11 304 0 (ρ 56) := kc_at (hc (11, 304, (0, []), leX 56) (List.mem_of_getElem? (i := 56) rfl))
  have r57 : (0 : Int) ≤ ρ 57 ∧ ρ 57 ≤ 3 := hb (57, 0, 3) (List.mem_of_getElem? (i := 57) rfl)
  have c57 : KC h 11 80 0 (ρ 57) := kc_at (hc (11, 80, (0, []), leX 57) (List.mem_of_getElem? (i := 57) rfl))
  have r58 : (0 : Int) ≤ ρ 58 ∧ ρ 58 ≤ 3 := hb (58, 0, 3) (List.mem_of_getElem? (i := 58) rfl)
  have c58 : KC h 11 96 0 (ρ 58) := kc_at (hc (11, 96, (0, []), leX 58) (List.mem_of_getElem? (i := 58) rfl))
  have r59 : (0 : Int) ≤ ρ 59 ∧ ρ 59 ≤ 30 := hb (59, 0, 30) (List.mem_of_getElem? (i := 59) rfl)
  have c59 : KC h 11 432 0 (ρ 59) := kc_at (hc (11, 432, (0, []), leX 59) (List.mem_of_getElem? (i := 59) rfl))
  have r60 : (0 : Int) ≤ ρ 60 ∧ ρ 60 ≤ 20000 := hb (60, 0, 20000) (List.mem_of_getElem? (i := 60) rfl)
  have c60 : KC h 14 16 0 (ρ 60) := kc_at (hc (14, 16, (0, []), leX 60) (List.mem_of_getElem? (i := 60) rfl))
  have r61 : (0 : Int) ≤ ρ 61 ∧ ρ 61 ≤ 10 := hb (61, 0, 10) (List.mem_of_getElem? (i := 61) rfl)
  have c61 : KC h 12 0 0 (ρ 61) := kc_at (hc (12, 0, (0, []), leX 61) (List.mem_of_getElem? (i := 61) rfl))
  have r62 : (0 : Int) ≤ ρ 62 ∧ ρ 62 ≤ 0 := hb (62, 0, 0) (List.mem_of_getElem? (i := 62) rfl)
  have c62 : KC h 16 0 0 (ρ 62) := kc_at (hc (16, 0, (0, []), leX 62) (List.mem_of_getElem? (i := 62) rfl))
  have sb : ∀ q ∈ gbL pm25.2.2.1.2.2.2.1 0, q ∈ gbL pm45.2.2.1.2.2.2.1 0 := by decide +kernel
  have sc : ∀ q ∈ celG 0 pm25.2.2.1.2.2.2.1, q ∈ celG 0 pm45.2.2.1.2.2.2.1 := by decide +kernel
  obtain ⟨rA, hA, rB, hB, cA, cB, x1, x2, x3, x4, RG, FR, oe, hoe, ρ2, ag, bd, rt, rt', kc, fc'⟩ := okP25 d hd ρ [.ref 0] [.ref 65] h rfl hin0 (fun q hq => hb q (sb q hq)) (fun q hq => hc q (sc q hq)) hf hR
  obtain rfl := List.mem_singleton.mp hoe
  clear hin0 hb hc hf sb sc
  obtain ⟨n, hn⟩ : ∃ n : Nat, (n : Int) = ρ 2 := ⟨(ρ 2).toNat, Int.toNat_of_nonneg r2.1⟩
  obtain ⟨nS, hnS⟩ : ∃ n : Nat, (n : Int) = ρ 0 := ⟨(ρ 0).toNat, Int.toNat_of_nonneg r0.1⟩
  have en : h.1 4 2 = nI n := cnt_n hn c2
  have en2 : h.1 66 2 = nI n := cnt_n (hn.trans (eqI f2 f3)) c3
  have es : h.1 2 2 = nI nS := cnt_n hnS c0
  have es2 : h.1 66 1 = nI nS := cnt_n (hnS.trans (eqI f0 f1)) c1
  have R0 : RLO h 0 0 0 := by have q := c26; rw [show ρ 26 = 0 from Int.le_antisymm r26.2 r26.1] at q; exact q
  have R16 : RLO h 16 0 0 := by have q := c27; rw [show ρ 27 = 0 from Int.le_antisymm r27.2 r27.1] at q; exact q
  have R32 : RLO h 32 0 0 := by have q := c28; rw [show ρ 28 = 0 from Int.le_antisymm r28.2 r28.1] at q; exact q
  have R64 : RLO h 64 0 0 := by have q := c30; rw [show ρ 30 = 0 from Int.le_antisymm r30.2 r30.1] at q; exact q
  have R112 : RLO h 112 0 0 := by have q := c33; rw [show ρ 33 = 0 from Int.le_antisymm r33.2 r33.1] at q; exact q
  have R128 : RLO h 128 0 0 := by have q := c34; rw [show ρ 34 = 0 from Int.le_antisymm r34.2 r34.1] at q; exact q
  have R208 : RLO h 208 0 0 := by have q := c36; rw [show ρ 36 = 0 from Int.le_antisymm r36.2 r36.1] at q; exact q
  have R256 : RLO h 256 0 0 := by have q := c39; rw [show ρ 39 = 0 from Int.le_antisymm r39.2 r39.1] at q; exact q
  have R288 : RLO h 288 0 0 := by have q := c40; rw [show ρ 40 = 0 from Int.le_antisymm r40.2 r40.1] at q; exact q
  have BB : BG h 0 (n : Int) := by have q := c61; rw [(eqI f38 f39).symm.trans hn.symm] at q; exact q
  have F0 : FRO h 0 (-1) := by have q := c25; rw [show ρ 25 = -1 from Int.le_antisymm r25.2 r25.1] at q; exact q
  have z74 : ∀ k, k < 3 → h.1 74 (nI k) = 0 := fun k hk => by
    have : k = 0 ∨ k = 1 ∨ k = 2 := k3_cases hk
    rcases this with rfl | rfl | rfl
    · exact Int32.toInt_inj.mp (c22.symm.trans (Int.le_antisymm r22.2 r22.1))
    · exact Int32.toInt_inj.mp (c23.symm.trans (Int.le_antisymm r23.2 r23.1))
    · exact Int32.toInt_inj.mp (c24.symm.trans (Int.le_antisymm r24.2 r24.1))
  obtain ⟨d', rfl⟩ : ∃ d', d = d' + 20 := ⟨d - 20, (Nat.sub_add_cancel (Nat.le_trans (by decide) hd)).symm⟩
  have PL : PLO hB 0 := fill_core (d' := d') (n := n) (nS := nS) (y := ρ 60) (cnt_le (m := 10) hn r2.2) (cnt_le (m := 3) hnS r0.2) r60.2 en en2 es es2 (c6.symm.trans ((eqI f6 f7).trans c7)) (c7 ▸ r7.1) R0 R16 R32 R64 R112 R128 R208 R256 R288 BB c60 F0 z74 hR cB
  have PL2 : KC (mxH true hA hB) 16 0 0 0 := ⟨rfl, PLO_cong (fun o' j q => mx_off (by
    have := q
    obtain ⟨rfl, -⟩ := this
    decide)) PL⟩
  have ag : ∀ k, k < 62 → ρ2 k = ρ k := ag
  obtain ⟨xa, rfl, ea⟩ := rt
  obtain ⟨xb, rfl, eb⟩ := rt'
  have ea : leV ρ2 (leX 62) = xa.toInt := ea
  have eb : leV ρ2 (leX 62) = xb.toInt := eb
  rw [leV_X] at ea eb
  refine ⟨_, hA, _, hB, cA, cB, x1, x2, x3, x4, RG, FR, _, List.mem_singleton.mpr rfl, updS ρ 63 xa.toInt, upd_ag, ?_, ⟨xa, rfl, ?_⟩, ⟨xb, rfl, ?_⟩, List.forall_mem_cons.mpr ⟨kc_C (kc_c (kc (14, 0, (0, []), (0, [])) (List.mem_of_getElem? (i := 0) rfl))), List.forall_mem_cons.mpr ⟨kc_C (kc_c (kc (14, 4, (0, []), (0, [])) (List.mem_of_getElem? (i := 1) rfl))), List.forall_mem_cons.mpr ⟨kc_C (kc_c (kc (0, 74, (0, []), (0, [])) (List.mem_of_getElem? (i := 2) rfl))), List.forall_mem_cons.mpr ⟨kc_C (kc_c (kc (0, 74, (1, []), (0, [])) (List.mem_of_getElem? (i := 3) rfl))), List.forall_mem_cons.mpr ⟨kc_C (kc_c (kc (0, 74, (2, []), (0, [])) (List.mem_of_getElem? (i := 4) rfl))), List.forall_mem_cons.mpr ⟨kc_C (kc_c (kc (17, 0, (0, []), ((-1), [])) (List.mem_of_getElem? (i := 5) rfl))), List.forall_mem_cons.mpr ⟨kc_C (kc_c (kc (9, 112, (0, []), (0, [])) (List.mem_of_getElem? (i := 6) rfl))), List.forall_mem_cons.mpr ⟨kc_C (kc_c (kc (9, 128, (0, []), (0, [])) (List.mem_of_getElem? (i := 7) rfl))), List.forall_mem_cons.mpr ⟨kc_C (kc_c (kc (9, 144, (0, []), (0, [])) (List.mem_of_getElem? (i := 8) rfl))), List.forall_mem_cons.mpr ⟨kc_C (kc_c (kc (9, 208, (0, []), (0, [])) (List.mem_of_getElem? (i := 9) rfl))), List.forall_mem_cons.mpr ⟨kc_C (kc_c (kc (9, 224, (0, []), (0, [])) (List.mem_of_getElem? (i := 10) rfl))), List.forall_mem_cons.mpr ⟨kc_C (kc_c (kc (9, 240, (0, []), (0, [])) (List.mem_of_getElem? (i := 11) rfl))), List.forall_mem_cons.mpr ⟨kc_C (kc_c (kc (9, 256, (0, []), (0, [])) (List.mem_of_getElem? (i := 12) rfl))), List.forall_mem_cons.mpr ⟨kc_C (kc_c (kc (9, 288, (0, []), (0, [])) (List.mem_of_getElem? (i := 13) rfl))), List.forall_mem_cons.mpr ⟨kc_C (kc_c (kc (9, 304, (0, []), (0, [])) (List.mem_of_getElem? (i := 14) rfl))), List.forall_mem_cons.mpr ⟨kc_C (kc_c (kc (9, 320, (0, []), (0, [])) (List.mem_of_getElem? (i := 15) rfl))), List.forall_mem_cons.mpr ⟨kc_C (kc_c (kc (9, 336, (0, []), (0, [])) (List.mem_of_getElem? (i := 16) rfl))), List.forall_mem_cons.mpr ⟨kc_C (kc_c (kc (9, 352, (0, []), (0, [])) (List.mem_of_getElem? (i := 17) rfl))), List.forall_mem_cons.mpr ⟨kc_C (kc_c (kc (9, 368, (0, []), (0, [])) (List.mem_of_getElem? (i := 18) rfl))), List.forall_mem_cons.mpr ⟨kc_C (kc_c (kc (9, 384, (0, []), (0, [])) (List.mem_of_getElem? (i := 19) rfl))), List.forall_mem_cons.mpr ⟨kc_C (kc_c (kc (9, 400, (0, []), (0, [])) (List.mem_of_getElem? (i := 20) rfl))), List.forall_mem_cons.mpr ⟨kc_C (kc_c (kc (9, 416, (0, []), (0, [])) (List.mem_of_getElem? (i := 21) rfl))), List.forall_mem_cons.mpr ⟨kc_C (kc_c (kc (9, 432, (0, []), (0, [])) (List.mem_of_getElem? (i := 22) rfl))), List.forall_mem_cons.mpr ⟨kc_C (kc_c (kc (9, 576, (0, []), (0, [])) (List.mem_of_getElem? (i := 23) rfl))), List.forall_mem_cons.mpr ⟨kc_C (kc_c (kc (9, 592, (0, []), (0, [])) (List.mem_of_getElem? (i := 24) rfl))), List.forall_mem_cons.mpr ⟨kc_X (updS_lt (by decide)) (by have q := kc_at (kc (11, 208, (0, []), (0, [(53, 1)])) (List.mem_of_getElem? (i := 25) rfl)); rw [ag 53 (by decide)] at q; exact q), List.forall_mem_cons.mpr ⟨kc_X (updS_lt (by decide)) (by have q := kc_at (kc (11, 224, (0, []), (0, [(54, 1)])) (List.mem_of_getElem? (i := 26) rfl)); rw [ag 54 (by decide)] at q; exact q), List.forall_mem_cons.mpr ⟨kc_X (updS_lt (by decide)) (by have q := kc_at (kc (11, 288, (0, []), (0, [(55, 1)])) (List.mem_of_getElem? (i := 27) rfl)); rw [ag 55 (by decide)] at q; exact q), List.forall_mem_cons.mpr ⟨kc_X (updS_lt (by decide)) (by have q := kc_at (kc (11, 304, (0, []), (0, [(56, 1)])) (List.mem_of_getElem? (i := 28) rfl)); rw [ag 56 (by decide)] at q; exact q), List.forall_mem_cons.mpr ⟨kc_X (updS_lt (by decide)) (by have q := kc_at (kc (11, 432, (0, []), (0, [(59, 1)])) (List.mem_of_getElem? (i := 29) rfl)); rw [ag 59 (by decide)] at q; exact q), List.forall_mem_cons.mpr ⟨kc_X (updS_lt (by decide)) (by have q := kc_at (kc (14, 16, (0, []), (0, [(60, 1)])) (List.mem_of_getElem? (i := 30) rfl)); rw [ag 60 (by decide)] at q; exact q), List.forall_mem_cons.mpr ⟨kc_X (updS_lt (by decide)) (by have q := kc_at (kc (12, 0, (0, []), (0, [(61, 1)])) (List.mem_of_getElem? (i := 31) rfl)); rw [ag 61 (by decide)] at q; exact q), List.forall_mem_cons.mpr ⟨kc_C PL2, (fun _ h => absurd h List.not_mem_nil)⟩⟩⟩⟩⟩⟩⟩⟩⟩⟩⟩⟩⟩⟩⟩⟩⟩⟩⟩⟩⟩⟩⟩⟩⟩⟩⟩⟩⟩⟩⟩⟩⟩, fun f hf => absurd hf List.not_mem_nil⟩
  · refine List.forall_mem_cons.mpr ⟨?_, fun _ h => absurd h List.not_mem_nil⟩
    show (-2147483648 : Int) ≤ updS ρ 63 xa.toInt 63 ∧ updS ρ 63 xa.toInt 63 ≤ 2147483647
    rw [updS_at]
    exact i32b xa
  · show leV _ (leX 63) = _
    rw [leV_X, updS_at]
  · show leV _ (leX 63) = _
    rw [leV_X, updS_at]
    exact ea.symm.trans eb

