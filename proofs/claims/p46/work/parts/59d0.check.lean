/-! By hand: check. -/
/-- one side, where that side lay below -/
theorem ck_s {s : Bool} {a b c : Hp} (e : a.2.2 = b.2.2) : mxH s (mxH (!s) a b) c = mxH s b c := mx_ext (fun r j => by unfold mxH; dsimp only; cases s <;> cases sd r <;> rfl) (fun r j => by unfold mxH; dsimp only; cases s <;> cases sd r <;> rfl) e
theorem ck_hf {s : Bool} {X k : Hp} {o : Nat} {j v : Int32} (e : ¬ sd o = s) : mxH s (hI X o j v) k = mxH s X k := mx_ext (fun a b => by
  show (if sd a = s then (if a = o ∧ b = j then v else X.1 a b) else k.1 a b) = if sd a = s then X.1 a b else k.1 a b
  by_cases q : sd a = s
  · have n : ¬ (a = o ∧ b = j) := fun z => e (by rw [← z.1]; exact q)
    rw [if_pos q, if_pos q, if_neg n]
  · rw [if_neg q, if_neg q]) (fun a b => rfl) rfl
theorem ck_nw {ws : List Wr} {o : Nat} {j : Int32} (g : ws.all (fun w => !(Nat.beq o w.2.1) || (decide (j.toInt < w.2.2.1) || decide (w.2.2.2 < j.toInt))) = true) : ¬ inW ws 0 o j := by
  rintro ⟨w, hw, -, q, l, u⟩
  have t := List.all_eq_true.mp g w hw
  rw [Bool.or_eq_true, Bool.or_eq_true, decide_eq_true_eq, decide_eq_true_eq, Bool.not_eq_true'] at t
  rcases t with t | t | t
  · exact Nat.ne_of_beq_eq_false t q.symm
  · omega
  · omega
/-- what is written lies within what may be -/
noncomputable def ck_cv (ws vs : List Wr) : Bool := vs.all fun w => ws.any fun u => Nat.beq w.1 u.1 && (Nat.beq w.2.1 u.2.1 && (ile u.2.2.1 w.2.2.1 && ile w.2.2.2 u.2.2.2))
theorem ck_iW {ws vs : List Wr} (g : ck_cv ws vs = true) {k o : Nat} {j : Int32} (q : inW vs k o j) : inW ws k o j := by
  obtain ⟨w, hw, e1, e2, l, u⟩ := q
  obtain ⟨v, hv, t⟩ := List.any_eq_true.mp (List.all_eq_true.mp g w hw)
  simp only [Bool.and_eq_true] at t
  obtain ⟨t1, t2, t3, t4⟩ := t
  exact ⟨v, hv, (Nat.eq_of_beq_eq_true t1).symm.trans e1, (Nat.eq_of_beq_eq_true t2).symm.trans e2, Int.le_trans (ile_le t3) l, Int.le_trans u (ile_le t4)⟩
theorem ck_tr {ws vs : List Wr} {h K K' : Hp} (a : Frm ws h K) (b : Frm vs K K') (g : ck_cv ws vs = true) : Frm ws h K' := ⟨fun o j q => (b.1 o j (fun z => q (ck_iW g z))).trans (a.1 o j q), fun o j q => (b.2.1 o j (fun z => q (ck_iW g z))).trans (a.2.1 o j q), b.2.2.trans a.2.2⟩
theorem ck_k0 {ρ : Nat → Int} {H : Hp} {k o : Nat} {a b : Int} (q : kcV ρ H (k, o, (a, []), (b, []))) : KC H k o a b := by
  have q : KC H k o (leV ρ (leC a)) (leV ρ (leC b)) := q
  rw [leV_C, leV_C] at q
  exact q
theorem ck_k1 {ρ : Nat → Int} {H : Hp} {k o s : Nat} {a b : Int} (q : kcV ρ H (k, o, (a, []), (b, [(s, 1)]))) : KC H k o a (b + ρ s) := by
  have q : KC H k o (leV ρ (leC a)) (leV ρ (b, [(s, 1)])) := q
  have e : leV ρ (b, [(s, 1)]) = b + ρ s := by show b + (1 * ρ s + 0) = b + ρ s; omega
  rw [leV_C, e] at q
  exact q
theorem ck_kz {H : Hp} {o : Nat} {I : Int32} {x y : Int} (q : KC H 0 o x y) (e : I.toInt = x) : y = (H.1 o I).toInt := by
  obtain ⟨j, p, q⟩ := q
  obtain rfl : j = I := Int32.toInt_inj.mp (by omega)
  exact q
theorem ck_c30 {h : Hp} : (0 : Int) ≤ (cntO h : Int) ∧ (cntO h : Int) ≤ 30 := by
  have : cntO h ≤ 30 := by
    unfold cntO
    exact Nat.le_trans List.countP_le_length (by rw [List.length_range]; exact Nat.le_refl _)
  omega
theorem ck_first {P : Nat → Prop} (N : Nat) (h : ¬ P N) : ∃ k, (∀ j, j < k → P j) ∧ ¬ P k := by
  induction N using Nat.strongRecOn with
  | ind N ih =>
    by_cases q : ∃ j, j < N ∧ ¬ P j
    · obtain ⟨j, hj, hp⟩ := q
      exact ih j hj hp
    · exact ⟨N, fun j hj => Classical.byContradiction (fun z => q ⟨j, hj, z⟩), h⟩
/-- a row of heaps, one step after another -/
theorem ck_row {R : Nat → Hp → Prop} {T : Nat → Hp → Hp → Prop} {N : Nat} (st : ∀ i K, i < N → R i K → ∃ K', R (i + 1) K' ∧ T i K K') {K0 : Hp} (r0 : R 0 K0) : ∃ Ks : Nat → Hp, Ks 0 = K0 ∧ (∀ i, i ≤ N → R i (Ks i)) ∧ ∀ i, i < N → T i (Ks i) (Ks (i + 1)) := by
  have key : ∀ M, M ≤ N → ∃ Ks : Nat → Hp, Ks 0 = K0 ∧ (∀ i, i ≤ M → R i (Ks i)) ∧ ∀ i, i < M → T i (Ks i) (Ks (i + 1)) := by
    intro M
    induction M with
    | zero => exact fun _ => ⟨fun _ => K0, rfl, fun i hi => by rw [show i = 0 by omega]; exact r0, fun i hi => absurd hi (Nat.not_lt_zero i)⟩
    | succ M ih =>
      intro hM
      obtain ⟨Ks, e0, hR, hT⟩ := ih (by omega)
      obtain ⟨K', r', t'⟩ := st M (Ks M) (by omega) (hR M (Nat.le_refl M))
      refine ⟨fun i => if i ≤ M then Ks i else K', ?_, fun i hi => ?_, fun i hi => ?_⟩
      · dsimp only; rw [if_pos (Nat.zero_le M)]; exact e0
      · dsimp only
        by_cases q : i ≤ M
        · rw [if_pos q]; exact hR i q
        · rw [if_neg q, show i = M + 1 by omega]; exact r'
      · dsimp only
        by_cases q : i + 1 ≤ M
        · rw [if_pos q, if_pos (show i ≤ M by omega)]; exact hT i (by omega)
        · rw [if_neg q, if_pos (show i ≤ M by omega), show i = M by omega]; exact t'
  exact key N (Nat.le_refl N)
noncomputable def ckR (K : Hp) (H S T E X D : Int) : Prop := H = (K.1 26 2).toInt ∧ H = (K.1 66 2).toInt ∧ S = (K.1 24 2).toInt ∧ S = (K.1 66 1).toInt ∧ X = (K.1 30 2).toInt ∧ X = (K.1 66 4).toInt ∧ D = (K.1 23 5).toInt ∧ D = (K.1 66 0).toInt ∧ E = (K.1 32 2).toInt ∧ E = (K.1 66 5).toInt ∧ KC K 5 66 0 (0) ∧ KC K 14 0 0 (0) ∧ KC K 14 16 0 (10 * D) ∧ KC K 16 0 0 (0) ∧ KC K 17 0 0 (-1) ∧ KC K 12 8 0 (H) ∧ T = (K.1 28 2).toInt ∧ T = (K.1 66 3).toInt ∧ KC K 14 4 0 (0) ∧ KC K 15 8 0 (X) ∧ KC K 9 8 0 (0) ∧ KC K 9 24 0 (0) ∧ KC K 9 40 0 (0) ∧ KC K 9 56 0 (0) ∧ KC K 9 72 0 (0) ∧ KC K 9 88 0 (0) ∧ KC K 9 104 0 (0) ∧ KC K 9 120 0 (0) ∧ KC K 9 136 0 (0) ∧ KC K 9 152 0 (0) ∧ KC K 9 168 0 (0) ∧ KC K 9 184 0 (0) ∧ KC K 9 200 0 (0) ∧ KC K 9 216 0 (0) ∧ KC K 9 232 0 (0) ∧ KC K 9 248 0 (0) ∧ KC K 9 264 0 (0) ∧ KC K 9 280 0 (0) ∧ KC K 9 296 0 (0) ∧ KC K 9 312 0 (0) ∧ KC K 9 328 0 (0) ∧ KC K 9 344 0 (0) ∧ KC K 9 360 0 (0) ∧ KC K 9 376 0 (0) ∧ KC K 9 392 0 (0) ∧ KC K 9 408 0 (0) ∧ KC K 9 424 0 (0) ∧ KC K 9 440 0 (0) ∧ KC K 9 520 0 (0) ∧ KC K 9 536 0 (0) ∧ KC K 9 552 0 (0) ∧ KC K 9 568 0 (0) ∧ KC K 9 2005 0 (0) ∧ KC K 9 456 0 (0) ∧ KC K 9 472 0 (0) ∧ KC K 11 72 0 (S) ∧ KC K 11 168 0 (H) ∧ KC K 11 184 0 (H) ∧ KC K 11 200 0 (H) ∧ KC K 11 216 0 (H) ∧ KC K 11 232 0 (H) ∧ KC K 11 280 0 (H) ∧ KC K 11 296 0 (H) ∧ KC K 11 312 0 (H) ∧ KC K 11 88 0 (S) ∧ KC K 11 104 0 (S) ∧ KC K 11 440 0 (T)
noncomputable def ckB (H S T E X : Int) : Prop := ((0 : Int) ≤ H ∧ H ≤ 10) ∧ ((0 : Int) ≤ S ∧ S ≤ 3) ∧ ((0 : Int) ≤ T ∧ T ≤ 30) ∧ ((0 : Int) ≤ E ∧ E ≤ 40) ∧ ((0 : Int) ≤ X ∧ X ≤ 12)
noncomputable def ckP : List Wr := [(0, 23, 5, 5), (0, 25, 4, 22), (0, 27, 1, 137), (0, 29, 4, 238), (0, 35, 1, 1), (0, 36, 0, 95), (0, 66, 0, 0), (0, 66, 14, 14), (0, 66, 16, 36), (0, 66, 41, 195), (0, 66, 304, 567), (0, 79, 103, 119), (0, 80, 0, 99)]
theorem ck_fr {K K2 : Hp} {H S T E X D : Int} (R : ckR K H S T E X D) (F : Frm [(0, 83, 0, 59)] K K2) : ckR K2 H S T E X D := ⟨by rw [F.1 26 2 (ck_nw (by decide +kernel))]; exact R.1, by rw [F.1 66 2 (ck_nw (by decide +kernel))]; exact R.2.1, by rw [F.1 24 2 (ck_nw (by decide +kernel))]; exact R.2.2.1, by rw [F.1 66 1 (ck_nw (by decide +kernel))]; exact R.2.2.2.1, by rw [F.1 30 2 (ck_nw (by decide +kernel))]; exact R.2.2.2.2.1, by rw [F.1 66 4 (ck_nw (by decide +kernel))]; exact R.2.2.2.2.2.1, by rw [F.1 23 5 (ck_nw (by decide +kernel))]; exact R.2.2.2.2.2.2.1, by rw [F.1 66 0 (ck_nw (by decide +kernel))]; exact R.2.2.2.2.2.2.2.1, by rw [F.1 32 2 (ck_nw (by decide +kernel))]; exact R.2.2.2.2.2.2.2.2.1, by rw [F.1 66 5 (ck_nw (by decide +kernel))]; exact R.2.2.2.2.2.2.2.2.2.1, KC_fr (by decide) (by decide +kernel) F R.2.2.2.2.2.2.2.2.2.2.1, KC_fr (by decide) (by decide +kernel) F R.2.2.2.2.2.2.2.2.2.2.2.1, KC_fr (by decide) (by decide +kernel) F R.2.2.2.2.2.2.2.2.2.2.2.2.1, KC_fr (by decide) (by decide +kernel) F R.2.2.2.2.2.2.2.2.2.2.2.2.2.1, KC_fr (by decide) (by decide +kernel) F R.2.2.2.2.2.2.2.2.2.2.2.2.2.2.1, KC_fr (by decide) (by decide +kernel) F R.2.2.2.2.2.2.2.2.2.2.2.2.2.2.2.1, by rw [F.1 28 2 (ck_nw (by decide +kernel))]; exact R.2.2.2.2.2.2.2.2.2.2.2.2.2.2.2.2.1, by rw [F.1 66 3 (ck_nw (by decide +kernel))]; exact R.2.2.2.2.2.2.2.2.2.2.2.2.2.2.2.2.2.1, KC_fr (by decide) (by decide +kernel) F R.2.2.2.2.2.2.2.2.2.2.2.2.2.2.2.2.2.2.1, KC_fr (by decide) (by decide +kernel) F R.2.2.2.2.2.2.2.2.2.2.2.2.2.2.2.2.2.2.2.1, KC_fr (by decide) (by decide +kernel) F R.2.2.2.2.2.2.2.2.2.2.2.2.2.2.2.2.2.2.2.2.1, KC_fr (by decide) (by decide +kernel) F R.2.2.2.2.2.2.2.2.2.2.2.2.2.2.2.2.2.2.2.2.2.1, KC_fr (by decide) (by decide +kernel) F R.2.2.2.2.2.2.2.2.2.2.2.2.2.2.2.2.2.2.2.2.2.2.1, KC_fr (by decide) (by decide +kernel) F R.2.2.2.2.2.2.2.2.2.2.2.2.2.2.2.2.2.2.2.2.2.2.2.1, KC_fr (by decide) (by decide +kernel) F R.2.2.2.2.2.2.2.2.2.2.2.2.2.2.2.2.2.2.2.2.2.2.2.2.1, KC_fr (by decide) (by decide +kernel) F R.2.2.2.2.2.2.2.2.2.2.2.2.2.2.2.2.2.2.2.2.2.2.2.2.2.1, KC_fr (by decide) (by decide +kernel) F R.2.2.2.2.2.2.2.2.2.2.2.2.2.2.2.2.2.2.2.2.2.2.2.2.2.2.1, KC_fr (by decide) (by decide +kernel) F R.2.2.2.2.2.2.2.2.2.2.2.2.2.2.2.2.2.2.2.2.2.2.2.2.2.2.2.1, KC_fr (by decide) (by decide +kernel) F R.2.2.2.2.2.2.2.2.2.2.2.2.2.2.2.2.2.2.2.2.2.2.2.2.2.2.2.2.1, KC_fr (by decide) (by decide +kernel) F R.2.2.2.2.2.2.2.2.2.2.2.2.2.2.2.2.2.2.2.2.2.2.2.2.2.2.2.2.2.1, KC_fr (by decide) (by decide +kernel) F R.2.2.2.2.2.2.2.2.2.2.2.2.2.2.2.2.2.2.2.2.2.2.2.2.2.2.2.2.2.2.1, KC_fr (by decide) (by decide +kernel) F R.2.2.2.2.2.2.2.2.2.2.2.2.2.2.2.2.2.2.2.2.2.2.2.2.2.2.2.2.2.2.2.1, KC_fr (by decide) (by decide +kernel) F R.2.2.2.2.2.2.2.2.2.2.2.2.2.2.2.2.2.2.2.2.2.2.2.2.2.2.2.2.2.2.2.2.1, KC_fr (by decide) (by decide +kernel) F R.2.2.2.2.2.2.2.2.2.2.2.2.2.2.2.2.2.2.2.2.2.2.2.2.2.2.2.2.2.2.2.2.2.1, KC_fr (by decide) (by decide +kernel) F R.2.2.2.2.2.2.2.2.2.2.2.2.2.2.2.2.2.2.2.2.2.2.2.2.2.2.2.2.2.2.2.2.2.2.1, KC_fr (by decide) (by decide +kernel) F R.2.2.2.2.2.2.2.2.2.2.2.2.2.2.2.2.2.2.2.2.2.2.2.2.2.2.2.2.2.2.2.2.2.2.2.1, KC_fr (by decide) (by decide +kernel) F R.2.2.2.2.2.2.2.2.2.2.2.2.2.2.2.2.2.2.2.2.2.2.2.2.2.2.2.2.2.2.2.2.2.2.2.2.1, KC_fr (by decide) (by decide +kernel) F R.2.2.2.2.2.2.2.2.2.2.2.2.2.2.2.2.2.2.2.2.2.2.2.2.2.2.2.2.2.2.2.2.2.2.2.2.2.1, KC_fr (by decide) (by decide +kernel) F R.2.2.2.2.2.2.2.2.2.2.2.2.2.2.2.2.2.2.2.2.2.2.2.2.2.2.2.2.2.2.2.2.2.2.2.2.2.2.1, KC_fr (by decide) (by decide +kernel) F R.2.2.2.2.2.2.2.2.2.2.2.2.2.2.2.2.2.2.2.2.2.2.2.2.2.2.2.2.2.2.2.2.2.2.2.2.2.2.2.1, KC_fr (by decide) (by decide +kernel) F R.2.2.2.2.2.2.2.2.2.2.2.2.2.2.2.2.2.2.2.2.2.2.2.2.2.2.2.2.2.2.2.2.2.2.2.2.2.2.2.2.1, KC_fr (by decide) (by decide +kernel) F R.2.2.2.2.2.2.2.2.2.2.2.2.2.2.2.2.2.2.2.2.2.2.2.2.2.2.2.2.2.2.2.2.2.2.2.2.2.2.2.2.2.1, KC_fr (by decide) (by decide +kernel) F R.2.2.2.2.2.2.2.2.2.2.2.2.2.2.2.2.2.2.2.2.2.2.2.2.2.2.2.2.2.2.2.2.2.2.2.2.2.2.2.2.2.2.1, KC_fr (by decide) (by decide +kernel) F R.2.2.2.2.2.2.2.2.2.2.2.2.2.2.2.2.2.2.2.2.2.2.2.2.2.2.2.2.2.2.2.2.2.2.2.2.2.2.2.2.2.2.2.1, KC_fr (by decide) (by decide +kernel) F R.2.2.2.2.2.2.2.2.2.2.2.2.2.2.2.2.2.2.2.2.2.2.2.2.2.2.2.2.2.2.2.2.2.2.2.2.2.2.2.2.2.2.2.2.1, KC_fr (by decide) (by decide +kernel) F R.2.2.2.2.2.2.2.2.2.2.2.2.2.2.2.2.2.2.2.2.2.2.2.2.2.2.2.2.2.2.2.2.2.2.2.2.2.2.2.2.2.2.2.2.2.1, KC_fr (by decide) (by decide +kernel) F R.2.2.2.2.2.2.2.2.2.2.2.2.2.2.2.2.2.2.2.2.2.2.2.2.2.2.2.2.2.2.2.2.2.2.2.2.2.2.2.2.2.2.2.2.2.2.1, KC_fr (by decide) (by decide +kernel) F R.2.2.2.2.2.2.2.2.2.2.2.2.2.2.2.2.2.2.2.2.2.2.2.2.2.2.2.2.2.2.2.2.2.2.2.2.2.2.2.2.2.2.2.2.2.2.2.1, KC_fr (by decide) (by decide +kernel) F R.2.2.2.2.2.2.2.2.2.2.2.2.2.2.2.2.2.2.2.2.2.2.2.2.2.2.2.2.2.2.2.2.2.2.2.2.2.2.2.2.2.2.2.2.2.2.2.2.1, KC_fr (by decide) (by decide +kernel) F R.2.2.2.2.2.2.2.2.2.2.2.2.2.2.2.2.2.2.2.2.2.2.2.2.2.2.2.2.2.2.2.2.2.2.2.2.2.2.2.2.2.2.2.2.2.2.2.2.2.1, KC_fr (by decide) (by decide +kernel) F R.2.2.2.2.2.2.2.2.2.2.2.2.2.2.2.2.2.2.2.2.2.2.2.2.2.2.2.2.2.2.2.2.2.2.2.2.2.2.2.2.2.2.2.2.2.2.2.2.2.2.1, KC_fr (by decide) (by decide +kernel) F R.2.2.2.2.2.2.2.2.2.2.2.2.2.2.2.2.2.2.2.2.2.2.2.2.2.2.2.2.2.2.2.2.2.2.2.2.2.2.2.2.2.2.2.2.2.2.2.2.2.2.2.1, KC_fr (by decide) (by decide +kernel) F R.2.2.2.2.2.2.2.2.2.2.2.2.2.2.2.2.2.2.2.2.2.2.2.2.2.2.2.2.2.2.2.2.2.2.2.2.2.2.2.2.2.2.2.2.2.2.2.2.2.2.2.2.1, KC_fr (by decide) (by decide +kernel) F R.2.2.2.2.2.2.2.2.2.2.2.2.2.2.2.2.2.2.2.2.2.2.2.2.2.2.2.2.2.2.2.2.2.2.2.2.2.2.2.2.2.2.2.2.2.2.2.2.2.2.2.2.2.1, KC_fr (by decide) (by decide +kernel) F R.2.2.2.2.2.2.2.2.2.2.2.2.2.2.2.2.2.2.2.2.2.2.2.2.2.2.2.2.2.2.2.2.2.2.2.2.2.2.2.2.2.2.2.2.2.2.2.2.2.2.2.2.2.2.1, KC_fr (by decide) (by decide +kernel) F R.2.2.2.2.2.2.2.2.2.2.2.2.2.2.2.2.2.2.2.2.2.2.2.2.2.2.2.2.2.2.2.2.2.2.2.2.2.2.2.2.2.2.2.2.2.2.2.2.2.2.2.2.2.2.2.1, KC_fr (by decide) (by decide +kernel) F R.2.2.2.2.2.2.2.2.2.2.2.2.2.2.2.2.2.2.2.2.2.2.2.2.2.2.2.2.2.2.2.2.2.2.2.2.2.2.2.2.2.2.2.2.2.2.2.2.2.2.2.2.2.2.2.2.1, KC_fr (by decide) (by decide +kernel) F R.2.2.2.2.2.2.2.2.2.2.2.2.2.2.2.2.2.2.2.2.2.2.2.2.2.2.2.2.2.2.2.2.2.2.2.2.2.2.2.2.2.2.2.2.2.2.2.2.2.2.2.2.2.2.2.2.2.1, KC_fr (by decide) (by decide +kernel) F R.2.2.2.2.2.2.2.2.2.2.2.2.2.2.2.2.2.2.2.2.2.2.2.2.2.2.2.2.2.2.2.2.2.2.2.2.2.2.2.2.2.2.2.2.2.2.2.2.2.2.2.2.2.2.2.2.2.2.1, KC_fr (by decide) (by decide +kernel) F R.2.2.2.2.2.2.2.2.2.2.2.2.2.2.2.2.2.2.2.2.2.2.2.2.2.2.2.2.2.2.2.2.2.2.2.2.2.2.2.2.2.2.2.2.2.2.2.2.2.2.2.2.2.2.2.2.2.2.2.1, KC_fr (by decide) (by decide +kernel) F R.2.2.2.2.2.2.2.2.2.2.2.2.2.2.2.2.2.2.2.2.2.2.2.2.2.2.2.2.2.2.2.2.2.2.2.2.2.2.2.2.2.2.2.2.2.2.2.2.2.2.2.2.2.2.2.2.2.2.2.2.1, KC_fr (by decide) (by decide +kernel) F R.2.2.2.2.2.2.2.2.2.2.2.2.2.2.2.2.2.2.2.2.2.2.2.2.2.2.2.2.2.2.2.2.2.2.2.2.2.2.2.2.2.2.2.2.2.2.2.2.2.2.2.2.2.2.2.2.2.2.2.2.2.1, KC_fr (by decide) (by decide +kernel) F R.2.2.2.2.2.2.2.2.2.2.2.2.2.2.2.2.2.2.2.2.2.2.2.2.2.2.2.2.2.2.2.2.2.2.2.2.2.2.2.2.2.2.2.2.2.2.2.2.2.2.2.2.2.2.2.2.2.2.2.2.2.2.1, KC_fr (by decide) (by decide +kernel) F R.2.2.2.2.2.2.2.2.2.2.2.2.2.2.2.2.2.2.2.2.2.2.2.2.2.2.2.2.2.2.2.2.2.2.2.2.2.2.2.2.2.2.2.2.2.2.2.2.2.2.2.2.2.2.2.2.2.2.2.2.2.2.2.1, KC_fr (by decide) (by decide +kernel) F R.2.2.2.2.2.2.2.2.2.2.2.2.2.2.2.2.2.2.2.2.2.2.2.2.2.2.2.2.2.2.2.2.2.2.2.2.2.2.2.2.2.2.2.2.2.2.2.2.2.2.2.2.2.2.2.2.2.2.2.2.2.2.2.2.1, KC_fr (by decide) (by decide +kernel) F R.2.2.2.2.2.2.2.2.2.2.2.2.2.2.2.2.2.2.2.2.2.2.2.2.2.2.2.2.2.2.2.2.2.2.2.2.2.2.2.2.2.2.2.2.2.2.2.2.2.2.2.2.2.2.2.2.2.2.2.2.2.2.2.2.2.1, KC_fr (by decide) (by decide +kernel) F R.2.2.2.2.2.2.2.2.2.2.2.2.2.2.2.2.2.2.2.2.2.2.2.2.2.2.2.2.2.2.2.2.2.2.2.2.2.2.2.2.2.2.2.2.2.2.2.2.2.2.2.2.2.2.2.2.2.2.2.2.2.2.2.2.2.2⟩
theorem ck_e0 {a : Int} : (0 : Int) ≤ 0 + (1 * a + (-1 * a + 0)) := by omega
theorem ck_e1 {a : Int} : (0 : Int) ≤ 0 + (-1 * a + (1 * a + 0)) := by omega
