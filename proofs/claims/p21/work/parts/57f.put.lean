/-! By hand: put. -/
theorem mw_same {h : Hp} (day : (h.1 1 5).toInt = (h.1 66 0).toInt) (d0 : 0 ≤ (h.1 66 0).toInt) (R1 : RLO h 16 0 0) (R2 : RLO h 32 0 0) (R4 : RLO h 64 0 0) (R7 : RLO h 112 0 0) (R8 : RLO h 128 0 0) (R16 : RLO h 256 0 0) (R18 : RLO h 288 0 0) : ∀ i k, i < 10 → k < 3 → (mwA h (nI i) (nI k) ↔ mwB h (nI i) (nI k)) := by
  have r1 : ∀ k, k < 3 → h.1 3 (nI (1 + 8 * k)) = h.1 66 (nI (11 + 10 * k)) := fun k hk => rowE (s1 := 8) (s2 := 10) (n := 3) R1 (Int.le_refl 0) rfl (by decide) (by decide) hk
  have r2 : ∀ k, k < 3 → h.1 3 (nI (2 + 8 * k)) = h.1 66 (nI (12 + 10 * k)) := fun k hk => rowE (s1 := 8) (s2 := 10) (n := 3) R2 (Int.le_refl 0) rfl (by decide) (by decide) hk
  have r4 : ∀ k, k < 3 → h.1 3 (nI (4 + 8 * k)) = h.1 66 (nI (14 + 10 * k)) := fun k hk => rowE (s1 := 8) (s2 := 10) (n := 3) R4 (Int.le_refl 0) rfl (by decide) (by decide) hk
  have r7 : ∀ i, i < 10 → h.1 5 (nI (0 + 14 * i)) = h.1 66 (nI (40 + 16 * i)) := fun i hi => rowE (s1 := 14) (s2 := 16) (n := 10) R7 (Int.le_refl 0) rfl (by decide) (by decide) hi
  have r8 : ∀ i, i < 10 → h.1 5 (nI (1 + 14 * i)) = h.1 66 (nI (41 + 16 * i)) := fun i hi => rowE (s1 := 14) (s2 := 16) (n := 10) R8 (Int.le_refl 0) rfl (by decide) (by decide) hi
  have r16 := fun i (hi : i < 10) => rowN (o1 := 5) (o2 := 66) (b1 := 9) (b2 := 49) (s1 := 14) (s2 := 16) (n := 10) R16 (Int.le_refl 0) rfl (by decide) (by decide) hi
  have r18 : ∀ i, i < 10 → h.1 5 (nI (11 + 14 * i)) = h.1 66 (nI (51 + 16 * i)) := fun i hi => rowE (s1 := 14) (s2 := 16) (n := 10) R18 (Int.le_refl 0) rfl (by decide) (by decide) hi
  intro i k hi hk
  have a11 := ixA (f := 11) hi (by decide)
  have a0 := ixA (f := 0) hi (by decide)
  have a1 := ixA (f := 1) hi (by decide)
  have a9 := ixA (f := 9) hi (by decide)
  have s1 := ixS (f := 1) hk (by decide)
  have s2 := ixS (f := 2) hk (by decide)
  have s4 := ixS (f := 4) hk (by decide)
  have b11 := ixH (f := 11) hi (by decide)
  have b0 := ixH (f := 0) hi (by decide)
  have b1 := ixH (f := 1) hi (by decide)
  have b9 := ixH (f := 9) hi (by decide)
  have t1 := ixK (f := 1) hk (by decide)
  have t2 := ixK (f := 2) hk (by decide)
  have t4 := ixK (f := 4) hk (by decide)
  unfold mwA mwB
  rw [show (11 : Int32) = nI 11 from rfl, show (0 : Int32) = nI 0 from rfl, show (9 : Int32) = nI 9 from rfl]
  rw [show (1 : Int32) = nI 1 from rfl, show (2 : Int32) = nI 2 from rfl, show (4 : Int32) = nI 4 from rfl]
  rw [a11, a0, a1, a9, s1, s2, s4, b11, b0, b1, b9, t1, t2, t4, r18 i hi, r7 i hi, r1 k hk, r2 k hk, r8 i hi, r4 k hk]
  have cd : (h.1 5 (nI (9 + 14 * i)) = h.1 1 (nI 5)) ↔ (h.1 66 (nI (40 + 9 + 16 * i)) = h.1 66 (nI 0)) := by
    rw [← Int32.toInt_inj, ← Int32.toInt_inj]
    have day : (h.1 1 (nI 5)).toInt = (h.1 66 (nI 0)).toInt := day
    have d0 : 0 ≤ (h.1 66 (nI 0)).toInt := d0
    have q := r16 i hi
    rw [show 49 + 16 * i = 40 + 9 + 16 * i by omega] at q
    omega
  rw [show h.1 1 5 = h.1 1 (nI 5) from rfl, cd]
theorem bt_same {h : Hp} {y : Int} (B : BG h 0 y) : (∀ i, i < 10 → h.1 5 (nI (12 + 14 * i)) = nI (h.1 5 (nI (12 + 14 * i))).toInt.toNat ∧ (h.1 5 (nI (12 + 14 * i))).toInt.toNat < 1024) ∧ (∀ i j, i < 10 → j < 10 → (h.1 66 ((200 + (10 * nI j)) + nI i) = 1 ↔ ((h.1 5 (nI (12 + 14 * i))).toInt.toNat).testBit j = true)) := by
  have bv : ∀ i, i < 10 → h.1 5 (nI (12 + 14 * i)) = nI (h.1 5 (nI (12 + 14 * i))).toInt.toNat ∧ (h.1 5 (nI (12 + 14 * i))).toInt.toNat < 1024 := fun i hi => by
    obtain ⟨u1, u2, -⟩ := B.2 i 0 (by omega) (by omega) (by decide) (by decide)
    have e : rlV h 0 (bgC 0) (12 + 14 * (i : Int)) = (h.1 5 (nI (12 + 14 * i))).toInt := by
      show (h.1 5 (Int32.ofInt _)).toInt = _
      rw [← nI_ofI (by omega)]
      congr 3
    rw [e] at u1 u2
    exact ⟨i_nI u1, by omega⟩
  have bt : ∀ i j, i < 10 → j < 10 → (h.1 66 ((200 + (10 * nI j)) + nI i) = 1 ↔ ((h.1 5 (nI (12 + 14 * i))).toInt.toNat).testBit j = true) := fun i j hi hj => by
    obtain ⟨-, -, u3, -, u5⟩ := B.2 i j (by omega) (by omega) (by omega) (by omega)
    have e : rlV h 0 (bgC 0) (12 + 14 * (i : Int)) = (h.1 5 (nI (12 + 14 * i))).toInt := by
      show (h.1 5 (Int32.ofInt _)).toInt = _
      rw [← nI_ofI (by omega)]
      congr 3
    have e2 : rlV h 0 (bgR 0) (200 + 10 * (j : Int) + (i : Int)) = (h.1 66 (nI (200 + 10 * j + i))).toInt := by
      show (h.1 66 (Int32.ofInt _)).toInt = _
      rw [← nI_ofI (by omega)]
      congr 3
    have ix : (200 + (10 * nI j)) + nI i = nI (200 + 10 * j + i) := by
      show (nI 200 + nI 10 * nI j) + nI i = _
      rw [show nI 10 * nI j = nI (10 * j) from (Int32.ofNat_mul 10 j).symm, nI_add, nI_add]
    rw [e] at u3
    rw [u5, e2] at u3
    rw [ix, ← Int32.toInt_inj, u3]
    unfold bitZ
    have c1 : (1 : Int32).toInt = 1 := rfl
    rw [c1, show ((j : Nat) : Int).toNat = j from Int.toNat_natCast j]
    by_cases q : ((h.1 5 (nI (12 + 14 * i))).toInt.toNat).testBit j = true
    · rw [if_pos q]; exact ⟨fun _ => q, fun _ => rfl⟩
    · rw [if_neg q]; exact ⟨fun z => absurd z (by decide), fun z => absurd z q⟩
  exact ⟨bv, bt⟩
theorem pbC_n {a : Nat → Bool} : ∀ {n : Nat}, pbC a n = (List.range n).countP a
  | 0 => rfl
  | n + 1 => by
    rw [List.range_succ, List.countP_append, ← pbC_n]
    show pbC a n + (if a n = true then 1 else 0) = _
    rw [List.countP_cons]
    simp
theorem pbC_10 {a : Nat → Bool} {n : Nat} : ∀ m, (List.range (n + m)).countP (fun i => decide (i < n) && a i) = pbC a n
  | 0 => by
    rw [pbC_n]
    exact List.countP_congr (fun i hi => by
      have := List.mem_range.mp hi
      rw [decide_eq_true (show i < n by omega), Bool.true_and])
  | m + 1 => by
    rw [← Nat.add_assoc, List.range_succ, List.countP_append, pbC_10 m]
    simp [show ¬ n + m < n by omega]
theorem pbC_r {a : Nat → Bool} {n : Nat} (h : n ≤ 10) : (List.range 10).countP (fun i => decide (i < n) && a i) = pbC a n := by
  obtain ⟨m, hm⟩ : ∃ m, n + m = 10 := ⟨10 - n, by omega⟩
  have := pbC_10 (a := a) (n := n) m
  rw [hm] at this
  exact this
theorem pbF_i {a b : Nat → Bool} : ∀ {n : Nat}, pbF a b n = true ↔ ∃ i, i < n ∧ a i = true ∧ b i = true
  | 0 => ⟨fun h => absurd (show false = true from h) (by decide), fun ⟨i, hi, _⟩ => absurd hi (Nat.not_lt_zero i)⟩
  | n + 1 => by
    show (pbF a b n || (a n && b n)) = true ↔ _
    rw [Bool.or_eq_true, pbF_i, Bool.and_eq_true]
    constructor
    · rintro (⟨i, hi, q⟩ | q)
      · exact ⟨i, by omega, q⟩
      · exact ⟨n, by omega, q⟩
    · rintro ⟨i, hi, q⟩
      by_cases e : i = n
      · subst e; exact Or.inr q
      · exact Or.inl ⟨i, by omega, q⟩
theorem kc_c {h : Hp} {ρ : Nat → Int} {k o : Nat} {i y : Int} (w : kcV ρ h (k, o, (i, []), (y, []))) : KC h k o i y := by
  have w : KC h k o (leV ρ (leC i)) (leV ρ (leC y)) := w
  rw [leV_C, leV_C] at w
  exact w
theorem kc_C {h : Hp} {ρ : Nat → Int} {k o : Nat} {i y : Int} (w : KC h k o i y) : kcV ρ h (k, o, (i, []), (y, [])) := by
  show KC h k o (leV ρ (leC i)) (leV ρ (leC y))
  rw [leV_C, leV_C]
  exact w
theorem kc_X {h : Hp} {ρ : Nat → Int} {k o g : Nat} {i y : Int} (e : ρ g = y) (w : KC h k o i y) : kcV ρ h (k, o, (i, []), leX g) := by
  show KC h k o (leV ρ (leC i)) (leV ρ (leX g))
  rw [leV_C, leV_X, e]
  exact w
/-- who is where, by whole numbers -/
theorem plB_i {h : Hp} {k : Int} {i n : Nat} (hi : i < 10) (en : h.1 66 2 = nI n) (hn : n ≤ 10) : plB h 0 k i = (decide (i < n) && decide ((h.1 66 (nI (48 + 16 * i))).toInt = k)) := by
  unfold plB
  have e1 : rlV h 0 (ubC 0) 2 = n := by
    show (h.1 66 2).toInt = _
    rw [en, nI_i (by omega)]
  have e2 : rlV h 0 (ubC 0) (48 + 16 * (i : Int)) = (h.1 66 (nI (48 + 16 * i))).toInt := by
    show (h.1 66 (Int32.ofInt _)).toInt = _
    rw [← nI_ofI (by omega)]
    congr 3
  rw [e1, e2]
  congr 1
  exact decide_eq_decide.mpr (by omega)
theorem room_i {h : Hp} {k : Nat} (hk : k < 3) : rlV h 0 (ubC 0) (10 + 10 * (k : Int)) = (h.1 66 (nI (10 + 10 * k))).toInt := by
  show (h.1 66 (Int32.ofInt _)).toInt = _
  rw [← nI_ofI (by omega)]
  congr 3
/-- a hand leaves: no shop holds more -/
theorem pl_off {h H : Hp} {n x : Nat} (hn : n ≤ 10) (en : h.1 66 2 = nI n) (hx : x < 10) (gt : ∀ j : Nat, j < 300 → j ≠ 48 + 16 * x → H.1 66 (nI j) = h.1 66 (nI j)) {k : Nat} (hk : k < 3) (ho : (H.1 66 (nI (48 + 16 * x))).toInt ≠ k) (w : plN h 0 k = 0 ∨ (plN h 0 k : Int) ≤ rlV h 0 (ubC 0) (10 + 10 * (k : Int))) : plN H 0 k = 0 ∨ (plN H 0 k : Int) ≤ rlV H 0 (ubC 0) (10 + 10 * (k : Int)) := by
  have en2 : H.1 66 2 = nI n := (gt 2 (by decide) (by omega)).trans en
  have le : plN H 0 k ≤ plN h 0 k := countP_le (fun i hi q => by
    rw [plB_i hi en2 hn, Bool.and_eq_true, decide_eq_true_eq, decide_eq_true_eq] at q
    rw [plB_i hi en hn, Bool.and_eq_true, decide_eq_true_eq, decide_eq_true_eq]
    by_cases e : i = x
    · subst e
      exact absurd q.2 ho
    · rw [gt _ (by omega) (by omega)] at q
      exact q)
  rw [room_i hk] at w ⊢
  rw [gt _ (by omega) (by omega)]
  omega
/-- a hand comes where there is room -/
theorem pl_on {h H : Hp} {n x : Nat} (hn : n ≤ 10) (en : h.1 66 2 = nI n) (hx : x < n) (gt : ∀ j : Nat, j < 300 → j ≠ 48 + 16 * x → H.1 66 (nI j) = h.1 66 (nI j)) {k : Nat} (hk : k < 3) (ho : (H.1 66 (nI (48 + 16 * x))).toInt = k) {a : Nat → Bool} (ha : ∀ i, i < n → (a i = true ↔ (i ≠ x ∧ (h.1 66 (nI (48 + 16 * i))).toInt = k))) (rm : (pbC a n : Int) < (h.1 66 (nI (10 + 10 * k))).toInt) : plN H 0 k = 0 ∨ (plN H 0 k : Int) ≤ rlV H 0 (ubC 0) (10 + 10 * (k : Int)) := by
  have en2 : H.1 66 2 = nI n := (gt 2 (by decide) (by omega)).trans en
  have e : plN H 0 k = (List.range 10).countP (fun i => decide (i < n) && a i) + 1 := by
    refine countP_flip (m := x) (by omega) ?_ ?_ (fun i hi ne => ?_)
    · rw [plB_i (by omega) en2 hn, decide_eq_true hx, decide_eq_true ho]; rfl
    · rw [decide_eq_true hx, Bool.true_and]
      exact (Bool.not_eq_true _).mp (fun z => ((ha x hx).mp z).1 rfl)
    · rw [plB_i hi en2 hn]
      by_cases q : i < n
      · congr 1
        rw [gt _ (by omega) (by omega)]
        cases z : a i with
        | true => exact (decide_eq_true ((ha i q).mp z).2).symm
        | false => exact (decide_eq_false (fun y => by rw [(ha i q).mpr ⟨ne, y⟩] at z; cases z)).symm
      · rw [decide_eq_false q, Bool.false_and, Bool.false_and]
  rw [pbC_r hn] at e
  rw [room_i hk, gt _ (by omega) (by omega), e]
  exact Or.inr (by omega)
theorem pb_le {h : Hp} {n x : Nat} (hn : n ≤ 10) (en : h.1 66 2 = nI n) {k : Nat} {a : Nat → Bool} (ha : ∀ i, i < n → (a i = true ↔ (i ≠ x ∧ (h.1 66 (nI (48 + 16 * i))).toInt = k))) : pbC a n ≤ plN h 0 k := by
  rw [← pbC_r hn]
  exact countP_le (fun i hi q => by
    rw [Bool.and_eq_true, decide_eq_true_eq] at q
    rw [plB_i hi en hn, Bool.and_eq_true, decide_eq_true_eq, decide_eq_true_eq]
    exact ⟨q.1, ((ha i q.1).mp q.2).2⟩)
theorem andB (v b j : Nat) (hb : b < 10) (hj : j < 10) : (v &&& (1023 - 2 ^ b)).testBit j = (v.testBit j && !decide (b = j)) := by
  rw [Nat.testBit_and, bar_an b hb j hj]
theorem put_room {h : Hp} {n x s : Nat} (hn : n ≤ 10) (en2 : h.1 66 2 = nI n) (x10 : x < 10) (s3 : s < 3) (R0 : RLO h 0 0 0) (R240 : RLO h 240 0 0) (mw : ∀ i k, i < 10 → k < 3 → (mwA h (nI i) (nI k) ↔ mwB h (nI i) (nI k))) (bv : ∀ i, i < 10 → h.1 5 (nI (12 + 14 * i)) = nI (h.1 5 (nI (12 + 14 * i))).toInt.toNat ∧ (h.1 5 (nI (12 + 14 * i))).toInt.toNat < 1024) (bt : ∀ i j, i < 10 → j < 10 → (h.1 66 ((200 + (10 * nI j)) + nI i) = 1 ↔ ((h.1 5 (nI (12 + 14 * i))).toInt.toNat).testBit j = true)) (PL : PLO h 0) (hR : ∀ q ∈ rgT, RgO h q) : ∃ (a b W : Nat → Bool) (O : Nat), (∀ i, i < n → (a i = true ↔ (i ≠ x ∧ h.1 66 ((40 + (16 * nI i)) + 8) = nI s))) ∧ (∀ i, i < n → (b i = true ↔ h.1 66 ((200 + (10 * nI i)) + nI x) = 1)) ∧ (∀ i, i < n → (a i = true ↔ (i ≠ x ∧ (h.1 66 (nI (48 + 16 * i))).toInt = s))) ∧ (∀ i, i < n → (h.1 5 ((nI i * 14) + 8) = nI s ↔ W i = true)) ∧ O = chB_ W n &&& (1023 - 2 ^ x) ∧ ((mwA h (nI x) (nI s) ∧ (nI (pcB O) < h.1 3 ((nI s * 8) + 0) ∧ nI O &&& h.1 5 ((nI x * 14) + 12) = 0)) ↔ (mwB h (nI x) (nI s) ∧ ¬ nI (pbC a n) = h.1 66 ((10 + (10 * nI s)) + 0) ∧ ¬ pbF a b n = true)) ∧ (nI (pcB O) < h.1 3 ((nI s * 8) + 0) → (pbC a n : Int) < (h.1 66 (nI (10 + 10 * s))).toInt) := by
  have r8 := fun i (hi : i < 10) => rowN (o1 := 5) (o2 := 66) (b1 := 8) (b2 := 48) (s1 := 14) (s2 := 16) (n := 10) R240 (Int.le_refl 0) rfl (by decide) (by decide) hi
  obtain ⟨a, ha⟩ : ∃ a : Nat → Bool, a = fun i => decide (i ≠ x) && decide (h.1 66 ((40 + (16 * nI i)) + 8) = nI s) := ⟨_, rfl⟩
  obtain ⟨b, hb'⟩ : ∃ b : Nat → Bool, b = fun i => decide (h.1 66 ((200 + (10 * nI i)) + nI x) = 1) := ⟨_, rfl⟩
  have hat : ∀ i, i < n → (a i = true ↔ (i ≠ x ∧ h.1 66 ((40 + (16 * nI i)) + 8) = nI s)) := fun i _ => by rw [ha, Bool.and_eq_true, decide_eq_true_eq, decide_eq_true_eq]
  have hba : ∀ i, i < n → (b i = true ↔ h.1 66 ((200 + (10 * nI i)) + nI x) = 1) := fun i _ => by rw [hb']; exact decide_eq_true_iff
  have hai : ∀ i, i < n → (a i = true ↔ (i ≠ x ∧ (h.1 66 (nI (48 + 16 * i))).toInt = s)) := fun i hi => by
    rw [hat i hi, ixH8, ← Int32.toInt_inj, nI_i (by omega)]
  obtain ⟨W, hW'⟩ : ∃ W : Nat → Bool, W = fun i => decide (h.1 5 ((nI i * 14) + 8) = nI s) := ⟨_, rfl⟩
  have hW : ∀ i, i < n → (h.1 5 ((nI i * 14) + 8) = nI s ↔ W i = true) := fun i _ => by rw [hW']; exact decide_eq_true_iff.symm
  have hWa : ∀ i, i < n → i ≠ x → W i = a i := fun i hi ne => by
    have q : (W i = true) ↔ (a i = true) := by
      rw [← hW i hi, hai i hi, show (nI i * 14) + 8 = nI (8 + 14 * i) from ixA (f := 8) (by omega) (by decide), ← Int32.toInt_inj, nI_i (by omega)]
      have := r8 i (by omega)
      constructor
      · intro z; exact ⟨ne, by omega⟩
      · intro z; omega
    exact Bool.eq_iff_iff.mpr q
  obtain ⟨O, hO⟩ : ∃ O, O = chB_ W n &&& (1023 - 2 ^ x) := ⟨_, rfl⟩
  have Ob : ∀ j, j < 10 → O.testBit j = (decide (j < n) && a j) := fun j hj => by
    rw [hO, andB _ _ _ x10 hj, chB_bit]
    by_cases q : j < n
    · rw [decide_eq_true q, Bool.true_and, Bool.true_and]
      by_cases e : x = j
      · rw [decide_eq_true e]
        have : ¬ a j = true := fun z => ((hai j q).mp z).1 e.symm
        rw [(Bool.not_eq_true _).mp this]
        simp
      · rw [decide_eq_false e, hWa j q (fun z => e z.symm)]
        simp
    · rw [decide_eq_false q, Bool.false_and, Bool.false_and, Bool.false_and]
  have Oc : pcB O = pbC a n := by
    rw [← pbC_r (show n ≤ 10 by omega)]
    exact List.countP_congr (fun j hj => by rw [Ob j (List.mem_range.mp hj)])
  have Olt : O < 1024 := by rw [hO]; exact Nat.lt_of_le_of_lt Nat.and_le_left (chB_lt (by omega))
  have rmB : 0 ≤ (h.1 66 (nI (10 + 10 * s))).toInt ∧ (h.1 66 (nI (10 + 10 * s))).toInt ≤ 5 := hR (66, 10, 10, 3, 0, 5) (by decide +kernel) (nI (10 + 10 * s)) s (by omega) (by dsimp only; omega) (by rw [nI_i (by omega)]; dsimp only; omega)
  have rmA : h.1 3 ((nI s * 8) + 0) = h.1 66 (nI (10 + 10 * s)) := by
    rw [show (nI s * 8) + 0 = nI (0 + 8 * s) from ixS (f := 0) s3 (by decide)]
    exact rowE (s1 := 8) (s2 := 10) (n := 3) R0 (Int.le_refl 0) rfl (by decide) (by decide) s3
  have plH := PL s (by omega) (by omega)
  have ple : pbC a n ≤ plN h 0 s := pb_le (by omega) en2 hai
  rw [room_i s3] at plH
  have pb10 : pbC a n ≤ 10 := Nat.le_trans pbC_le (by omega)
  have rmI : nI (pbC a n) < h.1 66 (nI (10 + 10 * s)) ↔ ¬ nI (pbC a n) = h.1 66 (nI (10 + 10 * s)) := by
    rw [Int32.lt_iff_toInt_lt, ← Int32.toInt_inj, nI_i (by omega)]
    omega
  have brI : nI O &&& h.1 5 ((nI x * 14) + 12) = 0 ↔ ¬ pbF a b n = true := by
    rw [show (nI x * 14) + 12 = nI (12 + 14 * x) from ixA (f := 12) x10 (by decide), (bv x x10).1, nI_and Olt (bv x x10).2, pbF_i]
    constructor
    · rintro z ⟨i, hi, q1, q2⟩
      have q3 := (bt x i x10 (by omega)).mp ((hba i hi).mp q2)
      have q4 := Ob i (by omega)
      rw [decide_eq_true hi, q1] at q4
      have := congrArg (fun v => Nat.testBit v i) z
      simp only [Nat.testBit_and, q3, q4, Nat.zero_testBit] at this
      exact absurd this (by decide)
    · intro z
      apply Nat.eq_of_testBit_eq
      intro i
      rw [Nat.zero_testBit, Nat.testBit_and]
      by_cases hi : i < 10
      · rw [Ob i hi]
        by_cases q : i < n
        · cases qa : a i with
          | false => rw [Bool.and_false, Bool.false_and]
          | true =>
            have : ¬ ((h.1 5 (nI (12 + 14 * x))).toInt.toNat).testBit i = true := fun y => z ⟨i, q, qa, (hba i q).mpr ((bt x i x10 hi).mpr y)⟩
            rw [(Bool.not_eq_true _).mp this, Bool.and_false]
        · rw [decide_eq_false q, Bool.false_and, Bool.false_and]
      · have : O.testBit i = false := Nat.testBit_lt_two_pow (Nat.lt_of_lt_of_le Olt (show 1024 ≤ 2 ^ i from Nat.pow_le_pow_right (n := 2) (by decide) (Nat.le_of_not_lt hi)))
        rw [this, Bool.false_and]
  refine ⟨a, b, W, O, hat, hba, hai, hW, hO, ?_, fun z => ?_⟩
  · rw [Oc, rmA, rmI, brI, mw x s x10 s3, ixS0]
  · rw [Oc, rmA, Int32.lt_iff_toInt_lt, nI_i (by omega)] at z
    exact z
set_option maxRecDepth 100000 in
theorem go_N {d' : Nat} {h : Hp} {n nS nT x : Nat} {y : Int} (n10 : n ≤ 10) (s3 : nS ≤ 3) (y0 : 0 ≤ y) (y1 : y ≤ 20000) (en : h.1 4 2 = nI n) (en2 : h.1 66 2 = nI n) (es : h.1 2 2 = nI nS) (es2 : h.1 66 1 = nI nS) (t30 : nT ≤ 30) (eT : h.1 6 2 = nI nT) (eT2 : h.1 66 3 = nI nT) (xn : x < n) (U0 : KC h 14 0 0 (0)) (U16 : KC h 14 16 0 (y)) (F0 : KC h 17 0 0 ((-1))) (B0 : KC h 12 0 0 ((n : Int))) (U4 : KC h 14 4 0 (0)) (R112 : KC h 9 112 0 (0)) (R128 : KC h 9 128 0 (0)) (R144 : KC h 9 144 0 (0)) (R208 : KC h 9 208 0 (0)) (R224 : KC h 9 224 0 (0)) (R240 : KC h 9 240 0 (0)) (R256 : KC h 9 256 0 (0)) (R288 : KC h 9 288 0 (0)) (R304 : KC h 9 304 0 (0)) (R320 : KC h 9 320 0 (0)) (R336 : KC h 9 336 0 (0)) (R352 : KC h 9 352 0 (0)) (R368 : KC h 9 368 0 (0)) (R384 : KC h 9 384 0 (0)) (R400 : KC h 9 400 0 (0)) (R416 : KC h 9 416 0 (0)) (R432 : KC h 9 432 0 (0)) (R576 : KC h 9 576 0 (0)) (R592 : KC h 9 592 0 (0)) (Z208 : KC h 11 208 0 ((n : Int))) (Z224 : KC h 11 224 0 ((n : Int))) (Z288 : KC h 11 288 0 ((n : Int))) (Z304 : KC h 11 304 0 ((n : Int))) (Z432 : KC h 11 432 0 ((nT : Int))) (hR : ∀ q ∈ rgT, RgO h q) : ∃ hA hB, CRun (d' + 4) 69 [.ref 1, .int (nI x), .int (-1000000005)] h none hA ∧ CRun (d' + 4) 188 [.ref 65, .int (nI x), .int (-1)] h none hB ∧ (∀ q ∈ rgT, RgO (mxH true hA hB) q) ∧ Frm pm12.2.2.1.2.2.2.2.2.1 h (mxH true hA hB) ∧ KC (mxH true hA hB) 9 112 0 (0) ∧ KC (mxH true hA hB) 9 128 0 (0) ∧ KC (mxH true hA hB) 9 144 0 (0) ∧ KC (mxH true hA hB) 9 208 0 (0) ∧ KC (mxH true hA hB) 9 224 0 (0) ∧ KC (mxH true hA hB) 9 240 0 (0) ∧ KC (mxH true hA hB) 9 256 0 (0) ∧ KC (mxH true hA hB) 9 288 0 (0) ∧ KC (mxH true hA hB) 9 304 0 (0) ∧ KC (mxH true hA hB) 9 320 0 (0) ∧ KC (mxH true hA hB) 9 336 0 (0) ∧ KC (mxH true hA hB) 9 352 0 (0) ∧ KC (mxH true hA hB) 9 368 0 (0) ∧ KC (mxH true hA hB) 9 384 0 (0) ∧ KC (mxH true hA hB) 9 400 0 (0) ∧ KC (mxH true hA hB) 9 416 0 (0) ∧ KC (mxH true hA hB) 9 432 0 (0) ∧ KC (mxH true hA hB) 9 576 0 (0) ∧ KC (mxH true hA hB) 9 592 0 (0) ∧ KC (mxH true hA hB) 14 0 0 (0) ∧ KC (mxH true hA hB) 14 4 0 (0) ∧ KC (mxH true hA hB) 17 0 0 ((-1)) ∧ KC (mxH true hA hB) 11 208 0 ((n : Int)) ∧ KC (mxH true hA hB) 11 224 0 ((n : Int)) ∧ KC (mxH true hA hB) 11 288 0 ((n : Int)) ∧ KC (mxH true hA hB) 11 304 0 ((n : Int)) ∧ KC (mxH true hA hB) 11 432 0 ((nT : Int)) ∧ KC (mxH true hA hB) 14 16 0 (y) ∧ KC (mxH true hA hB) 12 0 0 ((n : Int)) := by
  have ex : (x : Int) = (nI x).toInt := (nI_i (by omega)).symm
  have i42 : (n : Int) = (h.1 4 2).toInt := by rw [en, nI_i (by omega)]
  have i662 : (n : Int) = (h.1 66 2).toInt := by rw [en2, nI_i (by omega)]
  have i22 : (nS : Int) = (h.1 2 2).toInt := by rw [es, nI_i (by omega)]
  have i661 : (nS : Int) = (h.1 66 1).toInt := by rw [es2, nI_i (by omega)]
  have i62 : (nT : Int) = (h.1 6 2).toInt := by rw [eT, nI_i (by omega)]
  have i663 : (nT : Int) = (h.1 66 3).toInt := by rw [eT2, nI_i (by omega)]
  obtain ⟨rA, hA, rB, hB, cA, cB, -, -, -, -, RG, FR, oe, hoe, ρ2, ag2, -, rtA, rtB, kc2, -⟩ := okP16 (d' + 4) (by show 4 ≤ _; omega) (fun k => ([(x : Int), (-1000000005), (x : Int), (-1), (n : Int), (n : Int), 0, y, (-1), (n : Int), (nS : Int), (nS : Int), 0, (nT : Int), (nT : Int), 0, 0, 0, 0, 0, 0, 0, 0, 0, 0, 0, 0, 0, 0, 0, 0, 0, 0, 0, (n : Int), (n : Int), (n : Int), (n : Int), (nT : Int)] : List Int).getD k 0) [.ref 1, .int (nI x), .int (-1000000005)] [.ref 65, .int (nI x), .int (-1)] h rfl ⟨_, _, rfl, by rw [if_pos rfl]; exact ⟨rfl, by decide, ⟨_, _, rfl, by rw [if_neg (by decide), if_pos rfl]; exact ⟨by show (0 : Int) ≤ (x : Int) ∧ (x : Int) ≤ 9; omega, ⟨_, rfl, ex⟩, ⟨_, _, rfl, by rw [if_neg (by decide), if_pos rfl]; exact ⟨by show ((-1000000005) : Int) ≤ (-1000000005) ∧ (-1000000005) ≤ (-1000000005); omega, ⟨_, rfl, rfl⟩, ⟨_, _, rfl, by rw [if_pos rfl]; exact ⟨rfl, by decide, ⟨_, _, rfl, by rw [if_neg (by decide), if_pos rfl]; exact ⟨by show (0 : Int) ≤ (x : Int) ∧ (x : Int) ≤ 9; omega, ⟨_, rfl, ex⟩, ⟨_, _, rfl, by rw [if_neg (by decide), if_pos rfl]; exact ⟨by show ((-1) : Int) ≤ (-1) ∧ (-1) ≤ (-1); omega, ⟨_, rfl, rfl⟩, rfl⟩⟩⟩⟩⟩⟩⟩⟩⟩⟩⟩⟩ (List.forall_mem_cons.mpr ⟨by show (0 : Int) ≤ (n : Int) ∧ (n : Int) ≤ 10; omega, List.forall_mem_cons.mpr ⟨by show (0 : Int) ≤ (n : Int) ∧ (n : Int) ≤ 10; omega, List.forall_mem_cons.mpr ⟨by show (0 : Int) ≤ 0 ∧ 0 ≤ 0; omega, List.forall_mem_cons.mpr ⟨by show (0 : Int) ≤ y ∧ y ≤ 20000; omega, List.forall_mem_cons.mpr ⟨by show ((-1) : Int) ≤ (-1) ∧ (-1) ≤ (-1); omega, List.forall_mem_cons.mpr ⟨by show (0 : Int) ≤ (n : Int) ∧ (n : Int) ≤ 10; omega, List.forall_mem_cons.mpr ⟨by show (0 : Int) ≤ (nS : Int) ∧ (nS : Int) ≤ 3; omega, List.forall_mem_cons.mpr ⟨by show (0 : Int) ≤ (nS : Int) ∧ (nS : Int) ≤ 3; omega, List.forall_mem_cons.mpr ⟨by show (0 : Int) ≤ 0 ∧ 0 ≤ 0; omega, List.forall_mem_cons.mpr ⟨by show (0 : Int) ≤ (nT : Int) ∧ (nT : Int) ≤ 30; omega, List.forall_mem_cons.mpr ⟨by show (0 : Int) ≤ (nT : Int) ∧ (nT : Int) ≤ 30; omega, List.forall_mem_cons.mpr ⟨by show (0 : Int) ≤ 0 ∧ 0 ≤ 0; omega, List.forall_mem_cons.mpr ⟨by show (0 : Int) ≤ 0 ∧ 0 ≤ 0; omega, List.forall_mem_cons.mpr ⟨by show (0 : Int) ≤ 0 ∧ 0 ≤ 0; omega, List.forall_mem_cons.mpr ⟨by show (0 : Int) ≤ 0 ∧ 0 ≤ 0; omega, List.forall_mem_cons.mpr ⟨by show (0 : Int) ≤ 0 ∧ 0 ≤ 0; omega, List.forall_mem_cons.mpr ⟨by show (0 : Int) ≤ 0 ∧ 0 ≤ 0; omega, List.forall_mem_cons.mpr ⟨by show (0 : Int) ≤ 0 ∧ 0 ≤ 0; omega, List.forall_mem_cons.mpr ⟨by show (0 : Int) ≤ 0 ∧ 0 ≤ 0; omega, List.forall_mem_cons.mpr ⟨by show (0 : Int) ≤ 0 ∧ 0 ≤ 0; omega, List.forall_mem_cons.mpr ⟨by show (0 : Int) ≤ 0 ∧ 0 ≤ 0; omega, List.forall_mem_cons.mpr ⟨by show (0 : Int) ≤ 0 ∧ 0 ≤ 0; omega, List.forall_mem_cons.mpr ⟨by show (0 : Int) ≤ 0 ∧ 0 ≤ 0; omega, List.forall_mem_cons.mpr ⟨by show (0 : Int) ≤ 0 ∧ 0 ≤ 0; omega, List.forall_mem_cons.mpr ⟨by show (0 : Int) ≤ 0 ∧ 0 ≤ 0; omega, List.forall_mem_cons.mpr ⟨by show (0 : Int) ≤ 0 ∧ 0 ≤ 0; omega, List.forall_mem_cons.mpr ⟨by show (0 : Int) ≤ 0 ∧ 0 ≤ 0; omega, List.forall_mem_cons.mpr ⟨by show (0 : Int) ≤ 0 ∧ 0 ≤ 0; omega, List.forall_mem_cons.mpr ⟨by show (0 : Int) ≤ 0 ∧ 0 ≤ 0; omega, List.forall_mem_cons.mpr ⟨by show (0 : Int) ≤ 0 ∧ 0 ≤ 0; omega, List.forall_mem_cons.mpr ⟨by show (0 : Int) ≤ (n : Int) ∧ (n : Int) ≤ 10; omega, List.forall_mem_cons.mpr ⟨by show (0 : Int) ≤ (n : Int) ∧ (n : Int) ≤ 10; omega, List.forall_mem_cons.mpr ⟨by show (0 : Int) ≤ (n : Int) ∧ (n : Int) ≤ 10; omega, List.forall_mem_cons.mpr ⟨by show (0 : Int) ≤ (n : Int) ∧ (n : Int) ≤ 10; omega, List.forall_mem_cons.mpr ⟨by show (0 : Int) ≤ (nT : Int) ∧ (nT : Int) ≤ 30; omega, fun _ h => absurd h List.not_mem_nil⟩⟩⟩⟩⟩⟩⟩⟩⟩⟩⟩⟩⟩⟩⟩⟩⟩⟩⟩⟩⟩⟩⟩⟩⟩⟩⟩⟩⟩⟩⟩⟩⟩⟩⟩) (List.forall_mem_cons.mpr ⟨⟨2, leV_C _ 2, by show leV _ (leX 4) = _; rw [leV_X]; exact i42⟩, List.forall_mem_cons.mpr ⟨⟨2, leV_C _ 2, by show leV _ (leX 5) = _; rw [leV_X]; exact i662⟩, List.forall_mem_cons.mpr ⟨by show KC h 14 0 (leV _ (leC 0)) (leV _ (leX 6)); rw [leV_C, leV_X]; exact U0, List.forall_mem_cons.mpr ⟨by show KC h 14 16 (leV _ (leC 0)) (leV _ (leX 7)); rw [leV_C, leV_X]; exact U16, List.forall_mem_cons.mpr ⟨by show KC h 17 0 (leV _ (leC 0)) (leV _ (leX 8)); rw [leV_C, leV_X]; exact F0, List.forall_mem_cons.mpr ⟨by show KC h 12 0 (leV _ (leC 0)) (leV _ (leX 9)); rw [leV_C, leV_X]; exact B0, List.forall_mem_cons.mpr ⟨⟨2, leV_C _ 2, by show leV _ (leX 10) = _; rw [leV_X]; exact i22⟩, List.forall_mem_cons.mpr ⟨⟨1, leV_C _ 1, by show leV _ (leX 11) = _; rw [leV_X]; exact i661⟩, List.forall_mem_cons.mpr ⟨by show KC h 14 4 (leV _ (leC 0)) (leV _ (leX 12)); rw [leV_C, leV_X]; exact U4, List.forall_mem_cons.mpr ⟨⟨2, leV_C _ 2, by show leV _ (leX 13) = _; rw [leV_X]; exact i62⟩, List.forall_mem_cons.mpr ⟨⟨3, leV_C _ 3, by show leV _ (leX 14) = _; rw [leV_X]; exact i663⟩, List.forall_mem_cons.mpr ⟨by show KC h 9 112 (leV _ (leC 0)) (leV _ (leX 15)); rw [leV_C, leV_X]; exact R112, List.forall_mem_cons.mpr ⟨by show KC h 9 128 (leV _ (leC 0)) (leV _ (leX 16)); rw [leV_C, leV_X]; exact R128, List.forall_mem_cons.mpr ⟨by show KC h 9 144 (leV _ (leC 0)) (leV _ (leX 17)); rw [leV_C, leV_X]; exact R144, List.forall_mem_cons.mpr ⟨by show KC h 9 208 (leV _ (leC 0)) (leV _ (leX 18)); rw [leV_C, leV_X]; exact R208, List.forall_mem_cons.mpr ⟨by show KC h 9 224 (leV _ (leC 0)) (leV _ (leX 19)); rw [leV_C, leV_X]; exact R224, List.forall_mem_cons.mpr ⟨by show KC h 9 240 (leV _ (leC 0)) (leV _ (leX 20)); rw [leV_C, leV_X]; exact R240, List.forall_mem_cons.mpr ⟨by show KC h 9 256 (leV _ (leC 0)) (leV _ (leX 21)); rw [leV_C, leV_X]; exact R256, List.forall_mem_cons.mpr ⟨by show KC h 9 288 (leV _ (leC 0)) (leV _ (leX 22)); rw [leV_C, leV_X]; exact R288, List.forall_mem_cons.mpr ⟨by show KC h 9 304 (leV _ (leC 0)) (leV _ (leX 23)); rw [leV_C, leV_X]; exact R304, List.forall_mem_cons.mpr ⟨by show KC h 9 320 (leV _ (leC 0)) (leV _ (leX 24)); rw [leV_C, leV_X]; exact R320, List.forall_mem_cons.mpr ⟨by show KC h 9 336 (leV _ (leC 0)) (leV _ (leX 25)); rw [leV_C, leV_X]; exact R336, List.forall_mem_cons.mpr ⟨by show KC h 9 352 (leV _ (leC 0)) (leV _ (leX 26)); rw [leV_C, leV_X]; exact R352, List.forall_mem_cons.mpr ⟨by show KC h 9 368 (leV _ (leC 0)) (leV _ (leX 27)); rw [leV_C, leV_X]; exact R368, List.forall_mem_cons.mpr ⟨by show KC h 9 384 (leV _ (leC 0)) (leV _ (leX 28)); rw [leV_C, leV_X]; exact R384, List.forall_mem_cons.mpr ⟨by show KC h 9 400 (leV _ (leC 0)) (leV _ (leX 29)); rw [leV_C, leV_X]; exact R400, List.forall_mem_cons.mpr ⟨by show KC h 9 416 (leV _ (leC 0)) (leV _ (leX 30)); rw [leV_C, leV_X]; exact R416, List.forall_mem_cons.mpr ⟨by show KC h 9 432 (leV _ (leC 0)) (leV _ (leX 31)); rw [leV_C, leV_X]; exact R432, List.forall_mem_cons.mpr ⟨by show KC h 9 576 (leV _ (leC 0)) (leV _ (leX 32)); rw [leV_C, leV_X]; exact R576, List.forall_mem_cons.mpr ⟨by show KC h 9 592 (leV _ (leC 0)) (leV _ (leX 33)); rw [leV_C, leV_X]; exact R592, List.forall_mem_cons.mpr ⟨by show KC h 11 208 (leV _ (leC 0)) (leV _ (leX 34)); rw [leV_C, leV_X]; exact Z208, List.forall_mem_cons.mpr ⟨by show KC h 11 224 (leV _ (leC 0)) (leV _ (leX 35)); rw [leV_C, leV_X]; exact Z224, List.forall_mem_cons.mpr ⟨by show KC h 11 288 (leV _ (leC 0)) (leV _ (leX 36)); rw [leV_C, leV_X]; exact Z288, List.forall_mem_cons.mpr ⟨by show KC h 11 304 (leV _ (leC 0)) (leV _ (leX 37)); rw [leV_C, leV_X]; exact Z304, List.forall_mem_cons.mpr ⟨by show KC h 11 432 (leV _ (leC 0)) (leV _ (leX 38)); rw [leV_C, leV_X]; exact Z432, fun _ h => absurd h List.not_mem_nil⟩⟩⟩⟩⟩⟩⟩⟩⟩⟩⟩⟩⟩⟩⟩⟩⟩⟩⟩⟩⟩⟩⟩⟩⟩⟩⟩⟩⟩⟩⟩⟩⟩⟩⟩) (List.forall_mem_cons.mpr ⟨by show (0 : Int) ≤ 0 + (1 * ((n : Int)) + (-1 * ((n : Int)) + (0))); omega, List.forall_mem_cons.mpr ⟨by show (0 : Int) ≤ 0 + (-1 * ((n : Int)) + (1 * ((n : Int)) + (0))); omega, List.forall_mem_cons.mpr ⟨by show (0 : Int) ≤ 0 + (1 * ((nS : Int)) + (-1 * ((nS : Int)) + (0))); omega, List.forall_mem_cons.mpr ⟨by show (0 : Int) ≤ 0 + (-1 * ((nS : Int)) + (1 * ((nS : Int)) + (0))); omega, List.forall_mem_cons.mpr ⟨by show (0 : Int) ≤ 0 + (1 * ((nT : Int)) + (-1 * ((nT : Int)) + (0))); omega, List.forall_mem_cons.mpr ⟨by show (0 : Int) ≤ 0 + (-1 * ((nT : Int)) + (1 * ((nT : Int)) + (0))); omega, List.forall_mem_cons.mpr ⟨by show (0 : Int) ≤ -1 + (-1 * ((x : Int)) + (1 * ((n : Int)) + (0))); omega, List.forall_mem_cons.mpr ⟨by show (0 : Int) ≤ 0 + (1 * ((n : Int)) + (-1 * ((n : Int)) + (0))); omega, List.forall_mem_cons.mpr ⟨by show (0 : Int) ≤ 0 + (-1 * ((n : Int)) + (1 * ((n : Int)) + (0))); omega, List.forall_mem_cons.mpr ⟨by show (0 : Int) ≤ 0 + (1 * ((n : Int)) + (-1 * ((n : Int)) + (0))); omega, List.forall_mem_cons.mpr ⟨by show (0 : Int) ≤ 0 + (-1 * ((n : Int)) + (1 * ((n : Int)) + (0))); omega, List.forall_mem_cons.mpr ⟨by show (0 : Int) ≤ 0 + (1 * ((n : Int)) + (-1 * ((n : Int)) + (0))); omega, List.forall_mem_cons.mpr ⟨by show (0 : Int) ≤ 0 + (-1 * ((n : Int)) + (1 * ((n : Int)) + (0))); omega, List.forall_mem_cons.mpr ⟨by show (0 : Int) ≤ 0 + (1 * ((n : Int)) + (-1 * ((n : Int)) + (0))); omega, List.forall_mem_cons.mpr ⟨by show (0 : Int) ≤ 0 + (-1 * ((n : Int)) + (1 * ((n : Int)) + (0))); omega, List.forall_mem_cons.mpr ⟨by show (0 : Int) ≤ 0 + (1 * ((nT : Int)) + (-1 * ((nT : Int)) + (0))); omega, List.forall_mem_cons.mpr ⟨by show (0 : Int) ≤ 0 + (-1 * ((nT : Int)) + (1 * ((nT : Int)) + (0))); omega, List.forall_mem_cons.mpr ⟨by show (0 : Int) ≤ 0 + (1 * ((x : Int)) + (-1 * ((x : Int)) + (0))); omega, List.forall_mem_cons.mpr ⟨by show (0 : Int) ≤ 0 + (-1 * ((x : Int)) + (1 * ((x : Int)) + (0))); omega, fun _ h => absurd h List.not_mem_nil⟩⟩⟩⟩⟩⟩⟩⟩⟩⟩⟩⟩⟩⟩⟩⟩⟩⟩⟩) hR
  obtain rfl := List.mem_singleton.mp hoe
  have rtA : rA = none := rtA
  have rtB : rB = none := rtB
  subst rtA rtB
  have ag2 : ∀ k, k < 39 → ρ2 k = _ := ag2
  exact ⟨hA, hB, cA, cB, RG, FR, kc_c (kc2 (9, 112, (0, []), (0, [])) (List.mem_of_getElem? (i := 0) rfl)), kc_c (kc2 (9, 128, (0, []), (0, [])) (List.mem_of_getElem? (i := 1) rfl)), kc_c (kc2 (9, 144, (0, []), (0, [])) (List.mem_of_getElem? (i := 2) rfl)), kc_c (kc2 (9, 208, (0, []), (0, [])) (List.mem_of_getElem? (i := 3) rfl)), kc_c (kc2 (9, 224, (0, []), (0, [])) (List.mem_of_getElem? (i := 4) rfl)), kc_c (kc2 (9, 240, (0, []), (0, [])) (List.mem_of_getElem? (i := 5) rfl)), kc_c (kc2 (9, 256, (0, []), (0, [])) (List.mem_of_getElem? (i := 6) rfl)), kc_c (kc2 (9, 288, (0, []), (0, [])) (List.mem_of_getElem? (i := 7) rfl)), kc_c (kc2 (9, 304, (0, []), (0, [])) (List.mem_of_getElem? (i := 8) rfl)), kc_c (kc2 (9, 320, (0, []), (0, [])) (List.mem_of_getElem? (i := 9) rfl)), kc_c (kc2 (9, 336, (0, []), (0, [])) (List.mem_of_getElem? (i := 10) rfl)), kc_c (kc2 (9, 352, (0, []), (0, [])) (List.mem_of_getElem? (i := 11) rfl)), kc_c (kc2 (9, 368, (0, []), (0, [])) (List.mem_of_getElem? (i := 12) rfl)), kc_c (kc2 (9, 384, (0, []), (0, [])) (List.mem_of_getElem? (i := 13) rfl)), kc_c (kc2 (9, 400, (0, []), (0, [])) (List.mem_of_getElem? (i := 14) rfl)), kc_c (kc2 (9, 416, (0, []), (0, [])) (List.mem_of_getElem? (i := 15) rfl)), kc_c (kc2 (9, 432, (0, []), (0, [])) (List.mem_of_getElem? (i := 16) rfl)), kc_c (kc2 (9, 576, (0, []), (0, [])) (List.mem_of_getElem? (i := 17) rfl)), kc_c (kc2 (9, 592, (0, []), (0, [])) (List.mem_of_getElem? (i := 18) rfl)), kc_c (kc2 (14, 0, (0, []), (0, [])) (List.mem_of_getElem? (i := 24) rfl)), kc_c (kc2 (14, 4, (0, []), (0, [])) (List.mem_of_getElem? (i := 25) rfl)), kc_c (kc2 (17, 0, (0, []), ((-1), [])) (List.mem_of_getElem? (i := 27) rfl)), (by have q := kc_at (kc2 (11, 208, (0, []), (0, [(34, 1)])) (List.mem_of_getElem? (i := 19) rfl)); rw [ag2 34 (by decide)] at q; exact q), (by have q := kc_at (kc2 (11, 224, (0, []), (0, [(35, 1)])) (List.mem_of_getElem? (i := 20) rfl)); rw [ag2 35 (by decide)] at q; exact q), (by have q := kc_at (kc2 (11, 288, (0, []), (0, [(36, 1)])) (List.mem_of_getElem? (i := 21) rfl)); rw [ag2 36 (by decide)] at q; exact q), (by have q := kc_at (kc2 (11, 304, (0, []), (0, [(37, 1)])) (List.mem_of_getElem? (i := 22) rfl)); rw [ag2 37 (by decide)] at q; exact q), (by have q := kc_at (kc2 (11, 432, (0, []), (0, [(38, 1)])) (List.mem_of_getElem? (i := 23) rfl)); rw [ag2 38 (by decide)] at q; exact q), (by have q := kc_at (kc2 (14, 16, (0, []), (0, [(7, 1)])) (List.mem_of_getElem? (i := 26) rfl)); rw [ag2 7 (by decide)] at q; exact q), (by have q := kc_at (kc2 (12, 0, (0, []), (0, [(9, 1)])) (List.mem_of_getElem? (i := 28) rfl)); rw [ag2 9 (by decide)] at q; exact q)⟩
set_option maxRecDepth 100000 in
theorem go_S {d' : Nat} {h : Hp} {n nS nT x s : Nat} {y : Int} (n10 : n ≤ 10) (s3 : nS ≤ 3) (y0 : 0 ≤ y) (y1 : y ≤ 20000) (en : h.1 4 2 = nI n) (en2 : h.1 66 2 = nI n) (es : h.1 2 2 = nI nS) (es2 : h.1 66 1 = nI nS) (t30 : nT ≤ 30) (eT : h.1 6 2 = nI nT) (eT2 : h.1 66 3 = nI nT) (xn : x < n) (sn : s < nS) (fr0 : (h.1 66 (nI (51 + 16 * x))).toInt = 0) (U0 : KC h 14 0 0 (0)) (U16 : KC h 14 16 0 (y)) (F0 : KC h 17 0 0 ((-1))) (B0 : KC h 12 0 0 ((n : Int))) (U4 : KC h 14 4 0 (0)) (R112 : KC h 9 112 0 (0)) (R128 : KC h 9 128 0 (0)) (R144 : KC h 9 144 0 (0)) (R208 : KC h 9 208 0 (0)) (R224 : KC h 9 224 0 (0)) (R240 : KC h 9 240 0 (0)) (R256 : KC h 9 256 0 (0)) (R288 : KC h 9 288 0 (0)) (R304 : KC h 9 304 0 (0)) (R320 : KC h 9 320 0 (0)) (R336 : KC h 9 336 0 (0)) (R352 : KC h 9 352 0 (0)) (R368 : KC h 9 368 0 (0)) (R384 : KC h 9 384 0 (0)) (R400 : KC h 9 400 0 (0)) (R416 : KC h 9 416 0 (0)) (R432 : KC h 9 432 0 (0)) (R576 : KC h 9 576 0 (0)) (R592 : KC h 9 592 0 (0)) (Z208 : KC h 11 208 0 ((n : Int))) (Z224 : KC h 11 224 0 ((n : Int))) (Z288 : KC h 11 288 0 ((n : Int))) (Z304 : KC h 11 304 0 ((n : Int))) (Z432 : KC h 11 432 0 ((nT : Int))) (hR : ∀ q ∈ rgT, RgO h q) : ∃ hA hB, CRun (d' + 4) 69 [.ref 1, .int (nI x), .int (nI s)] h none hA ∧ CRun (d' + 4) 188 [.ref 65, .int (nI x), .int (nI s)] h none hB ∧ (∀ q ∈ rgT, RgO (mxH true hA hB) q) ∧ Frm pm12.2.2.1.2.2.2.2.2.1 h (mxH true hA hB) ∧ KC (mxH true hA hB) 9 112 0 (0) ∧ KC (mxH true hA hB) 9 128 0 (0) ∧ KC (mxH true hA hB) 9 144 0 (0) ∧ KC (mxH true hA hB) 9 208 0 (0) ∧ KC (mxH true hA hB) 9 224 0 (0) ∧ KC (mxH true hA hB) 9 240 0 (0) ∧ KC (mxH true hA hB) 9 256 0 (0) ∧ KC (mxH true hA hB) 9 288 0 (0) ∧ KC (mxH true hA hB) 9 304 0 (0) ∧ KC (mxH true hA hB) 9 320 0 (0) ∧ KC (mxH true hA hB) 9 336 0 (0) ∧ KC (mxH true hA hB) 9 352 0 (0) ∧ KC (mxH true hA hB) 9 368 0 (0) ∧ KC (mxH true hA hB) 9 384 0 (0) ∧ KC (mxH true hA hB) 9 400 0 (0) ∧ KC (mxH true hA hB) 9 416 0 (0) ∧ KC (mxH true hA hB) 9 432 0 (0) ∧ KC (mxH true hA hB) 9 576 0 (0) ∧ KC (mxH true hA hB) 9 592 0 (0) ∧ KC (mxH true hA hB) 14 0 0 (0) ∧ KC (mxH true hA hB) 14 4 0 (0) ∧ KC (mxH true hA hB) 17 0 0 ((-1)) ∧ KC (mxH true hA hB) 11 208 0 ((n : Int)) ∧ KC (mxH true hA hB) 11 224 0 ((n : Int)) ∧ KC (mxH true hA hB) 11 288 0 ((n : Int)) ∧ KC (mxH true hA hB) 11 304 0 ((n : Int)) ∧ KC (mxH true hA hB) 11 432 0 ((nT : Int)) ∧ KC (mxH true hA hB) 14 16 0 (y) ∧ KC (mxH true hA hB) 12 0 0 ((n : Int)) := by
  have ex : (x : Int) = (nI x).toInt := (nI_i (by omega)).symm
  have i42 : (n : Int) = (h.1 4 2).toInt := by rw [en, nI_i (by omega)]
  have i662 : (n : Int) = (h.1 66 2).toInt := by rw [en2, nI_i (by omega)]
  have i22 : (nS : Int) = (h.1 2 2).toInt := by rw [es, nI_i (by omega)]
  have i661 : (nS : Int) = (h.1 66 1).toInt := by rw [es2, nI_i (by omega)]
  have i62 : (nT : Int) = (h.1 6 2).toInt := by rw [eT, nI_i (by omega)]
  have i663 : (nT : Int) = (h.1 66 3).toInt := by rw [eT2, nI_i (by omega)]
  have es_ : (s : Int) = (nI s).toInt := (nI_i (by omega)).symm
  obtain ⟨rA, hA, rB, hB, cA, cB, -, -, -, -, RG, FR, oe, hoe, ρ2, ag2, -, rtA, rtB, kc2, -⟩ := okP15 (d' + 4) (by show 4 ≤ _; omega) (fun k => ([(x : Int), (s : Int), (x : Int), (s : Int), (n : Int), (n : Int), 0, y, (-1), (n : Int), (nS : Int), (nS : Int), 0, 0, (nT : Int), (nT : Int), 0, 0, 0, 0, 0, 0, 0, 0, 0, 0, 0, 0, 0, 0, 0, 0, 0, 0, 0, (n : Int), (n : Int), (n : Int), (n : Int), (nT : Int)] : List Int).getD k 0) [.ref 1, .int (nI x), .int (nI s)] [.ref 65, .int (nI x), .int (nI s)] h rfl ⟨_, _, rfl, by rw [if_pos rfl]; exact ⟨rfl, by decide, ⟨_, _, rfl, by rw [if_neg (by decide), if_pos rfl]; exact ⟨by show (0 : Int) ≤ (x : Int) ∧ (x : Int) ≤ 9; omega, ⟨_, rfl, ex⟩, ⟨_, _, rfl, by rw [if_neg (by decide), if_pos rfl]; exact ⟨by show (0 : Int) ≤ (s : Int) ∧ (s : Int) ≤ 2; omega, ⟨_, rfl, es_⟩, ⟨_, _, rfl, by rw [if_pos rfl]; exact ⟨rfl, by decide, ⟨_, _, rfl, by rw [if_neg (by decide), if_pos rfl]; exact ⟨by show (0 : Int) ≤ (x : Int) ∧ (x : Int) ≤ 9; omega, ⟨_, rfl, ex⟩, ⟨_, _, rfl, by rw [if_neg (by decide), if_pos rfl]; exact ⟨by show (0 : Int) ≤ (s : Int) ∧ (s : Int) ≤ 2; omega, ⟨_, rfl, es_⟩, rfl⟩⟩⟩⟩⟩⟩⟩⟩⟩⟩⟩⟩ (List.forall_mem_cons.mpr ⟨by show (0 : Int) ≤ (n : Int) ∧ (n : Int) ≤ 10; omega, List.forall_mem_cons.mpr ⟨by show (0 : Int) ≤ (n : Int) ∧ (n : Int) ≤ 10; omega, List.forall_mem_cons.mpr ⟨by show (0 : Int) ≤ 0 ∧ 0 ≤ 0; omega, List.forall_mem_cons.mpr ⟨by show (0 : Int) ≤ y ∧ y ≤ 20000; omega, List.forall_mem_cons.mpr ⟨by show ((-1) : Int) ≤ (-1) ∧ (-1) ≤ (-1); omega, List.forall_mem_cons.mpr ⟨by show (0 : Int) ≤ (n : Int) ∧ (n : Int) ≤ 10; omega, List.forall_mem_cons.mpr ⟨by show (0 : Int) ≤ (nS : Int) ∧ (nS : Int) ≤ 3; omega, List.forall_mem_cons.mpr ⟨by show (0 : Int) ≤ (nS : Int) ∧ (nS : Int) ≤ 3; omega, List.forall_mem_cons.mpr ⟨by show (0 : Int) ≤ 0 ∧ 0 ≤ 0; omega, List.forall_mem_cons.mpr ⟨by show (0 : Int) ≤ 0 ∧ 0 ≤ 0; omega, List.forall_mem_cons.mpr ⟨by show (0 : Int) ≤ (nT : Int) ∧ (nT : Int) ≤ 30; omega, List.forall_mem_cons.mpr ⟨by show (0 : Int) ≤ (nT : Int) ∧ (nT : Int) ≤ 30; omega, List.forall_mem_cons.mpr ⟨by show (0 : Int) ≤ 0 ∧ 0 ≤ 0; omega, List.forall_mem_cons.mpr ⟨by show (0 : Int) ≤ 0 ∧ 0 ≤ 0; omega, List.forall_mem_cons.mpr ⟨by show (0 : Int) ≤ 0 ∧ 0 ≤ 0; omega, List.forall_mem_cons.mpr ⟨by show (0 : Int) ≤ 0 ∧ 0 ≤ 0; omega, List.forall_mem_cons.mpr ⟨by show (0 : Int) ≤ 0 ∧ 0 ≤ 0; omega, List.forall_mem_cons.mpr ⟨by show (0 : Int) ≤ 0 ∧ 0 ≤ 0; omega, List.forall_mem_cons.mpr ⟨by show (0 : Int) ≤ 0 ∧ 0 ≤ 0; omega, List.forall_mem_cons.mpr ⟨by show (0 : Int) ≤ 0 ∧ 0 ≤ 0; omega, List.forall_mem_cons.mpr ⟨by show (0 : Int) ≤ 0 ∧ 0 ≤ 0; omega, List.forall_mem_cons.mpr ⟨by show (0 : Int) ≤ 0 ∧ 0 ≤ 0; omega, List.forall_mem_cons.mpr ⟨by show (0 : Int) ≤ 0 ∧ 0 ≤ 0; omega, List.forall_mem_cons.mpr ⟨by show (0 : Int) ≤ 0 ∧ 0 ≤ 0; omega, List.forall_mem_cons.mpr ⟨by show (0 : Int) ≤ 0 ∧ 0 ≤ 0; omega, List.forall_mem_cons.mpr ⟨by show (0 : Int) ≤ 0 ∧ 0 ≤ 0; omega, List.forall_mem_cons.mpr ⟨by show (0 : Int) ≤ 0 ∧ 0 ≤ 0; omega, List.forall_mem_cons.mpr ⟨by show (0 : Int) ≤ 0 ∧ 0 ≤ 0; omega, List.forall_mem_cons.mpr ⟨by show (0 : Int) ≤ 0 ∧ 0 ≤ 0; omega, List.forall_mem_cons.mpr ⟨by show (0 : Int) ≤ 0 ∧ 0 ≤ 0; omega, List.forall_mem_cons.mpr ⟨by show (0 : Int) ≤ 0 ∧ 0 ≤ 0; omega, List.forall_mem_cons.mpr ⟨by show (0 : Int) ≤ (n : Int) ∧ (n : Int) ≤ 10; omega, List.forall_mem_cons.mpr ⟨by show (0 : Int) ≤ (n : Int) ∧ (n : Int) ≤ 10; omega, List.forall_mem_cons.mpr ⟨by show (0 : Int) ≤ (n : Int) ∧ (n : Int) ≤ 10; omega, List.forall_mem_cons.mpr ⟨by show (0 : Int) ≤ (n : Int) ∧ (n : Int) ≤ 10; omega, List.forall_mem_cons.mpr ⟨by show (0 : Int) ≤ (nT : Int) ∧ (nT : Int) ≤ 30; omega, fun _ h => absurd h List.not_mem_nil⟩⟩⟩⟩⟩⟩⟩⟩⟩⟩⟩⟩⟩⟩⟩⟩⟩⟩⟩⟩⟩⟩⟩⟩⟩⟩⟩⟩⟩⟩⟩⟩⟩⟩⟩⟩) (List.forall_mem_cons.mpr ⟨⟨2, leV_C _ 2, by show leV _ (leX 4) = _; rw [leV_X]; exact i42⟩, List.forall_mem_cons.mpr ⟨⟨2, leV_C _ 2, by show leV _ (leX 5) = _; rw [leV_X]; exact i662⟩, List.forall_mem_cons.mpr ⟨by show KC h 14 0 (leV _ (leC 0)) (leV _ (leX 6)); rw [leV_C, leV_X]; exact U0, List.forall_mem_cons.mpr ⟨by show KC h 14 16 (leV _ (leC 0)) (leV _ (leX 7)); rw [leV_C, leV_X]; exact U16, List.forall_mem_cons.mpr ⟨by show KC h 17 0 (leV _ (leC 0)) (leV _ (leX 8)); rw [leV_C, leV_X]; exact F0, List.forall_mem_cons.mpr ⟨by show KC h 12 0 (leV _ (leC 0)) (leV _ (leX 9)); rw [leV_C, leV_X]; exact B0, List.forall_mem_cons.mpr ⟨⟨2, leV_C _ 2, by show leV _ (leX 10) = _; rw [leV_X]; exact i22⟩, List.forall_mem_cons.mpr ⟨⟨1, leV_C _ 1, by show leV _ (leX 11) = _; rw [leV_X]; exact i661⟩, List.forall_mem_cons.mpr ⟨by show KC h 14 4 (leV _ (leC 0)) (leV _ (leX 12)); rw [leV_C, leV_X]; exact U4, List.forall_mem_cons.mpr ⟨⟨nI (51 + 16 * x), by show (51 : Int) + (16 * (x : Int) + 0) = _; rw [nI_i (by omega)]; omega, by show leV _ (leX 13) = _; rw [leV_X]; exact fr0.symm⟩, List.forall_mem_cons.mpr ⟨⟨2, leV_C _ 2, by show leV _ (leX 14) = _; rw [leV_X]; exact i62⟩, List.forall_mem_cons.mpr ⟨⟨3, leV_C _ 3, by show leV _ (leX 15) = _; rw [leV_X]; exact i663⟩, List.forall_mem_cons.mpr ⟨by show KC h 9 112 (leV _ (leC 0)) (leV _ (leX 16)); rw [leV_C, leV_X]; exact R112, List.forall_mem_cons.mpr ⟨by show KC h 9 128 (leV _ (leC 0)) (leV _ (leX 17)); rw [leV_C, leV_X]; exact R128, List.forall_mem_cons.mpr ⟨by show KC h 9 144 (leV _ (leC 0)) (leV _ (leX 18)); rw [leV_C, leV_X]; exact R144, List.forall_mem_cons.mpr ⟨by show KC h 9 208 (leV _ (leC 0)) (leV _ (leX 19)); rw [leV_C, leV_X]; exact R208, List.forall_mem_cons.mpr ⟨by show KC h 9 224 (leV _ (leC 0)) (leV _ (leX 20)); rw [leV_C, leV_X]; exact R224, List.forall_mem_cons.mpr ⟨by show KC h 9 240 (leV _ (leC 0)) (leV _ (leX 21)); rw [leV_C, leV_X]; exact R240, List.forall_mem_cons.mpr ⟨by show KC h 9 256 (leV _ (leC 0)) (leV _ (leX 22)); rw [leV_C, leV_X]; exact R256, List.forall_mem_cons.mpr ⟨by show KC h 9 288 (leV _ (leC 0)) (leV _ (leX 23)); rw [leV_C, leV_X]; exact R288, List.forall_mem_cons.mpr ⟨by show KC h 9 304 (leV _ (leC 0)) (leV _ (leX 24)); rw [leV_C, leV_X]; exact R304, List.forall_mem_cons.mpr ⟨by show KC h 9 320 (leV _ (leC 0)) (leV _ (leX 25)); rw [leV_C, leV_X]; exact R320, List.forall_mem_cons.mpr ⟨by show KC h 9 336 (leV _ (leC 0)) (leV _ (leX 26)); rw [leV_C, leV_X]; exact R336, List.forall_mem_cons.mpr ⟨by show KC h 9 352 (leV _ (leC 0)) (leV _ (leX 27)); rw [leV_C, leV_X]; exact R352, List.forall_mem_cons.mpr ⟨by show KC h 9 368 (leV _ (leC 0)) (leV _ (leX 28)); rw [leV_C, leV_X]; exact R368, List.forall_mem_cons.mpr ⟨by show KC h 9 384 (leV _ (leC 0)) (leV _ (leX 29)); rw [leV_C, leV_X]; exact R384, List.forall_mem_cons.mpr ⟨by show KC h 9 400 (leV _ (leC 0)) (leV _ (leX 30)); rw [leV_C, leV_X]; exact R400, List.forall_mem_cons.mpr ⟨by show KC h 9 416 (leV _ (leC 0)) (leV _ (leX 31)); rw [leV_C, leV_X]; exact R416, List.forall_mem_cons.mpr ⟨by show KC h 9 432 (leV _ (leC 0)) (leV _ (leX 32)); rw [leV_C, leV_X]; exact R432, List.forall_mem_cons.mpr ⟨by show KC h 9 576 (leV _ (leC 0)) (leV _ (leX 33)); rw [leV_C, leV_X]; exact R576, List.forall_mem_cons.mpr ⟨by show KC h 9 592 (leV _ (leC 0)) (leV _ (leX 34)); rw [leV_C, leV_X]; exact R592, List.forall_mem_cons.mpr ⟨by show KC h 11 208 (leV _ (leC 0)) (leV _ (leX 35)); rw [leV_C, leV_X]; exact Z208, List.forall_mem_cons.mpr ⟨by show KC h 11 224 (leV _ (leC 0)) (leV _ (leX 36)); rw [leV_C, leV_X]; exact Z224, List.forall_mem_cons.mpr ⟨by show KC h 11 288 (leV _ (leC 0)) (leV _ (leX 37)); rw [leV_C, leV_X]; exact Z288, List.forall_mem_cons.mpr ⟨by show KC h 11 304 (leV _ (leC 0)) (leV _ (leX 38)); rw [leV_C, leV_X]; exact Z304, List.forall_mem_cons.mpr ⟨by show KC h 11 432 (leV _ (leC 0)) (leV _ (leX 39)); rw [leV_C, leV_X]; exact Z432, fun _ h => absurd h List.not_mem_nil⟩⟩⟩⟩⟩⟩⟩⟩⟩⟩⟩⟩⟩⟩⟩⟩⟩⟩⟩⟩⟩⟩⟩⟩⟩⟩⟩⟩⟩⟩⟩⟩⟩⟩⟩⟩) (List.forall_mem_cons.mpr ⟨by show (0 : Int) ≤ 0 + (1 * ((n : Int)) + (-1 * ((n : Int)) + (0))); omega, List.forall_mem_cons.mpr ⟨by show (0 : Int) ≤ 0 + (-1 * ((n : Int)) + (1 * ((n : Int)) + (0))); omega, List.forall_mem_cons.mpr ⟨by show (0 : Int) ≤ 0 + (1 * ((nS : Int)) + (-1 * ((nS : Int)) + (0))); omega, List.forall_mem_cons.mpr ⟨by show (0 : Int) ≤ 0 + (-1 * ((nS : Int)) + (1 * ((nS : Int)) + (0))); omega, List.forall_mem_cons.mpr ⟨by show (0 : Int) ≤ 0 + (1 * ((nT : Int)) + (-1 * ((nT : Int)) + (0))); omega, List.forall_mem_cons.mpr ⟨by show (0 : Int) ≤ 0 + (-1 * ((nT : Int)) + (1 * ((nT : Int)) + (0))); omega, List.forall_mem_cons.mpr ⟨by show (0 : Int) ≤ -1 + (-1 * ((x : Int)) + (1 * ((n : Int)) + (0))); omega, List.forall_mem_cons.mpr ⟨by show (0 : Int) ≤ -1 + (-1 * ((s : Int)) + (1 * ((nS : Int)) + (0))); omega, List.forall_mem_cons.mpr ⟨by show (0 : Int) ≤ 0 + (1 * ((n : Int)) + (-1 * ((n : Int)) + (0))); omega, List.forall_mem_cons.mpr ⟨by show (0 : Int) ≤ 0 + (-1 * ((n : Int)) + (1 * ((n : Int)) + (0))); omega, List.forall_mem_cons.mpr ⟨by show (0 : Int) ≤ 0 + (1 * ((n : Int)) + (-1 * ((n : Int)) + (0))); omega, List.forall_mem_cons.mpr ⟨by show (0 : Int) ≤ 0 + (-1 * ((n : Int)) + (1 * ((n : Int)) + (0))); omega, List.forall_mem_cons.mpr ⟨by show (0 : Int) ≤ 0 + (1 * ((n : Int)) + (-1 * ((n : Int)) + (0))); omega, List.forall_mem_cons.mpr ⟨by show (0 : Int) ≤ 0 + (-1 * ((n : Int)) + (1 * ((n : Int)) + (0))); omega, List.forall_mem_cons.mpr ⟨by show (0 : Int) ≤ 0 + (1 * ((n : Int)) + (-1 * ((n : Int)) + (0))); omega, List.forall_mem_cons.mpr ⟨by show (0 : Int) ≤ 0 + (-1 * ((n : Int)) + (1 * ((n : Int)) + (0))); omega, List.forall_mem_cons.mpr ⟨by show (0 : Int) ≤ 0 + (1 * ((nT : Int)) + (-1 * ((nT : Int)) + (0))); omega, List.forall_mem_cons.mpr ⟨by show (0 : Int) ≤ 0 + (-1 * ((nT : Int)) + (1 * ((nT : Int)) + (0))); omega, List.forall_mem_cons.mpr ⟨by show (0 : Int) ≤ 0 + (1 * ((x : Int)) + (-1 * ((x : Int)) + (0))); omega, List.forall_mem_cons.mpr ⟨by show (0 : Int) ≤ 0 + (-1 * ((x : Int)) + (1 * ((x : Int)) + (0))); omega, List.forall_mem_cons.mpr ⟨by show (0 : Int) ≤ 0 + (1 * ((s : Int)) + (-1 * ((s : Int)) + (0))); omega, List.forall_mem_cons.mpr ⟨by show (0 : Int) ≤ 0 + (-1 * ((s : Int)) + (1 * ((s : Int)) + (0))); omega, fun _ h => absurd h List.not_mem_nil⟩⟩⟩⟩⟩⟩⟩⟩⟩⟩⟩⟩⟩⟩⟩⟩⟩⟩⟩⟩⟩⟩) hR
  obtain rfl := List.mem_singleton.mp hoe
  have rtA : rA = none := rtA
  have rtB : rB = none := rtB
  subst rtA rtB
  have ag2 : ∀ k, k < 40 → ρ2 k = _ := ag2
  exact ⟨hA, hB, cA, cB, RG, FR, kc_c (kc2 (9, 112, (0, []), (0, [])) (List.mem_of_getElem? (i := 0) rfl)), kc_c (kc2 (9, 128, (0, []), (0, [])) (List.mem_of_getElem? (i := 1) rfl)), kc_c (kc2 (9, 144, (0, []), (0, [])) (List.mem_of_getElem? (i := 2) rfl)), kc_c (kc2 (9, 208, (0, []), (0, [])) (List.mem_of_getElem? (i := 3) rfl)), kc_c (kc2 (9, 224, (0, []), (0, [])) (List.mem_of_getElem? (i := 4) rfl)), kc_c (kc2 (9, 240, (0, []), (0, [])) (List.mem_of_getElem? (i := 5) rfl)), kc_c (kc2 (9, 256, (0, []), (0, [])) (List.mem_of_getElem? (i := 6) rfl)), kc_c (kc2 (9, 288, (0, []), (0, [])) (List.mem_of_getElem? (i := 7) rfl)), kc_c (kc2 (9, 304, (0, []), (0, [])) (List.mem_of_getElem? (i := 8) rfl)), kc_c (kc2 (9, 320, (0, []), (0, [])) (List.mem_of_getElem? (i := 9) rfl)), kc_c (kc2 (9, 336, (0, []), (0, [])) (List.mem_of_getElem? (i := 10) rfl)), kc_c (kc2 (9, 352, (0, []), (0, [])) (List.mem_of_getElem? (i := 11) rfl)), kc_c (kc2 (9, 368, (0, []), (0, [])) (List.mem_of_getElem? (i := 12) rfl)), kc_c (kc2 (9, 384, (0, []), (0, [])) (List.mem_of_getElem? (i := 13) rfl)), kc_c (kc2 (9, 400, (0, []), (0, [])) (List.mem_of_getElem? (i := 14) rfl)), kc_c (kc2 (9, 416, (0, []), (0, [])) (List.mem_of_getElem? (i := 15) rfl)), kc_c (kc2 (9, 432, (0, []), (0, [])) (List.mem_of_getElem? (i := 16) rfl)), kc_c (kc2 (9, 576, (0, []), (0, [])) (List.mem_of_getElem? (i := 17) rfl)), kc_c (kc2 (9, 592, (0, []), (0, [])) (List.mem_of_getElem? (i := 18) rfl)), kc_c (kc2 (14, 0, (0, []), (0, [])) (List.mem_of_getElem? (i := 24) rfl)), kc_c (kc2 (14, 4, (0, []), (0, [])) (List.mem_of_getElem? (i := 25) rfl)), kc_c (kc2 (17, 0, (0, []), ((-1), [])) (List.mem_of_getElem? (i := 27) rfl)), (by have q := kc_at (kc2 (11, 208, (0, []), (0, [(35, 1)])) (List.mem_of_getElem? (i := 19) rfl)); rw [ag2 35 (by decide)] at q; exact q), (by have q := kc_at (kc2 (11, 224, (0, []), (0, [(36, 1)])) (List.mem_of_getElem? (i := 20) rfl)); rw [ag2 36 (by decide)] at q; exact q), (by have q := kc_at (kc2 (11, 288, (0, []), (0, [(37, 1)])) (List.mem_of_getElem? (i := 21) rfl)); rw [ag2 37 (by decide)] at q; exact q), (by have q := kc_at (kc2 (11, 304, (0, []), (0, [(38, 1)])) (List.mem_of_getElem? (i := 22) rfl)); rw [ag2 38 (by decide)] at q; exact q), (by have q := kc_at (kc2 (11, 432, (0, []), (0, [(39, 1)])) (List.mem_of_getElem? (i := 23) rfl)); rw [ag2 39 (by decide)] at q; exact q), (by have q := kc_at (kc2 (14, 16, (0, []), (0, [(7, 1)])) (List.mem_of_getElem? (i := 26) rfl)); rw [ag2 7 (by decide)] at q; exact q), (by have q := kc_at (kc2 (12, 0, (0, []), (0, [(9, 1)])) (List.mem_of_getElem? (i := 28) rfl)); rw [ag2 9 (by decide)] at q; exact q)⟩
theorem put_fin {ρ : Nat → Int} {h hA hB : Hp} {n nT : Nat} {y : Int} {rv : Int32} (z39 : ρ 39 = (n : Int)) (z40 : ρ 40 = (n : Int)) (z41 : ρ 41 = (n : Int)) (z42 : ρ 42 = (n : Int)) (z43 : ρ 43 = (nT : Int)) (z44 : ρ 44 = y) (z45 : ρ 45 = (n : Int)) (RG : ∀ q ∈ rgT, RgO (mxH true hA hB) q) (FR : Frm pm12.2.2.1.2.2.2.2.2.1 h (mxH true hA hB)) (KS : (KC (mxH true hA hB) 9 112 0 (0) ∧ KC (mxH true hA hB) 9 128 0 (0) ∧ KC (mxH true hA hB) 9 144 0 (0) ∧ KC (mxH true hA hB) 9 208 0 (0) ∧ KC (mxH true hA hB) 9 224 0 (0) ∧ KC (mxH true hA hB) 9 240 0 (0) ∧ KC (mxH true hA hB) 9 256 0 (0) ∧ KC (mxH true hA hB) 9 288 0 (0) ∧ KC (mxH true hA hB) 9 304 0 (0) ∧ KC (mxH true hA hB) 9 320 0 (0) ∧ KC (mxH true hA hB) 9 336 0 (0) ∧ KC (mxH true hA hB) 9 352 0 (0) ∧ KC (mxH true hA hB) 9 368 0 (0) ∧ KC (mxH true hA hB) 9 384 0 (0) ∧ KC (mxH true hA hB) 9 400 0 (0) ∧ KC (mxH true hA hB) 9 416 0 (0) ∧ KC (mxH true hA hB) 9 432 0 (0) ∧ KC (mxH true hA hB) 9 576 0 (0) ∧ KC (mxH true hA hB) 9 592 0 (0) ∧ KC (mxH true hA hB) 14 0 0 (0) ∧ KC (mxH true hA hB) 14 4 0 (0) ∧ KC (mxH true hA hB) 17 0 0 ((-1)) ∧ KC (mxH true hA hB) 11 208 0 ((n : Int)) ∧ KC (mxH true hA hB) 11 224 0 ((n : Int)) ∧ KC (mxH true hA hB) 11 288 0 ((n : Int)) ∧ KC (mxH true hA hB) 11 304 0 ((n : Int)) ∧ KC (mxH true hA hB) 11 432 0 ((nT : Int)) ∧ KC (mxH true hA hB) 14 16 0 (y) ∧ KC (mxH true hA hB) 12 0 0 ((n : Int)))) (K16 : KC (mxH true hA hB) 16 0 0 0) : PmPost rgT pm12.2.2.1 pm12.2.2.2 ρ h (some (.int rv)) (some (.int rv)) (mxH true hA hB) := by
  refine ⟨RG, FR, _, List.mem_of_getElem? (i := 0) rfl, updS ρ 46 rv.toInt, upd_ag, ?_, ⟨rv, rfl, ?_⟩, ⟨rv, rfl, ?_⟩, ?_, fun f hf => absurd hf List.not_mem_nil⟩
  · refine List.forall_mem_cons.mpr ⟨?_, fun _ h => absurd h List.not_mem_nil⟩
    show (-2147483648 : Int) ≤ updS ρ 46 rv.toInt 46 ∧ updS ρ 46 rv.toInt 46 ≤ 2147483647
    rw [updS_at]
    exact i32b rv
  · show leV _ (leX 46) = _
    rw [leV_X, updS_at]
  · show leV _ (leX 46) = _
    rw [leV_X, updS_at]
  · obtain ⟨u0, u1, u2, u3, u4, u5, u6, u7, u8, u9, u10, u11, u12, u13, u14, u15, u16, u17, u18, u19, u20, u21, u22, u23, u24, u25, u26, u27, u28⟩ := KS
    exact List.forall_mem_cons.mpr ⟨kc_C u0, List.forall_mem_cons.mpr ⟨kc_C u1, List.forall_mem_cons.mpr ⟨kc_C u2, List.forall_mem_cons.mpr ⟨kc_C u3, List.forall_mem_cons.mpr ⟨kc_C u4, List.forall_mem_cons.mpr ⟨kc_C u5, List.forall_mem_cons.mpr ⟨kc_C u6, List.forall_mem_cons.mpr ⟨kc_C u7, List.forall_mem_cons.mpr ⟨kc_C u8, List.forall_mem_cons.mpr ⟨kc_C u9, List.forall_mem_cons.mpr ⟨kc_C u10, List.forall_mem_cons.mpr ⟨kc_C u11, List.forall_mem_cons.mpr ⟨kc_C u12, List.forall_mem_cons.mpr ⟨kc_C u13, List.forall_mem_cons.mpr ⟨kc_C u14, List.forall_mem_cons.mpr ⟨kc_C u15, List.forall_mem_cons.mpr ⟨kc_C u16, List.forall_mem_cons.mpr ⟨kc_C u17, List.forall_mem_cons.mpr ⟨kc_C u18, List.forall_mem_cons.mpr ⟨kc_C u19, List.forall_mem_cons.mpr ⟨kc_C u20, List.forall_mem_cons.mpr ⟨kc_C K16, List.forall_mem_cons.mpr ⟨kc_C u21, List.forall_mem_cons.mpr ⟨kc_X ((updS_lt (by decide)).trans z39) u22, List.forall_mem_cons.mpr ⟨kc_X ((updS_lt (by decide)).trans z40) u23, List.forall_mem_cons.mpr ⟨kc_X ((updS_lt (by decide)).trans z41) u24, List.forall_mem_cons.mpr ⟨kc_X ((updS_lt (by decide)).trans z42) u25, List.forall_mem_cons.mpr ⟨kc_X ((updS_lt (by decide)).trans z43) u26, List.forall_mem_cons.mpr ⟨kc_X ((updS_lt (by decide)).trans z44) u27, List.forall_mem_cons.mpr ⟨kc_X ((updS_lt (by decide)).trans z45) u28, fun _ h => absurd h List.not_mem_nil⟩⟩⟩⟩⟩⟩⟩⟩⟩⟩⟩⟩⟩⟩⟩⟩⟩⟩⟩⟩⟩⟩⟩⟩⟩⟩⟩⟩⟩⟩
theorem eqI {a b : Int} (f1 : 0 ≤ 0 + (1 * a + (-1 * b + 0))) (f2 : 0 ≤ 0 + (-1 * a + (1 * b + 0))) : a = b := by omega
theorem cnt_n {v : Int32} {n : Nat} {a : Int} (hn : (n : Int) = a) (c : a = v.toInt) : v = nI n := by
  rw [i_nI (v := v) (by omega)]
  congr 1
  omega
theorem cnt_le {n m : Nat} {a : Int} (hn : (n : Int) = a) (c : a ≤ m) : n ≤ m := by omega
theorem hold_dec {h : Hp} {o f : Nat} {g : Int32} {n : Nat} {e : Int32} (hn : n ≤ 10) (en : h.1 o 2 = nI n) (en2 : e = nI n) (z : Int32) : (0 ≤ z ∧ z < h.1 o 2) ↔ (0 ≤ z ∧ z ≤ e - 1) := by
  have k0 : (0 : Int32).toInt = 0 := rfl
  have k1 : (1 : Int32).toInt = 1 := rfl
  rw [en, en2]
  have m1 : (nI n - 1).toInt = (n : Int) - 1 := by rw [Int32.toInt_sub, k1, nI_i (by omega), b32 (by omega) (by omega)]
  rw [Int32.le_iff_toInt_le, Int32.lt_iff_toInt_lt, Int32.le_iff_toInt_le, m1, k0, nI_i (by omega)]
  omega
set_option maxRecDepth 100000 in
theorem put_core {d' : Nat} {ρ : Nat → Int} {h : Hp} {n nS nT : Nat} {y : Int} {a0 a1 : Int32} (n10 : n ≤ 10) (s3 : nS ≤ 3) (y0 : 0 ≤ y) (y1 : y ≤ 20000) (en : h.1 4 2 = nI n) (en2 : h.1 66 2 = nI n) (es : h.1 2 2 = nI nS) (es2 : h.1 66 1 = nI nS) (t30 : nT ≤ 30) (eT : h.1 6 2 = nI nT) (eT2 : h.1 66 3 = nI nT) (U0 : KC h 14 0 0 (0)) (U16 : KC h 14 16 0 (y)) (F0 : KC h 17 0 0 ((-1))) (B0 : KC h 12 0 0 ((n : Int))) (U4 : KC h 14 4 0 (0)) (R112 : KC h 9 112 0 (0)) (R128 : KC h 9 128 0 (0)) (R144 : KC h 9 144 0 (0)) (R208 : KC h 9 208 0 (0)) (R224 : KC h 9 224 0 (0)) (R240 : KC h 9 240 0 (0)) (R256 : KC h 9 256 0 (0)) (R288 : KC h 9 288 0 (0)) (R304 : KC h 9 304 0 (0)) (R320 : KC h 9 320 0 (0)) (R336 : KC h 9 336 0 (0)) (R352 : KC h 9 352 0 (0)) (R368 : KC h 9 368 0 (0)) (R384 : KC h 9 384 0 (0)) (R400 : KC h 9 400 0 (0)) (R416 : KC h 9 416 0 (0)) (R432 : KC h 9 432 0 (0)) (R576 : KC h 9 576 0 (0)) (R592 : KC h 9 592 0 (0)) (Z208 : KC h 11 208 0 ((n : Int))) (Z224 : KC h 11 224 0 ((n : Int))) (Z288 : KC h 11 288 0 ((n : Int))) (Z304 : KC h 11 304 0 ((n : Int))) (Z432 : KC h 11 432 0 ((nT : Int))) (R0 : KC h 9 0 0 (0)) (R16 : KC h 9 16 0 (0)) (R32 : KC h 9 32 0 (0)) (R64 : KC h 9 64 0 (0)) (z39 : ρ 39 = (n : Int)) (z40 : ρ 40 = (n : Int)) (z41 : ρ 41 = (n : Int)) (z42 : ρ 42 = (n : Int)) (z43 : ρ 43 = (nT : Int)) (z44 : ρ 44 = y) (z45 : ρ 45 = (n : Int)) (PL : PLO h 0) (day : (h.1 1 5).toInt = (h.1 66 0).toInt) (d0 : 0 ≤ (h.1 66 0).toInt) (hR : ∀ q ∈ rgT, RgO h q) (p1 : PmPost rgT pm12.2.2.1 pm12.2.2.2 ρ h (some (.int (-1000000001))) (some (.int (-1000000001))) h) (p2 : PmPost rgT pm12.2.2.1 pm12.2.2.2 ρ h (some (.int (-1000000002))) (some (.int (-1000000002))) h) : ∃ rA hA rB hB, CRun (d' + 5) 115 [.ref 0, .int a0, .int a1] h rA hA ∧ CRun (d' + 5) 189 [.ref 65, .int a0, .int a1] h rB hB ∧ hA.2.2 = h.2.2 ∧ hB.2.2 = h.2.2 ∧ (∀ v, rA = some v → vS true v) ∧ (∀ v, rB = some v → vS false v) ∧ PmPost rgT pm12.2.2.1 pm12.2.2.2 ρ h rA rB (mxH true hA hB) := by
  have ssA : ∀ a0 a1, sS true [Value.ref 0, .int a0, .int a1] := fun a0 a1 => List.forall_mem_cons.mpr ⟨fun _ => rfl, List.forall_mem_cons.mpr ⟨trivial, List.forall_mem_cons.mpr ⟨trivial, fun _ h => absurd h List.not_mem_nil⟩⟩⟩
  have ssB : ∀ a0 a1, sS false [Value.ref 65, .int a0, .int a1] := fun a0 a1 => List.forall_mem_cons.mpr ⟨fun _ => rfl, List.forall_mem_cons.mpr ⟨trivial, List.forall_mem_cons.mpr ⟨trivial, fun _ h => absurd h List.not_mem_nil⟩⟩⟩
  have xm : h.1 4 2 ≤ 10 := by rw [en]; exact (tx_le (b := 10) (by omega) (by decide)).mpr n10
  have ym : h.1 2 2 ≤ 3 := by rw [es]; exact (tx_le (b := 3) (by omega) (by decide)).mpr s3
  have k0 : (0 : Int32).toInt = 0 := rfl
  have k1 : (1 : Int32).toInt = 1 := rfl
  have kN : (-1000000005 : Int32).toInt = -1000000005 := rfl
  have decH := hold_dec (f := 0) (g := 0) n10 en en2
  have decP := hold_dec (f := 0) (g := 0) (Nat.le_trans s3 (by decide)) es es2
  obtain ⟨bv, bt⟩ := bt_same B0
  have mw := mw_same (h := h) day d0 R16 R32 R64 R112 R128 R256 R288
  by_cases hv : (0 ≤ a0 ∧ a0 < h.1 4 2) ∧ (a1 = -1000000005 ∨ (0 ≤ a1 ∧ a1 < h.1 2 2))
  case neg =>
    refine pm_mk (p := pm12) (rA := some (.int (-1000000001))) (hA := h) (rB := some (.int (-1000000001))) (hB := h) (fun Q q => c_putA (h1 := h) (R := True) xm ym (fun z1 z2 => absurd ⟨z1, Or.inr z2⟩ hv) (fun z1 z2 => absurd ⟨z1, z2.imp id (fun y => y.2.1)⟩ hv) (fun _ => q) (fun z1 z2 z3 => absurd ⟨z1, Or.inr z3⟩ hv) (fun z1 z2 => absurd ⟨z1, z2.imp id (fun y => y.2.1)⟩ hv)) (fun Q q => c_putB0 (fun z => hv ⟨(decH _).mpr z.1, z.2.imp id (decP _).mpr⟩) q) (ssA _ _) (ssB _ _) ?_
    rw [mx_self]
    exact p1
  obtain ⟨hH, hS⟩ := hv
  have hx : 0 ≤ a0.toInt ∧ a0.toInt < (h.1 4 2).toInt := ⟨by have := hH.1; rw [Int32.le_iff_toInt_le, k0] at this; exact this, by have := hH.2; rw [Int32.lt_iff_toInt_lt] at this; exact this⟩
  have in4 : (h.1 4 2).toInt = n := by rw [en, nI_i (by omega)]
  have in2 : (h.1 2 2).toInt = nS := by rw [es, nI_i (by omega)]
  obtain ⟨x, hxx, rfl⟩ : ∃ x : Nat, (x : Int) = a0.toInt ∧ a0 = nI x := ⟨a0.toInt.toNat, by omega, i_nI hx.1⟩
  have xn : x < n := by omega
  have x10 : x < 10 := by omega
  have r8x := rowN (o1 := 5) (o2 := 66) (b1 := 8) (b2 := 48) (s1 := 14) (s2 := 16) (n := 10) R240 (Int.le_refl 0) rfl (by decide) (by decide) x10
  have ans : (if h.1 66 ((40 + (16 * nI x)) + 8) < 0 then (-1000000005 : Int32) else h.1 66 ((40 + (16 * nI x)) + 8)) = h.1 5 ((nI x * 14) + 8) := by
    rw [show (nI x * 14) + 8 = nI (8 + 14 * x) from ixA (f := 8) x10 (by decide), ixH8]
    apply Int32.toInt_inj.mp
    rcases r8x with q | q
    · rw [if_pos (by rw [Int32.lt_iff_toInt_lt, k0]; omega), kN]
      omega
    · rw [if_neg (by rw [Int32.lt_iff_toInt_lt, k0]; omega)]
      omega
  obtain ⟨m, m30, e30⟩ : ∃ m : Nat, m ≤ 30 ∧ h.1 66 3 = nI m := by
    have q := hR (66, 3, 1, 1, 0, 30) (by decide +kernel) 3 0 (by decide) (by decide) (by decide)
    exact ⟨(h.1 66 3).toInt.toNat, by dsimp only at q; omega, i_nI q.1⟩
  by_cases hN : a1 = -1000000005
  · -- nowhere
    subst hN
    obtain ⟨hA, hB, cA, cB, RG, FR, KS⟩ := go_N (d' := d') n10 s3 y0 y1 en en2 es es2 t30 eT eT2 xn U0 U16 F0 B0 U4 R112 R128 R144 R208 R224 R240 R256 R288 R304 R320 R336 R352 R368 R384 R400 R416 R432 R576 R592 Z208 Z224 Z288 Z304 Z432 hR
    have zB : hB.1 66 (nI (48 + 16 * x)) = -1 ∧ ∀ j : Nat, j < 300 → j ≠ 48 + 16 * x → hB.1 66 (nI j) = h.1 66 (nI j) := CRun.of (Q := fun _ H => H.1 66 (nI (48 + 16 * x)) = -1 ∧ ∀ j : Nat, j < 300 → j ≠ 48 + 16 * x → H.1 66 (nI j) = h.1 66 (nI j)) cB (c_goesB (d := d' + 2) x10 m30 e30 (fun h' a b _ => ⟨a, b⟩))
    refine pm_mk (p := pm12) (hA := hA) (hB := hB) (rA := some (.int (h.1 5 ((nI x * 14) + 8)))) (rB := some (.int (h.1 5 ((nI x * 14) + 8)))) (fun Q q => c_putA (h1 := hA) (R := True) xm ym (fun z1 z2 => absurd z2.1 (by decide)) (fun _ _ Q q => cA Q q) (fun z => absurd ⟨hH, Or.inl rfl⟩ z) (fun _ z => absurd rfl z) (fun _ _ => q)) (fun Q q => ?_) (ssA _ _) (ssB _ _) (put_fin z39 z40 z41 z42 z43 z44 z45 RG FR KS ⟨rfl, fun k k0 k3 => ?_⟩)
    · refine c_putB1 (hS := h) (hN := hB) (n := n) (x := x) (s := -1000000005) (a := fun i => decide (i ≠ x) && decide (h.1 66 ((40 + (16 * nI i)) + 8) = -1000000005)) (b := fun i => decide (h.1 66 ((200 + (10 * nI i)) + nI x) = 1)) n10 x10 en2 (fun i _ => by rw [Bool.and_eq_true, decide_eq_true_eq, decide_eq_true_eq]) (fun i _ => decide_eq_true_iff) ((decH _).mp hH) (fun z => absurd rfl z) (Or.inl rfl) (fun _ Q q => cB Q q) (fun z => absurd rfl z) (fun z => absurd rfl z) (fun _ => ?_) (fun z => absurd rfl z)
      rw [ans]
      exact q
    · obtain ⟨k', rfl⟩ : ∃ k' : Nat, k = (k' : Int) := ⟨k.toNat, by omega⟩
      have eH : ∀ j, (mxH true hA hB).1 66 j = hB.1 66 j := fun j => mx_off (by decide)
      exact pl_off (H := mxH true hA hB) n10 en2 x10 (fun j j0 j1 => (eH _).trans (zB.2 j j0 j1)) (by omega) (by rw [eH, zB.1]; show (-1 : Int) ≠ _; omega) (PL k' k0 k3)
  · have hS := hS.resolve_left hN
    have hs : 0 ≤ a1.toInt ∧ a1.toInt < (h.1 2 2).toInt := ⟨by have := hS.1; rw [Int32.le_iff_toInt_le, k0] at this; exact this, by have := hS.2; rw [Int32.lt_iff_toInt_lt] at this; exact this⟩
    obtain ⟨s, hss, rfl⟩ : ∃ x : Nat, (x : Int) = a1.toInt ∧ a1 = nI x := ⟨a1.toInt.toNat, by omega, i_nI hs.1⟩
    have sS' : s < nS := by omega
    have s3' : s < 3 := by omega
    obtain ⟨a, b, W, O, hat, hba, hai, hW, hO, same, rmz⟩ := put_room (h := h) (n := n) (x := x) (s := s) n10 en2 x10 s3' R0 R240 mw bv bt PL hR
    have crA : (0 ≤ nI x ∧ nI x < h.1 4 2) → (0 ≤ nI s ∧ nI s < h.1 2 2) → ∀ Q : Option Value → Hp → Prop, ((nI (pcB O) < h.1 3 ((nI s * 8) + 0) ∧ nI O &&& h.1 5 ((nI x * 14) + 12) = 0) → Q (some (.int 1)) h) → (¬ (nI (pcB O) < h.1 3 ((nI s * 8) + 0) ∧ nI O &&& h.1 5 ((nI x * 14) + 12) = 0) → Q (some (.int 0)) h) → Call (d' + 4) 68 [.ref 1, .int (nI x), .int (nI s)] h Q := fun z1 z2 Q q1 q0 => c_hasRoom (d := d' + 1) x10 n10 en z1.1 z1.2 xm z2.1 z2.2 ym hW hO q1 q0
    by_cases hM : mwA h (nI x) (nI s) ∧ (nI (pcB O) < h.1 3 ((nI s * 8) + 0) ∧ nI O &&& h.1 5 ((nI x * 14) + 12) = 0)
    case neg =>
      refine pm_mk (p := pm12) (rA := some (.int (-1000000002))) (hA := h) (rB := some (.int (-1000000002))) (hB := h) (fun Q q => c_putA (h1 := h) xm ym crA (fun z1 z2 => absurd (z2.resolve_left hN).2.2 hM) (fun z => absurd ⟨hH, Or.inr hS⟩ z) (fun _ _ _ _ => q) (fun z1 z2 => absurd (z2.resolve_left hN).2.2 hM)) (fun Q q => c_putB1 (hS := h) (hN := h) n10 x10 en2 hat hba ((decH _).mp hH) (fun _ => (decP _).mp hS) (Or.inr ⟨s, s3', rfl⟩) (fun z => absurd z hN) (fun _ z1 z2 z3 => absurd (same.mpr ⟨z1, z2, z3⟩) hM) (fun _ _ => q) (fun z => absurd z hN) (fun _ z1 z2 z3 => absurd (same.mpr ⟨z1, z2, z3⟩) hM)) (ssA _ _) (ssB _ _) ?_
      rw [mx_self]
      exact p2
    have hMB := same.mp hM
    have fr0 : (h.1 66 (nI (51 + 16 * x))).toInt = 0 := by
      have q := hR (66, 51, 16, 10, 0, 1) (by decide +kernel) (nI (51 + 16 * x)) x (by omega) (by dsimp only; omega) (by rw [nI_i (by omega)]; dsimp only; omega)
      have z := hMB.1.1
      rw [show ((40 : Int32) + (16 * nI x)) + 11 = nI (51 + 16 * x) from ixH (f := 11) x10 (by decide), ← Int32.toInt_inj, k1] at z
      dsimp only at q
      omega
    obtain ⟨hA, hB, cA, cB, RG, FR, KS⟩ := go_S (d' := d') n10 s3 y0 y1 en en2 es es2 t30 eT eT2 xn sS' fr0 U0 U16 F0 B0 U4 R112 R128 R144 R208 R224 R240 R256 R288 R304 R320 R336 R352 R368 R384 R400 R416 R432 R576 R592 Z208 Z224 Z288 Z304 Z432 hR
    have zB : hB.1 66 (nI (48 + 16 * x)) = nI s ∧ ∀ j : Nat, j < 300 → j ≠ 48 + 16 * x → hB.1 66 (nI j) = h.1 66 (nI j) := CRun.of (Q := fun _ H => H.1 66 (nI (48 + 16 * x)) = nI s ∧ ∀ j : Nat, j < 300 → j ≠ 48 + 16 * x → H.1 66 (nI j) = h.1 66 (nI j)) cB (c_goesB (d := d' + 2) x10 m30 e30 (fun h' a b _ => ⟨a, b⟩))
    refine pm_mk (p := pm12) (hA := hA) (hB := hB) (rA := some (.int (h.1 5 ((nI x * 14) + 8)))) (rB := some (.int (h.1 5 ((nI x * 14) + 8)))) (fun Q q => c_putA (h1 := hA) xm ym crA (fun _ _ Q q => cA Q q) (fun z => absurd ⟨hH, Or.inr hS⟩ z) (fun _ _ _ z => absurd hM z) (fun _ _ => q)) (fun Q q => ?_) (ssA _ _) (ssB _ _) (put_fin z39 z40 z41 z42 z43 z44 z45 RG FR KS ⟨rfl, fun k k0 k3 => ?_⟩)
    · refine c_putB1 (hS := hB) (hN := h) n10 x10 en2 hat hba ((decH _).mp hH) (fun _ => (decP _).mp hS) (Or.inr ⟨s, s3', rfl⟩) (fun z => absurd z hN) (fun _ _ _ _ Q q => cB Q q) (fun _ z => absurd hMB z) (fun z => absurd z hN) (fun _ _ _ _ => ?_)
      rw [ans]
      exact q
    · obtain ⟨k', rfl⟩ : ∃ k' : Nat, k = (k' : Int) := ⟨k.toNat, by omega⟩
      have eH : ∀ j, (mxH true hA hB).1 66 j = hB.1 66 j := fun j => mx_off (by decide)
      by_cases ek : k' = s
      · subst ek
        exact pl_on (H := mxH true hA hB) n10 en2 xn (fun j j0 j1 => (eH _).trans (zB.2 j j0 j1)) s3' (by rw [eH, zB.1, nI_i (by omega)]) hai (rmz hM.2.1)
      · exact pl_off (H := mxH true hA hB) n10 en2 x10 (fun j j0 j1 => (eH _).trans (zB.2 j j0 j1)) (by omega) (by rw [eH, zB.1, nI_i (by omega)]; omega) (PL k' k0 k3)
set_option maxHeartbeats 4000000 in
set_option maxRecDepth 100000 in
theorem okP12 : PmOK rgT pm12 := by
  intro d hd ρ as bs h hlen hin hb hc hf hR
  have hd : 5 ≤ d := hd
  have hlen : as.length = 3 := hlen
  generalize hL : as ++ bs = L at hin
  have hin0 := hin
  obtain ⟨v0, s0, rfl, hin⟩ := hin
  rw [if_pos rfl] at hin
  obtain ⟨rfl, -, hin⟩ := hin
  obtain ⟨v1, s1, rfl, hin⟩ := hin
  rw [if_neg (by decide), if_pos rfl] at hin
  obtain ⟨g0, ⟨a0, rfl, e0⟩, hin⟩ := hin
  obtain ⟨v2, s2, rfl, hin⟩ := hin
  rw [if_neg (by decide), if_pos rfl] at hin
  obtain ⟨g1, ⟨a1, rfl, e1⟩, hin⟩ := hin
  obtain ⟨v3, s3, rfl, hin⟩ := hin
  rw [if_pos rfl] at hin
  obtain ⟨rfl, -, hin⟩ := hin
  obtain ⟨v4, s4, rfl, hin⟩ := hin
  rw [if_neg (by decide), if_pos rfl] at hin
  obtain ⟨g2, ⟨b2, rfl, e2⟩, hin⟩ := hin
  obtain ⟨v5, s5, rfl, hin⟩ := hin
  rw [if_neg (by decide), if_pos rfl] at hin
  obtain ⟨g3, ⟨b3, rfl, e3⟩, hin⟩ := hin
  cases hin
  obtain ⟨rfl, rfl⟩ := List.append_inj (show as ++ bs = [Value.ref 0, .int a0, .int a1] ++ [Value.ref 65, .int b2, .int b3] from hL) hlen
  have f0 : (0 : Int) ≤ 0 + (1 * ρ 0 + (-1 * ρ 2 + 0)) := hf _ (List.mem_of_getElem? (i := 0) rfl)
  have f1 : (0 : Int) ≤ 0 + (-1 * ρ 0 + (1 * ρ 2 + 0)) := hf _ (List.mem_of_getElem? (i := 1) rfl)
  have f2 : (0 : Int) ≤ 0 + (1 * ρ 1 + (-1 * ρ 3 + 0)) := hf _ (List.mem_of_getElem? (i := 2) rfl)
  have f3 : (0 : Int) ≤ 0 + (-1 * ρ 1 + (1 * ρ 3 + 0)) := hf _ (List.mem_of_getElem? (i := 3) rfl)
  have f4 : (0 : Int) ≤ 0 + (1 * ρ 4 + (-1 * ρ 5 + 0)) := hf _ (List.mem_of_getElem? (i := 4) rfl)
  have f5 : (0 : Int) ≤ 0 + (-1 * ρ 4 + (1 * ρ 5 + 0)) := hf _ (List.mem_of_getElem? (i := 5) rfl)
  have f6 : (0 : Int) ≤ 0 + (1 * ρ 6 + (-1 * ρ 7 + 0)) := hf _ (List.mem_of_getElem? (i := 6) rfl)
  have f7 : (0 : Int) ≤ 0 + (-1 * ρ 6 + (1 * ρ 7 + 0)) := hf _ (List.mem_of_getElem? (i := 7) rfl)
  have f8 : (0 : Int) ≤ 0 + (1 * ρ 8 + (-1 * ρ 9 + 0)) := hf _ (List.mem_of_getElem? (i := 8) rfl)
  have f9 : (0 : Int) ≤ 0 + (-1 * ρ 8 + (1 * ρ 9 + 0)) := hf _ (List.mem_of_getElem? (i := 9) rfl)
  have f10 : (0 : Int) ≤ 0 + (1 * ρ 10 + (-1 * ρ 11 + 0)) := hf _ (List.mem_of_getElem? (i := 10) rfl)
  have f11 : (0 : Int) ≤ 0 + (-1 * ρ 10 + (1 * ρ 11 + 0)) := hf _ (List.mem_of_getElem? (i := 11) rfl)
  have f12 : (0 : Int) ≤ 0 + (1 * ρ 6 + (-1 * ρ 39 + 0)) := hf _ (List.mem_of_getElem? (i := 12) rfl)
  have f13 : (0 : Int) ≤ 0 + (-1 * ρ 6 + (1 * ρ 39 + 0)) := hf _ (List.mem_of_getElem? (i := 13) rfl)
  have f14 : (0 : Int) ≤ 0 + (1 * ρ 6 + (-1 * ρ 40 + 0)) := hf _ (List.mem_of_getElem? (i := 14) rfl)
  have f15 : (0 : Int) ≤ 0 + (-1 * ρ 6 + (1 * ρ 40 + 0)) := hf _ (List.mem_of_getElem? (i := 15) rfl)
  have f16 : (0 : Int) ≤ 0 + (1 * ρ 6 + (-1 * ρ 41 + 0)) := hf _ (List.mem_of_getElem? (i := 16) rfl)
  have f17 : (0 : Int) ≤ 0 + (-1 * ρ 6 + (1 * ρ 41 + 0)) := hf _ (List.mem_of_getElem? (i := 17) rfl)
  have f18 : (0 : Int) ≤ 0 + (1 * ρ 6 + (-1 * ρ 42 + 0)) := hf _ (List.mem_of_getElem? (i := 18) rfl)
  have f19 : (0 : Int) ≤ 0 + (-1 * ρ 6 + (1 * ρ 42 + 0)) := hf _ (List.mem_of_getElem? (i := 19) rfl)
  have f20 : (0 : Int) ≤ 0 + (1 * ρ 10 + (-1 * ρ 43 + 0)) := hf _ (List.mem_of_getElem? (i := 20) rfl)
  have f21 : (0 : Int) ≤ 0 + (-1 * ρ 10 + (1 * ρ 43 + 0)) := hf _ (List.mem_of_getElem? (i := 21) rfl)
  have f22 : (0 : Int) ≤ 0 + (10 * ρ 8 + (-1 * ρ 44 + 0)) := hf _ (List.mem_of_getElem? (i := 22) rfl)
  have f23 : (0 : Int) ≤ 0 + (-10 * ρ 8 + (1 * ρ 44 + 0)) := hf _ (List.mem_of_getElem? (i := 23) rfl)
  have f24 : (0 : Int) ≤ 0 + (1 * ρ 6 + (-1 * ρ 45 + 0)) := hf _ (List.mem_of_getElem? (i := 24) rfl)
  have f25 : (0 : Int) ≤ 0 + (-1 * ρ 6 + (1 * ρ 45 + 0)) := hf _ (List.mem_of_getElem? (i := 25) rfl)
  have e0 : ρ 0 = a0.toInt := e0
  have e2 : ρ 2 = b2.toInt := e2
  have e1 : ρ 1 = a1.toInt := e1
  have e3 : ρ 3 = b3.toInt := e3
  obtain rfl : a0 = b2 := Int32.toInt_inj.mp (by omega)
  obtain rfl : a1 = b3 := Int32.toInt_inj.mp (by omega)
  have g0 : (-2147483648 : Int) ≤ ρ 0 ∧ ρ 0 ≤ 2147483647 := g0
  have g1 : (-2147483648 : Int) ≤ ρ 1 ∧ ρ 1 ≤ 2147483647 := g1
  have g2 : (-2147483648 : Int) ≤ ρ 2 ∧ ρ 2 ≤ 2147483647 := g2
  have g3 : (-2147483648 : Int) ≤ ρ 3 ∧ ρ 3 ≤ 2147483647 := g3
  have r4 : (0 : Int) ≤ ρ 4 ∧ ρ 4 ≤ 3 := hb (4, 0, 3) (List.mem_of_getElem? (i := 0) rfl)
  have c4 : ρ 4 = (h.1 2 2).toInt := hc_i (hc (0, 2, (2, []), leX 4) (List.mem_of_getElem? (i := 0) rfl)) rfl
  have r5 : (0 : Int) ≤ ρ 5 ∧ ρ 5 ≤ 3 := hb (5, 0, 3) (List.mem_of_getElem? (i := 1) rfl)
  have c5 : ρ 5 = (h.1 66 1).toInt := hc_i (hc (0, 66, (1, []), leX 5) (List.mem_of_getElem? (i := 1) rfl)) rfl
  have r6 : (0 : Int) ≤ ρ 6 ∧ ρ 6 ≤ 10 := hb (6, 0, 10) (List.mem_of_getElem? (i := 2) rfl)
  have c6 : ρ 6 = (h.1 4 2).toInt := hc_i (hc (0, 4, (2, []), leX 6) (List.mem_of_getElem? (i := 2) rfl)) rfl
  have r7 : (0 : Int) ≤ ρ 7 ∧ ρ 7 ≤ 10 := hb (7, 0, 10) (List.mem_of_getElem? (i := 3) rfl)
  have c7 : ρ 7 = (h.1 66 2).toInt := hc_i (hc (0, 66, (2, []), leX 7) (List.mem_of_getElem? (i := 3) rfl)) rfl
  have r8 : (0 : Int) ≤ ρ 8 ∧ ρ 8 ≤ 999 := hb (8, 0, 999) (List.mem_of_getElem? (i := 4) rfl)
  have c8 : ρ 8 = (h.1 1 5).toInt := hc_i (hc (0, 1, (5, []), leX 8) (List.mem_of_getElem? (i := 4) rfl)) rfl
  have r9 : (0 : Int) ≤ ρ 9 ∧ ρ 9 ≤ 999 := hb (9, 0, 999) (List.mem_of_getElem? (i := 5) rfl)
  have c9 : ρ 9 = (h.1 66 0).toInt := hc_i (hc (0, 66, (0, []), leX 9) (List.mem_of_getElem? (i := 5) rfl)) rfl
  have r10 : (0 : Int) ≤ ρ 10 ∧ ρ 10 ≤ 30 := hb (10, 0, 30) (List.mem_of_getElem? (i := 6) rfl)
  have c10 : ρ 10 = (h.1 6 2).toInt := hc_i (hc (0, 6, (2, []), leX 10) (List.mem_of_getElem? (i := 6) rfl)) rfl
  have r11 : (0 : Int) ≤ ρ 11 ∧ ρ 11 ≤ 30 := hb (11, 0, 30) (List.mem_of_getElem? (i := 7) rfl)
  have c11 : ρ 11 = (h.1 66 3).toInt := hc_i (hc (0, 66, (3, []), leX 11) (List.mem_of_getElem? (i := 7) rfl)) rfl
  have r12 : (0 : Int) ≤ ρ 12 ∧ ρ 12 ≤ 0 := hb (12, 0, 0) (List.mem_of_getElem? (i := 8) rfl)
  have c12 : KC h 14 0 0 (ρ 12) := kc_at (hc (14, 0, (0, []), leX 12) (List.mem_of_getElem? (i := 8) rfl))
  have r13 : (0 : Int) ≤ ρ 13 ∧ ρ 13 ≤ 0 := hb (13, 0, 0) (List.mem_of_getElem? (i := 9) rfl)
  have c13 : KC h 14 4 0 (ρ 13) := kc_at (hc (14, 4, (0, []), leX 13) (List.mem_of_getElem? (i := 9) rfl))
  have r14 : (0 : Int) ≤ ρ 14 ∧ ρ 14 ≤ 0 := hb (14, 0, 0) (List.mem_of_getElem? (i := 10) rfl)
  have c14 : KC h 16 0 0 (ρ 14) := kc_at (hc (16, 0, (0, []), leX 14) (List.mem_of_getElem? (i := 10) rfl))
  have r15 : (-1 : Int) ≤ ρ 15 ∧ ρ 15 ≤ -1 := hb (15, (-1), (-1)) (List.mem_of_getElem? (i := 11) rfl)
  have c15 : KC h 17 0 0 (ρ 15) := kc_at (hc (17, 0, (0, []), leX 15) (List.mem_of_getElem? (i := 11) rfl))
  have r16 : (0 : Int) ≤ ρ 16 ∧ ρ 16 ≤ 0 := hb (16, 0, 0) (List.mem_of_getElem? (i := 12) rfl)
  have c16 : KC h 9 0 0 (ρ 16) := kc_at (hc (9, 0, (0, []), leX 16) (List.mem_of_getElem? (i := 12) rfl))
  have r17 : (0 : Int) ≤ ρ 17 ∧ ρ 17 ≤ 0 := hb (17, 0, 0) (List.mem_of_getElem? (i := 13) rfl)
  have c17 : KC h 9 16 0 (ρ 17) := kc_at (hc (9, 16, (0, []), leX 17) (List.mem_of_getElem? (i := 13) rfl))
  have r18 : (0 : Int) ≤ ρ 18 ∧ ρ 18 ≤ 0 := hb (18, 0, 0) (List.mem_of_getElem? (i := 14) rfl)
  have c18 : KC h 9 32 0 (ρ 18) := kc_at (hc (9, 32, (0, []), leX 18) (List.mem_of_getElem? (i := 14) rfl))
  have r19 : (0 : Int) ≤ ρ 19 ∧ ρ 19 ≤ 0 := hb (19, 0, 0) (List.mem_of_getElem? (i := 15) rfl)
  have c19 : KC h 9 64 0 (ρ 19) := kc_at (hc (9, 64, (0, []), leX 19) (List.mem_of_getElem? (i := 15) rfl))
  have r20 : (0 : Int) ≤ ρ 20 ∧ ρ 20 ≤ 0 := hb (20, 0, 0) (List.mem_of_getElem? (i := 16) rfl)
  have c20 : KC h 9 112 0 (ρ 20) := kc_at (hc (9, 112, (0, []), leX 20) (List.mem_of_getElem? (i := 16) rfl))
  have r21 : (0 : Int) ≤ ρ 21 ∧ ρ 21 ≤ 0 := hb (21, 0, 0) (List.mem_of_getElem? (i := 17) rfl)
  have c21 : KC h 9 128 0 (ρ 21) := kc_at (hc (9, 128, (0, []), leX 21) (List.mem_of_getElem? (i := 17) rfl))
  have r22 : (0 : Int) ≤ ρ 22 ∧ ρ 22 ≤ 0 := hb (22, 0, 0) (List.mem_of_getElem? (i := 18) rfl)
  have c22 : KC h 9 144 0 (ρ 22) := kc_at (hc (9, 144, (0, []), leX 22) (List.mem_of_getElem? (i := 18) rfl))
  have r23 : (0 : Int) ≤ ρ 23 ∧ ρ 23 ≤ 0 := hb (23, 0, 0) (List.mem_of_getElem? (i := 19) rfl)
  have c23 : KC h 9 208 0 (ρ 23) := kc_at (hc (9, 208, (0, []), leX 23) (List.mem_of_getElem? (i := 19) rfl))
  have r24 : (0 : Int) ≤ ρ 24 ∧ ρ 24 ≤ 0 := hb (24, 0, 0) (List.mem_of_getElem? (i := 20) rfl)
  have c24 : KC h 9 224 0 (ρ 24) := kc_at (hc (9, 224, (0, []), leX 24) (List.mem_of_getElem? (i := 20) rfl))
  have r25 : (0 : Int) ≤ ρ 25 ∧ ρ 25 ≤ 0 := hb (25, 0, 0) (List.mem_of_getElem? (i := 21) rfl)
  have c25 : KC h 9 240 0 (ρ 25) := kc_at (hc (9, 240, (0, []), leX 25) (List.mem_of_getElem? (i := 21) rfl))
  have r26 : (0 : Int) ≤ ρ 26 ∧ ρ 26 ≤ 0 := hb (26, 0, 0) (List.mem_of_getElem? (i := 22) rfl)
  have c26 : KC h 9 256 0 (ρ 26) := kc_at (hc (9, 256, (0, []), leX 26) (List.mem_of_getElem? (i := 22) rfl))
  have r27 : (0 : Int) ≤ ρ 27 ∧ ρ 27 ≤ 0 := hb (27, 0, 0) (List.mem_of_getElem? (i := 23) rfl)
  have c27 : KC h 9 288 0 (ρ 27) := kc_at (hc (9, 288, (0, []), leX 27) (List.mem_of_getElem? (i := 23) rfl))
  have r28 : (0 : Int) ≤ ρ 28 ∧ ρ 28 ≤ 0 := hb (28, 0, 0) (List.mem_of_getElem? (i := 24) rfl)
  have c28 : KC h 9 304 0 (ρ 28) := kc_at (hc (9, 304, (0, []), leX 28) (List.mem_of_getElem? (i := 24) rfl))
  have r29 : (0 : Int) ≤ ρ 29 ∧ ρ 29 ≤ 0 := hb (29, 0, 0) (List.mem_of_getElem? (i := 25) rfl)
  have c29 : KC h 9 320 0 (ρ 29) := kc_at (hc (9, 320, (0, []), leX 29) (List.mem_of_getElem? (i := 25) rfl))
  have r30 : (0 : Int) ≤ ρ 30 ∧ ρ 30 ≤ 0 := hb (30, 0, 0) (List.mem_of_getElem? (i := 26) rfl)
  have c30 : KC h 9 336 0 (ρ 30) := kc_at (hc (9, 336, (0, []), leX 30) (List.mem_of_getElem? (i := 26) rfl))
  have r31 : (0 : Int) ≤ ρ 31 ∧ ρ 31 ≤ 0 := hb (31, 0, 0) (List.mem_of_getElem? (i := 27) rfl)
  have c31 : KC h 9 352 0 (ρ 31) := kc_at (hc (9, 352, (0, []), leX 31) (List.mem_of_getElem? (i := 27) rfl))
  have r32 : (0 : Int) ≤ ρ 32 ∧ ρ 32 ≤ 0 := hb (32, 0, 0) (List.mem_of_getElem? (i := 28) rfl)
  have c32 : KC h 9 368 0 (ρ 32) := kc_at (hc (9, 368, (0, []), leX 32) (List.mem_of_getElem? (i := 28) rfl))
  have r33 : (0 : Int) ≤ ρ 33 ∧ ρ 33 ≤ 0 := hb (33, 0, 0) (List.mem_of_getElem? (i := 29) rfl)
  have c33 : KC h 9 384 0 (ρ 33) := kc_at (hc (9, 384, (0, []), leX 33) (List.mem_of_getElem? (i := 29) rfl))
  have r34 : (0 : Int) ≤ ρ 34 ∧ ρ 34 ≤ 0 := hb (34, 0, 0) (List.mem_of_getElem? (i := 30) rfl)
  have c34 : KC h 9 400 0 (ρ 34) := kc_at (hc (9, 400, (0, []), leX 34) (List.mem_of_getElem? (i := 30) rfl))
  have r35 : (0 : Int) ≤ ρ 35 ∧ ρ 35 ≤ 0 := hb (35, 0, 0) (List.mem_of_getElem? (i := 31) rfl)
  have c35 : KC h 9 416 0 (ρ 35) := kc_at (hc (9, 416, (0, []), leX 35) (List.mem_of_getElem? (i := 31) rfl))
  have r36 : (0 : Int) ≤ ρ 36 ∧ ρ 36 ≤ 0 := hb (36, 0, 0) (List.mem_of_getElem? (i := 32) rfl)
  have c36 : KC h 9 432 0 (ρ 36) := kc_at (hc (9, 432, (0, []), leX 36) (List.mem_of_getElem? (i := 32) rfl))
  have r37 : (0 : Int) ≤ ρ 37 ∧ ρ 37 ≤ 0 := hb (37, 0, 0) (List.mem_of_getElem? (i := 33) rfl)
  have c37 : KC h 9 576 0 (ρ 37) := kc_at (hc (9, 576, (0, []), leX 37) (List.mem_of_getElem? (i := 33) rfl))
  have r38 : (0 : Int) ≤ ρ 38 ∧ ρ 38 ≤ 0 := hb (38, 0, 0) (List.mem_of_getElem? (i := 34) rfl)
  have c38 : KC h 9 592 0 (ρ 38) := kc_at (hc (9, 592, (0, []), leX 38) (List.mem_of_getElem? (i := 34) rfl))
  have r39 : (0 : Int) ≤ ρ 39 ∧ ρ 39 ≤ 10 := hb (39, 0, 10) (List.mem_of_getElem? (i := 35) rfl)
  have c39 : KC h 11 208 0 (ρ 39) := kc_at (hc (11, 208, (0, []), leX 39) (List.mem_of_getElem? (i := 35) rfl))
  have r40 : (0 : Int) ≤ ρ 40 ∧ ρ 40 ≤ 10 := hb (40, 0, 10) (List.mem_of_getElem? (i := 36) rfl)
  have c40 : KC h 11 224 0 (ρ 40) := kc_at (hc (11, 224, (0, []), leX 40) (List.mem_of_getElem? (i := 36) rfl))
  have r41 : (0 : Int) ≤ ρ 41 ∧ ρ 41 ≤ 10 := hb (41, 0, 10) (List.mem_of_getElem? (i := 37) rfl)
  have c41 : KC h 11 288 0 (ρ 41) := kc_at (hc (11, 288, (0, []), leX 41) (List.mem_of_getElem? (i := 37) rfl))
  have r42 : (0 : Int) ≤ ρ 42 ∧ ρ 42 ≤ 10 := hb (42, 0, 10) (List.mem_of_getElem? (i := 38) rfl)
  have c42 : KC h 11 304 0 (ρ 42) := kc_at (hc (11, 304, (0, []), leX 42) (List.mem_of_getElem? (i := 38) rfl))
  have r43 : (0 : Int) ≤ ρ 43 ∧ ρ 43 ≤ 30 := hb (43, 0, 30) (List.mem_of_getElem? (i := 39) rfl)
  have c43 : KC h 11 432 0 (ρ 43) := kc_at (hc (11, 432, (0, []), leX 43) (List.mem_of_getElem? (i := 39) rfl))
  have r44 : (0 : Int) ≤ ρ 44 ∧ ρ 44 ≤ 20000 := hb (44, 0, 20000) (List.mem_of_getElem? (i := 40) rfl)
  have c44 : KC h 14 16 0 (ρ 44) := kc_at (hc (14, 16, (0, []), leX 44) (List.mem_of_getElem? (i := 40) rfl))
  have r45 : (0 : Int) ≤ ρ 45 ∧ ρ 45 ≤ 10 := hb (45, 0, 10) (List.mem_of_getElem? (i := 41) rfl)
  have c45 : KC h 12 0 0 (ρ 45) := kc_at (hc (12, 0, (0, []), leX 45) (List.mem_of_getElem? (i := 41) rfl))
  have M0 := hand_M (rg := rgT) (s := pm12.2.2.1) (h := h) (ρ := ρ) (by decide +kernel) (by decide +kernel) hin0 hb hc hf hR
  obtain ⟨d', rfl⟩ : ∃ d', d = d' + 5 := ⟨d - 5, (Nat.sub_add_cancel hd).symm⟩
  have p1 : PmPost rgT pm12.2.2.1 pm12.2.2.2 ρ h (some (.int (-1000000001))) (some (.int (-1000000001))) h := hand_post M0 Ag.rf (Nat.le_refl _) (hand_r (e := leC (-1000000001)) ⟨leS_C, leV_C _ _⟩) (hand_r (e := leC (-1000000001)) ⟨leS_C, leV_C _ _⟩) (by decide +kernel)
  have p2 : PmPost rgT pm12.2.2.1 pm12.2.2.2 ρ h (some (.int (-1000000002))) (some (.int (-1000000002))) h := hand_post M0 Ag.rf (Nat.le_refl _) (hand_r (e := leC (-1000000002)) ⟨leS_C, leV_C _ _⟩) (hand_r (e := leC (-1000000002)) ⟨leS_C, leV_C _ _⟩) (by decide +kernel)
  clear M0 hin0 hb hc hf
  obtain ⟨n, hn⟩ : ∃ n : Nat, (n : Int) = ρ 6 := ⟨(ρ 6).toNat, Int.toNat_of_nonneg r6.1⟩
  obtain ⟨nS, hnS⟩ : ∃ n : Nat, (n : Int) = ρ 4 := ⟨(ρ 4).toNat, Int.toNat_of_nonneg r4.1⟩
  have en : h.1 4 2 = nI n := cnt_n hn c6
  have en2 : h.1 66 2 = nI n := cnt_n (hn.trans (eqI f6 f7)) c7
  have es : h.1 2 2 = nI nS := cnt_n hnS c4
  have es2 : h.1 66 1 = nI nS := cnt_n (hnS.trans (eqI f4 f5)) c5
  obtain ⟨nT, hnT⟩ : ∃ n : Nat, (n : Int) = ρ 10 := ⟨(ρ 10).toNat, Int.toNat_of_nonneg r10.1⟩
  have eT : h.1 6 2 = nI nT := cnt_n hnT c10
  have eT2 : h.1 66 3 = nI nT := cnt_n (hnT.trans (eqI f10 f11)) c11
  have z39 : ρ 39 = (n : Int) := (eqI f12 f13).symm.trans hn.symm
  have z40 : ρ 40 = (n : Int) := (eqI f14 f15).symm.trans hn.symm
  have z41 : ρ 41 = (n : Int) := (eqI f16 f17).symm.trans hn.symm
  have z42 : ρ 42 = (n : Int) := (eqI f18 f19).symm.trans hn.symm
  have z43 : ρ 43 = (nT : Int) := (eqI f20 f21).symm.trans hnT.symm
  have z45 : ρ 45 = (n : Int) := (eqI f24 f25).symm.trans hn.symm
  have U0 : KC h 14 0 0 (0) := by have q := c12; rw [(show ρ 12 = 0 from Int.le_antisymm r12.2 r12.1)] at q; exact q
  have F0 : KC h 17 0 0 ((-1)) := by have q := c15; rw [(show ρ 15 = (-1) from Int.le_antisymm r15.2 r15.1)] at q; exact q
  have B0 : KC h 12 0 0 ((n : Int)) := by have q := c45; rw [z45] at q; exact q
  have U4 : KC h 14 4 0 (0) := by have q := c13; rw [(show ρ 13 = 0 from Int.le_antisymm r13.2 r13.1)] at q; exact q
  have R112 : KC h 9 112 0 (0) := by have q := c20; rw [(show ρ 20 = 0 from Int.le_antisymm r20.2 r20.1)] at q; exact q
  have R128 : KC h 9 128 0 (0) := by have q := c21; rw [(show ρ 21 = 0 from Int.le_antisymm r21.2 r21.1)] at q; exact q
  have R144 : KC h 9 144 0 (0) := by have q := c22; rw [(show ρ 22 = 0 from Int.le_antisymm r22.2 r22.1)] at q; exact q
  have R208 : KC h 9 208 0 (0) := by have q := c23; rw [(show ρ 23 = 0 from Int.le_antisymm r23.2 r23.1)] at q; exact q
  have R224 : KC h 9 224 0 (0) := by have q := c24; rw [(show ρ 24 = 0 from Int.le_antisymm r24.2 r24.1)] at q; exact q
  have R240 : KC h 9 240 0 (0) := by have q := c25; rw [(show ρ 25 = 0 from Int.le_antisymm r25.2 r25.1)] at q; exact q
  have R256 : KC h 9 256 0 (0) := by have q := c26; rw [(show ρ 26 = 0 from Int.le_antisymm r26.2 r26.1)] at q; exact q
  have R288 : KC h 9 288 0 (0) := by have q := c27; rw [(show ρ 27 = 0 from Int.le_antisymm r27.2 r27.1)] at q; exact q
  have R304 : KC h 9 304 0 (0) := by have q := c28; rw [(show ρ 28 = 0 from Int.le_antisymm r28.2 r28.1)] at q; exact q
  have R320 : KC h 9 320 0 (0) := by have q := c29; rw [(show ρ 29 = 0 from Int.le_antisymm r29.2 r29.1)] at q; exact q
  have R336 : KC h 9 336 0 (0) := by have q := c30; rw [(show ρ 30 = 0 from Int.le_antisymm r30.2 r30.1)] at q; exact q
  have R352 : KC h 9 352 0 (0) := by have q := c31; rw [(show ρ 31 = 0 from Int.le_antisymm r31.2 r31.1)] at q; exact q
  have R368 : KC h 9 368 0 (0) := by have q := c32; rw [(show ρ 32 = 0 from Int.le_antisymm r32.2 r32.1)] at q; exact q
  have R384 : KC h 9 384 0 (0) := by have q := c33; rw [(show ρ 33 = 0 from Int.le_antisymm r33.2 r33.1)] at q; exact q
  have R400 : KC h 9 400 0 (0) := by have q := c34; rw [(show ρ 34 = 0 from Int.le_antisymm r34.2 r34.1)] at q; exact q
  have R416 : KC h 9 416 0 (0) := by have q := c35; rw [(show ρ 35 = 0 from Int.le_antisymm r35.2 r35.1)] at q; exact q
  have R432 : KC h 9 432 0 (0) := by have q := c36; rw [(show ρ 36 = 0 from Int.le_antisymm r36.2 r36.1)] at q; exact q
  have R576 : KC h 9 576 0 (0) := by have q := c37; rw [(show ρ 37 = 0 from Int.le_antisymm r37.2 r37.1)] at q; exact q
  have R592 : KC h 9 592 0 (0) := by have q := c38; rw [(show ρ 38 = 0 from Int.le_antisymm r38.2 r38.1)] at q; exact q
  have Z208 : KC h 11 208 0 ((n : Int)) := by have q := c39; rw [z39] at q; exact q
  have Z224 : KC h 11 224 0 ((n : Int)) := by have q := c40; rw [z40] at q; exact q
  have Z288 : KC h 11 288 0 ((n : Int)) := by have q := c41; rw [z41] at q; exact q
  have Z304 : KC h 11 304 0 ((n : Int)) := by have q := c42; rw [z42] at q; exact q
  have Z432 : KC h 11 432 0 ((nT : Int)) := by have q := c43; rw [z43] at q; exact q
  have R0 : KC h 9 0 0 (0) := by have q := c16; rw [(show ρ 16 = 0 from Int.le_antisymm r16.2 r16.1)] at q; exact q
  have R16 : KC h 9 16 0 (0) := by have q := c17; rw [(show ρ 17 = 0 from Int.le_antisymm r17.2 r17.1)] at q; exact q
  have R32 : KC h 9 32 0 (0) := by have q := c18; rw [(show ρ 18 = 0 from Int.le_antisymm r18.2 r18.1)] at q; exact q
  have R64 : KC h 9 64 0 (0) := by have q := c19; rw [(show ρ 19 = 0 from Int.le_antisymm r19.2 r19.1)] at q; exact q
  exact put_core (d' := d') (y := ρ 44) (cnt_le (m := 10) hn r6.2) (cnt_le (m := 3) hnS r4.2) r44.1 r44.2 en en2 es es2 (cnt_le (m := 30) hnT r10.2) eT eT2 U0 c44 F0 B0 U4 R112 R128 R144 R208 R224 R240 R256 R288 R304 R320 R336 R352 R368 R384 R400 R416 R432 R576 R592 Z208 Z224 Z288 Z304 Z432 R0 R16 R32 R64 z39 z40 z41 z42 z43 rfl z45 c14.2 (c8.symm.trans ((eqI f8 f9).trans c9)) (c9 ▸ r9.1) hR p1 p2
