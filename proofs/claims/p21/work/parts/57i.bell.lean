/-! By hand: a bell. -/
theorem RLO_pt {h h' : Hp} {r o1 o2 b1 s1 b2 s2 n cv : Nat} (e : rlD r = some (0, (o1, (b1 : Int), (s1 : Int)), (o2, (b2 : Int), (s2 : Int)), (n : Int), cv)) (m1 : b1 + s1 * n < 100000) (m2 : b2 + s2 * n < 100000) (q : ∀ t, t < n → h'.1 o1 (nI (b1 + s1 * t)) = h.1 o1 (nI (b1 + s1 * t)) ∧ h'.1 o2 (nI (b2 + s2 * t)) = h.1 o2 (nI (b2 + s2 * t))) (w : RLO h r 0 0) : RLO h' r 0 0 := by
  obtain ⟨k, p1, c1, d1, p2, c2, d2, m, cv', e0, R⟩ := w
  rw [e] at e0
  cases e0
  refine ⟨_, _, _, _, _, _, _, _, _, e, fun t t0 t1 t2 => ?_⟩
  obtain ⟨t', rfl⟩ : ∃ t' : Nat, t = (t' : Int) := ⟨t.toNat, by omega⟩
  have ht : t' < n := by omega
  have q1 : s1 * t' ≤ s1 * n := Nat.mul_le_mul_left _ (by omega)
  have q2 : s2 * t' ≤ s2 * n := Nat.mul_le_mul_left _ (by omega)
  have i1 : Int32.ofInt ((b1 : Int) + (s1 : Int) * (t' : Int)) = nI (b1 + s1 * t') := by rw [← nI_ofI (by omega)]; congr 1
  have i2 : Int32.ofInt ((b2 : Int) + (s2 : Int) * (t' : Int)) = nI (b2 + s2 * t') := by rw [← nI_ofI (by omega)]; congr 1
  obtain ⟨g1, g2⟩ := q t' ht
  have R : rlR cv (h.1 o1 (Int32.ofInt ((b1 : Int) + (s1 : Int) * (t' : Int)))).toInt (h.1 o2 (Int32.ofInt ((b2 : Int) + (s2 : Int) * (t' : Int)))).toInt := R t' t0 t1 t2
  show rlR cv (h'.1 o1 (Int32.ofInt ((b1 : Int) + (s1 : Int) * (t' : Int)))).toInt (h'.1 o2 (Int32.ofInt ((b2 : Int) + (s2 : Int) * (t' : Int)))).toInt
  rw [i1, i2] at R ⊢
  rw [g1, g2]
  exact R
theorem RLO_mk {h : Hp} {r o1 o2 b1 s1 b2 s2 n : Nat} (e : rlD r = some (0, (o1, (b1 : Int), (s1 : Int)), (o2, (b2 : Int), (s2 : Int)), (n : Int), 0)) (m1 : b1 + s1 * n < 100000) (m2 : b2 + s2 * n < 100000) (q : ∀ t, t < n → h.1 o1 (nI (b1 + s1 * t)) = h.1 o2 (nI (b2 + s2 * t))) : RLO h r 0 0 := by
  refine ⟨_, _, _, _, _, _, _, _, _, e, fun t t0 t1 t2 => ?_⟩
  obtain ⟨t', rfl⟩ : ∃ t' : Nat, t = (t' : Int) := ⟨t.toNat, by omega⟩
  have ht : t' < n := by omega
  have q1 : s1 * t' ≤ s1 * n := Nat.mul_le_mul_left _ (by omega)
  have q2 : s2 * t' ≤ s2 * n := Nat.mul_le_mul_left _ (by omega)
  have i1 : Int32.ofInt ((b1 : Int) + (s1 : Int) * (t' : Int)) = nI (b1 + s1 * t') := by rw [← nI_ofI (by omega)]; congr 1
  have i2 : Int32.ofInt ((b2 : Int) + (s2 : Int) * (t' : Int)) = nI (b2 + s2 * t') := by rw [← nI_ofI (by omega)]; congr 1
  show rlR 0 (h.1 o1 (Int32.ofInt ((b1 : Int) + (s1 : Int) * (t' : Int)))).toInt (h.1 o2 (Int32.ofInt ((b2 : Int) + (s2 : Int) * (t' : Int)))).toInt
  rw [rlR0, i1, i2, q t' ht]
theorem ZRO_pt {h h' : Hp} {r o1 o2 b1 s1 b2 s2 n cv : Nat} {y : Int} (e : rlD r = some (0, (o1, (b1 : Int), (s1 : Int)), (o2, (b2 : Int), (s2 : Int)), (n : Int), cv)) (m1 : b1 + s1 * n < 100000) (q : ∀ t : Nat, t < n → y ≤ t → h'.1 o1 (nI (b1 + s1 * t)) = h.1 o1 (nI (b1 + s1 * t))) (w : ZRO h r y) : ZRO h' r y := by
  obtain ⟨p1, c1, d1, p2, c2, d2, m, cv', e0, R⟩ := w
  rw [e] at e0
  cases e0
  refine ⟨_, _, _, _, _, _, _, _, e, fun t t0 t1 t2 => ?_⟩
  obtain ⟨t', rfl⟩ : ∃ t' : Nat, t = (t' : Int) := ⟨t.toNat, by omega⟩
  have ht : t' < n := by omega
  have q1 : s1 * t' ≤ s1 * n := Nat.mul_le_mul_left _ (by omega)
  have i1 : Int32.ofInt ((b1 : Int) + (s1 : Int) * (t' : Int)) = nI (b1 + s1 * t') := by rw [← nI_ofI (by omega)]; congr 1
  have R : (h.1 o1 (Int32.ofInt ((b1 : Int) + (s1 : Int) * (t' : Int)))).toInt = 0 := R t' t0 t1 t2
  show (h'.1 o1 (Int32.ofInt ((b1 : Int) + (s1 : Int) * (t' : Int)))).toInt = 0
  rw [i1] at R ⊢
  rw [q t' ht t1]
  exact R
theorem RLO_wh {h h' : Hp} {r o1 o2 b1 s1 b2 s2 n cv : Nat} (hcv : cv = 3 ∨ cv = 4) (e : rlD r = some (0, (o1, (b1 : Int), (s1 : Int)), (o2, (b2 : Int), (s2 : Int)), (n : Int), cv)) (m1 : b1 + s1 * n < 100000) (m2 : b2 + s2 * n < 100000) (q : ∀ t, t < n → h'.1 o1 (nI (b1 + s1 * t)) = h.1 o1 (nI (b1 + s1 * t)) ∧ (h'.1 o2 (nI (b2 + s2 * t)) = 1 → h.1 o2 (nI (b2 + s2 * t)) = 1)) (w : RLO h r 0 0) : RLO h' r 0 0 := by
  obtain ⟨k, p1, c1, d1, p2, c2, d2, m, cv', e0, R⟩ := w
  rw [e] at e0
  cases e0
  refine ⟨_, _, _, _, _, _, _, _, _, e, fun t t0 t1 t2 => ?_⟩
  obtain ⟨t', rfl⟩ : ∃ t' : Nat, t = (t' : Int) := ⟨t.toNat, by omega⟩
  have ht : t' < n := by omega
  have q1 : s1 * t' ≤ s1 * n := Nat.mul_le_mul_left _ (by omega)
  have q2 : s2 * t' ≤ s2 * n := Nat.mul_le_mul_left _ (by omega)
  have i1 : Int32.ofInt ((b1 : Int) + (s1 : Int) * (t' : Int)) = nI (b1 + s1 * t') := by rw [← nI_ofI (by omega)]; congr 1
  have i2 : Int32.ofInt ((b2 : Int) + (s2 : Int) * (t' : Int)) = nI (b2 + s2 * t') := by rw [← nI_ofI (by omega)]; congr 1
  obtain ⟨g1, g2⟩ := q t' ht
  have R : rlR cv (h.1 o1 (Int32.ofInt ((b1 : Int) + (s1 : Int) * (t' : Int)))).toInt (h.1 o2 (Int32.ofInt ((b2 : Int) + (s2 : Int) * (t' : Int)))).toInt := R t' t0 t1 t2
  show rlR cv (h'.1 o1 (Int32.ofInt ((b1 : Int) + (s1 : Int) * (t' : Int)))).toInt (h'.1 o2 (Int32.ofInt ((b2 : Int) + (s2 : Int) * (t' : Int)))).toInt
  rw [i1, i2] at R ⊢
  rw [g1]
  have k1 : (1 : Int32).toInt = 1 := rfl
  have g3 : (h'.1 o2 (nI (b2 + s2 * t'))).toInt = 1 → (h.1 o2 (nI (b2 + s2 * t'))).toInt = 1 := fun z => by rw [g2 (Int32.toInt_inj.mp (z.trans k1.symm))]; exact k1
  rcases hcv with rfl | rfl
  · unfold rlR at R ⊢
    rw [if_neg (by decide), if_neg (by decide), if_pos rfl] at R ⊢
    exact fun z => R (g3 z)
  · unfold rlR at R ⊢
    rw [if_neg (by decide), if_neg (by decide), if_neg (by decide), if_pos rfl] at R ⊢
    exact fun z => R (g3 z)
theorem bW1 {T : Nat → Bool} {W M : Nat → Int32} {v k : Nat} (e : bWn T W M v k = 1) : W k = 1 := by
  unfold bWn at e
  split at e
  · exact absurd e (by decide)
  · exact e
theorem UBO4_pt {h h' : Hp} {y : Int} (q3 : h'.1 66 3 = h.1 66 3) (q1 : h'.1 66 1 = h.1 66 1) (q : ∀ t : Nat, t < 30 → h'.1 66 (nI (301 + 9 * t)) = h.1 66 (nI (301 + 9 * t))) (w : UBO h 4 y) : UBO h' 4 y := by
  obtain ⟨b, s, n, c1, w1, c2, e, R⟩ := w
  have e : some ((301 : Int), (9 : Int), (30 : Int), (3 : Int), (0 : Nat), (1 : Int)) = some (b, s, n, c1, w1, c2) := e
  cases e
  refine ⟨_, _, _, _, _, _, rfl, fun t t0 t1 t2 => ?_⟩
  obtain ⟨t', rfl⟩ : ∃ t' : Nat, t = (t' : Int) := ⟨t.toNat, by omega⟩
  have ht : t' < 30 := by omega
  have a3 : rlV h' 0 (ubC 4) 3 = rlV h 0 (ubC 4) 3 := congrArg Int32.toInt (show h'.1 66 (Int32.ofInt 3) = h.1 66 (Int32.ofInt 3) from q3)
  have a1 : rlV h' 0 (ubC 4) 1 = rlV h 0 (ubC 4) 1 := congrArg Int32.toInt (show h'.1 66 (Int32.ofInt 1) = h.1 66 (Int32.ofInt 1) from q1)
  have ai : rlV h' 0 (ubR 4) (301 + 9 * (t' : Int)) = rlV h 0 (ubR 4) (301 + 9 * (t' : Int)) := congrArg Int32.toInt (show h'.1 66 (Int32.ofInt (301 + 9 * (t' : Int))) = h.1 66 (Int32.ofInt (301 + 9 * (t' : Int))) from by
    rw [show Int32.ofInt (301 + 9 * (t' : Int)) = nI (301 + 9 * t') from by rw [← nI_ofI (by omega)]; congr 1]
    exact q t' ht)
  rw [a3] at t2
  rw [ai, a1]
  exact R t' t0 t1 t2
theorem Bl.cf {o b st : Nat} {h h' : Hp} {T : Nat → Bool} {W M : Nat → Int32} {v k j f : Nat} (hst : st = 8 ∨ st = 9) (hb : b ≤ 1000) (B : Bl o b st h h' T W M v k) (hj : j < 30) (hf : f < 7) (h4 : f ≠ 4) : h'.1 o (nI (b + st * j + f)) = h.1 o (nI (b + st * j + f)) := B.2.2.2 _ (fun i hi => ⟨fun z => by
  have := nI_ij (by rcases hst with rfl | rfl <;> omega) (by rcases hst with rfl | rfl <;> omega) z
  rcases hst with rfl | rfl <;> omega, fun z => by
  have := nI_ij (by rcases hst with rfl | rfl <;> omega) (by rcases hst with rfl | rfl <;> omega) z
  rcases hst with rfl | rfl <;> omega⟩)
theorem bell_g {z : Int32} {m : Nat} (hm : m ≤ 30) : (¬ z < 0 ∧ (z >>> (nI m &&& 31)) = 0) ↔ ((0 : Int64) ≤ Int32.toInt64 z ∧ Int32.toInt64 z ≤ ((1 <<< ((nI m : Int32).toInt64 &&& 63)) - 1)) := by
  have k0 : (0 : Int32).toInt = 0 := rfl
  have p : ∀ c : Nat, c < 31 → (((1 : Int64) <<< ((nI c : Int32).toInt64 &&& 63)) - 1).toInt = ((2 ^ c : Nat) : Int) - 1 := by decide +kernel
  have pm := p m (by omega)
  rw [i64_0, Int64.le_iff_toInt_le, pm, Int32.toInt_toInt64]
  by_cases q : 0 ≤ z.toInt
  · obtain ⟨v, hv, rfl⟩ : ∃ v : Nat, v < 2147483648 ∧ z = nI v := ⟨z.toInt.toNat, by have := i32b z; simp only [I32hi] at this; omega, i_nI q⟩
    rw [shr_n hv (by omega), nI_i hv]
    have n0 : ¬ nI v < 0 := by rw [Int32.lt_iff_toInt_lt, k0, nI_i hv]; omega
    have g0 : (0 : Int32) ≤ nI v := by rw [Int32.le_iff_toInt_le, k0, nI_i hv]; omega
    have le : v / 2 ^ m ≤ v := Nat.div_le_self _ _
    have dz : nI (v / 2 ^ m) = 0 ↔ v < 2 ^ m := by
      rw [← Int32.toInt_inj, nI_i (by omega), k0]
      have := Nat.div_eq_zero_iff (a := v) (b := 2 ^ m)
      have pp : 2 ^ m ≠ 0 := Nat.pos_iff_ne_zero.mp (Nat.pow_pos (by decide))
      constructor
      · intro y
        exact (this.mp (by omega)).resolve_left pp
      · intro y
        have := this.mpr (Or.inr y)
        omega
    rw [dz]
    exact ⟨fun y => ⟨g0, by omega⟩, fun y => ⟨n0, by omega⟩⟩
  · have n1 : z < 0 := by rw [Int32.lt_iff_toInt_lt, k0]; omega
    have n2 : ¬ (0 : Int32) ≤ z := by rw [Int32.le_iff_toInt_le, k0]; omega
    exact ⟨fun y => absurd n1 y.1, fun y => absurd y.1 n2⟩
/-- a bell on both sides: BAD, or all alike -/
theorem bell_core {d : Nat} {h : Hp} {n nS : Nat} {a0 a1 : Int32} (n30 : n ≤ 30) (s3 : nS ≤ 3) (en : h.1 6 2 = nI n) (en2 : h.1 66 3 = nI n) (es : h.1 2 2 = nI nS) (es2 : h.1 66 1 = nI nS) (R320 : RLO h 320 0 0) (R336 : RLO h 336 0 0) (R384 : RLO h 384 0 0) (R432 : RLO h 432 0 0) (hR : ∀ q ∈ rgT, RgO h q) : (CRun (d + 4) 124 [.ref 0, .int a0, .int a1] h (some (.int (-1000000001))) h ∧ CRun (d + 4) 202 [.ref 65, .int a0, .int a1] h (some (.int (-1000000001))) h) ∨ ∃ (x v : Nat) (y r : Int32) (T : Nat → Bool) (W M : Nat → Int32) (hA hB : Hp), a0 = nI x ∧ x < nS ∧ (y = 0 ∨ y = 1) ∧ (∀ i, i < 30 → h.1 7 (nI (0 + 8 * i + 7)) = M i) ∧ (∀ i, i < 30 → h.1 66 (nI (300 + 9 * i + 4)) = W i) ∧ (∀ i, i < 30 → h.1 66 (nI (300 + 9 * i + 7)) = M i) ∧ Bl 7 0 8 h hA T W M v n ∧ Bl 66 300 9 h hB T W M v n ∧ CRun (d + 4) 124 [.ref 0, .int a0, .int a1] h (some (.int r)) (hI hA 3 ((nI x * 8) + 7) y) ∧ CRun (d + 4) 202 [.ref 65, .int a0, .int a1] h (some (.int r)) (hI hB 66 ((10 + (10 * nI x)) + 7) y) := by
  have k0 : (0 : Int32).toInt = 0 := rfl
  have k1 : (1 : Int32).toInt = 1 := rfl
  have k3 : (3 : Int32).toInt = 3 := rfl
  have sm : h.1 2 2 ≤ 3 := by rw [es]; exact (tx_le (b := 3) (by omega) (by decide)).mpr s3
  have decP := hold_dec (f := 0) (g := 0) (Nat.le_trans s3 (by decide)) es es2
  have in2 : (h.1 2 2).toInt = nS := by rw [es, nI_i (by omega)]
  have sn : (0 ≤ a0 ∧ a0 < h.1 2 2) → ¬ a0 = -1000000005 := fun z e => by rw [e] at z; exact absurd z.1 (by decide)
  have s3' : (0 ≤ a0 ∧ a0 ≤ h.1 66 1 - 1) → a0 < 3 := fun z => by
    have q := ((decP a0).mpr z).2
    rw [Int32.lt_iff_toInt_lt] at q ⊢
    rw [k3]
    omega
  obtain ⟨T, hTd⟩ : ∃ T : Nat → Bool, T = fun k => decide (1 ≤ h.1 66 (300 + (9 * nI k)) ∧ h.1 66 (300 + (9 * nI k)) ≤ 3) && decide (h.1 66 ((300 + (9 * nI k)) + 1) = a0) := ⟨_, rfl⟩
  obtain ⟨W, hWd⟩ : ∃ W : Nat → Int32, W = fun i => h.1 66 (nI (300 + 9 * i + 4)) := ⟨_, rfl⟩
  obtain ⟨M, hMd⟩ : ∃ M : Nat → Int32, M = fun i => h.1 66 (nI (300 + 9 * i + 7)) := ⟨_, rfl⟩
  have hTB : ∀ k, k < n → (((1 ≤ h.1 66 (300 + (9 * nI k)) ∧ h.1 66 (300 + (9 * nI k)) ≤ 3) ∧ h.1 66 ((300 + (9 * nI k)) + 1) = a0) ↔ T k = true) := fun k _ => by
    rw [hTd, Bool.and_eq_true, decide_eq_true_eq, decide_eq_true_eq]
  have c0 : ∀ k, k < 30 → h.1 7 ((nI k * 8) + 0) = h.1 66 (300 + (9 * nI k)) := fun k hk => by
    rw [show (nI k * 8) + 0 = nI (0 + 8 * k + 0) from ix8 (f := 0) hk (by decide), ix90 hk, show nI (0 + 8 * k + 0) = nI (0 + 8 * k) by try (congr 1 <;> omega), show nI (300 + 9 * k + 0) = nI (300 + 9 * k) by try (congr 1 <;> omega)]
    exact rowE (o1 := 7) (o2 := 66) (b1 := 0) (b2 := 300) (s1 := 8) (s2 := 9) (n := 30) R320 (Int.le_refl 0) rfl (by decide) (by decide) hk
  have c1 : ∀ k, k < 30 → h.1 7 ((nI k * 8) + 1) = h.1 66 ((300 + (9 * nI k)) + 1) := fun k hk => by
    rw [show (nI k * 8) + 1 = nI (0 + 8 * k + 1) from ix8 (f := 1) hk (by decide), show (300 + (9 * nI k)) + 1 = nI (300 + 9 * k + 1) from ix9 (f := 1) hk (by decide), show nI (0 + 8 * k + 1) = nI (1 + 8 * k) by try (congr 1 <;> omega), show nI (300 + 9 * k + 1) = nI (301 + 9 * k) by try (congr 1 <;> omega)]
    exact rowE (o1 := 7) (o2 := 66) (b1 := 1) (b2 := 301) (s1 := 8) (s2 := 9) (n := 30) R336 (Int.le_refl 0) rfl (by decide) (by decide) hk
  have hTA : ∀ k, k < n → ((h.1 7 ((nI k * 8) + 1) = a0 ∧ (1 ≤ (h.1 7 ((nI k * 8) + 0)).toInt ∧ (h.1 7 ((nI k * 8) + 0)).toInt ≤ 3)) ↔ T k = true) := fun k hk => by
    rw [← hTB k hk, c0 k (by omega), c1 k (by omega), Int32.le_iff_toInt_le, Int32.le_iff_toInt_le, k1, k3]
    exact And.comm
  have hK : ∀ k, k < n → 0 ≤ (h.1 7 ((nI k * 8) + 0)).toInt ∧ (h.1 7 ((nI k * 8) + 0)).toInt ≤ 5 := fun k hk => by
    rw [c0 k (by omega), ix90 (by omega)]
    exact hR (66, 300, 9, 30, 0, 5) (by decide +kernel) (nI (300 + 9 * k + 0)) k (by omega) (by dsimp only; omega) (by rw [nI_i (by omega)]; dsimp only; omega)
  have hWA : ∀ i, i < 30 → h.1 7 (nI (0 + 8 * i + 4)) = W i := fun i hi => by
    rw [hWd, show nI (0 + 8 * i + 4) = nI (4 + 8 * i) by try (congr 1 <;> omega)]
    show _ = h.1 66 (nI (300 + 9 * i + 4))
    rw [show nI (300 + 9 * i + 4) = nI (304 + 9 * i) by try (congr 1 <;> omega)]
    exact rowE (o1 := 7) (o2 := 66) (b1 := 4) (b2 := 304) (s1 := 8) (s2 := 9) (n := 30) R384 (Int.le_refl 0) rfl (by decide) (by decide) hi
  have hMA : ∀ i, i < 30 → h.1 7 (nI (0 + 8 * i + 7)) = M i := fun i hi => by
    rw [hMd, show nI (0 + 8 * i + 7) = nI (7 + 8 * i) by try (congr 1 <;> omega)]
    show _ = h.1 66 (nI (300 + 9 * i + 7))
    rw [show nI (300 + 9 * i + 7) = nI (307 + 9 * i) by try (congr 1 <;> omega)]
    exact rowE (o1 := 7) (o2 := 66) (b1 := 7) (b2 := 307) (s1 := 8) (s2 := 9) (n := 30) R432 (Int.le_refl 0) rfl (by decide) (by decide) hi
  have hWB : ∀ i, i < 30 → h.1 66 (nI (300 + 9 * i + 4)) = W i := fun i _ => by rw [hWd]
  have hMB : ∀ i, i < 30 → h.1 66 (nI (300 + 9 * i + 7)) = M i := fun i _ => by rw [hMd]
  have i30 : ixTk T n ≤ 30 := Nat.le_trans (ixTk_le n) n30
  have G := bell_g (z := a1) i30
  by_cases hv : (0 ≤ a0 ∧ a0 < h.1 2 2) ∧ (¬ a1 < 0 ∧ (a1 >>> (nI (ixTk T n) &&& 31)) = 0)
  case neg =>
    exact Or.inl ⟨fun Q q => c_bellA n30 en sm sn hTA hK hWA hMA (fun z1 z2 z3 => absurd ⟨z1, z2, z3⟩ hv) (fun _ => q) (fun z1 v hv' e z3 => absurd ⟨z1, by rw [e, Int32.lt_iff_toInt_lt, k0, nI_i hv']; omega, z3⟩ hv), fun Q q => c_bellB n30 en2 s3' hTB hWB hMB (fun z1 z2 => absurd ⟨(decP _).mpr z1, G.mpr z2⟩ hv) (fun _ => q) (fun z1 v _ e z2 => absurd ⟨(decP _).mpr z1, G.mpr z2⟩ hv)⟩
  obtain ⟨hP, hG⟩ := hv
  have hs : 0 ≤ a0.toInt ∧ a0.toInt < (h.1 2 2).toInt := ⟨by have := hP.1; rw [Int32.le_iff_toInt_le, k0] at this; exact this, by have := hP.2; rw [Int32.lt_iff_toInt_lt] at this; exact this⟩
  obtain ⟨x, hxx, rfl⟩ : ∃ x : Nat, (x : Int) = a0.toInt ∧ a0 = nI x := ⟨a0.toInt.toNat, by omega, i_nI hs.1⟩
  have z0 : 0 ≤ a1.toInt := by have := hG.1; rw [Int32.lt_iff_toInt_lt, k0] at this; omega
  obtain ⟨v, hv, rfl⟩ : ∃ v : Nat, v < 2147483648 ∧ a1 = nI v := ⟨a1.toInt.toNat, by have := i32b a1; simp only [I32hi] at this; omega, i_nI z0⟩
  have vi : ∀ w : Nat, nI v = nI w → w < 2147483648 → w = v := fun w e hw => nI_ij hw hv e.symm
  have cA := c_bellA (d := d) (s := nI x) (z := nI v) (Q := fun r H => ∃ hA, Bl 7 0 8 h hA T W M v n ∧ r = some (.int (nI (wrT T W v n))) ∧ H = hI hA 3 ((nI x * 8) + 7) (if nI (wrT T W v n) ≤ 0 then 0 else 1)) n30 en sm sn hTA hK hWA hMA (fun _ _ _ => ⟨v, hv, rfl⟩) (fun z => absurd ⟨hP, hG⟩ z) (fun _ w hw e _ h1 B => by
    have ew := vi w e hw
    subst ew
    exact ⟨h1, B, rfl, rfl⟩)
  have cB := c_bellB (d := d) (s := nI x) (z := nI v) (Q := fun r H => ∃ hB, Bl 66 300 9 h hB T W M v n ∧ r = some (.int (nI (wrT T W v n))) ∧ H = hI hB 66 ((10 + (10 * nI x)) + 7) (if nI (wrT T W v n) ≤ 0 then 0 else 1)) n30 en2 s3' hTB hWB hMB (fun _ _ => ⟨v, hv, rfl⟩) (fun z => absurd ⟨(decP _).mp hP, G.mp hG⟩ z) (fun _ w hw e _ h1 B => by
    have ew := vi w e hw
    subst ew
    exact ⟨h1, B, rfl, rfl⟩)
  obtain ⟨rA, HA, ⟨hA, BA, rfl, rfl⟩, kA⟩ := cA.det
  obtain ⟨rB, HB, ⟨hB, BB, rfl, rfl⟩, kB⟩ := cB.det
  refine Or.inr ⟨x, v, _, _, T, W, M, hA, hB, rfl, by omega, ?_, hMA, hWB, hMB, BA, BB, fun Q q => kA Q q, fun Q q => kB Q q⟩
  split
  · exact Or.inl rfl
  · exact Or.inr rfl
noncomputable def wsB : List Wr := [(0, 7, 4, 239), (0, 66, 304, 568)]
set_option maxRecDepth 100000 in
theorem bell_mix {h hA hB : Hp} {n v : Nat} {T : Nat → Bool} {W M : Nat → Int32} (R320 : RLO h 320 0 0) (R336 : RLO h 336 0 0) (R352 : RLO h 352 0 0) (R368 : RLO h 368 0 0) (R384 : RLO h 384 0 0) (R400 : RLO h 400 0 0) (R416 : RLO h 416 0 0) (R432 : RLO h 432 0 0) (R576 : RLO h 576 0 0) (R592 : RLO h 592 0 0) (Z432 : ZRO h 432 n) (U4 : UBO h 4 0) (hWM : ∀ i, i < 30 → h.1 7 (nI (0 + 8 * i + 7)) = M i) (hWB : ∀ i, i < 30 → h.1 66 (nI (300 + 9 * i + 4)) = W i) (BA : Bl 7 0 8 h hA T W M v n) (BB : Bl 66 300 9 h hB T W M v n) : Frm wsB h (mxH true hA hB) ∧ (∀ K, K = mxH true hA hB → RLO K 320 0 0 ∧ RLO K 336 0 0 ∧ RLO K 352 0 0 ∧ RLO K 368 0 0 ∧ RLO K 384 0 0 ∧ RLO K 400 0 0 ∧ RLO K 416 0 0 ∧ RLO K 432 0 0 ∧ RLO K 576 0 0 ∧ RLO K 592 0 0 ∧ ZRO K 432 n ∧ UBO K 4 0) := by
  constructor
  · refine ⟨fun o j q => ?_, fun o j _ => ?_, show hA.2.2 = h.2.2 from congrArg Prod.snd BA.2.1⟩
    · by_cases e : sd o = true
      · rw [mx_at e]
        by_cases e7 : o = 7
        · subst e7
          refine BA.2.2.2 j (fun i hi => ⟨fun z => q ⟨_, List.mem_of_getElem? (i := 0) rfl, rfl, rfl, ?_, ?_⟩, fun z => q ⟨_, List.mem_of_getElem? (i := 0) rfl, rfl, rfl, ?_, ?_⟩⟩)
          all_goals (rw [z, nI_i (by omega)]; dsimp only; omega)
        · exact BA.1 o j e7
      · rw [mx_off e]
        by_cases e7 : o = 66
        · subst e7
          refine BB.2.2.2 j (fun i hi => ⟨fun z => q ⟨_, List.mem_of_getElem? (i := 1) rfl, rfl, rfl, ?_, ?_⟩, fun z => q ⟨_, List.mem_of_getElem? (i := 1) rfl, rfl, rfl, ?_, ?_⟩⟩)
          all_goals (rw [z, nI_i (by omega)]; dsimp only; omega)
        · exact BB.1 o j e7
    · show (if sd o = true then hA.2.1 o j else hB.2.1 o j) = _
      rw [BA.2.1, BB.2.1]
      split <;> rfl
  · intro K hK
    have eA : ∀ j, K.1 7 j = hA.1 7 j := fun j => by rw [hK]; exact mx_at (by decide)
    have eB : ∀ j, K.1 66 j = hB.1 66 j := fun j => by rw [hK]; exact mx_off (by decide)
    refine ⟨RLO_pt (cv := 0) (o1 := 7) (o2 := 66) (b1 := 0) (b2 := 300) (s1 := 8) (s2 := 9) (n := 30) rfl (by decide) (by decide) (fun t ht => ⟨by rw [eA, ← (show nI (0 + 8 * t + 0) = nI (0 + 8 * t) by try (congr 1 <;> omega)), BA.cf (Or.inl rfl) (by decide) ht (by decide) (by decide)], by rw [eB, ← (show nI (300 + 9 * t + 0) = nI (300 + 9 * t) by try (congr 1 <;> omega)), BB.cf (Or.inr rfl) (by decide) ht (by decide) (by decide)]⟩) R320, RLO_pt (cv := 0) (o1 := 7) (o2 := 66) (b1 := 1) (b2 := 301) (s1 := 8) (s2 := 9) (n := 30) rfl (by decide) (by decide) (fun t ht => ⟨by rw [eA, ← (show nI (0 + 8 * t + 1) = nI (1 + 8 * t) by try (congr 1 <;> omega)), BA.cf (Or.inl rfl) (by decide) ht (by decide) (by decide)], by rw [eB, ← (show nI (300 + 9 * t + 1) = nI (301 + 9 * t) by try (congr 1 <;> omega)), BB.cf (Or.inr rfl) (by decide) ht (by decide) (by decide)]⟩) R336, RLO_pt (cv := 0) (o1 := 7) (o2 := 66) (b1 := 2) (b2 := 302) (s1 := 8) (s2 := 9) (n := 30) rfl (by decide) (by decide) (fun t ht => ⟨by rw [eA, ← (show nI (0 + 8 * t + 2) = nI (2 + 8 * t) by try (congr 1 <;> omega)), BA.cf (Or.inl rfl) (by decide) ht (by decide) (by decide)], by rw [eB, ← (show nI (300 + 9 * t + 2) = nI (302 + 9 * t) by try (congr 1 <;> omega)), BB.cf (Or.inr rfl) (by decide) ht (by decide) (by decide)]⟩) R352, RLO_pt (cv := 0) (o1 := 7) (o2 := 66) (b1 := 3) (b2 := 303) (s1 := 8) (s2 := 9) (n := 30) rfl (by decide) (by decide) (fun t ht => ⟨by rw [eA, ← (show nI (0 + 8 * t + 3) = nI (3 + 8 * t) by try (congr 1 <;> omega)), BA.cf (Or.inl rfl) (by decide) ht (by decide) (by decide)], by rw [eB, ← (show nI (300 + 9 * t + 3) = nI (303 + 9 * t) by try (congr 1 <;> omega)), BB.cf (Or.inr rfl) (by decide) ht (by decide) (by decide)]⟩) R368, RLO_mk (o1 := 7) (o2 := 66) (b1 := 4) (b2 := 304) (s1 := 8) (s2 := 9) (n := 30) rfl (by decide) (by decide) (fun t ht => by rw [eA, eB, ← (show nI (0 + 8 * t + 4) = nI (4 + 8 * t) by try (congr 1 <;> omega)), ← (show nI (300 + 9 * t + 4) = nI (304 + 9 * t) by try (congr 1 <;> omega)), (BA.2.2.1 t ht).1, (BB.2.2.1 t ht).1]), RLO_pt (cv := 1) (o1 := 7) (o2 := 66) (b1 := 5) (b2 := 305) (s1 := 8) (s2 := 9) (n := 30) rfl (by decide) (by decide) (fun t ht => ⟨by rw [eA, ← (show nI (0 + 8 * t + 5) = nI (5 + 8 * t) by try (congr 1 <;> omega)), BA.cf (Or.inl rfl) (by decide) ht (by decide) (by decide)], by rw [eB, ← (show nI (300 + 9 * t + 5) = nI (305 + 9 * t) by try (congr 1 <;> omega)), BB.cf (Or.inr rfl) (by decide) ht (by decide) (by decide)]⟩) R400, RLO_pt (cv := 1) (o1 := 7) (o2 := 66) (b1 := 6) (b2 := 306) (s1 := 8) (s2 := 9) (n := 30) rfl (by decide) (by decide) (fun t ht => ⟨by rw [eA, ← (show nI (0 + 8 * t + 6) = nI (6 + 8 * t) by try (congr 1 <;> omega)), BA.cf (Or.inl rfl) (by decide) ht (by decide) (by decide)], by rw [eB, ← (show nI (300 + 9 * t + 6) = nI (306 + 9 * t) by try (congr 1 <;> omega)), BB.cf (Or.inr rfl) (by decide) ht (by decide) (by decide)]⟩) R416, RLO_mk (o1 := 7) (o2 := 66) (b1 := 7) (b2 := 307) (s1 := 8) (s2 := 9) (n := 30) rfl (by decide) (by decide) (fun t ht => by rw [eA, eB, ← (show nI (0 + 8 * t + 7) = nI (7 + 8 * t) by try (congr 1 <;> omega)), ← (show nI (300 + 9 * t + 7) = nI (307 + 9 * t) by try (congr 1 <;> omega)), (BA.2.2.1 t ht).2, (BB.2.2.1 t ht).2]), RLO_wh (cv := 3) (o1 := 7) (o2 := 66) (b1 := 0) (b2 := 304) (s1 := 8) (s2 := 9) (n := 30) (by decide) rfl (by decide) (by decide) (fun t ht => ⟨by rw [eA, ← (show nI (0 + 8 * t + 0) = nI (0 + 8 * t) by try (congr 1 <;> omega)), BA.cf (Or.inl rfl) (by decide) ht (by decide) (by decide)], fun z => by rw [eB, ← (show nI (300 + 9 * t + 4) = nI (304 + 9 * t) by try (congr 1 <;> omega)), (BB.2.2.1 t ht).1] at z; rw [← (show nI (300 + 9 * t + 4) = nI (304 + 9 * t) by try (congr 1 <;> omega)), hWB t ht]; split at z; exact bW1 z; exact z⟩) R576, RLO_wh (cv := 4) (o1 := 7) (o2 := 66) (b1 := 5) (b2 := 304) (s1 := 8) (s2 := 9) (n := 30) (by decide) rfl (by decide) (by decide) (fun t ht => ⟨by rw [eA, ← (show nI (0 + 8 * t + 5) = nI (5 + 8 * t) by try (congr 1 <;> omega)), BA.cf (Or.inl rfl) (by decide) ht (by decide) (by decide)], fun z => by rw [eB, ← (show nI (300 + 9 * t + 4) = nI (304 + 9 * t) by try (congr 1 <;> omega)), (BB.2.2.1 t ht).1] at z; rw [← (show nI (300 + 9 * t + 4) = nI (304 + 9 * t) by try (congr 1 <;> omega)), hWB t ht]; split at z; exact bW1 z; exact z⟩) R592, ?_, ?_⟩
    · refine ZRO_pt (cv := 0) (o1 := 7) (o2 := 66) (b1 := 7) (b2 := 307) (s1 := 8) (s2 := 9) (n := 30) rfl (by decide) (fun t ht hn => ?_) Z432
      have ht' : ¬ t < n := by omega
      have z := (BA.2.2.1 t ht).2
      rw [if_neg ht', ← hWM t ht] at z
      rw [eA, ← (show nI (0 + 8 * t + 7) = nI (7 + 8 * t) by try (congr 1 <;> omega))]
      exact z
    · refine UBO4_pt ?_ ?_ (fun t ht => ?_) U4
      · rw [eB]; exact BB.lo rfl (j := 3) (by decide) rfl
      · rw [eB]; exact BB.lo rfl (j := 1) (by decide) rfl
      · rw [eB, ← (show nI (300 + 9 * t + 1) = nI (301 + 9 * t) by try (congr 1 <;> omega))]
        exact BB.cf (Or.inr rfl) (by decide) ht (by decide) (by decide)
noncomputable def bellQ : List Rg := [(66, 300, 9, 30, 0, 5), (66, 301, 9, 30, 0, 2), (66, 302, 9, 30, 0, 9999), (66, 304, 9, 30, 0, 2), (66, 307, 9, 30, 0, 1)]
set_option maxRecDepth 100000 in
theorem bell_rgd : rgT.all (fun q => rgV wsB [q] || bellQ.any (fun p => decide (p = q))) = true := by decide +kernel
theorem bell_rg {h K hB : Hp} {n v : Nat} {T : Nat → Bool} {W M : Nat → Int32} (hR : ∀ q ∈ rgT, RgO h q) (F : Frm wsB h K) (eB : ∀ j, K.1 66 j = hB.1 66 j) (hW : ∀ i, i < 30 → h.1 66 (nI (300 + 9 * i + 4)) = W i) (hM : ∀ i, i < 30 → h.1 66 (nI (300 + 9 * i + 7)) = M i) (BB : Bl 66 300 9 h hB T W M v n) : ∀ q ∈ rgT, RgO K q := by
  intro q hq
  have g := List.all_eq_true.mp bell_rgd q hq
  rw [Bool.or_eq_true] at g
  rcases g with g | g
  · exact rgV_sp g F (fun p hp => by rw [List.mem_singleton.mp hp]; exact hR q hq) q (List.mem_singleton.mpr rfl)
  obtain ⟨p, hp, e⟩ := List.any_eq_true.mp g
  have e := of_decide_eq_true e
  subst e
  have hRp := hR p hq
  clear g hR hq
  have j_of : ∀ (f : Nat) (j : Int32) (k : Int), 0 ≤ k → k < 30 → f < 10 → j.toInt = 300 + (f : Int) + 9 * k → ∃ k' : Nat, k' < 30 ∧ j = nI (300 + 9 * k' + f) := fun f j k k0 k1 hf hj => ⟨k.toNat, by omega, Int32.toInt_inj.mp (by rw [nI_i (by omega)]; omega)⟩
  have un : ∀ (f : Nat) (lo hi : Int), p = (66, 300 + (f : Int), 9, 30, lo, hi) → f < 7 → f ≠ 4 → RgO K p := fun f lo hi e f7 f4 => by
    subst e
    intro j k k0 k1 hj
    obtain ⟨k', hk, rfl⟩ := j_of f j k k0 k1 (by omega) hj
    have z := hRp _ k k0 k1 hj
    show lo ≤ (K.1 66 _).toInt ∧ (K.1 66 _).toInt ≤ hi
    rw [eB, BB.cf (Or.inr rfl) (by decide) hk f7 f4]
    exact z
  rcases List.mem_cons.mp hp with e | hp
  · exact un 0 0 5 e (by decide) (by decide)
  rcases List.mem_cons.mp hp with e | hp
  · exact un 1 0 2 e (by decide) (by decide)
  rcases List.mem_cons.mp hp with e | hp
  · exact un 2 0 9999 e (by decide) (by decide)
  rcases List.mem_cons.mp hp with e | hp
  · subst e
    intro j k k0 k1 hj
    obtain ⟨k', hk, rfl⟩ := j_of 4 j k k0 k1 (by decide) hj
    have z : (0 : Int) ≤ (h.1 66 (nI (300 + 9 * k' + 4))).toInt ∧ (h.1 66 (nI (300 + 9 * k' + 4))).toInt ≤ 2 := hRp _ k k0 k1 hj
    rw [hW k' hk] at z
    show (0 : Int) ≤ (K.1 66 _).toInt ∧ (K.1 66 _).toInt ≤ 2
    rw [eB, (BB.2.2.1 k' hk).1]
    split
    · unfold bWn
      split
      · decide
      · exact z
    · exact z
  rcases List.mem_cons.mp hp with e | hp
  · subst e
    intro j k k0 k1 hj
    obtain ⟨k', hk, rfl⟩ := j_of 7 j k k0 k1 (by decide) hj
    have z : (0 : Int) ≤ (h.1 66 (nI (300 + 9 * k' + 7))).toInt ∧ (h.1 66 (nI (300 + 9 * k' + 7))).toInt ≤ 1 := hRp _ k k0 k1 hj
    rw [hM k' hk] at z
    show (0 : Int) ≤ (K.1 66 _).toInt ∧ (K.1 66 _).toInt ≤ 1
    rw [eB, (BB.2.2.1 k' hk).2]
    split
    · unfold bMn
      split
      · split <;> decide
      · exact z
    · exact z
  cases hp
theorem wsB_sub : ∀ w ∈ wsB, w ∈ pm14.2.2.1.2.2.2.2.2.1 := List.forall_mem_cons.mpr ⟨List.mem_of_getElem? (i := 1) rfl, List.forall_mem_cons.mpr ⟨List.mem_of_getElem? (i := 3) rfl, fun _ h => absurd h List.not_mem_nil⟩⟩
theorem Mo.ff {rg : List Rg} {ws : List Wr} {h0 h : Hp} {ρ : Nat → Int} {S : Sx} (M : Mo rg ws h0 ρ S h) (bs : List (Nat × Int × Int)) (fs : List LE) (hb : ∀ q ∈ bs, q.1 < S.1 ∧ q.2.1 ≤ ρ q.1 ∧ ρ q.1 ≤ q.2.2) (hf : ∀ f ∈ fs, leS S.1 f ∧ 0 ≤ leV ρ f) : Mo rg ws h0 ρ (S.1, (bs ++ S.2.1.1, fs ++ S.2.1.2), S.2.2) h := M.db ⟨fun q hq => (List.mem_append.mp hq).elim (hb q) (M.1.1 q), fun f hq => (List.mem_append.mp hq).elim (hf f) (M.1.2 f)⟩
set_option maxHeartbeats 4000000 in
set_option maxRecDepth 100000 in
theorem bell_end {ρ : Nat → Int} {h hA hB : Hp} {n nS x v : Nat} {y r : Int32} {T : Nat → Bool} {W M : Nat → Int32} (M0 : Mo rgT pm14.2.2.1.2.2.2.2.2.1 h ρ (cnS pm14.2.2.1) h) (hR : ∀ q ∈ rgT, RgO h q) (ex : ρ 0 = (x : Int)) (hT : (n : Int) = ρ 10) (hS : (nS : Int) = ρ 4) (s3 : nS ≤ 3) (xn : x < nS) (hy : y = 0 ∨ y = 1) (R320 : RLO h 320 0 0) (R336 : RLO h 336 0 0) (R352 : RLO h 352 0 0) (R368 : RLO h 368 0 0) (R384 : RLO h 384 0 0) (R400 : RLO h 400 0 0) (R416 : RLO h 416 0 0) (R432 : RLO h 432 0 0) (R576 : RLO h 576 0 0) (R592 : RLO h 592 0 0) (Z432 : ZRO h 432 n) (U4 : UBO h 4 0) (hWM : ∀ i, i < 30 → h.1 7 (nI (0 + 8 * i + 7)) = M i) (hWB : ∀ i, i < 30 → h.1 66 (nI (300 + 9 * i + 4)) = W i) (hMB : ∀ i, i < 30 → h.1 66 (nI (300 + 9 * i + 7)) = M i) (BA : Bl 7 0 8 h hA T W M v n) (BB : Bl 66 300 9 h hB T W M v n) : PmPost rgT pm14.2.2.1 pm14.2.2.2 ρ h (some (.int r)) (some (.int r)) (mxH true (hI hA 3 ((nI x * 8) + 7) y) (hI hB 66 ((10 + (10 * nI x)) + 7) y)) := by
  have x3 : x < 3 := by omega
  obtain ⟨F0, KK⟩ := bell_mix R320 R336 R352 R368 R384 R400 R416 R432 R576 R592 Z432 U4 hWM hWB BA BB
  have eH : mxH true (hI hA 3 ((nI x * 8) + 7) y) (hI hB 66 ((10 + (10 * nI x)) + 7) y) = hI (hI (mxH true hA hB) 3 ((nI x * 8) + 7) y) 66 ((10 + (10 * nI x)) + 7) y := by
    rw [mx_wB (by decide), ← hI_mx (s := true) (by decide)]
  rw [eH]
  obtain ⟨K, hK⟩ : ∃ K, K = mxH true hA hB := ⟨_, rfl⟩
  obtain ⟨w20, w21, w22, w23, w24, w25, w26, w27, x576, x592, wZ, wU⟩ := KK K hK
  rw [← hK] at F0 ⊢
  have F1 : Frm pm14.2.2.1.2.2.2.2.2.1 h K := ⟨fun o j q => F0.1 o j (fun ⟨w, hw, z⟩ => q ⟨w, wsB_sub w hw, z⟩), fun o j q => F0.2.1 o j (fun ⟨w, hw, z⟩ => q ⟨w, wsB_sub w hw, z⟩), F0.2.2⟩
  have M1 := M0.kl F0 F1 (bell_rg hR F0 (fun j => by rw [hK]; exact mx_off (by decide)) hWB hMB BB)
  have M2 := M1.ff [(0, 0, 2)] [(-1, [(0, -1), (4, 1)])] (List.forall_mem_cons.mpr ⟨⟨by decide +kernel, by show (0 : Int) ≤ ρ 0; omega, by show ρ 0 ≤ (2 : Int); omega⟩, fun _ h => absurd h List.not_mem_nil⟩) (List.forall_mem_cons.mpr ⟨⟨scB_S (by decide +kernel), by show (0 : Int) ≤ -1 + (-1 * ρ 0 + (1 * ρ 4 + 0)); omega⟩, fun _ h => absurd h List.not_mem_nil⟩)
  have M3 := M2.kc (c := (9, 320, leC 0, leC 0)) ⟨leS_C, leS_C, by show RLO _ 320 (leV ρ (leC 0)) (leV ρ (leC 0)); rw [leV_C]; exact w20⟩
  have M4 := M3.kc (c := (9, 336, leC 0, leC 0)) ⟨leS_C, leS_C, by show RLO _ 336 (leV ρ (leC 0)) (leV ρ (leC 0)); rw [leV_C]; exact w21⟩
  have M5 := M4.kc (c := (9, 352, leC 0, leC 0)) ⟨leS_C, leS_C, by show RLO _ 352 (leV ρ (leC 0)) (leV ρ (leC 0)); rw [leV_C]; exact w22⟩
  have M6 := M5.kc (c := (9, 368, leC 0, leC 0)) ⟨leS_C, leS_C, by show RLO _ 368 (leV ρ (leC 0)) (leV ρ (leC 0)); rw [leV_C]; exact w23⟩
  have M7 := M6.kc (c := (9, 384, leC 0, leC 0)) ⟨leS_C, leS_C, by show RLO _ 384 (leV ρ (leC 0)) (leV ρ (leC 0)); rw [leV_C]; exact w24⟩
  have M8 := M7.kc (c := (9, 400, leC 0, leC 0)) ⟨leS_C, leS_C, by show RLO _ 400 (leV ρ (leC 0)) (leV ρ (leC 0)); rw [leV_C]; exact w25⟩
  have M9 := M8.kc (c := (9, 416, leC 0, leC 0)) ⟨leS_C, leS_C, by show RLO _ 416 (leV ρ (leC 0)) (leV ρ (leC 0)); rw [leV_C]; exact w26⟩
  have M10 := M9.kc (c := (9, 432, leC 0, leC 0)) ⟨leS_C, leS_C, by show RLO _ 432 (leV ρ (leC 0)) (leV ρ (leC 0)); rw [leV_C]; exact w27⟩
  have M11 := M10.kc (c := (9, 576, leC 0, leC 0)) ⟨leS_C, leS_C, by show RLO _ 576 (leV ρ (leC 0)) (leV ρ (leC 0)); rw [leV_C]; exact x576⟩
  have M12 := M11.kc (c := (9, 592, leC 0, leC 0)) ⟨leS_C, leS_C, by show RLO _ 592 (leV ρ (leC 0)) (leV ρ (leC 0)); rw [leV_C]; exact x592⟩
  have M13 := M12.kc (c := (11, 432, leC 0, leX 10)) ⟨leS_C, leS_X (by decide +kernel), by show ZRO _ 432 (leV ρ (leX 10)); rw [leV_X, ← hT]; exact wZ⟩
  have M14 := M13.kc (c := (14, 4, leC 0, leC 0)) ⟨leS_C, leS_C, by show UBO _ 4 (leV ρ (leC 0)); rw [leV_C]; exact wU⟩
  have by_ : 0 ≤ y.toInt ∧ y.toInt ≤ 1 := by rcases hy with rfl | rfl <;> decide
  have N1 := M14.nw (x := y.toInt) (l := 0) (u := 1) by_.1 by_.2
  obtain ⟨ρ', hρ⟩ : ∃ ρ', ρ' = updS ρ 37 y.toInt := ⟨_, rfl⟩
  have n22 : (cnS pm14.2.2.1).1 = 37 := by decide +kernel
  have N1 : Mo rgT pm14.2.2.1.2.2.2.2.2.1 h ρ' (nwS ((cnS pm14.2.2.1).1, ([(0, 0, 2)] ++ (cnS pm14.2.2.1).2.1.1, [(-1, [(0, -1), (4, 1)])] ++ (cnS pm14.2.2.1).2.1.2), [(14, 4, leC 0, leC 0), (11, 432, leC 0, leX 10), (9, 592, leC 0, leC 0), (9, 576, leC 0, leC 0), (9, 432, leC 0, leC 0), (9, 416, leC 0, leC 0), (9, 400, leC 0, leC 0), (9, 384, leC 0, leC 0), (9, 368, leC 0, leC 0), (9, 352, leC 0, leC 0), (9, 336, leC 0, leC 0), (9, 320, leC 0, leC 0)] ++ kpL (cnS pm14.2.2.1).2.1 wsB (cnS pm14.2.2.1).2.2) 0 1) K := by rw [hρ]; exact N1
  have ex' : ρ' 0 = (x : Int) := by rw [hρ, updS_lt (by decide)]; exact ex
  have z0 : ρ' 37 = y.toInt := by rw [hρ, updS_at]
  have ag : Ag ρ ρ' 37 := fun k hk => by rw [hρ, updS_lt hk]
  have N2 := (N1.wr (o := 3) (i := (7, [(0, 8)])) (e := leX 37) (j := ((nI x * 8) + 7)) (v := y) ⟨scB_S (by decide +kernel), by rw [show (nI x * 8) + 7 = nI (7 + 8 * x) from ixS (f := 7) x3 (by decide), nI_i (by omega)]; show (7 : Int) + (8 * ρ' 0 + 0) = _; omega⟩ ⟨leS_X (by decide +kernel), by rw [leV_X, z0]⟩ (by decide +kernel)).1
  have N3 := (N2.wr (o := 66) (i := (17, [(0, 10)])) (e := leX 37) (j := ((10 + (10 * nI x)) + 7)) (v := y) ⟨scB_S (by decide +kernel), by rw [show (10 + (10 * nI x)) + 7 = nI (17 + 10 * x) from ixK (f := 7) x3 (by decide), nI_i (by omega)]; show (17 : Int) + (10 * ρ' 0 + 0) = _; omega⟩ ⟨leS_X (by decide +kernel), by rw [leV_X, z0]⟩ (by decide +kernel)).1
  have N4 := N3.nw (x := r.toInt) (l := -2147483648) (u := 2147483647) (i32b r).1 (i32b r).2
  refine hand_post (r := some (0, leX 38)) (r' := some (0, leX 38)) N4 (ag.tr (upd_ag (n := 38)) (by decide)) (by decide +kernel) (hand_r ⟨leS_X (by decide +kernel), ?_⟩) (hand_r ⟨leS_X (by decide +kernel), ?_⟩) (by decide +kernel)
  · rw [leV_X]
    unfold updS
    rw [if_pos (by decide +kernel)]
  · rw [leV_X]
    unfold updS
    rw [if_pos (by decide +kernel)]
set_option maxHeartbeats 4000000 in
set_option maxRecDepth 100000 in
theorem okP14 : PmOK rgT pm14 := by
  intro d hd ρ as bs h hlen hin hb hc hf hR
  have hd : 6 ≤ d := hd
  have hlen : as.length = 3 := hlen
  generalize hL : as ++ bs = L at hin
  have hin0 := hin
  obtain ⟨v0, s0, rfl, hin⟩ := hin
  rw [if_pos rfl] at hin
  obtain ⟨rfl, -, hin⟩ := hin
  obtain ⟨v1, s1, rfl, hin⟩ := hin
  rw [if_neg (by decide), if_pos rfl] at hin
  obtain ⟨g0, ⟨a0, rfl, e0⟩, hin⟩ := hin
  obtain ⟨v2, s2, rfl, hin⟩ := hin
  rw [if_neg (by decide), if_pos rfl] at hin
  obtain ⟨g1, ⟨a1, rfl, e1⟩, hin⟩ := hin
  obtain ⟨v3, s3, rfl, hin⟩ := hin
  rw [if_pos rfl] at hin
  obtain ⟨rfl, -, hin⟩ := hin
  obtain ⟨v4, s4, rfl, hin⟩ := hin
  rw [if_neg (by decide), if_pos rfl] at hin
  obtain ⟨g2, ⟨b2, rfl, e2⟩, hin⟩ := hin
  obtain ⟨v5, s5, rfl, hin⟩ := hin
  rw [if_neg (by decide), if_pos rfl] at hin
  obtain ⟨g3, ⟨b3, rfl, e3⟩, hin⟩ := hin
  cases hin
  obtain ⟨rfl, rfl⟩ := List.append_inj (show as ++ bs = [Value.ref 0, .int a0, .int a1] ++ [Value.ref 65, .int b2, .int b3] from hL) hlen
  have f0 : (0 : Int) ≤ 0 + (1 * ρ 0 + (-1 * ρ 2 + 0)) := hf _ (List.mem_of_getElem? (i := 0) rfl)
  have f1 : (0 : Int) ≤ 0 + (-1 * ρ 0 + (1 * ρ 2 + 0)) := hf _ (List.mem_of_getElem? (i := 1) rfl)
  have f2 : (0 : Int) ≤ 0 + (1 * ρ 1 + (-1 * ρ 3 + 0)) := hf _ (List.mem_of_getElem? (i := 2) rfl)
  have f3 : (0 : Int) ≤ 0 + (-1 * ρ 1 + (1 * ρ 3 + 0)) := hf _ (List.mem_of_getElem? (i := 3) rfl)
  have f4 : (0 : Int) ≤ 0 + (1 * ρ 4 + (-1 * ρ 5 + 0)) := hf _ (List.mem_of_getElem? (i := 4) rfl)
  have f5 : (0 : Int) ≤ 0 + (-1 * ρ 4 + (1 * ρ 5 + 0)) := hf _ (List.mem_of_getElem? (i := 5) rfl)
  have f6 : (0 : Int) ≤ 0 + (1 * ρ 6 + (-1 * ρ 7 + 0)) := hf _ (List.mem_of_getElem? (i := 6) rfl)
  have f7 : (0 : Int) ≤ 0 + (-1 * ρ 6 + (1 * ρ 7 + 0)) := hf _ (List.mem_of_getElem? (i := 7) rfl)
  have f8 : (0 : Int) ≤ 0 + (1 * ρ 8 + (-1 * ρ 9 + 0)) := hf _ (List.mem_of_getElem? (i := 8) rfl)
  have f9 : (0 : Int) ≤ 0 + (-1 * ρ 8 + (1 * ρ 9 + 0)) := hf _ (List.mem_of_getElem? (i := 9) rfl)
  have f10 : (0 : Int) ≤ 0 + (1 * ρ 10 + (-1 * ρ 11 + 0)) := hf _ (List.mem_of_getElem? (i := 10) rfl)
  have f11 : (0 : Int) ≤ 0 + (-1 * ρ 10 + (1 * ρ 11 + 0)) := hf _ (List.mem_of_getElem? (i := 11) rfl)
  have f12 : (0 : Int) ≤ 0 + (1 * ρ 4 + (-1 * ρ 32 + 0)) := hf _ (List.mem_of_getElem? (i := 12) rfl)
  have f13 : (0 : Int) ≤ 0 + (-1 * ρ 4 + (1 * ρ 32 + 0)) := hf _ (List.mem_of_getElem? (i := 13) rfl)
  have f14 : (0 : Int) ≤ 0 + (1 * ρ 4 + (-1 * ρ 33 + 0)) := hf _ (List.mem_of_getElem? (i := 14) rfl)
  have f15 : (0 : Int) ≤ 0 + (-1 * ρ 4 + (1 * ρ 33 + 0)) := hf _ (List.mem_of_getElem? (i := 15) rfl)
  have f16 : (0 : Int) ≤ 0 + (1 * ρ 4 + (-1 * ρ 34 + 0)) := hf _ (List.mem_of_getElem? (i := 16) rfl)
  have f17 : (0 : Int) ≤ 0 + (-1 * ρ 4 + (1 * ρ 34 + 0)) := hf _ (List.mem_of_getElem? (i := 17) rfl)
  have f18 : (0 : Int) ≤ 0 + (1 * ρ 10 + (-1 * ρ 35 + 0)) := hf _ (List.mem_of_getElem? (i := 18) rfl)
  have f19 : (0 : Int) ≤ 0 + (-1 * ρ 10 + (1 * ρ 35 + 0)) := hf _ (List.mem_of_getElem? (i := 19) rfl)
  have f20 : (0 : Int) ≤ 0 + (10 * ρ 8 + (-1 * ρ 36 + 0)) := hf _ (List.mem_of_getElem? (i := 20) rfl)
  have f21 : (0 : Int) ≤ 0 + (-10 * ρ 8 + (1 * ρ 36 + 0)) := hf _ (List.mem_of_getElem? (i := 21) rfl)
  have e0 : ρ 0 = a0.toInt := e0
  have e2 : ρ 2 = b2.toInt := e2
  have e1 : ρ 1 = a1.toInt := e1
  have e3 : ρ 3 = b3.toInt := e3
  obtain rfl : a0 = b2 := Int32.toInt_inj.mp (by omega)
  obtain rfl : a1 = b3 := Int32.toInt_inj.mp (by omega)
  have g0 : (-2147483648 : Int) ≤ ρ 0 ∧ ρ 0 ≤ 2147483647 := g0
  have g1 : (-2147483648 : Int) ≤ ρ 1 ∧ ρ 1 ≤ 2147483647 := g1
  have g2 : (-2147483648 : Int) ≤ ρ 2 ∧ ρ 2 ≤ 2147483647 := g2
  have g3 : (-2147483648 : Int) ≤ ρ 3 ∧ ρ 3 ≤ 2147483647 := g3
  have r4 : (0 : Int) ≤ ρ 4 ∧ ρ 4 ≤ 3 := hb (4, 0, 3) (List.mem_of_getElem? (i := 0) rfl)
  have c4 : ρ 4 = (h.1 2 2).toInt := hc_i (hc (0, 2, (2, []), leX 4) (List.mem_of_getElem? (i := 0) rfl)) rfl
  have r5 : (0 : Int) ≤ ρ 5 ∧ ρ 5 ≤ 3 := hb (5, 0, 3) (List.mem_of_getElem? (i := 1) rfl)
  have c5 : ρ 5 = (h.1 66 1).toInt := hc_i (hc (0, 66, (1, []), leX 5) (List.mem_of_getElem? (i := 1) rfl)) rfl
  have r6 : (0 : Int) ≤ ρ 6 ∧ ρ 6 ≤ 10 := hb (6, 0, 10) (List.mem_of_getElem? (i := 2) rfl)
  have c6 : ρ 6 = (h.1 4 2).toInt := hc_i (hc (0, 4, (2, []), leX 6) (List.mem_of_getElem? (i := 2) rfl)) rfl
  have r7 : (0 : Int) ≤ ρ 7 ∧ ρ 7 ≤ 10 := hb (7, 0, 10) (List.mem_of_getElem? (i := 3) rfl)
  have c7 : ρ 7 = (h.1 66 2).toInt := hc_i (hc (0, 66, (2, []), leX 7) (List.mem_of_getElem? (i := 3) rfl)) rfl
  have r8 : (0 : Int) ≤ ρ 8 ∧ ρ 8 ≤ 999 := hb (8, 0, 999) (List.mem_of_getElem? (i := 4) rfl)
  have c8 : ρ 8 = (h.1 1 5).toInt := hc_i (hc (0, 1, (5, []), leX 8) (List.mem_of_getElem? (i := 4) rfl)) rfl
  have r9 : (0 : Int) ≤ ρ 9 ∧ ρ 9 ≤ 999 := hb (9, 0, 999) (List.mem_of_getElem? (i := 5) rfl)
  have c9 : ρ 9 = (h.1 66 0).toInt := hc_i (hc (0, 66, (0, []), leX 9) (List.mem_of_getElem? (i := 5) rfl)) rfl
  have r10 : (0 : Int) ≤ ρ 10 ∧ ρ 10 ≤ 30 := hb (10, 0, 30) (List.mem_of_getElem? (i := 6) rfl)
  have c10 : ρ 10 = (h.1 6 2).toInt := hc_i (hc (0, 6, (2, []), leX 10) (List.mem_of_getElem? (i := 6) rfl)) rfl
  have r11 : (0 : Int) ≤ ρ 11 ∧ ρ 11 ≤ 30 := hb (11, 0, 30) (List.mem_of_getElem? (i := 7) rfl)
  have c11 : ρ 11 = (h.1 66 3).toInt := hc_i (hc (0, 66, (3, []), leX 11) (List.mem_of_getElem? (i := 7) rfl)) rfl
  have r12 : (0 : Int) ≤ ρ 12 ∧ ρ 12 ≤ 0 := hb (12, 0, 0) (List.mem_of_getElem? (i := 8) rfl)
  have c12 : KC h 14 0 0 (ρ 12) := kc_at (hc (14, 0, (0, []), leX 12) (List.mem_of_getElem? (i := 8) rfl))
  have r13 : (0 : Int) ≤ ρ 13 ∧ ρ 13 ≤ 0 := hb (13, 0, 0) (List.mem_of_getElem? (i := 9) rfl)
  have c13 : KC h 14 4 0 (ρ 13) := kc_at (hc (14, 4, (0, []), leX 13) (List.mem_of_getElem? (i := 9) rfl))
  have r14 : (0 : Int) ≤ ρ 14 ∧ ρ 14 ≤ 0 := hb (14, 0, 0) (List.mem_of_getElem? (i := 10) rfl)
  have c14 : KC h 16 0 0 (ρ 14) := kc_at (hc (16, 0, (0, []), leX 14) (List.mem_of_getElem? (i := 10) rfl))
  have r15 : (0 : Int) ≤ ρ 15 ∧ ρ 15 ≤ 0 := hb (15, 0, 0) (List.mem_of_getElem? (i := 11) rfl)
  have c15 : KC h 9 0 0 (ρ 15) := kc_at (hc (9, 0, (0, []), leX 15) (List.mem_of_getElem? (i := 11) rfl))
  have r16 : (0 : Int) ≤ ρ 16 ∧ ρ 16 ≤ 0 := hb (16, 0, 0) (List.mem_of_getElem? (i := 12) rfl)
  have c16 : KC h 9 16 0 (ρ 16) := kc_at (hc (9, 16, (0, []), leX 16) (List.mem_of_getElem? (i := 12) rfl))
  have r17 : (0 : Int) ≤ ρ 17 ∧ ρ 17 ≤ 0 := hb (17, 0, 0) (List.mem_of_getElem? (i := 13) rfl)
  have c17 : KC h 9 32 0 (ρ 17) := kc_at (hc (9, 32, (0, []), leX 17) (List.mem_of_getElem? (i := 13) rfl))
  have r18 : (0 : Int) ≤ ρ 18 ∧ ρ 18 ≤ 0 := hb (18, 0, 0) (List.mem_of_getElem? (i := 14) rfl)
  have c18 : KC h 9 48 0 (ρ 18) := kc_at (hc (9, 48, (0, []), leX 18) (List.mem_of_getElem? (i := 14) rfl))
  have r19 : (0 : Int) ≤ ρ 19 ∧ ρ 19 ≤ 0 := hb (19, 0, 0) (List.mem_of_getElem? (i := 15) rfl)
  have c19 : KC h 9 64 0 (ρ 19) := kc_at (hc (9, 64, (0, []), leX 19) (List.mem_of_getElem? (i := 15) rfl))
  have r20 : (0 : Int) ≤ ρ 20 ∧ ρ 20 ≤ 0 := hb (20, 0, 0) (List.mem_of_getElem? (i := 16) rfl)
  have c20 : KC h 9 80 0 (ρ 20) := kc_at (hc (9, 80, (0, []), leX 20) (List.mem_of_getElem? (i := 16) rfl))
  have r21 : (0 : Int) ≤ ρ 21 ∧ ρ 21 ≤ 0 := hb (21, 0, 0) (List.mem_of_getElem? (i := 17) rfl)
  have c21 : KC h 9 96 0 (ρ 21) := kc_at (hc (9, 96, (0, []), leX 21) (List.mem_of_getElem? (i := 17) rfl))
  have r22 : (0 : Int) ≤ ρ 22 ∧ ρ 22 ≤ 0 := hb (22, 0, 0) (List.mem_of_getElem? (i := 18) rfl)
  have c22 : KC h 9 320 0 (ρ 22) := kc_at (hc (9, 320, (0, []), leX 22) (List.mem_of_getElem? (i := 18) rfl))
  have r23 : (0 : Int) ≤ ρ 23 ∧ ρ 23 ≤ 0 := hb (23, 0, 0) (List.mem_of_getElem? (i := 19) rfl)
  have c23 : KC h 9 336 0 (ρ 23) := kc_at (hc (9, 336, (0, []), leX 23) (List.mem_of_getElem? (i := 19) rfl))
  have r24 : (0 : Int) ≤ ρ 24 ∧ ρ 24 ≤ 0 := hb (24, 0, 0) (List.mem_of_getElem? (i := 20) rfl)
  have c24 : KC h 9 352 0 (ρ 24) := kc_at (hc (9, 352, (0, []), leX 24) (List.mem_of_getElem? (i := 20) rfl))
  have r25 : (0 : Int) ≤ ρ 25 ∧ ρ 25 ≤ 0 := hb (25, 0, 0) (List.mem_of_getElem? (i := 21) rfl)
  have c25 : KC h 9 368 0 (ρ 25) := kc_at (hc (9, 368, (0, []), leX 25) (List.mem_of_getElem? (i := 21) rfl))
  have r26 : (0 : Int) ≤ ρ 26 ∧ ρ 26 ≤ 0 := hb (26, 0, 0) (List.mem_of_getElem? (i := 22) rfl)
  have c26 : KC h 9 384 0 (ρ 26) := kc_at (hc (9, 384, (0, []), leX 26) (List.mem_of_getElem? (i := 22) rfl))
  have r27 : (0 : Int) ≤ ρ 27 ∧ ρ 27 ≤ 0 := hb (27, 0, 0) (List.mem_of_getElem? (i := 23) rfl)
  have c27 : KC h 9 400 0 (ρ 27) := kc_at (hc (9, 400, (0, []), leX 27) (List.mem_of_getElem? (i := 23) rfl))
  have r28 : (0 : Int) ≤ ρ 28 ∧ ρ 28 ≤ 0 := hb (28, 0, 0) (List.mem_of_getElem? (i := 24) rfl)
  have c28 : KC h 9 416 0 (ρ 28) := kc_at (hc (9, 416, (0, []), leX 28) (List.mem_of_getElem? (i := 24) rfl))
  have r29 : (0 : Int) ≤ ρ 29 ∧ ρ 29 ≤ 0 := hb (29, 0, 0) (List.mem_of_getElem? (i := 25) rfl)
  have c29 : KC h 9 432 0 (ρ 29) := kc_at (hc (9, 432, (0, []), leX 29) (List.mem_of_getElem? (i := 25) rfl))
  have r30 : (0 : Int) ≤ ρ 30 ∧ ρ 30 ≤ 0 := hb (30, 0, 0) (List.mem_of_getElem? (i := 26) rfl)
  have c30 : KC h 9 576 0 (ρ 30) := kc_at (hc (9, 576, (0, []), leX 30) (List.mem_of_getElem? (i := 26) rfl))
  have r31 : (0 : Int) ≤ ρ 31 ∧ ρ 31 ≤ 0 := hb (31, 0, 0) (List.mem_of_getElem? (i := 27) rfl)
  have c31 : KC h 9 592 0 (ρ 31) := kc_at (hc (9, 592, (0, []), leX 31) (List.mem_of_getElem? (i := 27) rfl))
  have r32 : (0 : Int) ≤ ρ 32 ∧ ρ 32 ≤ 3 := hb (32, 0, 3) (List.mem_of_getElem? (i := 28) rfl)
  have c32 : KC h 11 64 0 (ρ 32) := kc_at (hc (11, 64, (0, []), leX 32) (List.mem_of_getElem? (i := 28) rfl))
  have r33 : (0 : Int) ≤ ρ 33 ∧ ρ 33 ≤ 3 := hb (33, 0, 3) (List.mem_of_getElem? (i := 29) rfl)
  have c33 : KC h 11 80 0 (ρ 33) := kc_at (hc (11, 80, (0, []), leX 33) (List.mem_of_getElem? (i := 29) rfl))
  have r34 : (0 : Int) ≤ ρ 34 ∧ ρ 34 ≤ 3 := hb (34, 0, 3) (List.mem_of_getElem? (i := 30) rfl)
  have c34 : KC h 11 96 0 (ρ 34) := kc_at (hc (11, 96, (0, []), leX 34) (List.mem_of_getElem? (i := 30) rfl))
  have r35 : (0 : Int) ≤ ρ 35 ∧ ρ 35 ≤ 30 := hb (35, 0, 30) (List.mem_of_getElem? (i := 31) rfl)
  have c35 : KC h 11 432 0 (ρ 35) := kc_at (hc (11, 432, (0, []), leX 35) (List.mem_of_getElem? (i := 31) rfl))
  have r36 : (0 : Int) ≤ ρ 36 ∧ ρ 36 ≤ 20000 := hb (36, 0, 20000) (List.mem_of_getElem? (i := 32) rfl)
  have c36 : KC h 14 16 0 (ρ 36) := kc_at (hc (14, 16, (0, []), leX 36) (List.mem_of_getElem? (i := 32) rfl))
  have M0 := hand_M (rg := rgT) (s := pm14.2.2.1) (h := h) (ρ := ρ) (by decide +kernel) (by decide +kernel) hin0 hb hc hf hR
  obtain ⟨d', rfl⟩ : ∃ d', d = d' + 4 := ⟨d - 4, by have := hd; omega⟩
  obtain ⟨n, hn⟩ : ∃ n : Nat, (n : Int) = ρ 10 := ⟨(ρ 10).toNat, Int.toNat_of_nonneg r10.1⟩
  obtain ⟨nS, hnS⟩ : ∃ n : Nat, (n : Int) = ρ 4 := ⟨(ρ 4).toNat, Int.toNat_of_nonneg r4.1⟩
  have n30 := cnt_le (m := 30) hn r10.2
  have s3 := cnt_le (m := 3) hnS r4.2
  have en : h.1 6 2 = nI n := cnt_n hn c10
  have en2 : h.1 66 3 = nI n := cnt_n (hn.trans (eqI f10 f11)) c11
  have es : h.1 2 2 = nI nS := cnt_n hnS c4
  have es2 : h.1 66 1 = nI nS := cnt_n (hnS.trans (eqI f4 f5)) c5
  have R320 : RLO h 320 0 0 := by have q := c22; rw [show ρ 22 = 0 from Int.le_antisymm r22.2 r22.1] at q; exact q
  have R336 : RLO h 336 0 0 := by have q := c23; rw [show ρ 23 = 0 from Int.le_antisymm r23.2 r23.1] at q; exact q
  have R352 : RLO h 352 0 0 := by have q := c24; rw [show ρ 24 = 0 from Int.le_antisymm r24.2 r24.1] at q; exact q
  have R368 : RLO h 368 0 0 := by have q := c25; rw [show ρ 25 = 0 from Int.le_antisymm r25.2 r25.1] at q; exact q
  have R384 : RLO h 384 0 0 := by have q := c26; rw [show ρ 26 = 0 from Int.le_antisymm r26.2 r26.1] at q; exact q
  have R400 : RLO h 400 0 0 := by have q := c27; rw [show ρ 27 = 0 from Int.le_antisymm r27.2 r27.1] at q; exact q
  have R416 : RLO h 416 0 0 := by have q := c28; rw [show ρ 28 = 0 from Int.le_antisymm r28.2 r28.1] at q; exact q
  have R432 : RLO h 432 0 0 := by have q := c29; rw [show ρ 29 = 0 from Int.le_antisymm r29.2 r29.1] at q; exact q
  have R576 : RLO h 576 0 0 := by have q := c30; rw [show ρ 30 = 0 from Int.le_antisymm r30.2 r30.1] at q; exact q
  have R592 : RLO h 592 0 0 := by have q := c31; rw [show ρ 31 = 0 from Int.le_antisymm r31.2 r31.1] at q; exact q
  have Z432 : ZRO h 432 n := by have q := c35; rw [show ρ 35 = (n : Int) from ((eqI f18 f19).symm).trans hn.symm] at q; exact q
  have U4 : UBO h 4 0 := by have q := c13; rw [show ρ 13 = 0 from Int.le_antisymm r13.2 r13.1] at q; exact q
  have ex0 : ρ 0 = a0.toInt := e0
  rcases bell_core (d := d') (h := h) (a0 := a0) (a1 := a1) n30 s3 en en2 es es2 R320 R336 R384 R432 hR with ⟨cA, cB⟩ | ⟨x, v, y, r, T, W, M, hA, hB, rfl, xn, hy, hWM, hWB, hMB, BA, BB, cA, cB⟩
  · refine pm_mk (p := pm14) cA cB (List.forall_mem_cons.mpr ⟨fun _ => rfl, List.forall_mem_cons.mpr ⟨trivial, List.forall_mem_cons.mpr ⟨trivial, fun _ h => absurd h List.not_mem_nil⟩⟩⟩) (List.forall_mem_cons.mpr ⟨fun _ => rfl, List.forall_mem_cons.mpr ⟨trivial, List.forall_mem_cons.mpr ⟨trivial, fun _ h => absurd h List.not_mem_nil⟩⟩⟩) ?_
    rw [mx_self]
    exact hand_post M0 Ag.rf (Nat.le_refl _) (hand_r (e := leC (-1000000001)) ⟨leS_C, leV_C _ _⟩) (hand_r (e := leC (-1000000001)) ⟨leS_C, leV_C _ _⟩) (by decide +kernel)
  · refine pm_mk (p := pm14) cA cB (List.forall_mem_cons.mpr ⟨fun _ => rfl, List.forall_mem_cons.mpr ⟨trivial, List.forall_mem_cons.mpr ⟨trivial, fun _ h => absurd h List.not_mem_nil⟩⟩⟩) (List.forall_mem_cons.mpr ⟨fun _ => rfl, List.forall_mem_cons.mpr ⟨trivial, List.forall_mem_cons.mpr ⟨trivial, fun _ h => absurd h List.not_mem_nil⟩⟩⟩) ?_
    exact bell_end M0 hR (by rw [ex0, nI_i (Nat.lt_trans xn (Nat.lt_of_le_of_lt s3 (by decide)))]) hn hnS s3 xn hy R320 R336 R352 R368 R384 R400 R416 R432 R576 R592 Z432 U4 hWM hWB hMB BA BB

