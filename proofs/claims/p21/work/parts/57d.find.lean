/-! By hand: both fillings, as a pair. -/
theorem rowE {h : Hp} {r o1 o2 b1 s1 b2 s2 n : Nat} {y : Int} (w : RLO h r 0 y) (hy : y ≤ 0) (e : rlD r = some (0, (o1, (b1 : Int), (s1 : Int)), (o2, (b2 : Int), (s2 : Int)), (n : Int), 0)) (m1 : b1 + s1 * n < 100000) (m2 : b2 + s2 * n < 100000) {t : Nat} (ht : t < n) : h.1 o1 (nI (b1 + s1 * t)) = h.1 o2 (nI (b2 + s2 * t)) := by
  obtain ⟨k, p1, c1, d1, p2, c2, d2, m, cv, e0, R⟩ := w
  rw [e] at e0
  cases e0
  have R := R t (by omega) (by omega) (Or.inr (by omega))
  rw [rlR0] at R
  have q1 : s1 * t ≤ s1 * n := Nat.mul_le_mul_left _ (by omega)
  have q2 : s2 * t ≤ s2 * n := Nat.mul_le_mul_left _ (by omega)
  have i1 : Int32.ofInt ((b1 : Int) + (s1 : Int) * (t : Int)) = nI (b1 + s1 * t) := by rw [← nI_ofI (by omega)]; congr 1
  have i2 : Int32.ofInt ((b2 : Int) + (s2 : Int) * (t : Int)) = nI (b2 + s2 * t) := by rw [← nI_ofI (by omega)]; congr 1
  have R : (h.1 o1 (Int32.ofInt ((b1 : Int) + (s1 : Int) * (t : Int)))).toInt = (h.1 o2 (Int32.ofInt ((b2 : Int) + (s2 : Int) * (t : Int)))).toInt := R
  rw [i1, i2] at R
  exact Int32.toInt_inj.mp R
theorem rowN {h : Hp} {r o1 o2 b1 s1 b2 s2 n : Nat} {y : Int} (w : RLO h r 0 y) (hy : y ≤ 0) (e : rlD r = some (0, (o1, (b1 : Int), (s1 : Int)), (o2, (b2 : Int), (s2 : Int)), (n : Int), 1)) (m1 : b1 + s1 * n < 100000) (m2 : b2 + s2 * n < 100000) {t : Nat} (ht : t < n) : ((h.1 o1 (nI (b1 + s1 * t))).toInt = -1000000005 ∧ (h.1 o2 (nI (b2 + s2 * t))).toInt = -1) ∨ ((h.1 o1 (nI (b1 + s1 * t))).toInt = (h.1 o2 (nI (b2 + s2 * t))).toInt ∧ 0 ≤ (h.1 o2 (nI (b2 + s2 * t))).toInt) := by
  obtain ⟨k, p1, c1, d1, p2, c2, d2, m, cv, e0, R⟩ := w
  rw [e] at e0
  cases e0
  have R := R t (by omega) (by omega) (Or.inr (by omega))
  have q1 : s1 * t ≤ s1 * n := Nat.mul_le_mul_left _ (by omega)
  have q2 : s2 * t ≤ s2 * n := Nat.mul_le_mul_left _ (by omega)
  have i1 : Int32.ofInt ((b1 : Int) + (s1 : Int) * (t : Int)) = nI (b1 + s1 * t) := by rw [← nI_ofI (by omega)]; congr 1
  have i2 : Int32.ofInt ((b2 : Int) + (s2 : Int) * (t : Int)) = nI (b2 + s2 * t) := by rw [← nI_ofI (by omega)]; congr 1
  have R : rlR 1 (h.1 o1 (Int32.ofInt ((b1 : Int) + (s1 : Int) * (t : Int)))).toInt (h.1 o2 (Int32.ofInt ((b2 : Int) + (s2 : Int) * (t : Int)))).toInt := R
  rw [i1, i2] at R
  unfold rlR at R
  rw [if_pos rfl] at R
  rcases R with R | ⟨a, b⟩
  · exact Or.inl R
  · exact Or.inr ⟨a, by omega⟩
theorem ixA {i f : Nat} (hi : i < 10) (hf : f < 14) : (nI i * 14) + nI f = nI (f + 14 * i) := by
  show nI i * nI 14 + nI f = _
  rw [show nI i * nI 14 = nI (i * 14) from (Int32.ofNat_mul i 14).symm, nI_add]
  congr 1
  omega
theorem ixS {k f : Nat} (hk : k < 3) (hf : f < 8) : (nI k * 8) + nI f = nI (f + 8 * k) := by
  show nI k * nI 8 + nI f = _
  rw [show nI k * nI 8 = nI (k * 8) from (Int32.ofNat_mul k 8).symm, nI_add]
  congr 1
  omega
theorem ixH {i f : Nat} (hi : i < 10) (hf : f < 16) : (40 + (16 * nI i)) + nI f = nI (40 + f + 16 * i) := by
  show (nI 40 + nI 16 * nI i) + nI f = _
  rw [show nI 16 * nI i = nI (16 * i) from (Int32.ofNat_mul 16 i).symm, nI_add, nI_add]
  congr 1
  omega
theorem ixK {k f : Nat} (hk : k < 3) (hf : f < 10) : (10 + (10 * nI k)) + nI f = nI (10 + f + 10 * k) := by
  show (nI 10 + nI 10 * nI k) + nI f = _
  rw [show nI 10 * nI k = nI (10 * k) from (Int32.ofNat_mul 10 k).symm, nI_add, nI_add]
  congr 1
  omega
theorem srch_g {T : Nat → Int} {ok : Nat → Nat → (Nat → Nat) → Bool} {R : Nat → Nat → Prop} (ho : ∀ x k g, k < 3 → ok x k g = true → R x k) : ∀ {r h : Nat} {g : Nat → Nat} {c s : Int} {b : Bst}, (∀ i, g i = 3 ∨ (g i < 3 ∧ R i (g i))) → (∀ i, b.g i = 3 ∨ (b.g i < 3 ∧ R i (b.g i))) → ∀ i, (srch T ok r h g c s b).g i = 3 ∨ ((srch T ok r h g c s b).g i < 3 ∧ R i ((srch T ok r h g c s b).g i))
  | 0, h, g, c, s, b, hg, hb => by
    unfold srch
    split
    · exact hg
    · exact hb
  | r + 1, h, g, c, s, b, hg, hb => by
    have up : ∀ k, (k = 3 ∨ k < 3 ∧ R h k) → ∀ i, upg g h k i = 3 ∨ (upg g h k i < 3 ∧ R i (upg g h k i)) := fun k hk i => by
      unfold upg
      by_cases e : i = h
      · rw [if_pos e, e]; exact hk
      · rw [if_neg e]; exact hg i
    have st : ∀ k, k < 3 → ∀ b : Bst, (∀ i, b.g i = 3 ∨ (b.g i < 3 ∧ R i (b.g i))) → ∀ i, (if ok h k g = true then srch T ok r (h + 1) (upg g h k) (c + 1) (s + T h) b else b).g i = 3 ∨ ((if ok h k g = true then srch T ok r (h + 1) (upg g h k) (c + 1) (s + T h) b else b).g i < 3 ∧ R i ((if ok h k g = true then srch T ok r (h + 1) (upg g h k) (c + 1) (s + T h) b else b).g i)) := fun k hk b hb => by
      split
      · rename_i q
        exact srch_g ho (up k (Or.inr ⟨hk, ho h k g hk q⟩)) hb
      · exact hb
    unfold srch
    exact srch_g ho (up 3 (Or.inl rfl)) (st 2 (by decide) _ (st 1 (by decide) _ (st 0 (by decide) b hb)))
/-- what both fillings read is the same -/
theorem fn_same {h : Hp} {n nS : Nat} (n10 : n ≤ 10) (s3 : nS ≤ 3) (en : h.1 4 2 = nI n) (en2 : h.1 66 2 = nI n) (es : h.1 2 2 = nI nS) (es2 : h.1 66 1 = nI nS) (day : (h.1 1 5).toInt = (h.1 66 0).toInt) (d0 : 0 ≤ (h.1 66 0).toInt) (R0 : RLO h 0 0 0) (R1 : RLO h 16 0 0) (R2 : RLO h 32 0 0) (R4 : RLO h 64 0 0) (R7 : RLO h 112 0 0) (R8 : RLO h 128 0 0) (R13 : RLO h 208 0 0) (R16 : RLO h 256 0 0) (R18 : RLO h 288 0 0) (B : BG h 0 (n : Int)) {y : Int} (U : UBO h 16 y) (hy : y ≤ 20000) (hR : ∀ q ∈ rgT, RgO h q) : ∃ (T C : Nat → Int) (W : Nat → Nat → Bool) (B : Nat → Nat), FnA n nS T C W B h ∧ (∀ F : Fp, F.n = n → F.T = T → F.C = C → F.W = W → F.B = B → RfS F nS h) ∧ (∀ k, k < 3 → 0 ≤ C k) ∧ (∀ i k, W i k = true → k < nS ∧ h.1 66 (nI (51 + 16 * i)) ≠ 1) ∧ ∀ k, k < nS → C k = (h.1 66 (nI (10 + 10 * k))).toInt := by
  have r0 : ∀ k, k < 3 → h.1 3 (nI (0 + 8 * k)) = h.1 66 (nI (10 + 10 * k)) := fun k hk => rowE (s1 := 8) (s2 := 10) (n := 3) R0 (Int.le_refl 0) rfl (by decide) (by decide) hk
  have r1 : ∀ k, k < 3 → h.1 3 (nI (1 + 8 * k)) = h.1 66 (nI (11 + 10 * k)) := fun k hk => rowE (s1 := 8) (s2 := 10) (n := 3) R1 (Int.le_refl 0) rfl (by decide) (by decide) hk
  have r2 : ∀ k, k < 3 → h.1 3 (nI (2 + 8 * k)) = h.1 66 (nI (12 + 10 * k)) := fun k hk => rowE (s1 := 8) (s2 := 10) (n := 3) R2 (Int.le_refl 0) rfl (by decide) (by decide) hk
  have r4 : ∀ k, k < 3 → h.1 3 (nI (4 + 8 * k)) = h.1 66 (nI (14 + 10 * k)) := fun k hk => rowE (s1 := 8) (s2 := 10) (n := 3) R4 (Int.le_refl 0) rfl (by decide) (by decide) hk
  have r7 : ∀ i, i < 10 → h.1 5 (nI (0 + 14 * i)) = h.1 66 (nI (40 + 16 * i)) := fun i hi => rowE (s1 := 14) (s2 := 16) (n := 10) R7 (Int.le_refl 0) rfl (by decide) (by decide) hi
  have r8 : ∀ i, i < 10 → h.1 5 (nI (1 + 14 * i)) = h.1 66 (nI (41 + 16 * i)) := fun i hi => rowE (s1 := 14) (s2 := 16) (n := 10) R8 (Int.le_refl 0) rfl (by decide) (by decide) hi
  have r13 : ∀ i, i < 10 → h.1 5 (nI (6 + 14 * i)) = h.1 66 (nI (46 + 16 * i)) := fun i hi => rowE (s1 := 14) (s2 := 16) (n := 10) R13 (Int.le_refl 0) rfl (by decide) (by decide) hi
  have r16 := fun i (hi : i < 10) => rowN (o1 := 5) (o2 := 66) (b1 := 9) (b2 := 49) (s1 := 14) (s2 := 16) (n := 10) R16 (Int.le_refl 0) rfl (by decide) (by decide) hi
  have r18 : ∀ i, i < 10 → h.1 5 (nI (11 + 14 * i)) = h.1 66 (nI (51 + 16 * i)) := fun i hi => rowE (s1 := 14) (s2 := 16) (n := 10) R18 (Int.le_refl 0) rfl (by decide) (by decide) hi
  have mw : ∀ i k, i < 10 → k < 3 → (mwA h (nI i) (nI k) ↔ mwB h (nI i) (nI k)) := fun i k hi hk => by
    have a11 := ixA (f := 11) hi (by decide)
    have a0 := ixA (f := 0) hi (by decide)
    have a1 := ixA (f := 1) hi (by decide)
    have a9 := ixA (f := 9) hi (by decide)
    have s1 := ixS (f := 1) hk (by decide)
    have s2 := ixS (f := 2) hk (by decide)
    have s4 := ixS (f := 4) hk (by decide)
    have b11 := ixH (f := 11) hi (by decide)
    have b0 := ixH (f := 0) hi (by decide)
    have b1 := ixH (f := 1) hi (by decide)
    have b9 := ixH (f := 9) hi (by decide)
    have t1 := ixK (f := 1) hk (by decide)
    have t2 := ixK (f := 2) hk (by decide)
    have t4 := ixK (f := 4) hk (by decide)
    unfold mwA mwB
    rw [show (11 : Int32) = nI 11 from rfl, show (0 : Int32) = nI 0 from rfl, show (9 : Int32) = nI 9 from rfl]
    rw [show (1 : Int32) = nI 1 from rfl, show (2 : Int32) = nI 2 from rfl, show (4 : Int32) = nI 4 from rfl]
    rw [a11, a0, a1, a9, s1, s2, s4, b11, b0, b1, b9, t1, t2, t4, r18 i hi, r7 i hi, r1 k hk, r2 k hk, r8 i hi, r4 k hk]
    have cd : (h.1 5 (nI (9 + 14 * i)) = h.1 1 (nI 5)) ↔ (h.1 66 (nI (40 + 9 + 16 * i)) = h.1 66 (nI 0)) := by
      rw [← Int32.toInt_inj, ← Int32.toInt_inj]
      have day : (h.1 1 (nI 5)).toInt = (h.1 66 (nI 0)).toInt := day
      have d0 : 0 ≤ (h.1 66 (nI 0)).toInt := d0
      have q := r16 i hi
      rw [show 49 + 16 * i = 40 + 9 + 16 * i by omega] at q
      omega
    rw [show h.1 1 5 = h.1 1 (nI 5) from rfl, cd]
  obtain ⟨W, hW⟩ : ∃ W : Nat → Nat → Bool, ∀ i k, W i k = true ↔ (i < 10 ∧ k < nS ∧ mwB h (nI i) (nI k)) := by
    refine ⟨fun i k => @decide (i < 10 ∧ k < nS ∧ mwB h (nI i) (nI k)) (Classical.propDecidable _), fun i k => ?_⟩
    exact @decide_eq_true_iff _ (Classical.propDecidable _)
  have ro : ∀ k, k < nS → roA h (nI k) = h.1 66 (nI (10 + 10 * k)) := fun k hk => by
    unfold roA
    rw [es, if_pos ⟨tx_0 _ (by omega), (tx_lt (by omega) (by omega)).mpr hk⟩, show (nI k * 8) + 0 = nI (0 + 8 * k) from ixS (f := 0) (by omega) (by decide), r0 k (by omega)]
  have ro0 : ∀ k, k < 3 → ¬ k < nS → roA h (nI k) = 0 := fun k h3 hk => by
    unfold roA
    rw [es, if_neg (fun z => hk ((tx_lt (by omega) (by omega)).mp z.2))]
  have rob : ∀ k, k < 3 → 0 ≤ (h.1 66 (nI (10 + 10 * k))).toInt ∧ (h.1 66 (nI (10 + 10 * k))).toInt ≤ 5 := fun k hk => hR (66, 10, 10, 3, 0, 5) (by decide +kernel) (nI (10 + 10 * k)) k (by omega) (by dsimp only; omega) (by rw [nI_i (by omega)]; dsimp only; omega)
  have rC : ∀ k, k < 3 → 0 ≤ (roA h (nI k)).toInt ∧ (roA h (nI k)).toInt ≤ 5 := fun k hk => by
    by_cases q : k < nS
    · rw [ro k q]; exact rob k hk
    · rw [ro0 k hk q]; exact ⟨by decide, by decide⟩
  have tU : ∀ i, i < n → 0 ≤ (h.1 66 (nI (46 + 16 * i))).toInt ∧ (h.1 66 (nI (46 + 16 * i))).toInt ≤ 20000 := fun i hi => by
    obtain ⟨b, s, m, c1, w, c2, e0, R⟩ := U
    have e1 : ubL[16 / 4]? = some (46, 16, 10, 2, 2, 2) := rfl
    rw [e1] at e0
    cases e0
    have q := R i (by omega) (by omega) (by
      show (i : Int) < (h.1 66 2).toInt
      rw [en2, nI_i (by omega)]; omega)
    have q : 0 ≤ rlV h 0 66 (46 + 16 * (i : Int)) ∧ rlV h 0 66 (46 + 16 * (i : Int)) ≤ y := q.2.2.1 rfl
    have e : rlV h 0 66 (46 + 16 * (i : Int)) = (h.1 66 (nI (46 + 16 * i))).toInt := by
      show (h.1 66 (Int32.ofInt _)).toInt = _
      rw [← nI_ofI (by omega)]
      congr 3
    rw [e] at q
    exact ⟨q.1, Int.le_trans q.2 hy⟩
  obtain ⟨T, hT⟩ : ∃ T : Nat → Int, ∀ i, T i = if i < n then (h.1 66 (nI (46 + 16 * i))).toInt else 0 := ⟨_, fun _ => rfl⟩
  have hT1 : ∀ i, i < n → T i = (h.1 66 (nI (46 + 16 * i))).toInt := fun i hi => (hT i).trans (if_pos hi)
  have T0 : ∀ i, 0 ≤ T i ∧ T i ≤ 20000 := fun i => by
    by_cases q : i < n
    · rw [hT1 i q]; exact tU i q
    · rw [hT i, if_neg q]; exact ⟨by decide, by decide⟩
  have bv : ∀ i, i < 10 → h.1 5 (nI (12 + 14 * i)) = nI (h.1 5 (nI (12 + 14 * i))).toInt.toNat ∧ (h.1 5 (nI (12 + 14 * i))).toInt.toNat < 1024 := fun i hi => by
    obtain ⟨u1, u2, -⟩ := B.2 i 0 (by omega) (by omega) (by decide) (by decide)
    have e : rlV h 0 (bgC 0) (12 + 14 * (i : Int)) = (h.1 5 (nI (12 + 14 * i))).toInt := by
      show (h.1 5 (Int32.ofInt _)).toInt = _
      rw [← nI_ofI (by omega)]
      congr 3
    rw [e] at u1 u2
    exact ⟨i_nI u1, by omega⟩
  have bt : ∀ i j, i < 10 → j < 10 → (h.1 66 ((200 + (10 * nI j)) + nI i) = 1 ↔ ((h.1 5 (nI (12 + 14 * i))).toInt.toNat).testBit j = true) := fun i j hi hj => by
    obtain ⟨-, -, u3, -, u5⟩ := B.2 i j (by omega) (by omega) (by omega) (by omega)
    have e : rlV h 0 (bgC 0) (12 + 14 * (i : Int)) = (h.1 5 (nI (12 + 14 * i))).toInt := by
      show (h.1 5 (Int32.ofInt _)).toInt = _
      rw [← nI_ofI (by omega)]
      congr 3
    have e2 : rlV h 0 (bgR 0) (200 + 10 * (j : Int) + (i : Int)) = (h.1 66 (nI (200 + 10 * j + i))).toInt := by
      show (h.1 66 (Int32.ofInt _)).toInt = _
      rw [← nI_ofI (by omega)]
      congr 3
    have ix : (200 + (10 * nI j)) + nI i = nI (200 + 10 * j + i) := by
      show (nI 200 + nI 10 * nI j) + nI i = _
      rw [show nI 10 * nI j = nI (10 * j) from (Int32.ofNat_mul 10 j).symm, nI_add, nI_add]
    rw [e] at u3
    rw [u5, e2] at u3
    rw [ix, ← Int32.toInt_inj, u3]
    unfold bitZ
    have c1 : (1 : Int32).toInt = 1 := rfl
    rw [c1, show ((j : Nat) : Int).toNat = j from Int.toNat_natCast j]
    by_cases q : ((h.1 5 (nI (12 + 14 * i))).toInt.toNat).testBit j = true
    · rw [if_pos q]; exact ⟨fun _ => q, fun _ => rfl⟩
    · rw [if_neg q]; exact ⟨fun z => absurd z (by decide), fun z => absurd z q⟩
  refine ⟨T, fun k => (roA h (nI k)).toInt, W, fun i => (h.1 5 (nI (12 + 14 * i))).toInt.toNat, ⟨n10, s3, en, es, fun i k hi hk => ?_, fun i k hk => ?_, fun k hk => ⟨rfl, rC k hk⟩, fun i hi => ?_, T0, fun i hi => ?_⟩, fun F f1 f2 f3 f4 f5 => ?_, fun k hk => (rC k hk).1, fun i k hw => ?_, fun k hk => ?_⟩
  · rw [mw i k (by omega) (by omega), hW]
    exact ⟨fun z => ⟨by omega, hk, z⟩, fun z => z.2.2⟩
  · cases q : W i k with
    | false => rfl
    | true => exact absurd ((hW i k).mp q).2.1 (by omega)
  · rw [show (nI i * 14) + 6 = nI (6 + 14 * i) from ixA (f := 6) (by omega) (by decide), r13 i (by omega), hT1 i hi]
  · rw [show (nI i * 14) + 12 = nI (12 + 14 * i) from ixA (f := 12) (by omega) (by decide)]
    exact bv i (by omega)
  · refine ⟨by omega, s3, by rw [f1]; exact en2, es2, fun i k hi hk => ?_, fun i k hk => ?_, fun k hk => ?_, fun i hi => ?_, fun i => ?_, fun i j hi hj => ?_⟩
    · rw [f4, hW]
      exact ⟨fun z => ⟨by omega, hk, z⟩, fun z => z.2.2⟩
    · rw [f4]
      cases q : W i k with
      | false => rfl
      | true => exact absurd ((hW i k).mp q).2.1 (by omega)
    · rw [f3]
      have := ro k hk
      have := rob k (by omega)
      rw [show (10 + (10 * nI k)) + 0 = nI (10 + 10 * k) from ixK (f := 0) (by omega) (by decide)]
      dsimp only
      rw [ro k hk]
      exact ⟨rfl, this⟩
    · rw [f2, show (40 + (16 * nI i)) + 6 = nI (46 + 16 * i) from ixH (f := 6) (by omega) (by decide), hT1 i (by omega)]
      exact ⟨rfl, tU i (by omega)⟩
    · rw [f2]; exact (T0 i).1
    · rw [f5]; exact bt i j (by omega) (by omega)
  · have z := (hW i k).mp hw
    refine ⟨z.2.1, fun q => z.2.2.1 ?_⟩
    rw [show (40 + (16 * nI i)) + 11 = nI (51 + 16 * i) from ixH (f := 11) z.1 (by decide)]
    exact q
  · show (roA h (nI k)).toInt = _
    rw [ro k hk]
set_option maxRecDepth 100000 in
theorem okP11 : PmOK rgT pm11 := by
  intro d hd ρ as bs h hlen hin hb hc hf hR
  have hd : 27 ≤ d := hd
  have hlen : as.length = 2 := hlen
  generalize hL : as ++ bs = L at hin
  have hin0 := hin
  obtain ⟨v0, s0, rfl, hin⟩ := hin
  rw [if_pos rfl] at hin
  obtain ⟨rfl, -, hin⟩ := hin
  obtain ⟨v1, s1, rfl, hin⟩ := hin
  rw [if_pos rfl] at hin
  obtain ⟨rfl, -, hin⟩ := hin
  obtain ⟨v2, s2, rfl, hin⟩ := hin
  rw [if_pos rfl] at hin
  obtain ⟨rfl, -, hin⟩ := hin
  cases hin
  obtain ⟨rfl, rfl⟩ := List.append_inj (show as ++ bs = [Value.ref 42, Value.ref 1] ++ [Value.ref 65] from hL) hlen
  have f0 : (0 : Int) ≤ 0 + (1 * ρ 0 + (-1 * ρ 1 + 0)) := hf _ (List.mem_of_getElem? (i := 0) rfl)
  have f1 : (0 : Int) ≤ 0 + (-1 * ρ 0 + (1 * ρ 1 + 0)) := hf _ (List.mem_of_getElem? (i := 1) rfl)
  have f2 : (0 : Int) ≤ 0 + (1 * ρ 2 + (-1 * ρ 3 + 0)) := hf _ (List.mem_of_getElem? (i := 2) rfl)
  have f3 : (0 : Int) ≤ 0 + (-1 * ρ 2 + (1 * ρ 3 + 0)) := hf _ (List.mem_of_getElem? (i := 3) rfl)
  have f4 : (0 : Int) ≤ 0 + (1 * ρ 4 + (-1 * ρ 5 + 0)) := hf _ (List.mem_of_getElem? (i := 4) rfl)
  have f5 : (0 : Int) ≤ 0 + (-1 * ρ 4 + (1 * ρ 5 + 0)) := hf _ (List.mem_of_getElem? (i := 5) rfl)
  have f6 : (0 : Int) ≤ 0 + (10 * ρ 4 + (-1 * ρ 18 + 0)) := hf _ (List.mem_of_getElem? (i := 6) rfl)
  have f7 : (0 : Int) ≤ 0 + (-10 * ρ 4 + (1 * ρ 18 + 0)) := hf _ (List.mem_of_getElem? (i := 7) rfl)
  have f8 : (0 : Int) ≤ 0 + (1 * ρ 2 + (-1 * ρ 19 + 0)) := hf _ (List.mem_of_getElem? (i := 8) rfl)
  have f9 : (0 : Int) ≤ 0 + (-1 * ρ 2 + (1 * ρ 19 + 0)) := hf _ (List.mem_of_getElem? (i := 9) rfl)
  have r0 : (0 : Int) ≤ ρ 0 ∧ ρ 0 ≤ 3 := hb (0, 0, 3) (List.mem_of_getElem? (i := 0) rfl)
  have c0 : ρ 0 = (h.1 2 2).toInt := hc_i (hc (0, 2, (2, []), leX 0) (List.mem_of_getElem? (i := 0) rfl)) rfl
  have r1 : (0 : Int) ≤ ρ 1 ∧ ρ 1 ≤ 3 := hb (1, 0, 3) (List.mem_of_getElem? (i := 1) rfl)
  have c1 : ρ 1 = (h.1 66 1).toInt := hc_i (hc (0, 66, (1, []), leX 1) (List.mem_of_getElem? (i := 1) rfl)) rfl
  have r2 : (0 : Int) ≤ ρ 2 ∧ ρ 2 ≤ 10 := hb (2, 0, 10) (List.mem_of_getElem? (i := 2) rfl)
  have c2 : ρ 2 = (h.1 4 2).toInt := hc_i (hc (0, 4, (2, []), leX 2) (List.mem_of_getElem? (i := 2) rfl)) rfl
  have r3 : (0 : Int) ≤ ρ 3 ∧ ρ 3 ≤ 10 := hb (3, 0, 10) (List.mem_of_getElem? (i := 3) rfl)
  have c3 : ρ 3 = (h.1 66 2).toInt := hc_i (hc (0, 66, (2, []), leX 3) (List.mem_of_getElem? (i := 3) rfl)) rfl
  have r4 : (0 : Int) ≤ ρ 4 ∧ ρ 4 ≤ 999 := hb (4, 0, 999) (List.mem_of_getElem? (i := 4) rfl)
  have c4 : ρ 4 = (h.1 1 5).toInt := hc_i (hc (0, 1, (5, []), leX 4) (List.mem_of_getElem? (i := 4) rfl)) rfl
  have r5 : (0 : Int) ≤ ρ 5 ∧ ρ 5 ≤ 999 := hb (5, 0, 999) (List.mem_of_getElem? (i := 5) rfl)
  have c5 : ρ 5 = (h.1 66 0).toInt := hc_i (hc (0, 66, (0, []), leX 5) (List.mem_of_getElem? (i := 5) rfl)) rfl
  have r6 : (0 : Int) ≤ ρ 6 ∧ ρ 6 ≤ 0 := hb (6, 0, 0) (List.mem_of_getElem? (i := 6) rfl)
  have c6 : ρ 6 = (h.1 74 0).toInt := hc_i (hc (0, 74, (0, []), leX 6) (List.mem_of_getElem? (i := 6) rfl)) rfl
  have r7 : (0 : Int) ≤ ρ 7 ∧ ρ 7 ≤ 0 := hb (7, 0, 0) (List.mem_of_getElem? (i := 7) rfl)
  have c7 : ρ 7 = (h.1 74 1).toInt := hc_i (hc (0, 74, (1, []), leX 7) (List.mem_of_getElem? (i := 7) rfl)) rfl
  have r8 : (0 : Int) ≤ ρ 8 ∧ ρ 8 ≤ 0 := hb (8, 0, 0) (List.mem_of_getElem? (i := 8) rfl)
  have c8 : ρ 8 = (h.1 74 2).toInt := hc_i (hc (0, 74, (2, []), leX 8) (List.mem_of_getElem? (i := 8) rfl)) rfl
  have r9 : (0 : Int) ≤ ρ 9 ∧ ρ 9 ≤ 0 := hb (9, 0, 0) (List.mem_of_getElem? (i := 9) rfl)
  have c9 : KC h 9 0 0 (ρ 9) := kc_at (hc (9, 0, (0, []), leX 9) (List.mem_of_getElem? (i := 9) rfl))
  have r10 : (0 : Int) ≤ ρ 10 ∧ ρ 10 ≤ 0 := hb (10, 0, 0) (List.mem_of_getElem? (i := 10) rfl)
  have c10 : KC h 9 16 0 (ρ 10) := kc_at (hc (9, 16, (0, []), leX 10) (List.mem_of_getElem? (i := 10) rfl))
  have r11 : (0 : Int) ≤ ρ 11 ∧ ρ 11 ≤ 0 := hb (11, 0, 0) (List.mem_of_getElem? (i := 11) rfl)
  have c11 : KC h 9 32 0 (ρ 11) := kc_at (hc (9, 32, (0, []), leX 11) (List.mem_of_getElem? (i := 11) rfl))
  have r12 : (0 : Int) ≤ ρ 12 ∧ ρ 12 ≤ 0 := hb (12, 0, 0) (List.mem_of_getElem? (i := 12) rfl)
  have c12 : KC h 9 64 0 (ρ 12) := kc_at (hc (9, 64, (0, []), leX 12) (List.mem_of_getElem? (i := 12) rfl))
  have r13 : (0 : Int) ≤ ρ 13 ∧ ρ 13 ≤ 0 := hb (13, 0, 0) (List.mem_of_getElem? (i := 13) rfl)
  have c13 : KC h 9 112 0 (ρ 13) := kc_at (hc (9, 112, (0, []), leX 13) (List.mem_of_getElem? (i := 13) rfl))
  have r14 : (0 : Int) ≤ ρ 14 ∧ ρ 14 ≤ 0 := hb (14, 0, 0) (List.mem_of_getElem? (i := 14) rfl)
  have c14 : KC h 9 128 0 (ρ 14) := kc_at (hc (9, 128, (0, []), leX 14) (List.mem_of_getElem? (i := 14) rfl))
  have r15 : (0 : Int) ≤ ρ 15 ∧ ρ 15 ≤ 0 := hb (15, 0, 0) (List.mem_of_getElem? (i := 15) rfl)
  have c15 : KC h 9 208 0 (ρ 15) := kc_at (hc (9, 208, (0, []), leX 15) (List.mem_of_getElem? (i := 15) rfl))
  have r16 : (0 : Int) ≤ ρ 16 ∧ ρ 16 ≤ 0 := hb (16, 0, 0) (List.mem_of_getElem? (i := 16) rfl)
  have c16 : KC h 9 256 0 (ρ 16) := kc_at (hc (9, 256, (0, []), leX 16) (List.mem_of_getElem? (i := 16) rfl))
  have r17 : (0 : Int) ≤ ρ 17 ∧ ρ 17 ≤ 0 := hb (17, 0, 0) (List.mem_of_getElem? (i := 17) rfl)
  have c17 : KC h 9 288 0 (ρ 17) := kc_at (hc (9, 288, (0, []), leX 17) (List.mem_of_getElem? (i := 17) rfl))
  have r18 : (0 : Int) ≤ ρ 18 ∧ ρ 18 ≤ 20000 := hb (18, 0, 20000) (List.mem_of_getElem? (i := 18) rfl)
  have c18 : KC h 14 16 0 (ρ 18) := kc_at (hc (14, 16, (0, []), leX 18) (List.mem_of_getElem? (i := 18) rfl))
  have r19 : (0 : Int) ≤ ρ 19 ∧ ρ 19 ≤ 10 := hb (19, 0, 10) (List.mem_of_getElem? (i := 19) rfl)
  have c19 : KC h 12 0 0 (ρ 19) := kc_at (hc (12, 0, (0, []), leX 19) (List.mem_of_getElem? (i := 19) rfl))
  have M0 := hand_M (rg := rgT) (s := pm11.2.2.1) (h := h) (ρ := ρ) (by decide +kernel) (by decide +kernel) hin0 hb hc hf hR
  obtain ⟨n, hn⟩ : ∃ n : Nat, (n : Int) = ρ 2 := ⟨(ρ 2).toNat, by omega⟩
  obtain ⟨nS, hnS⟩ : ∃ n : Nat, (n : Int) = ρ 0 := ⟨(ρ 0).toNat, by omega⟩
  have en : h.1 4 2 = nI n := by rw [i_nI (v := h.1 4 2) (by omega)]; congr 1; omega
  have en2 : h.1 66 2 = nI n := by rw [i_nI (v := h.1 66 2) (by omega)]; congr 1; omega
  have es : h.1 2 2 = nI nS := by rw [i_nI (v := h.1 2 2) (by omega)]; congr 1; omega
  have es2 : h.1 66 1 = nI nS := by rw [i_nI (v := h.1 66 1) (by omega)]; congr 1; omega
  have R0 : RLO h 0 0 0 := by have q := c9; rw [show ρ 9 = 0 by omega] at q; exact q
  have R16 : RLO h 16 0 0 := by have q := c10; rw [show ρ 10 = 0 by omega] at q; exact q
  have R32 : RLO h 32 0 0 := by have q := c11; rw [show ρ 11 = 0 by omega] at q; exact q
  have R64 : RLO h 64 0 0 := by have q := c12; rw [show ρ 12 = 0 by omega] at q; exact q
  have R112 : RLO h 112 0 0 := by have q := c13; rw [show ρ 13 = 0 by omega] at q; exact q
  have R128 : RLO h 128 0 0 := by have q := c14; rw [show ρ 14 = 0 by omega] at q; exact q
  have R208 : RLO h 208 0 0 := by have q := c15; rw [show ρ 15 = 0 by omega] at q; exact q
  have R256 : RLO h 256 0 0 := by have q := c16; rw [show ρ 16 = 0 by omega] at q; exact q
  have R288 : RLO h 288 0 0 := by have q := c17; rw [show ρ 17 = 0 by omega] at q; exact q
  have BB : BG h 0 (n : Int) := by have q := c19; rw [show ρ 19 = (n : Int) by omega] at q; exact q
  have UU : UBO h 16 (ρ 18) := c18
  obtain ⟨T, C, W, B, FA, FB, C0, Wp, -⟩ := fn_same (h := h) (by omega) (by omega) en en2 es es2 (by omega) (by omega) R0 R16 R32 R64 R112 R128 R208 R256 R288 BB UU (by omega) hR
  obtain ⟨F, hF⟩ : ∃ F : Fp, F = mkF n T C W B := ⟨_, rfl⟩
  have FS : RfS F nS h := FB F (by rw [hF]; rfl) (by rw [hF]; rfl) (by rw [hF]; rfl) (by rw [hF]; rfl) (by rw [hF]; rfl)
  have Fn : F.n = n := by rw [hF]; rfl
  have FC : F.C = C := by rw [hF]; rfl
  have FW : F.W = W := by rw [hF]; rfl
  obtain ⟨b, hb'⟩ : ∃ b : Bst, b = srch F.T (okFi F) F.n 0 (fun _ => 3) 0 0 ⟨-1, 0, fun _ => 3⟩ := ⟨_, rfl⟩
  have b0 : 0 ≤ b.c := by rw [hb']; exact srch_c
  have bg : ∀ i, b.g i = 3 ∨ (b.g i < 3 ∧ (b.g i < nS ∧ h.1 66 (nI (51 + 16 * i)) ≠ 1)) := by
    rw [hb']
    refine srch_g (R := fun i k => k < nS ∧ h.1 66 (nI (51 + 16 * i)) ≠ 1) (fun x k g _ q => ?_) (fun i => Or.inl rfl) (fun i => Or.inl rfl)
    unfold okFi at q
    rw [Bool.and_eq_true] at q
    have q := q.1
    rw [FW] at q
    exact Wp x k q
  have z74 : ∀ k, k < 3 → h.1 74 (nI k) = 0 := fun k hk => by
    have : k = 0 ∨ k = 1 ∨ k = 2 := by omega
    rcases this with rfl | rfl | rfl
    · exact Int32.toInt_inj.mp (by show (h.1 74 0).toInt = 0; omega)
    · exact Int32.toInt_inj.mp (by show (h.1 74 1).toInt = 0; omega)
    · exact Int32.toInt_inj.mp (by show (h.1 74 2).toInt = 0; omega)
  have ssA : sS true [Value.ref 42, .ref 1] := List.forall_mem_cons.mpr ⟨fun _ => rfl, List.forall_mem_cons.mpr ⟨fun _ => rfl, fun _ h => absurd h List.not_mem_nil⟩⟩
  have ssB : sS false [Value.ref 65] := List.forall_mem_cons.mpr ⟨fun _ => rfl, fun _ h => absurd h List.not_mem_nil⟩
  have SA := okFA d (by show 27 ≤ _; omega) (fun k => ρ ([].getD k 0)) [.ref 42, .ref 1] h ⟨_, _, rfl, by rw [if_pos rfl]; exact ⟨rfl, by decide, ⟨_, _, rfl, by rw [if_pos rfl]; exact ⟨rfl, by decide, rfl⟩⟩⟩⟩ (fun _ h => absurd h List.not_mem_nil) (fun _ h => absurd h List.not_mem_nil) (fun _ h => absurd h List.not_mem_nil) hR
  have SB := okFB d (by show 17 ≤ _; omega) (fun k => ρ ([].getD k 0)) [.ref 65] h ⟨_, _, rfl, by rw [if_pos rfl]; exact ⟨rfl, by decide, rfl⟩⟩ (fun _ h => absurd h List.not_mem_nil) (fun _ h => absurd h List.not_mem_nil) (fun _ h => absurd h List.not_mem_nil) hR
  obtain ⟨dA, hdA⟩ : ∃ dA, d = dA + 2 * n + 7 := ⟨d - 2 * n - 7, by omega⟩
  obtain ⟨dB, hdB⟩ : ∃ dB, d = dB + F.n + 6 := ⟨d - n - 6, by omega⟩
  have kA : Call d 8 [.ref 42, .ref 1] h (fun r h' => r = none ∧ frC h h' ∧ h'.1 42 10 = nI n ∧ ClD F h' (fun _ => 3) 0 b) := by
    rw [hdA]
    refine c_find FA (fun h' f1 f2 f3 => ⟨rfl, f1, f2, ?_⟩)
    rw [hb', hF]
    exact f3
  have kB : Call d 192 [.ref 65] h (fun r h' => r = none ∧ frR h h' ∧ RfD F h' (fun _ => 3) 0 b) := by
    rw [hdB]
    refine c_findB FS (fun k hk => ⟨z74 k hk, by rw [FC]; exact C0 k hk⟩) (fun h' f1 f2 => ⟨rfl, f1, ?_⟩)
    rw [hb']
    exact f2
  obtain ⟨rA, hA, ⟨⟨rfl, fA, e10, DA⟩, gA, wA, -⟩, cA⟩ := (kA.and SA).det
  obtain ⟨rB, hB, ⟨⟨rfl, fB, DB⟩, gB, wB, -⟩, cB⟩ := (kB.and SB).det
  refine pm_mk (p := pm11) cA cB ssA ssB ?_
  have FR : Frm pm11.2.2.1.2.2.2.2.2.1 h (mxH true hA hB) := Frm.mx wA wB (by decide +kernel) (by decide +kernel)
  have RG : ∀ q ∈ rgT, RgO (mxH true hA hB) q := fun q hq => RgO.mx (gA q hq) (gB q hq)
  have M1 := M0.kl FR FR RG
  obtain ⟨u1, u2, u3⟩ := DA.bc
  obtain ⟨v1, v2, v3⟩ := DA.bs
  obtain ⟨w1, w2, w3⟩ := DB.bc
  obtain ⟨x1, x2, x3⟩ := DB.bs
  have M2 := (M1.nw (x := b.c) (l := 0) (u := 10) b0 u3).nw (x := b.s) (l := 0) (u := 200000) v2 v3
  obtain ⟨ρ', hρ⟩ : ∃ ρ' : Nat → Int, ρ' = updS (updS ρ 20 b.c) 21 b.s := ⟨_, rfl⟩
  have M2 : Mo rgT pm11.2.2.1.2.2.2.2.2.1 h ρ' (nwS (nwS ((cnS pm11.2.2.1).1, (cnS pm11.2.2.1).2.1, kpL (cnS pm11.2.2.1).2.1 pm11.2.2.1.2.2.2.2.2.1 (cnS pm11.2.2.1).2.2) 0 10) 0 200000) (mxH true hA hB) := by rw [hρ]; exact M2
  have ag : Ag ρ ρ' 20 := fun k hk => by rw [hρ, updS_lt (by omega), updS_lt hk]
  have q1 : ρ' 20 = b.c := by rw [hρ, updS_lt (by omega), updS_at]
  have q2 : ρ' 21 = b.s := by rw [hρ, updS_at]
  have be := DA.be b0
  have fi := DB.fi b0
  rw [Fn] at be fi
  have K6 : KC (mxH true hA hB) 9 2006 (ρ 2) 10 := by
    refine ⟨0, 49, 0, 1, 73, 0, 1, 10, 2, rfl, fun t t0 t1 t2 => ?_⟩
    have tn : t < n := by omega
    have e1 : rlV (mxH true hA hB) 0 49 (0 + 1 * t) = (hA.1 49 (nI t.toNat)).toInt := by
      show (hA.1 49 (Int32.ofInt (0 + 1 * t))).toInt = _
      rw [show (0 + 1 * t : Int) = ((t.toNat : Nat) : Int) by omega, nI_ofI (by omega)]
    have e2 : rlV (mxH true hA hB) 0 73 (0 + 1 * t) = (hB.1 73 (nI t.toNat)).toInt := by
      show (hB.1 73 (Int32.ofInt (0 + 1 * t))).toInt = _
      rw [show (0 + 1 * t : Int) = ((t.toNat : Nat) : Int) by omega, nI_ofI (by omega)]
    show rlR 2 (rlV (mxH true hA hB) 0 49 (0 + 1 * t)) (rlV (mxH true hA hB) 0 73 (0 + 1 * t))
    rw [e1, e2, be _ (by omega), (fi _ (by omega)).1]
    unfold rlR encF
    rw [if_neg (by decide), if_pos rfl]
    rcases bg t.toNat with q | ⟨q, -⟩
    · rw [q, if_pos rfl]
      exact Or.inl ⟨rfl, rfl⟩
    · rw [if_neg (by omega), nI_i (by omega)]
      exact Or.inr ⟨rfl, by omega, by omega⟩
  have nx : ∀ f, (mxH true hA hB).1 66 f = h.1 66 f := fun f => (mx_off (by decide)).trans (fB.1 66 f (by omega))
  have K20 : KC (mxH true hA hB) 14 20 0 0 := by
    refine ⟨0, 1, 10, 2, 3, 1, rfl, fun t t0 t1 t2 => ?_⟩
    have t2 : t < ((mxH true hA hB).1 66 2).toInt := t2
    rw [nx, en2, nI_i (by omega)] at t2
    have e2 : rlV (mxH true hA hB) 0 73 (0 + 1 * t) = (hB.1 73 (nI t.toNat)).toInt := by
      show (hB.1 73 (Int32.ofInt (0 + 1 * t))).toInt = _
      rw [show (0 + 1 * t : Int) = ((t.toNat : Nat) : Int) by omega, nI_ofI (by omega)]
    have e3 : rlV (mxH true hA hB) 0 66 1 = nS := by
      show ((mxH true hA hB).1 66 1).toInt = _
      rw [nx, es2, nI_i (by omega)]
    show ubQ 3 (rlV (mxH true hA hB) 0 73 (0 + 1 * t)) (rlV (mxH true hA hB) 0 66 1) 0
    rw [e2, e3, (fi _ (by omega)).1]
    refine ⟨fun z => absurd z (by decide), fun z => absurd z (by decide), fun z => absurd z (by decide), fun _ => ?_⟩
    rcases bg t.toNat with q | ⟨q, q2, -⟩
    · rw [q]; exact Or.inl rfl
    · rw [nI_i (by omega)]; exact Or.inr (by omega)
  have K74 : ∀ k : Nat, k < 3 → ((mxH true hA hB).1 74 (nI k)).toInt = 0 := fun k hk => by
    rw [mx_off (by decide), DB.is k hk]
    rfl
  have lt : ∀ k, k < 22 → k < (cnS pm11.2.2.1).1 + 1 + 1 := fun k hk => by rw [show (cnS pm11.2.2.1).1 = 20 by decide +kernel]; exact hk
  have M3 := M2.kc (ukI (I := 11) (i := 11) (o := 42) rfl (e := leX 20) ⟨leS_X (lt _ (by decide)), by rw [leV_X, q1]; exact u1.symm⟩)
  have M3 := M3.kc (ukI (I := 10) (i := 10) (o := 65) rfl (e := leX 20) ⟨leS_X (lt _ (by decide)), by rw [leV_X, q1]; exact w1.symm⟩)
  have M3 := M3.kc (ukI (I := 12) (i := 12) (o := 42) rfl (e := leX 21) ⟨leS_X (lt _ (by decide)), by rw [leV_X, q2]; exact v1.symm⟩)
  have M3 := M3.kc (ukI (I := 11) (i := 11) (o := 65) rfl (e := leX 21) ⟨leS_X (lt _ (by decide)), by rw [leV_X, q2]; exact x1.symm⟩)
  have M3 := M3.kc (ukI (I := 10) (i := 10) (o := 42) rfl (e := leX 2) ⟨leS_X (lt _ (by decide)), by
    rw [leV_X, ag _ (by decide), ← hn]
    show _ = (hA.1 42 10).toInt
    rw [e10, nI_i (by omega)]⟩)
  have M3 := M3.kc (c := (9, 2006, leX 2, leC 10)) ⟨leS_X (lt _ (by decide)), leS_C, by
    show KC _ 9 2006 (leV ρ' (leX 2)) (leV ρ' (leC 10))
    rw [leV_X, leV_C, ag _ (by decide)]
    exact K6⟩
  have M3 := M3.kc (ukN K20)
  have M3 := M3.kc (ukI (I := 0) (i := 0) (o := 74) rfl (e := leC 0) ⟨leS_C, by rw [leV_C]; exact (K74 0 (by decide)).symm⟩)
  have M3 := M3.kc (ukI (I := 1) (i := 1) (o := 74) rfl (e := leC 0) ⟨leS_C, by rw [leV_C]; exact (K74 1 (by decide)).symm⟩)
  have M3 := M3.kc (ukI (I := 2) (i := 2) (o := 74) rfl (e := leC 0) ⟨leS_C, by rw [leV_C]; exact (K74 2 (by decide)).symm⟩)
  exact hand_post (r := none) (r' := none) M3 ag (by decide +kernel) rfl rfl (by decide +kernel)
