/-! The draws: one that is left, by a number; so many of them. -/
noncomputable def sdN (s : Int32) : Int32 := s * 25173 + 13849 - (s * 25173 + 13849) / 65536 * 65536
/-- from j on, the p-th of those left -/
noncomputable def nthF (v : Nat) : Nat → Nat → Nat → Nat
  | 0, _, _ => 0
  | k + 1, j, p => if v.testBit j = true then (if p = 0 then j else nthF v k (j + 1) (p - 1)) else nthF v k (j + 1) p
/-- how many are left from j on -/
noncomputable def cfB (v : Nat) : Nat → Nat → Nat
  | 0, _ => 0
  | k + 1, j => (if v.testBit j = true then 1 else 0) + cfB v k (j + 1)
theorem nthF_in {v : Nat} : ∀ {k j p : Nat}, p < cfB v k j → j ≤ nthF v k j p ∧ nthF v k j p < j + k ∧ v.testBit (nthF v k j p) = true
  | 0, j, p, h => absurd h (Nat.not_lt_zero p)
  | k + 1, j, p, h => by
    unfold nthF
    unfold cfB at h
    by_cases b : v.testBit j = true
    · rw [if_pos b] at h ⊢
      by_cases e : p = 0
      · rw [if_pos e]
        exact ⟨Nat.le_refl j, by omega, b⟩
      · rw [if_neg e]
        obtain ⟨a1, a2, a3⟩ := nthF_in (v := v) (k := k) (j := j + 1) (p := p - 1) (by omega)
        exact ⟨by omega, by omega, a3⟩
    · rw [if_neg b] at h ⊢
      obtain ⟨a1, a2, a3⟩ := nthF_in (v := v) (k := k) (j := j + 1) (p := p) (by omega)
      exact ⟨by omega, by omega, a3⟩
theorem cfB_pc {v : Nat} : cfB v 10 0 = pcB v := by
  have h : ∀ k j, cfB v k j = (List.range k).countP (fun i => v.testBit (j + i)) := fun k => by
    induction k with
    | zero => intro j; rfl
    | succ k ih =>
      intro j
      unfold cfB
      rw [ih, List.range_succ_eq_map, List.countP_cons, List.countP_map]
      rw [Nat.add_comm]
      congr 1
      exact List.countP_congr (fun i _ => by
        show v.testBit (j + 1 + i) = true ↔ v.testBit (j + Nat.succ i) = true
        rw [show j + 1 + i = j + Nat.succ i by omega])
  rw [h]
  exact List.countP_congr (fun i _ => by rw [Nat.zero_add])
/-- the draws: how many more, the seed, who is left -/
noncomputable def srF : Nat → Int32 → Nat → Int32 × Nat
  | 0, s, v => (s, v)
  | k + 1, s, v => if v = 0 then (s, v) else srF k (sdN s) (v &&& (1023 - 2 ^ nthF v 10 0 ((sdN s).toInt.toNat % pcB v)))
theorem srF_0 {k : Nat} {s : Int32} : srF k s 0 = (s, 0) := by
  cases k with
  | zero => rfl
  | succ k => exact if_pos rfl
theorem srF_s {k : Nat} {s : Int32} {v : Nat} (h : v ≠ 0) : srF (k + 1) s v = srF k (sdN s) (v &&& (1023 - 2 ^ nthF v 10 0 ((sdN s).toInt.toNat % pcB v))) := if_neg h
theorem pcB_0 {v : Nat} (hv : v < 1024) : pcB v = 0 ↔ v = 0 := by
  have h : ∀ v : Nat, v < 1024 → (pcB v = 0 ↔ v = 0) := by decide +kernel
  exact h v hv
theorem cmB (v b : Nat) (hb : b < 10) : (v &&& (1023 - 2 ^ b)).testBit b = false := by
  rw [Nat.testBit_and, bar_an b hb b hb, decide_eq_true rfl]
  simp
theorem pcB_cl {v b : Nat} (hb : b < 10) (hv : v.testBit b = true) : pcB v = pcB (v &&& (1023 - 2 ^ b)) + 1 := by
  unfold pcB
  exact countP_flip hb hv (cmB v b hb) (fun k hk ne => by
    rw [Nat.testBit_and, bar_an b hb k hk, decide_eq_false (fun e => ne e.symm)]
    simp)
/-- who was drawn -/
noncomputable def pkB (a v : Nat) : Nat := a &&& (1023 - v)
theorem c1023 {v j : Nat} (hv : v < 1024) (hj : j < 10) : (1023 - v).testBit j = !v.testBit j := by
  have := Nat.testBit_two_pow_sub_succ (n := 10) (show v < 2 ^ 10 from hv) j
  rw [show 2 ^ 10 - (v + 1) = 1023 - v by omega] at this
  rw [this, decide_eq_true hj, Bool.true_and]
theorem pkB_up {a v b : Nat} (ha : a < 1024) (hv : v < 1024) (hb : b < 10) (va : a.testBit b = true) : pkB a v ||| 2 ^ b = pkB a (v &&& (1023 - 2 ^ b)) := by
  have hv2 : v &&& (1023 - 2 ^ b) < 1024 := Nat.lt_of_le_of_lt Nat.and_le_left hv
  apply Nat.eq_of_testBit_eq
  intro j
  unfold pkB
  by_cases hj : j < 10
  · rw [Nat.testBit_or, Nat.testBit_two_pow, Nat.testBit_and, Nat.testBit_and, c1023 hv hj, c1023 hv2 hj, Nat.testBit_and, bar_an b hb j hj]
    by_cases e : b = j
    · subst e
      rw [decide_eq_true rfl, va]
      simp
    · rw [decide_eq_false e]
      simp
  · have l1 : a &&& (1023 - v) < 2 ^ j := Nat.lt_of_lt_of_le (Nat.lt_of_le_of_lt Nat.and_le_left ha) (show 1024 ≤ 2 ^ j from Nat.pow_le_pow_right (n := 2) (by decide) (Nat.le_of_not_lt hj))
    have l2 : a &&& (1023 - (v &&& (1023 - 2 ^ b))) < 2 ^ j := Nat.lt_of_lt_of_le (Nat.lt_of_le_of_lt Nat.and_le_left ha) (show 1024 ≤ 2 ^ j from Nat.pow_le_pow_right (n := 2) (by decide) (Nat.le_of_not_lt hj))
    rw [Nat.testBit_or, Nat.testBit_lt_two_pow l1, Nat.testBit_lt_two_pow l2, Nat.testBit_two_pow, decide_eq_false (by omega)]
    rfl
set_option maxRecDepth 100000 in
theorem notB : ∀ v : Nat, v < 1024 → (nI v ^^^ (-1)) = -(nI v) - 1 := by decide +kernel
theorem sd_b {s : Int32} (s0 : 0 ≤ s.toInt) (s1 : s.toInt ≤ 65535) : 0 ≤ (sdN s).toInt ∧ (sdN s).toInt < 65536 := seed_b s0 s1
/-! By hand (contracts printed by wip/se/m32.py). -/
theorem rem_nI {s : Int32} {n : Nat} (s0 : 0 ≤ s.toInt) (n0 : 0 < n) (n10 : n ≤ 10) : s - s / nI n * nI n = nI (s.toInt.toNat % n) := by
  have hs := i32b s
  simp only [I32hi] at hs
  have en : (nI n).toInt = n := nI_i (by omega)
  have q0 : 0 ≤ s.toInt / (n : Int) := Int.ediv_nonneg s0 (by omega)
  have q1 : s.toInt / (n : Int) * n ≤ s.toInt := Int.ediv_mul_le _ (by omega)
  have q2 : s.toInt / (n : Int) ≤ s.toInt := Int.ediv_le_self _ s0
  have e1 : (s / nI n).toInt = s.toInt / (n : Int) := by
    rw [Int32.toInt_div, en, Int.tdiv_eq_ediv_of_nonneg s0, b32 (by omega) (by omega)]
  have e2 : (s / nI n * nI n).toInt = s.toInt / (n : Int) * n := by
    rw [Int32.toInt_mul, e1, en, b32 (by have := Int.mul_nonneg q0 (show (0 : Int) ≤ n by omega); omega) (by omega)]
  have m0 := Int.emod_nonneg s.toInt (show (n : Int) ≠ 0 by omega)
  have md := Int.emod_add_mul_ediv s.toInt n
  have mc : (n : Int) * (s.toInt / n) = s.toInt / n * n := Int.mul_comm _ _
  apply Int32.toInt_inj.mp
  have lt : s.toInt.toNat % n < n := Nat.mod_lt _ n0
  rw [Int32.toInt_sub, e2, b32 (by have := Int.mul_nonneg q0 (show (0 : Int) ≤ n by omega); omega) (by have := Int.mul_nonneg q0 (show (0 : Int) ≤ n by omega); omega), nI_i (by omega)]
  have : ((s.toInt.toNat % n : Nat) : Int) = s.toInt % n := by
    rw [Int.natCast_emod, Int.toNat_of_nonneg s0]
  omega
set_option maxRecDepth 100000 in
theorem bitV : ∀ v : Nat, v < 1024 → ∀ b : Nat, b < 10 → (((nI v >>> (nI b &&& 31)) &&& 1) = if v.testBit b = true then 1 else 0) := by decide +kernel
set_option maxRecDepth 100000 in
theorem orV : ∀ v : Nat, v < 1024 → ∀ b : Nat, b < 10 → (nI v ||| (1 <<< (nI b &&& 31))) = nI (v ||| 2 ^ b) := by decide +kernel
theorem andN {a v : Nat} (ha : a < 1024) (hv : v < 1024) : nI a &&& (nI v ^^^ (-1)) = nI (pkB a v) := by
  apply Int32.toBitVec_inj.mp
  apply BitVec.eq_of_getLsbD_eq
  intro j hj
  have g := fun (x : Nat) (hx : x < 1024) => (show (nI x).toBitVec.getLsbD j = x.testBit j by
    show (BitVec.ofNat 32 x).getLsbD j = _
    rw [BitVec.getLsbD_ofNat, decide_eq_true hj, Bool.true_and])
  rw [Int32.toBitVec_and, Int32.toBitVec_xor, BitVec.getLsbD_and, BitVec.getLsbD_xor, g a ha, g v hv]
  have m1 : (-1 : Int32).toBitVec.getLsbD j = true := Bt_m1 j hj
  have lt : pkB a v < 1024 := Nat.lt_of_le_of_lt Nat.and_le_left ha
  rw [m1, g _ lt]
  unfold pkB
  rw [Nat.testBit_and]
  by_cases h10 : j < 10
  · rw [c1023 hv h10]
    cases v.testBit j <;> rfl
  · have z : a.testBit j = false := Nat.testBit_lt_two_pow (Nat.lt_of_lt_of_le ha (show 1024 ≤ 2 ^ j from Nat.pow_le_pow_right (n := 2) (by decide) (Nat.le_of_not_lt h10)))
    rw [z, Bool.false_and, Bool.false_and]
theorem c_rowsD {d : Nat} {Q : Option Value → Hp → Prop} {h : Hp} (k : Q (some (.int (h.1 4 2))) h) : Call (d + 1) 91 [.ref 4] h Q := by
  refine call_of (rfl : psM[91]? = some _) rfl rfl (rcvV rfl) (fun X hX => ?_)
  show X (0, [some (.ref 4)], [], h)
  refine go hX 2 (gs := [True, True]) (z' := (4, [some (.ref 4)], [.int (h.1 4 2)], h)) rfl ⟨trivial, trivial, trivial⟩ ?_
  refine rt_ hX (G := True) (r := some (.int (h.1 4 2))) rfl trivial ?_
  exact k
theorem lp_nf {d : Nat} {Q : Option Value → Hp → Prop} {X : Cf → Prop} (hX : Clo (Call (d + 2)) cd63 (some .int) Q X) {h : Hp} {n : Nat} (n10 : n ≤ 10) (en : h.1 4 2 = nI n) {W : Nat → Bool} (hW : ∀ k, k < n → (¬ h.1 5 ((nI k * 14) + 11) = 1 ↔ W k = true)) (K : Q (some (.int (nI (chB_ W n)))) h) {k : Nat} (hk : k ≤ n) : X (4, [some (.ref 1), some (.int (nI (chB_ W k))), some (.int (nI k))], [], h) := by
  refine dn_ind (P := fun k => X (4, [some (.ref 1), some (.int (nI (chB_ W k))), some (.int (nI k))], [], h)) (fun k hk ih => ?_) hk
  refine go hX 3 (gs := [True, True, True]) (z' := (9, [some (.ref 1), some (.int (nI (chB_ W k))), some (.int (nI k))], [.ref 4, .int (nI k)], h)) rfl ⟨trivial, trivial, trivial, trivial⟩ ?_
  refine cl hX 91 1 [.ref 4] [.int (nI k)] rfl rfl rfl rfl ?_
  refine c_rowsD ?_
  show X (12, [some (.ref 1), some (.int (nI (chB_ W k))), some (.int (nI k))], [.int (h.1 4 2), .int (nI k)], h)
  refine go hX 1 (gs := [True]) (z' := (if (h.1 4 2) ≤ (nI k) then 39 else 15, [some (.ref 1), some (.int (nI (chB_ W k))), some (.int (nI k))], [], h)) rfl ⟨trivial, trivial⟩ ?_
  refine br (fun b1 => ?_) (fun b1 => ?_)
  ·
    refine go hX 1 (gs := [True]) (z' := (40, [some (.ref 1), some (.int (nI (chB_ W k))), some (.int (nI k))], [.int (nI (chB_ W k))], h)) rfl ⟨trivial, trivial⟩ ?_
    refine rt_ hX (G := True) (r := some (.int (nI (chB_ W k)))) rfl trivial ?_
    have e : k = n := Nat.le_antisymm hk ((tx_le (by omega) (by omega)).mp (by rw [← en]; exact b1))
    subst e
    exact K
  ·
    have kx : k < n := Nat.lt_of_not_le (fun z => b1 (by rw [en]; exact (tx_le (by omega) (by omega)).mpr z))
    refine go hX 3 (gs := [True, True, True]) (z' := (18, [some (.ref 1), some (.int (nI (chB_ W k))), some (.int (nI k))], [.int (nI k), .ref 1, .int (nI (chB_ W k))], h)) rfl ⟨trivial, trivial, trivial, trivial⟩ ?_
    refine cl hX 62 2 [.ref 1, .int (nI k)] [.int (nI (chB_ W k))] rfl rfl rfl rfl ?_
    refine c_isFrA (tx_0 k (by omega)) (by rw [en]; exact (tx_lt (by omega) (by omega)).mpr kx) (by rw [en]; exact (tx_le (b := 10) (by omega) (by decide)).mpr n10) (fun bf => ?_) (fun bf => ?_)
    ·
      show X (21, [some (.ref 1), some (.int (nI (chB_ W k))), some (.int (nI k))], [.int 1, .int (nI (chB_ W k))], h)
      refine go hX 7 (gs := [True, True, True, True, True, True, True]) (z' := (4, [some (.ref 1), some (.int ((nI (chB_ W k)) ||| 0)), some (.int ((nI k) + 1))], [], h)) rfl ⟨trivial, trivial, trivial, trivial, trivial, trivial, trivial, trivial⟩ ?_
      rw [tx_1]
      rw [show nI (chB_ W k) ||| 0 = nI (chB_ W (k + 1)) by rw [chB_0 (fun z => (hW k kx).mpr z bf), Int32.or_zero]]
      exact ih (k + 1) (Nat.lt_succ_self k) (by omega)
    ·
      show X (21, [some (.ref 1), some (.int (nI (chB_ W k))), some (.int (nI k))], [.int 0, .int (nI (chB_ W k))], h)
      refine go hX 8 (gs := [True, True, True, True, True, True, True, True]) (z' := (4, [some (.ref 1), some (.int ((nI (chB_ W k)) ||| (1 <<< ((nI k) &&& 31)))), some (.int ((nI k) + 1))], [], h)) rfl ⟨trivial, trivial, trivial, trivial, trivial, trivial, trivial, trivial, trivial⟩ ?_
      rw [tx_1]
      rw [show (nI (chB_ W k) ||| (1 <<< (nI k &&& 31))) = nI (chB_ W (k + 1)) by rw [chB_1 ((hW k kx).mp bf)]; exact orV _ (chB_lt (by omega)) k (by omega)]
      exact ih (k + 1) (Nat.lt_succ_self k) (by omega)
theorem c_notFree {d : Nat} {Q : Option Value → Hp → Prop} {h : Hp} {n : Nat} (n10 : n ≤ 10) (en : h.1 4 2 = nI n) {W : Nat → Bool} (hW : ∀ k, k < n → (¬ h.1 5 ((nI k * 14) + 11) = 1 ↔ W k = true)) (K : Q (some (.int (nI (chB_ W n)))) h) : Call (d + 3) 63 [.ref 1] h Q := by
  refine call_of (rfl : psM[63]? = some _) rfl rfl (rcvV rfl) (fun X hX => ?_)
  show X (0, [some (.ref 1), none, none], [], h)
  refine go hX 4 (gs := [True, True, True, True]) (z' := (4, [some (.ref 1), some (.int 0), some (.int 0)], [], h)) rfl ⟨trivial, trivial, trivial, trivial, trivial⟩ ?_
  exact lp_nf hX n10 en hW K (Nat.zero_le n)
theorem lp_draw {d : Nat} {Q : Option Value → Hp → Prop} {X : Cf → Prop} (hX : Clo (Call d) cd88 (some .int) Q X) {h : Hp} {v : Nat} {nn : Int32} (hv : v < 1024) : ∀ {j : Nat}, j ≤ 10 → ∀ (p : Nat) (l5 : Option Value), p ≤ 20 → (l5 = none ∨ ∃ y, l5 = some (.int y)) → Q (some (.int (nI (nthF v (10 - j) j p)))) h → X (42, [some (.ref 1), some (.int (nI v)), some (.int nn), some (.int (nI p)), some (.int (nI j)), l5], [], h) := by
  intro j hj
  refine dn_ind (P := fun j => ∀ (p : Nat) (l5 : Option Value), p ≤ 20 → (l5 = none ∨ ∃ y, l5 = some (.int y)) → Q (some (.int (nI (nthF v (10 - j) j p)))) h → X (42, [some (.ref 1), some (.int (nI v)), some (.int nn), some (.int (nI p)), some (.int (nI j)), l5], [], h)) (fun j hj ih p l5 hp hl K => ?_) hj
  have ih := fun (j' p : Nat) (l5 : Option Value) (a : j < j') (b : j' ≤ 10) => ih j' a b p l5
  rcases hl with rfl | ⟨y5, rfl⟩
  ·
    refine go hX 3 (gs := [True, True, True]) (z' := (if 10 ≤ (nI j) then 97 else 49, [some (.ref 1), some (.int (nI v)), some (.int nn), some (.int (nI p)), some (.int (nI j)), none], [], h)) rfl ⟨trivial, trivial, trivial, trivial⟩ ?_
    refine br (fun b1 => ?_) (fun b1 => ?_)
    ·
      refine go hX 1 (gs := [True]) (z' := (98, [some (.ref 1), some (.int (nI v)), some (.int nn), some (.int (nI p)), some (.int (nI j)), none], [.int 0], h)) rfl ⟨trivial, trivial⟩ ?_
      refine rt_ hX (G := True) (r := some (.int 0)) rfl trivial ?_
      have e : j = 10 := Nat.le_antisymm hj ((tx_le (a := 10) (by decide) (by omega)).mp b1)
      subst e
      exact K
    ·
      have j10 : j < 10 := Nat.lt_of_not_le (fun z => b1 ((tx_le (a := 10) (by decide) (by omega)).mpr z))
      refine go hX 7 (gs := [True, True, True, True, True, True, True]) (z' := (if (((nI v) >>> ((nI j) &&& 31)) &&& 1) = 1 then 59 else 63, [some (.ref 1), some (.int (nI v)), some (.int nn), some (.int (nI p)), some (.int (nI j)), none], [], h)) rfl ⟨trivial, trivial, trivial, trivial, trivial, trivial, trivial, trivial⟩ ?_
      refine br (fun b2 => ?_) (fun b2 => ?_)
      ·
        refine go hX 7 (gs := [True, True, True, True, True, True, True]) (z' := (if (nI p) = 0 then 75 else 78, [some (.ref 1), some (.int (nI v)), some (.int nn), some (.int (nI p)), some (.int (nI j)), some (.int 1)], [], h)) rfl ⟨trivial, trivial, trivial, trivial, trivial, trivial, trivial, trivial⟩ ?_
        refine br (fun b3 => ?_) (fun b3 => ?_)
        ·
          refine go hX 1 (gs := [True]) (z' := (77, [some (.ref 1), some (.int (nI v)), some (.int nn), some (.int (nI p)), some (.int (nI j)), some (.int 1)], [.int (nI j)], h)) rfl ⟨trivial, trivial⟩ ?_
          refine rt_ hX (G := True) (r := some (.int (nI j))) rfl trivial ?_
          have j10 : j < 10 := Nat.lt_of_not_le (fun z => b1 ((tx_le (a := 10) (by decide) (by omega)).mpr z))
          have tb : v.testBit j = true := by rw [bitV v hv j j10] at b2; exact Decidable.byContradiction (fun z => by rw [if_neg z] at b2; exact absurd b2 (by decide))
          have p0 : p = 0 := (nIle_eq (b := 0) (by omega) (by decide)).mp b3
          rw [show nthF v (10 - j) j p = j by rw [show 10 - j = (10 - (j + 1)) + 1 by omega]; show (if v.testBit j = true then _ else _) = _; rw [if_pos tb, if_pos p0]] at K
          exact K
        ·
          refine go hX 9 (gs := [True, True, True, True, True, True, True, True, True]) (z' := (42, [some (.ref 1), some (.int (nI v)), some (.int nn), some (.int ((nI p) - 1)), some (.int ((nI j) + 1)), some (.int 1)], [], h)) rfl ⟨trivial, trivial, trivial, trivial, trivial, trivial, trivial, trivial, trivial, trivial⟩ ?_
          have tb : v.testBit j = true := by rw [bitV v hv j j10] at b2; exact Decidable.byContradiction (fun z => by rw [if_neg z] at b2; exact absurd b2 (by decide))
          have p0 : p ≠ 0 := fun z => b3 (by rw [z]; rfl)
          rw [tx_1, show nI p - 1 = nI (p - 1) from nI_sb (b := 1) (by omega) (by omega)]
          have I := ih (j + 1) (p - 1) (some (.int 1)) (Nat.lt_succ_self j) (by omega) (by omega) (Or.inr ⟨_, rfl⟩)
          rw [show nthF v (10 - j) j p = nthF v (10 - (j + 1)) (j + 1) (p - 1) by rw [show 10 - j = (10 - (j + 1)) + 1 by omega]; show (if v.testBit j = true then _ else _) = _; rw [if_pos tb, if_neg p0]] at K
          exact I K
      ·
        refine go hX 12 (gs := [True, True, True, True, True, True, True, True, True, True, True, True]) (z' := (42, [some (.ref 1), some (.int (nI v)), some (.int nn), some (.int ((nI p) - 0)), some (.int ((nI j) + 1)), some (.int 0)], [], h)) rfl ⟨trivial, trivial, trivial, trivial, trivial, trivial, trivial, trivial, trivial, trivial, trivial, trivial, trivial⟩ ?_
        have tb : ¬ v.testBit j = true := fun z => b2 (by rw [bitV v hv j j10, if_pos z])
        rw [tx_1, show nI p - 0 = nI p from nI_sb (b := 0) (by omega) (by omega)]
        have I := ih (j + 1) p (some (.int 0)) (Nat.lt_succ_self j) (by omega) (by omega) (Or.inr ⟨_, rfl⟩)
        rw [show nthF v (10 - j) j p = nthF v (10 - (j + 1)) (j + 1) p by rw [show 10 - j = (10 - (j + 1)) + 1 by omega]; show (if v.testBit j = true then _ else _) = _; rw [if_neg tb]] at K
        exact I K
  ·
    refine go hX 3 (gs := [True, True, True]) (z' := (if 10 ≤ (nI j) then 97 else 49, [some (.ref 1), some (.int (nI v)), some (.int nn), some (.int (nI p)), some (.int (nI j)), some (.int y5)], [], h)) rfl ⟨trivial, trivial, trivial, trivial⟩ ?_
    refine br (fun b1 => ?_) (fun b1 => ?_)
    ·
      refine go hX 1 (gs := [True]) (z' := (98, [some (.ref 1), some (.int (nI v)), some (.int nn), some (.int (nI p)), some (.int (nI j)), some (.int y5)], [.int 0], h)) rfl ⟨trivial, trivial⟩ ?_
      refine rt_ hX (G := True) (r := some (.int 0)) rfl trivial ?_
      have e : j = 10 := Nat.le_antisymm hj ((tx_le (a := 10) (by decide) (by omega)).mp b1)
      subst e
      exact K
    ·
      have j10 : j < 10 := Nat.lt_of_not_le (fun z => b1 ((tx_le (a := 10) (by decide) (by omega)).mpr z))
      refine go hX 7 (gs := [True, True, True, True, True, True, True]) (z' := (if (((nI v) >>> ((nI j) &&& 31)) &&& 1) = 1 then 59 else 63, [some (.ref 1), some (.int (nI v)), some (.int nn), some (.int (nI p)), some (.int (nI j)), some (.int y5)], [], h)) rfl ⟨trivial, trivial, trivial, trivial, trivial, trivial, trivial, trivial⟩ ?_
      refine br (fun b2 => ?_) (fun b2 => ?_)
      ·
        refine go hX 7 (gs := [True, True, True, True, True, True, True]) (z' := (if (nI p) = 0 then 75 else 78, [some (.ref 1), some (.int (nI v)), some (.int nn), some (.int (nI p)), some (.int (nI j)), some (.int 1)], [], h)) rfl ⟨trivial, trivial, trivial, trivial, trivial, trivial, trivial, trivial⟩ ?_
        refine br (fun b3 => ?_) (fun b3 => ?_)
        ·
          refine go hX 1 (gs := [True]) (z' := (77, [some (.ref 1), some (.int (nI v)), some (.int nn), some (.int (nI p)), some (.int (nI j)), some (.int 1)], [.int (nI j)], h)) rfl ⟨trivial, trivial⟩ ?_
          refine rt_ hX (G := True) (r := some (.int (nI j))) rfl trivial ?_
          have j10 : j < 10 := Nat.lt_of_not_le (fun z => b1 ((tx_le (a := 10) (by decide) (by omega)).mpr z))
          have tb : v.testBit j = true := by rw [bitV v hv j j10] at b2; exact Decidable.byContradiction (fun z => by rw [if_neg z] at b2; exact absurd b2 (by decide))
          have p0 : p = 0 := (nIle_eq (b := 0) (by omega) (by decide)).mp b3
          rw [show nthF v (10 - j) j p = j by rw [show 10 - j = (10 - (j + 1)) + 1 by omega]; show (if v.testBit j = true then _ else _) = _; rw [if_pos tb, if_pos p0]] at K
          exact K
        ·
          refine go hX 9 (gs := [True, True, True, True, True, True, True, True, True]) (z' := (42, [some (.ref 1), some (.int (nI v)), some (.int nn), some (.int ((nI p) - 1)), some (.int ((nI j) + 1)), some (.int 1)], [], h)) rfl ⟨trivial, trivial, trivial, trivial, trivial, trivial, trivial, trivial, trivial, trivial⟩ ?_
          have tb : v.testBit j = true := by rw [bitV v hv j j10] at b2; exact Decidable.byContradiction (fun z => by rw [if_neg z] at b2; exact absurd b2 (by decide))
          have p0 : p ≠ 0 := fun z => b3 (by rw [z]; rfl)
          rw [tx_1, show nI p - 1 = nI (p - 1) from nI_sb (b := 1) (by omega) (by omega)]
          have I := ih (j + 1) (p - 1) (some (.int 1)) (Nat.lt_succ_self j) (by omega) (by omega) (Or.inr ⟨_, rfl⟩)
          rw [show nthF v (10 - j) j p = nthF v (10 - (j + 1)) (j + 1) (p - 1) by rw [show 10 - j = (10 - (j + 1)) + 1 by omega]; show (if v.testBit j = true then _ else _) = _; rw [if_pos tb, if_neg p0]] at K
          exact I K
      ·
        refine go hX 12 (gs := [True, True, True, True, True, True, True, True, True, True, True, True]) (z' := (42, [some (.ref 1), some (.int (nI v)), some (.int nn), some (.int ((nI p) - 0)), some (.int ((nI j) + 1)), some (.int 0)], [], h)) rfl ⟨trivial, trivial, trivial, trivial, trivial, trivial, trivial, trivial, trivial, trivial, trivial, trivial, trivial⟩ ?_
        have tb : ¬ v.testBit j = true := fun z => b2 (by rw [bitV v hv j j10, if_pos z])
        rw [tx_1, show nI p - 0 = nI p from nI_sb (b := 0) (by omega) (by omega)]
        have I := ih (j + 1) p (some (.int 0)) (Nat.lt_succ_self j) (by omega) (by omega) (Or.inr ⟨_, rfl⟩)
        rw [show nthF v (10 - j) j p = nthF v (10 - (j + 1)) (j + 1) p by rw [show 10 - j = (10 - (j + 1)) + 1 by omega]; show (if v.testBit j = true then _ else _) = _; rw [if_neg tb]] at K
        exact I K
theorem c_draw {d : Nat} {Q : Option Value → Hp → Prop} {h : Hp} {v : Nat} (hv : v < 1024) (vp : 0 < pcB v) (pc10 : pcB v ≤ 10) (s0 : 0 ≤ (sdN (h.1 1 6)).toInt) (k : Q (some (.int (nI (nthF v 10 0 ((sdN (h.1 1 6)).toInt.toNat % pcB v))))) (hI h 1 6 (sdN (h.1 1 6)))) : Call (d + 2) 88 [.ref 1, .int (nI v)] h Q := by
  refine call_of (rfl : psM[88]? = some _) rfl rfl (rcvV rfl) (fun X hX => ?_)
  show X (0, [some (.ref 1), some (.int (nI v)), none, none, none, none], [], h)
  refine go hX 11 (gs := [True, True, ¬ 65536 = (0 : Int32), True, True, True, True, True, True, True, True]) (z' := (20, [some (.ref 1), some (.int (nI v)), none, none, none, none], [.int (nI v)], (hI h 1 6 ((((h.1 1 6) * 25173) + 13849) - (((h.1 1 6) * 25173) + 13849) / 65536 * 65536)))) rfl ⟨trivial, trivial, ?_, trivial, trivial, trivial, trivial, trivial, trivial, trivial, trivial, trivial⟩ ?_
  · decide
  refine cl hX 265 1 [.int (nI v)] [] rfl rfl rfl rfl ?_
  refine c_bitC ?_
  rw [pcB_eq _ hv]
  show X (23, [some (.ref 1), some (.int (nI v)), none, none, none, none], [.int (nI (pcB v))], (hI h 1 6 ((((h.1 1 6) * 25173) + 13849) - (((h.1 1 6) * 25173) + 13849) / 65536 * 65536)))
  refine go hX 3 (gs := [True, True, True]) (z' := (if (nI (pcB v)) ≤ 0 then 37 else 28, [some (.ref 1), some (.int (nI v)), some (.int (nI (pcB v))), none, none, none], [], (hI h 1 6 ((((h.1 1 6) * 25173) + 13849) - (((h.1 1 6) * 25173) + 13849) / 65536 * 65536)))) rfl ⟨trivial, trivial, trivial, trivial⟩ ?_
  refine br (fun b1 => ?_) (fun b1 => ?_)
  ·
    refine go hX 4 (gs := [True, True, True, True]) (z' := (42, [some (.ref 1), some (.int (nI v)), some (.int (nI (pcB v))), some (.int 0), some (.int 0), none], [], (hI h 1 6 ((((h.1 1 6) * 25173) + 13849) - (((h.1 1 6) * 25173) + 13849) / 65536 * 65536)))) rfl ⟨trivial, trivial, trivial, trivial, trivial⟩ ?_
    exact absurd ((tx_le (b := 0) (by omega) (by decide)).mp b1) (by omega)
  ·
    refine go hX 8 (gs := [True, True, True, True, ¬ (nI (pcB v)) = (0 : Int32), True, True, True]) (z' := (42, [some (.ref 1), some (.int (nI v)), some (.int (nI (pcB v))), some (.int (((((h.1 1 6) * 25173) + 13849) - (((h.1 1 6) * 25173) + 13849) / 65536 * 65536) - ((((h.1 1 6) * 25173) + 13849) - (((h.1 1 6) * 25173) + 13849) / 65536 * 65536) / (nI (pcB v)) * (nI (pcB v)))), some (.int 0), none], [], (hI h 1 6 ((((h.1 1 6) * 25173) + 13849) - (((h.1 1 6) * 25173) + 13849) / 65536 * 65536)))) rfl ⟨trivial, trivial, trivial, trivial, ?_, trivial, trivial, trivial, trivial⟩ ?_
    · exact fun z => by have := (nIle_eq (b := 0) (by omega) (by decide)).mp z; omega
    show X (42, [some (.ref 1), some (.int (nI v)), some (.int (nI (pcB v))), some (.int (sdN (h.1 1 6) - sdN (h.1 1 6) / nI (pcB v) * nI (pcB v))), some (.int (nI 0)), none], [], hI h 1 6 (sdN (h.1 1 6)))
    rw [rem_nI s0 vp pc10]
    exact lp_draw hX hv (Nat.zero_le 10) _ none (by have := Nat.mod_lt (sdN (h.1 1 6)).toInt.toNat vp; omega) (Or.inl rfl) k
theorem hI_hI {h : Hp} {o : Nat} {j a b : Int32} : hI (hI h o j a) o j b = hI h o j b := mx_ext (fun r k => by
  by_cases e : r = o
  · subst e
    by_cases f : k = j
    · subst f
      rw [hI_at, hI_at]
    · rw [hI_jn f, hI_jn f, hI_jn f]
  · rw [hI_ne e, hI_ne e, hI_ne e]) (fun _ _ => rfl) rfl
theorem hI_id {h : Hp} {o : Nat} {j : Int32} : hI h o j (h.1 o j) = h := mx_ext (fun r k => by
  by_cases e : r = o
  · subst e
    by_cases f : k = j
    · subst f
      exact hI_at
    · exact hI_jn f
  · exact hI_ne e) (fun _ _ => rfl) rfl
set_option maxRecDepth 100000 in
theorem clV : ∀ v : Nat, v < 1024 → ∀ b : Nat, b < 10 → (nI v &&& ((1 <<< (nI b &&& 31)) ^^^ (-1))) = nI (v &&& (1023 - 2 ^ b)) := by decide +kernel
theorem pcB_10 {v : Nat} : pcB v ≤ 10 := Nat.le_trans List.countP_le_length (Nat.le_of_eq List.length_range)
theorem nth_in {v : Nat} {t : Int32} (vp : 0 < pcB v) : nthF v 10 0 (t.toInt.toNat % pcB v) < 10 ∧ v.testBit (nthF v 10 0 (t.toInt.toNat % pcB v)) = true := by
  have := nthF_in (v := v) (k := 10) (j := 0) (p := t.toInt.toNat % pcB v) (by rw [cfB_pc]; exact Nat.mod_lt _ vp)
  exact ⟨by have := this.2.1; omega, this.2.2⟩
theorem cl_lt {v b : Nat} (hv : v < 1024) : v &&& (1023 - 2 ^ b) < 1024 := Nat.lt_of_le_of_lt Nat.and_le_left hv
theorem cl_sub {a v b : Nat} (s : ∀ j, v.testBit j = true → a.testBit j = true) : ∀ j, (v &&& (1023 - 2 ^ b)).testBit j = true → a.testBit j = true := fun j q => s j (by
  rw [Nat.testBit_and, Bool.and_eq_true] at q
  exact q.1)
theorem pcN {v : Nat} (hv : v < 1024) : ¬ nI v = 0 ↔ 0 < pcB v := by
  have := pcB_0 hv
  have e : nI v = 0 ↔ v = 0 := nIle_eq (b := 0) (by omega) (by decide)
  rw [e]
  omega
theorem srF_n {k : Nat} {s : Int32} {v : Nat} (vp : 0 < pcB v) (hv : v < 1024) : srF (k + 1) s v = srF k (sdN s) (v &&& (1023 - 2 ^ nthF v 10 0 ((sdN s).toInt.toNat % pcB v))) := srF_s (fun z => by have := (pcB_0 hv).mpr z; omega)
theorem pkB_0 {a : Nat} (ha : a < 1024) : pkB a 0 = a := by
  apply Nat.eq_of_testBit_eq
  intro j
  unfold pkB
  by_cases h10 : j < 10
  · rw [Nat.testBit_and, c1023 (by decide) h10, Nat.zero_testBit]
    simp
  · rw [Nat.testBit_lt_two_pow (show a < 2 ^ j from Nat.lt_of_lt_of_le ha (show 1024 ≤ 2 ^ j from Nat.pow_le_pow_right (n := 2) (by decide) (Nat.le_of_not_lt h10))), Nat.testBit_lt_two_pow (Nat.lt_of_le_of_lt Nat.and_le_left (show a < 2 ^ j from Nat.lt_of_lt_of_le ha (show 1024 ≤ 2 ^ j from Nat.pow_le_pow_right (n := 2) (by decide) (Nat.le_of_not_lt h10))))]
theorem pkB_n {a : Nat} (ha : a < 1024) : pkB a a = 0 := by
  apply Nat.eq_of_testBit_eq
  intro j
  unfold pkB
  by_cases h10 : j < 10
  · rw [Nat.testBit_and, c1023 ha h10, Nat.zero_testBit]
    cases a.testBit j <;> rfl
  · rw [Nat.testBit_lt_two_pow (Nat.lt_of_le_of_lt Nat.and_le_left (show a < 2 ^ j from Nat.lt_of_lt_of_le ha (show 1024 ≤ 2 ^ j from Nat.pow_le_pow_right (n := 2) (by decide) (Nat.le_of_not_lt h10)))), Nat.zero_testBit]
theorem lp_searchA {d : Nat} {Q : Option Value → Hp → Prop} {X : Cf → Prop} (hX : Clo (Call (d + 2)) cd144 (some .int) Q X) {h : Hp} {m A : Nat} (m10 : m ≤ 10) (hA : A < 1024) {i : Nat} (hi : i ≤ m) : ∀ (s : Int32) (v : Nat), 0 ≤ s.toInt → s.toInt ≤ 65535 → v < 1024 → Q (some (.int (nI (pkB A (srF (m - i) s v).2)))) (hI h 1 6 (srF (m - i) s v).1) → X (26, [some (.ref 0), some (.int (nI m)), some (.int (nI A)), some (.int (nI v)), some (.int (nI i))], [], hI h 1 6 s) := by
  refine dn_ind (P := fun i => ∀ (s : Int32) (v : Nat), 0 ≤ s.toInt → s.toInt ≤ 65535 → v < 1024 → Q (some (.int (nI (pkB A (srF (m - i) s v).2)))) (hI h 1 6 (srF (m - i) s v).1) → X (26, [some (.ref 0), some (.int (nI m)), some (.int (nI A)), some (.int (nI v)), some (.int (nI i))], [], hI h 1 6 s)) (fun i hi ih s v s0 s1 hv K => ?_) hi
  refine go hX 3 (gs := [True, True, True]) (z' := (if (nI m) ≤ (nI i) then 57 else 32, [some (.ref 0), some (.int (nI m)), some (.int (nI A)), some (.int (nI v)), some (.int (nI i))], [], (hI h 1 6 s))) rfl ⟨trivial, trivial, trivial, trivial⟩ ?_
  refine br (fun b1 => ?_) (fun b1 => ?_)
  ·
    refine go hX 5 (gs := [True, True, True, True, True]) (z' := (62, [some (.ref 0), some (.int (nI m)), some (.int (nI A)), some (.int (nI v)), some (.int (nI i))], [.int ((nI A) &&& ((nI v) ^^^ (-1)))], (hI h 1 6 s))) rfl ⟨trivial, trivial, trivial, trivial, trivial, trivial⟩ ?_
    refine rt_ hX (G := True) (r := some (.int ((nI A) &&& ((nI v) ^^^ (-1))))) rfl trivial ?_
    have e : i = m := Nat.le_antisymm hi ((tx_le (by omega) (by omega)).mp b1)
    subst e
    rw [andN hA hv]
    rw [Nat.sub_self] at K
    exact K
  ·
    refine go hX 2 (gs := [True, True]) (z' := (if (nI v) = 0 then 57 else 36, [some (.ref 0), some (.int (nI m)), some (.int (nI A)), some (.int (nI v)), some (.int (nI i))], [], (hI h 1 6 s))) rfl ⟨trivial, trivial, trivial⟩ ?_
    refine br (fun b2 => ?_) (fun b2 => ?_)
    ·
      refine go hX 5 (gs := [True, True, True, True, True]) (z' := (62, [some (.ref 0), some (.int (nI m)), some (.int (nI A)), some (.int (nI v)), some (.int (nI i))], [.int ((nI A) &&& ((nI v) ^^^ (-1)))], (hI h 1 6 s))) rfl ⟨trivial, trivial, trivial, trivial, trivial, trivial⟩ ?_
      refine rt_ hX (G := True) (r := some (.int ((nI A) &&& ((nI v) ^^^ (-1))))) rfl trivial ?_
      have e : v = 0 := (nIle_eq (b := 0) (by omega) (by decide)).mp b2
      subst e
      rw [srF_0] at K
      rw [show (nI A &&& (nI 0 ^^^ (-1))) = nI (pkB A 0) from andN hA (by decide)]
      exact K
    ·
      refine go hX 5 (gs := [True, True, True, True, True]) (z' := (43, [some (.ref 0), some (.int (nI m)), some (.int (nI A)), some (.int (nI v)), some (.int (nI i))], [.int (nI v), .ref 1, .int 1, .int (nI v)], (hI h 1 6 s))) rfl ⟨trivial, trivial, trivial, trivial, trivial, trivial⟩ ?_
      refine cl hX 88 2 [.ref 1, .int (nI v)] [.int 1, .int (nI v)] rfl rfl rfl rfl ?_
      have ix : i < m := Nat.lt_of_not_le (fun z => b1 ((tx_le (by omega) (by omega)).mpr z))
      have vp : 0 < pcB v := (pcN hv).mp b2
      obtain ⟨b, hb⟩ : ∃ b, b = nthF v 10 0 ((sdN s).toInt.toNat % pcB v) := ⟨_, rfl⟩
      obtain ⟨b10, vb⟩ := nth_in (v := v) (t := sdN s) vp
      rw [← hb] at b10 vb
      refine c_draw (d := d) hv vp pcB_10 (by rw [hI_at]; exact (sd_b s0 s1).1) ?_
      rw [hI_at, hI_hI, ← hb]
      show X (46, [some (.ref 0), some (.int (nI m)), some (.int (nI A)), some (.int (nI v)), some (.int (nI i))], [.int (nI b), .int 1, .int (nI v)], (hI h 1 6 (sdN s)))
      refine go hX 7 (gs := [True, True, True, True, True, True, True]) (z' := (26, [some (.ref 0), some (.int (nI m)), some (.int (nI A)), some (.int ((nI v) &&& ((1 <<< ((nI b) &&& 31)) ^^^ (-1)))), some (.int ((nI i) + 1))], [], (hI h 1 6 (sdN s)))) rfl ⟨trivial, trivial, trivial, trivial, trivial, trivial, trivial, trivial⟩ ?_
      rw [clV v hv b b10, tx_1]
      have I := ih (i + 1) (Nat.lt_succ_self i) (by omega) (sdN s) (v &&& (1023 - 2 ^ b)) (sd_b s0 s1).1 (Int.le_of_lt_add_one (sd_b s0 s1).2) (cl_lt hv)
      rw [show m - i = (m - (i + 1)) + 1 by omega, srF_n vp hv, ← hb] at K
      exact I K
theorem c_searchA {d : Nat} {Q : Option Value → Hp → Prop} {h : Hp} {n m A : Nat} (n10 : n ≤ 10) (en : h.1 4 2 = nI n) {W : Nat → Bool} (hW : ∀ k, k < n → (¬ h.1 5 ((nI k * 14) + 11) = 1 ↔ W k = true)) (hA : A = chB_ W n) (m0 : 1 ≤ nI m) (m1 : nI m ≤ 10) (m10 : m ≤ 10) (s0 : 0 ≤ (h.1 1 6).toInt) (s1 : (h.1 1 6).toInt ≤ 65535) (K : Q (some (.int (nI (pkB A (srF m (h.1 1 6) A).2)))) (hI h 1 6 (srF m (h.1 1 6) A).1)) : Call (d + 4) 144 [.ref 0, .int (nI m)] h Q := by
  have Al : A < 1024 := by rw [hA]; exact chB_lt n10
  refine call_of (rfl : psM[144]? = some _) rfl rfl (rcvV rfl) (fun X hX => ?_)
  show X (0, [some (.ref 0), some (.int (nI m)), none, none, none], [], h)
  refine go hX 3 (gs := [True, True, True]) (z' := (4, [some (.ref 0), some (.int (nI m)), none, none, none], [.int 10, .int 1, .int (nI m)], h)) rfl ⟨trivial, trivial, trivial, trivial⟩ ?_
  refine cl hX 156 3 [.int (nI m), .int 1, .int 10] [] rfl rfl rfl rfl ?_
  refine c_within (fun bw => ?_) (fun bw => ?_)
  ·
    show X (7, [some (.ref 0), some (.int (nI m)), none, none, none], [.int 1], h)
    refine go hX 3 (gs := [True, True, True]) (z' := (17, [some (.ref 0), some (.int (nI m)), none, none, none], [.ref 1], h)) rfl ⟨trivial, trivial, trivial, trivial⟩ ?_
    refine cl hX 63 1 [.ref 1] [] rfl rfl rfl rfl ?_
    refine c_notFree n10 en hW ?_
    rw [← hA]
    show X (20, [some (.ref 0), some (.int (nI m)), none, none, none], [.int (nI A)], h)
    refine go hX 5 (gs := [True, True, True, True, True]) (z' := (26, [some (.ref 0), some (.int (nI m)), some (.int (nI A)), some (.int (nI A)), some (.int 0)], [], h)) rfl ⟨trivial, trivial, trivial, trivial, trivial, trivial⟩ ?_
    have L := lp_searchA (d := d + 1) hX (h := h) m10 Al (Nat.zero_le m) (h.1 1 6) A s0 s1 Al K
    rw [hI_id] at L
    exact L
  ·
    show X (7, [some (.ref 0), some (.int (nI m)), none, none, none], [.int 0], h)
    refine go hX 2 (gs := [True, True]) (z' := (12, [some (.ref 0), some (.int (nI m)), none, none, none], [.int (-1000000001)], h)) rfl ⟨trivial, trivial, trivial⟩ ?_
    refine rt_ hX (G := True) (r := some (.int (-1000000001))) rfl trivial ?_
    exact absurd ⟨m0, m1⟩ bw
theorem nI_p1 {x : Nat} : nI (x + 1) + (-1) = nI x := by rw [← tx_1, Int32.add_assoc, show (1 : Int32) + -1 = 0 from rfl, Int32.add_zero]
theorem pcB_or {v b : Nat} (hb : b < 10) (hv : ¬ v.testBit b = true) : pcB (v ||| 2 ^ b) = pcB v + 1 := by
  unfold pcB
  exact countP_flip hb (by rw [Nat.testBit_or, Nat.testBit_two_pow_self, Bool.or_true]) (by simpa using hv) (fun k hk ne => by
    rw [Nat.testBit_or, Nat.testBit_two_pow, decide_eq_false (fun e => ne e.symm), Bool.or_false])
theorem chB_pc {W : Nat → Bool} {k : Nat} (hk : k < 10) (w : W k = true) : pcB (chB_ W (k + 1)) = pcB (chB_ W k) + 1 := by
  rw [chB_1 w]
  exact pcB_or hk (by rw [chB_bit, decide_eq_false (Nat.lt_irrefl k)]; simp)
theorem cf_10 {v k j p : Nat} (e : k + j = 10) (h : p < cfB v k j) : j < 10 := by
  cases k with
  | zero => exact absurd h (Nat.not_lt_zero p)
  | succ k => omega
theorem lp_nfB {d : Nat} {Q : Option Value → Hp → Prop} {X : Cf → Prop} (hX : Clo (Call (d + 2)) cd250 (some .int) Q X) {h : Hp} {m : Nat} {n : Nat} (n10 : n ≤ 10) (en : h.1 66 2 = nI n) {W : Nat → Bool} (hW : ∀ k, k < n → (¬ h.1 66 ((40 + (16 * nI k)) + 11) = 1 ↔ W k = true)) (K : X (76, [some (.ref 65), some (.int (nI m)), some (.int (nI (chB_ W n))), some (.int (nI (pcB (chB_ W n)))), some (.int (nI n)), none, none, none], [], h)) {k : Nat} (hk : k ≤ n) : X (22, [some (.ref 65), some (.int (nI m)), some (.int (nI (chB_ W k))), some (.int (nI (pcB (chB_ W k)))), some (.int (nI k)), none, none, none], [], h) := by
  refine dn_ind (P := fun k => X (22, [some (.ref 65), some (.int (nI m)), some (.int (nI (chB_ W k))), some (.int (nI (pcB (chB_ W k)))), some (.int (nI k)), none, none, none], [], h)) (fun k hk ih => ?_) hk
  refine go hX 6 (gs := [True, ibd 2 3400, True, True, True, True]) (z' := (if (h.1 66 2) ≤ (nI k) then 76 else 33, [some (.ref 65), some (.int (nI m)), some (.int (nI (chB_ W k))), some (.int (nI (pcB (chB_ W k)))), some (.int (nI k)), none, none, none], [], h)) rfl ⟨trivial, ?_, trivial, trivial, trivial, trivial, trivial⟩ ?_
  · exact ⟨by decide, by decide⟩
  refine br (fun b1 => ?_) (fun b1 => ?_)
  ·
    have e : k = n := Nat.le_antisymm hk ((tx_le (by omega) (by omega)).mp (by rw [← en]; exact b1))
    subst e
    exact K
  ·
    have kx : k < n := Nat.lt_of_not_le (fun z => b1 (by rw [en]; exact (tx_le (by omega) (by omega)).mpr z))
    refine go hX 3 (gs := [True, True, True]) (z' := (37, [some (.ref 65), some (.int (nI m)), some (.int (nI (chB_ W k))), some (.int (nI (pcB (chB_ W k)))), some (.int (nI k)), none, none, none], [.int (nI k), .ref 65, .int (nI (chB_ W k))], h)) rfl ⟨trivial, trivial, trivial, trivial⟩ ?_
    refine cl hX 172 2 [.ref 65, .int (nI k)] [.int (nI (chB_ W k))] rfl rfl rfl rfl ?_
    refine c_isFrB (tx_0 k (by omega)) ((tx_lt (b := 10) (by omega) (by decide)).mpr (by omega)) (fun bf2 => ?_) (fun bf2 => ?_)
    ·
      show X (40, [some (.ref 65), some (.int (nI m)), some (.int (nI (chB_ W k))), some (.int (nI (pcB (chB_ W k)))), some (.int (nI k)), none, none, none], [.int 1, .int (nI (chB_ W k))], h)
      refine go hX 8 (gs := [True, True, True, True, True, True, True, True]) (z' := (57, [some (.ref 65), some (.int (nI m)), some (.int ((nI (chB_ W k)) ||| 0)), some (.int (nI (pcB (chB_ W k)))), some (.int (nI k)), none, none, none], [.int (nI k), .ref 65, .int (nI (pcB (chB_ W k)))], h)) rfl ⟨trivial, trivial, trivial, trivial, trivial, trivial, trivial, trivial, trivial⟩ ?_
      refine cl hX 172 2 [.ref 65, .int (nI k)] [.int (nI (pcB (chB_ W k)))] rfl rfl rfl rfl ?_
      refine c_isFrB (tx_0 k (by omega)) ((tx_lt (b := 10) (by omega) (by decide)).mpr (by omega)) (fun bf3 => ?_) (fun bf3 => ?_)
      ·
        show X (60, [some (.ref 65), some (.int (nI m)), some (.int ((nI (chB_ W k)) ||| 0)), some (.int (nI (pcB (chB_ W k)))), some (.int (nI k)), none, none, none], [.int 1, .int (nI (pcB (chB_ W k)))], h)
        refine go hX 7 (gs := [True, True, True, True, True, True, True]) (z' := (22, [some (.ref 65), some (.int (nI m)), some (.int ((nI (chB_ W k)) ||| 0)), some (.int ((nI (pcB (chB_ W k))) + 0)), some (.int ((nI k) + 1)), none, none, none], [], h)) rfl ⟨trivial, trivial, trivial, trivial, trivial, trivial, trivial, trivial⟩ ?_
        rw [tx_1 k]
        rw [show nI (chB_ W k) ||| 0 = nI (chB_ W (k + 1)) by rw [chB_0 (fun z => (hW k kx).mpr z bf2), Int32.or_zero], show nI (pcB (chB_ W k)) + 0 = nI (pcB (chB_ W (k + 1))) by rw [chB_0 (fun z => (hW k kx).mpr z bf2), Int32.add_zero]]
        exact ih (k + 1) (Nat.lt_succ_self k) (by omega)
      ·
        show X (60, [some (.ref 65), some (.int (nI m)), some (.int ((nI (chB_ W k)) ||| 0)), some (.int (nI (pcB (chB_ W k)))), some (.int (nI k)), none, none, none], [.int 0, .int (nI (pcB (chB_ W k)))], h)
        refine go hX 6 (gs := [True, True, True, True, True, True]) (z' := (22, [some (.ref 65), some (.int (nI m)), some (.int ((nI (chB_ W k)) ||| 0)), some (.int ((nI (pcB (chB_ W k))) + 1)), some (.int ((nI k) + 1)), none, none, none], [], h)) rfl ⟨trivial, trivial, trivial, trivial, trivial, trivial, trivial⟩ ?_
        exact absurd bf2 bf3
    ·
      show X (40, [some (.ref 65), some (.int (nI m)), some (.int (nI (chB_ W k))), some (.int (nI (pcB (chB_ W k)))), some (.int (nI k)), none, none, none], [.int 0, .int (nI (chB_ W k))], h)
      refine go hX 9 (gs := [True, True, True, True, True, True, True, True, True]) (z' := (57, [some (.ref 65), some (.int (nI m)), some (.int ((nI (chB_ W k)) ||| (1 <<< ((nI k) &&& 31)))), some (.int (nI (pcB (chB_ W k)))), some (.int (nI k)), none, none, none], [.int (nI k), .ref 65, .int (nI (pcB (chB_ W k)))], h)) rfl ⟨trivial, trivial, trivial, trivial, trivial, trivial, trivial, trivial, trivial, trivial⟩ ?_
      refine cl hX 172 2 [.ref 65, .int (nI k)] [.int (nI (pcB (chB_ W k)))] rfl rfl rfl rfl ?_
      refine c_isFrB (tx_0 k (by omega)) ((tx_lt (b := 10) (by omega) (by decide)).mpr (by omega)) (fun bf4 => ?_) (fun bf4 => ?_)
      ·
        show X (60, [some (.ref 65), some (.int (nI m)), some (.int ((nI (chB_ W k)) ||| (1 <<< ((nI k) &&& 31)))), some (.int (nI (pcB (chB_ W k)))), some (.int (nI k)), none, none, none], [.int 1, .int (nI (pcB (chB_ W k)))], h)
        refine go hX 7 (gs := [True, True, True, True, True, True, True]) (z' := (22, [some (.ref 65), some (.int (nI m)), some (.int ((nI (chB_ W k)) ||| (1 <<< ((nI k) &&& 31)))), some (.int ((nI (pcB (chB_ W k))) + 0)), some (.int ((nI k) + 1)), none, none, none], [], h)) rfl ⟨trivial, trivial, trivial, trivial, trivial, trivial, trivial, trivial⟩ ?_
        exact absurd bf4 bf2
      ·
        show X (60, [some (.ref 65), some (.int (nI m)), some (.int ((nI (chB_ W k)) ||| (1 <<< ((nI k) &&& 31)))), some (.int (nI (pcB (chB_ W k)))), some (.int (nI k)), none, none, none], [.int 0, .int (nI (pcB (chB_ W k)))], h)
        refine go hX 6 (gs := [True, True, True, True, True, True]) (z' := (22, [some (.ref 65), some (.int (nI m)), some (.int ((nI (chB_ W k)) ||| (1 <<< ((nI k) &&& 31)))), some (.int ((nI (pcB (chB_ W k))) + 1)), some (.int ((nI k) + 1)), none, none, none], [], h)) rfl ⟨trivial, trivial, trivial, trivial, trivial, trivial, trivial⟩ ?_
        rw [tx_1 k]
        have wk := (hW k kx).mp bf2
        rw [show (nI (chB_ W k) ||| (1 <<< (nI k &&& 31))) = nI (chB_ W (k + 1)) by rw [chB_1 wk]; exact orV _ (chB_lt (by omega)) k (by omega), show nI (pcB (chB_ W k)) + 1 = nI (pcB (chB_ W (k + 1))) by rw [chB_pc (by omega) wk]; exact tx_1 _]
        exact ih (k + 1) (Nat.lt_succ_self k) (by omega)
theorem lp_whB {d : Nat} {Q : Option Value → Hp → Prop} {X : Cf → Prop} (hX : Clo (Call d) cd250 (some .int) Q X) {h : Hp} {v : Nat} {mm nn dr ii : Int32} (hv : v < 1024) : ∀ {k j p : Nat}, k + j = 10 → p < cfB v k j → p ≤ 20 → X (163, [some (.ref 65), some (.int mm), some (.int (nI v)), some (.int nn), some (.int dr), some (.int ii), some (.int (nI 0)), some (.int (nI (nthF v k j p)))], [], h) → X (132, [some (.ref 65), some (.int mm), some (.int (nI v)), some (.int nn), some (.int dr), some (.int ii), some (.int (nI p)), some (.int (nI j))], [], h)
  | 0, j, p, e, hp, p20, K => absurd hp (Nat.not_lt_zero p)
  | k + 1, j, p, e, hp, p20, K => by
    have ih := fun {j p : Nat} a b c e => lp_whB (Q := Q) hX (h := h) (mm := mm) (nn := nn) (dr := dr) (ii := ii) hv (k := k) (j := j) (p := p) a b c e
    have j10 : j < 10 := by omega
    refine go hX 6 (gs := [True, True, True, True, True, True]) (z' := (if (((nI v) >>> ((nI j) &&& 31)) &&& 1) = 0 then 146 else 141, [some (.ref 65), some (.int mm), some (.int (nI v)), some (.int nn), some (.int dr), some (.int ii), some (.int (nI p)), some (.int (nI j))], [], h)) rfl ⟨trivial, trivial, trivial, trivial, trivial, trivial, trivial⟩ ?_
    refine br (fun b1 => ?_) (fun b1 => ?_)
    ·
      refine go hX 10 (gs := [True, True, True, True, True, True, True, True, True, True]) (z' := (132, [some (.ref 65), some (.int mm), some (.int (nI v)), some (.int nn), some (.int dr), some (.int ii), some (.int ((nI p) - (((nI v) >>> ((nI j) &&& 31)) &&& 1))), some (.int ((nI j) + 1))], [], h)) rfl ⟨trivial, trivial, trivial, trivial, trivial, trivial, trivial, trivial, trivial, trivial, trivial⟩ ?_
      have tb : ¬ v.testBit j = true := fun z => absurd ((bitV v hv j j10).symm.trans b1) (by rw [if_pos z]; decide)
      rw [bitV v hv j j10, if_neg tb, tx_1, show nI p - 0 = nI p from nI_sb (b := 0) (by omega) (by omega)]
      unfold cfB at hp
      rw [if_neg tb] at hp
      unfold nthF at K
      rw [if_neg tb] at K
      exact ih (by omega) (by omega) (by omega) K
    ·
      refine go hX 2 (gs := [True, True]) (z' := (if (nI p) ≤ 0 then 163 else 146, [some (.ref 65), some (.int mm), some (.int (nI v)), some (.int nn), some (.int dr), some (.int ii), some (.int (nI p)), some (.int (nI j))], [], h)) rfl ⟨trivial, trivial, trivial⟩ ?_
      refine br (fun b2 => ?_) (fun b2 => ?_)
      ·
        have tb : v.testBit j = true := Decidable.byContradiction (fun z => b1 (by rw [bitV v hv j j10, if_neg z]))
        have p0 : p = 0 := Nat.le_zero.mp ((tx_le (b := 0) (by omega) (by decide)).mp b2)
        subst p0
        unfold nthF at K
        rw [if_pos tb, if_pos rfl] at K
        exact K
      ·
        refine go hX 10 (gs := [True, True, True, True, True, True, True, True, True, True]) (z' := (132, [some (.ref 65), some (.int mm), some (.int (nI v)), some (.int nn), some (.int dr), some (.int ii), some (.int ((nI p) - (((nI v) >>> ((nI j) &&& 31)) &&& 1))), some (.int ((nI j) + 1))], [], h)) rfl ⟨trivial, trivial, trivial, trivial, trivial, trivial, trivial, trivial, trivial, trivial, trivial⟩ ?_
        have tb : v.testBit j = true := Decidable.byContradiction (fun z => b1 (by rw [bitV v hv j j10, if_neg z]))
        have p0 : p ≠ 0 := fun z => b2 (by rw [z]; decide)
        rw [bitV v hv j j10, if_pos tb, tx_1, show nI p - 1 = nI (p - 1) from nI_sb (b := 1) (by omega) (by omega)]
        unfold cfB at hp
        rw [if_pos tb] at hp
        unfold nthF at K
        rw [if_pos tb, if_neg p0] at K
        exact ih (by omega) (by omega) (by omega) K
theorem lp_searchB {d : Nat} {Q : Option Value → Hp → Prop} {X : Cf → Prop} (hX : Clo (Call (d + 2)) cd250 (some .int) Q X) {h : Hp} {m A : Nat} (m10 : m ≤ 10) (hA : A < 1024) {i : Nat} (hi : i ≤ m) : ∀ (s : Int32) (v : Nat) (l6 l7 : Option Value), ((l6 = none ∧ l7 = none) ∨ ∃ y6 y7, l6 = some (.int y6) ∧ l7 = some (.int y7)) → 0 ≤ s.toInt → s.toInt ≤ 65535 → v < 1024 → (∀ j, v.testBit j = true → A.testBit j = true) → Q (some (.int (nI (pkB A (srF (m - i) s v).2)))) (hI h 66 6 (srF (m - i) s v).1) → X (82, [some (.ref 65), some (.int (nI m)), some (.int (nI v)), some (.int (nI (pcB v))), some (.int (nI (pkB A v))), some (.int (nI i)), l6, l7], [], hI h 66 6 s) := by
  refine dn_ind (P := fun i => ∀ (s : Int32) (v : Nat) (l6 l7 : Option Value), ((l6 = none ∧ l7 = none) ∨ ∃ y6 y7, l6 = some (.int y6) ∧ l7 = some (.int y7)) → 0 ≤ s.toInt → s.toInt ≤ 65535 → v < 1024 → (∀ j, v.testBit j = true → A.testBit j = true) → Q (some (.int (nI (pkB A (srF (m - i) s v).2)))) (hI h 66 6 (srF (m - i) s v).1) → X (82, [some (.ref 65), some (.int (nI m)), some (.int (nI v)), some (.int (nI (pcB v))), some (.int (nI (pkB A v))), some (.int (nI i)), l6, l7], [], hI h 66 6 s)) (fun i hi ih s v l6 l7 hl s0 s1 hv sub K => ?_) hi
  rcases hl with ⟨rfl, rfl⟩ | ⟨y6, y7, rfl, rfl⟩
  ·
    refine go hX 3 (gs := [True, True, True]) (z' := (if (nI m) ≤ (nI i) then 190 else 88, [some (.ref 65), some (.int (nI m)), some (.int (nI v)), some (.int (nI (pcB v))), some (.int (nI (pkB A v))), some (.int (nI i)), none, none], [], (hI h 66 6 s))) rfl ⟨trivial, trivial, trivial, trivial⟩ ?_
    refine br (fun b1 => ?_) (fun b1 => ?_)
    ·
      refine go hX 1 (gs := [True]) (z' := (192, [some (.ref 65), some (.int (nI m)), some (.int (nI v)), some (.int (nI (pcB v))), some (.int (nI (pkB A v))), some (.int (nI i)), none, none], [.int (nI (pkB A v))], (hI h 66 6 s))) rfl ⟨trivial, trivial⟩ ?_
      refine rt_ hX (G := True) (r := some (.int (nI (pkB A v)))) rfl trivial ?_
      have e : i = m := Nat.le_antisymm hi ((tx_le (by omega) (by omega)).mp b1)
      subst e
      rw [Nat.sub_self] at K
      exact K
    ·
      refine go hX 2 (gs := [True, True]) (z' := (if (nI (pcB v)) ≤ 0 then 190 else 92, [some (.ref 65), some (.int (nI m)), some (.int (nI v)), some (.int (nI (pcB v))), some (.int (nI (pkB A v))), some (.int (nI i)), none, none], [], (hI h 66 6 s))) rfl ⟨trivial, trivial, trivial⟩ ?_
      refine br (fun b2 => ?_) (fun b2 => ?_)
      ·
        refine go hX 1 (gs := [True]) (z' := (192, [some (.ref 65), some (.int (nI m)), some (.int (nI v)), some (.int (nI (pcB v))), some (.int (nI (pkB A v))), some (.int (nI i)), none, none], [.int (nI (pkB A v))], (hI h 66 6 s))) rfl ⟨trivial, trivial⟩ ?_
        refine rt_ hX (G := True) (r := some (.int (nI (pkB A v)))) rfl trivial ?_
        have e : v = 0 := (pcB_0 hv).mp (Nat.le_zero.mp ((tx_le (b := 0) (by have := pcB_10 (v := v); omega) (by decide)).mp b2))
        subst e
        rw [srF_0] at K
        exact K
      ·
        refine go hX 23 (gs := [True, True, True, ¬ (nI (pcB v)) = (0 : Int32), True, ibd 6 3400, True, True, True, ibd 6 3400, ¬ 65536 = (0 : Int32), True, True, True, True, True, ibd 6 3400, True, True, True, True, True, True]) (z' := (132, [some (.ref 65), some (.int (nI m)), some (.int (nI v)), some (.int (nI (pcB v))), some (.int (nI (pkB A v))), some (.int (nI i)), some (.int ((((((hI h 66 6 s).1 66 6) * 25173) + 13849) - ((((hI h 66 6 s).1 66 6) * 25173) + 13849) / 65536 * 65536) - (((((hI h 66 6 s).1 66 6) * 25173) + 13849) - ((((hI h 66 6 s).1 66 6) * 25173) + 13849) / 65536 * 65536) / (nI (pcB v)) * (nI (pcB v)))), some (.int 0)], [], (hI (hI h 66 6 s) 66 6 (((((hI h 66 6 s).1 66 6) * 25173) + 13849) - ((((hI h 66 6 s).1 66 6) * 25173) + 13849) / 65536 * 65536)))) rfl ⟨trivial, trivial, trivial, ?_, trivial, ?_, trivial, trivial, trivial, ?_, ?_, trivial, trivial, trivial, trivial, trivial, ?_, trivial, trivial, trivial, trivial, trivial, trivial, trivial⟩ ?_
        · exact fun z => b2 (by rw [z]; decide)
        · exact ⟨by decide, by decide⟩
        · exact ⟨by decide, by decide⟩
        · decide
        · exact ⟨by decide, by decide⟩
        have ix : i < m := Nat.lt_of_not_le (fun z => b1 ((tx_le (by omega) (by omega)).mpr z))
        have vp : 0 < pcB v := Nat.lt_of_not_le (fun z => b2 ((tx_le (b := 0) (by have := pcB_10 (v := v); omega) (by decide)).mpr z))
        obtain ⟨b, hb⟩ : ∃ b, b = nthF v 10 0 ((sdN s).toInt.toNat % pcB v) := ⟨_, rfl⟩
        obtain ⟨b10, vb⟩ := nth_in (v := v) (t := sdN s) vp
        rw [← hb] at b10 vb
        show X (132, [some (.ref 65), some (.int (nI m)), some (.int (nI v)), some (.int (nI (pcB v))), some (.int (nI (pkB A v))), some (.int (nI i)), some (.int (sdN ((hI h 66 6 s).1 66 6) - sdN ((hI h 66 6 s).1 66 6) / nI (pcB v) * nI (pcB v))), some (.int (nI 0))], [], hI (hI h 66 6 s) 66 6 (sdN ((hI h 66 6 s).1 66 6)))
        rw [hI_at, hI_hI, rem_nI (sd_b s0 s1).1 vp pcB_10]
        have lt := Nat.mod_lt (sdN s).toInt.toNat vp
        refine lp_whB (d := d + 2) hX hv (k := 10) (by omega) (by rw [cfB_pc]; exact lt) (by have := pcB_10 (v := v); omega) ?_
        rw [← hb]
        refine go hX 17 (gs := [True, True, True, True, True, True, True, True, True, True, True, True, True, True, True, True, True]) (z' := (82, [some (.ref 65), some (.int (nI m)), some (.int ((nI v) &&& ((1 <<< ((nI b) &&& 31)) ^^^ (-1)))), some (.int ((nI (pcB v)) + (-1))), some (.int ((nI (pkB A v)) ||| (1 <<< ((nI b) &&& 31)))), some (.int ((nI i) + 1)), some (.int (nI 0)), some (.int (nI b))], [], (hI h 66 6 (sdN s)))) rfl ⟨trivial, trivial, trivial, trivial, trivial, trivial, trivial, trivial, trivial, trivial, trivial, trivial, trivial, trivial, trivial, trivial, trivial, trivial⟩ ?_
        rw [clV v hv b b10, orV (pkB A v) (show pkB A v < 1024 from Nat.lt_of_le_of_lt Nat.and_le_left hA) b b10, tx_1, pkB_up hA hv b10 (sub _ vb)]
        have pe := pcB_cl b10 vb
        rw [show nI (pcB v) + (-1) = nI (pcB (v &&& (1023 - 2 ^ b))) by rw [pe]; exact nI_p1]
        rw [show m - i = (m - (i + 1)) + 1 by omega, srF_n vp hv, ← hb] at K
        exact ih (i + 1) (Nat.lt_succ_self i) (by omega) (sdN s) (v &&& (1023 - 2 ^ b)) _ _ (Or.inr ⟨_, _, rfl, rfl⟩) (sd_b s0 s1).1 (Int.le_of_lt_add_one (sd_b s0 s1).2) (cl_lt hv) (cl_sub sub) K
  ·
    refine go hX 3 (gs := [True, True, True]) (z' := (if (nI m) ≤ (nI i) then 190 else 88, [some (.ref 65), some (.int (nI m)), some (.int (nI v)), some (.int (nI (pcB v))), some (.int (nI (pkB A v))), some (.int (nI i)), some (.int y6), some (.int y7)], [], (hI h 66 6 s))) rfl ⟨trivial, trivial, trivial, trivial⟩ ?_
    refine br (fun b1 => ?_) (fun b1 => ?_)
    ·
      refine go hX 1 (gs := [True]) (z' := (192, [some (.ref 65), some (.int (nI m)), some (.int (nI v)), some (.int (nI (pcB v))), some (.int (nI (pkB A v))), some (.int (nI i)), some (.int y6), some (.int y7)], [.int (nI (pkB A v))], (hI h 66 6 s))) rfl ⟨trivial, trivial⟩ ?_
      refine rt_ hX (G := True) (r := some (.int (nI (pkB A v)))) rfl trivial ?_
      have e : i = m := Nat.le_antisymm hi ((tx_le (by omega) (by omega)).mp b1)
      subst e
      rw [Nat.sub_self] at K
      exact K
    ·
      refine go hX 2 (gs := [True, True]) (z' := (if (nI (pcB v)) ≤ 0 then 190 else 92, [some (.ref 65), some (.int (nI m)), some (.int (nI v)), some (.int (nI (pcB v))), some (.int (nI (pkB A v))), some (.int (nI i)), some (.int y6), some (.int y7)], [], (hI h 66 6 s))) rfl ⟨trivial, trivial, trivial⟩ ?_
      refine br (fun b2 => ?_) (fun b2 => ?_)
      ·
        refine go hX 1 (gs := [True]) (z' := (192, [some (.ref 65), some (.int (nI m)), some (.int (nI v)), some (.int (nI (pcB v))), some (.int (nI (pkB A v))), some (.int (nI i)), some (.int y6), some (.int y7)], [.int (nI (pkB A v))], (hI h 66 6 s))) rfl ⟨trivial, trivial⟩ ?_
        refine rt_ hX (G := True) (r := some (.int (nI (pkB A v)))) rfl trivial ?_
        have e : v = 0 := (pcB_0 hv).mp (Nat.le_zero.mp ((tx_le (b := 0) (by have := pcB_10 (v := v); omega) (by decide)).mp b2))
        subst e
        rw [srF_0] at K
        exact K
      ·
        refine go hX 23 (gs := [True, True, True, ¬ (nI (pcB v)) = (0 : Int32), True, ibd 6 3400, True, True, True, ibd 6 3400, ¬ 65536 = (0 : Int32), True, True, True, True, True, ibd 6 3400, True, True, True, True, True, True]) (z' := (132, [some (.ref 65), some (.int (nI m)), some (.int (nI v)), some (.int (nI (pcB v))), some (.int (nI (pkB A v))), some (.int (nI i)), some (.int ((((((hI h 66 6 s).1 66 6) * 25173) + 13849) - ((((hI h 66 6 s).1 66 6) * 25173) + 13849) / 65536 * 65536) - (((((hI h 66 6 s).1 66 6) * 25173) + 13849) - ((((hI h 66 6 s).1 66 6) * 25173) + 13849) / 65536 * 65536) / (nI (pcB v)) * (nI (pcB v)))), some (.int 0)], [], (hI (hI h 66 6 s) 66 6 (((((hI h 66 6 s).1 66 6) * 25173) + 13849) - ((((hI h 66 6 s).1 66 6) * 25173) + 13849) / 65536 * 65536)))) rfl ⟨trivial, trivial, trivial, ?_, trivial, ?_, trivial, trivial, trivial, ?_, ?_, trivial, trivial, trivial, trivial, trivial, ?_, trivial, trivial, trivial, trivial, trivial, trivial, trivial⟩ ?_
        · exact fun z => b2 (by rw [z]; decide)
        · exact ⟨by decide, by decide⟩
        · exact ⟨by decide, by decide⟩
        · decide
        · exact ⟨by decide, by decide⟩
        have ix : i < m := Nat.lt_of_not_le (fun z => b1 ((tx_le (by omega) (by omega)).mpr z))
        have vp : 0 < pcB v := Nat.lt_of_not_le (fun z => b2 ((tx_le (b := 0) (by have := pcB_10 (v := v); omega) (by decide)).mpr z))
        obtain ⟨b, hb⟩ : ∃ b, b = nthF v 10 0 ((sdN s).toInt.toNat % pcB v) := ⟨_, rfl⟩
        obtain ⟨b10, vb⟩ := nth_in (v := v) (t := sdN s) vp
        rw [← hb] at b10 vb
        show X (132, [some (.ref 65), some (.int (nI m)), some (.int (nI v)), some (.int (nI (pcB v))), some (.int (nI (pkB A v))), some (.int (nI i)), some (.int (sdN ((hI h 66 6 s).1 66 6) - sdN ((hI h 66 6 s).1 66 6) / nI (pcB v) * nI (pcB v))), some (.int (nI 0))], [], hI (hI h 66 6 s) 66 6 (sdN ((hI h 66 6 s).1 66 6)))
        rw [hI_at, hI_hI, rem_nI (sd_b s0 s1).1 vp pcB_10]
        have lt := Nat.mod_lt (sdN s).toInt.toNat vp
        refine lp_whB (d := d + 2) hX hv (k := 10) (by omega) (by rw [cfB_pc]; exact lt) (by have := pcB_10 (v := v); omega) ?_
        rw [← hb]
        refine go hX 17 (gs := [True, True, True, True, True, True, True, True, True, True, True, True, True, True, True, True, True]) (z' := (82, [some (.ref 65), some (.int (nI m)), some (.int ((nI v) &&& ((1 <<< ((nI b) &&& 31)) ^^^ (-1)))), some (.int ((nI (pcB v)) + (-1))), some (.int ((nI (pkB A v)) ||| (1 <<< ((nI b) &&& 31)))), some (.int ((nI i) + 1)), some (.int (nI 0)), some (.int (nI b))], [], (hI h 66 6 (sdN s)))) rfl ⟨trivial, trivial, trivial, trivial, trivial, trivial, trivial, trivial, trivial, trivial, trivial, trivial, trivial, trivial, trivial, trivial, trivial, trivial⟩ ?_
        rw [clV v hv b b10, orV (pkB A v) (show pkB A v < 1024 from Nat.lt_of_le_of_lt Nat.and_le_left hA) b b10, tx_1, pkB_up hA hv b10 (sub _ vb)]
        have pe := pcB_cl b10 vb
        rw [show nI (pcB v) + (-1) = nI (pcB (v &&& (1023 - 2 ^ b))) by rw [pe]; exact nI_p1]
        rw [show m - i = (m - (i + 1)) + 1 by omega, srF_n vp hv, ← hb] at K
        exact ih (i + 1) (Nat.lt_succ_self i) (by omega) (sdN s) (v &&& (1023 - 2 ^ b)) _ _ (Or.inr ⟨_, _, rfl, rfl⟩) (sd_b s0 s1).1 (Int.le_of_lt_add_one (sd_b s0 s1).2) (cl_lt hv) (cl_sub sub) K
theorem c_searchB {d : Nat} {Q : Option Value → Hp → Prop} {h : Hp} {m A : Nat} {n : Nat} (n10 : n ≤ 10) (en : h.1 66 2 = nI n) {W : Nat → Bool} (hW : ∀ k, k < n → (¬ h.1 66 ((40 + (16 * nI k)) + 11) = 1 ↔ W k = true)) (hA : A = chB_ W n) (m0 : 1 ≤ nI m) (m1 : nI m ≤ 10) (m10 : m ≤ 10) (s0 : 0 ≤ (h.1 66 6).toInt) (s1 : (h.1 66 6).toInt ≤ 65535) (K : Q (some (.int (nI (pkB A (srF m (h.1 66 6) A).2)))) (hI h 66 6 (srF m (h.1 66 6) A).1)) : Call (d + 4) 250 [.ref 65, .int (nI m)] h Q := by
  have Al : A < 1024 := by rw [hA]; exact chB_lt n10
  refine call_of (rfl : psM[250]? = some _) rfl rfl (rcvV rfl) (fun X hX => ?_)
  show X (0, [some (.ref 65), some (.int (nI m)), none, none, none, none, none, none], [], h)
  refine go hX 4 (gs := [True, True, True, True]) (z' := (6, [some (.ref 65), some (.int (nI m)), none, none, none, none, none, none], [.long 10, .long 1, .long (Int32.toInt64 (nI m))], h)) rfl ⟨trivial, trivial, trivial, trivial, trivial⟩ ?_
  refine cl hX 159 3 [.long (Int32.toInt64 (nI m)), .long 1, .long 10] [] rfl rfl rfl rfl ?_
  refine c_isInP (fun bw => ?_) (fun bw => ?_)
  ·
    show X (9, [some (.ref 65), some (.int (nI m)), none, none, none, none, none, none], [.int 1], h)
    refine go hX 7 (gs := [True, True, True, True, True, True, True]) (z' := (22, [some (.ref 65), some (.int (nI m)), some (.int 0), some (.int 0), some (.int 0), none, none, none], [], h)) rfl ⟨trivial, trivial, trivial, trivial, trivial, trivial, trivial, trivial⟩ ?_
    have e0 : pcB (chB_ W 0) = 0 := by show pcB 0 = 0; decide
    suffices K2 : X (76, [some (.ref 65), some (.int (nI m)), some (.int (nI A)), some (.int (nI (pcB A))), some (.int (nI n)), none, none, none], [], h) from (by rw [hA] at K2; have L := lp_nfB (d := d + 1) hX (m := m) n10 en hW K2 (Nat.zero_le n); rw [e0] at L; exact L)
    refine go hX 4 (gs := [True, True, True, True]) (z' := (82, [some (.ref 65), some (.int (nI m)), some (.int (nI A)), some (.int (nI (pcB A))), some (.int 0), some (.int 0), none, none], [], h)) rfl ⟨trivial, trivial, trivial, trivial, trivial⟩ ?_
    have L := lp_searchB (d := d + 1) hX (h := h) m10 Al (Nat.zero_le m) (h.1 66 6) A none none (Or.inl ⟨rfl, rfl⟩) s0 s1 Al (fun _ q => q) K
    rw [hI_id, pkB_n Al] at L
    exact L
  ·
    show X (9, [some (.ref 65), some (.int (nI m)), none, none, none, none, none, none], [.int 0], h)
    refine go hX 2 (gs := [True, True]) (z' := (14, [some (.ref 65), some (.int (nI m)), none, none, none, none, none, none], [.int (-1000000001)], h)) rfl ⟨trivial, trivial, trivial⟩ ?_
    refine rt_ hX (G := True) (r := some (.int (-1000000001))) rfl trivial ?_
    exact absurd ((i64_bd (lo := 1) (hi := 10) rfl rfl).mpr ⟨m0, m1⟩) bw
theorem c_searchA0 {d : Nat} {Q : Option Value → Hp → Prop} {h : Hp} {m : Int32} (hm : ¬ (1 ≤ m ∧ m ≤ 10)) (K : Q (some (.int (-1000000001))) h) : Call (d + 4) 144 [.ref 0, .int m] h Q := by
  refine call_of (rfl : psM[144]? = some _) rfl rfl (rcvV rfl) (fun X hX => ?_)
  show X (0, [some (.ref 0), some (.int m), none, none, none], [], h)
  refine go hX 3 (gs := [True, True, True]) (z' := (4, [some (.ref 0), some (.int m), none, none, none], [.int 10, .int 1, .int m], h)) rfl ⟨trivial, trivial, trivial, trivial⟩ ?_
  refine cl hX 156 3 [.int m, .int 1, .int 10] [] rfl rfl rfl rfl ?_
  refine c_within (fun bw => ?_) (fun bw => ?_)
  ·
    show X (7, [some (.ref 0), some (.int m), none, none, none], [.int 1], h)
    refine go hX 1 (gs := [True]) (z' := (13, [some (.ref 0), some (.int m), none, none, none], [], h)) rfl ⟨trivial, trivial⟩ ?_
    exact absurd bw hm
  ·
    show X (7, [some (.ref 0), some (.int m), none, none, none], [.int 0], h)
    refine go hX 2 (gs := [True, True]) (z' := (12, [some (.ref 0), some (.int m), none, none, none], [.int (-1000000001)], h)) rfl ⟨trivial, trivial, trivial⟩ ?_
    refine rt_ hX (G := True) (r := some (.int (-1000000001))) rfl trivial ?_
    exact K
theorem c_searchB0 {d : Nat} {Q : Option Value → Hp → Prop} {h : Hp} {m : Int32} (hm : ¬ (1 ≤ m ∧ m ≤ 10)) (K : Q (some (.int (-1000000001))) h) : Call (d + 4) 250 [.ref 65, .int m] h Q := by
  refine call_of (rfl : psM[250]? = some _) rfl rfl (rcvV rfl) (fun X hX => ?_)
  show X (0, [some (.ref 65), some (.int m), none, none, none, none, none, none], [], h)
  refine go hX 4 (gs := [True, True, True, True]) (z' := (6, [some (.ref 65), some (.int m), none, none, none, none, none, none], [.long 10, .long 1, .long (Int32.toInt64 m)], h)) rfl ⟨trivial, trivial, trivial, trivial, trivial⟩ ?_
  refine cl hX 159 3 [.long (Int32.toInt64 m), .long 1, .long 10] [] rfl rfl rfl rfl ?_
  refine c_isInP (fun bw => ?_) (fun bw => ?_)
  ·
    show X (9, [some (.ref 65), some (.int m), none, none, none, none, none, none], [.int 1], h)
    refine go hX 1 (gs := [True]) (z' := (15, [some (.ref 65), some (.int m), none, none, none, none, none, none], [], h)) rfl ⟨trivial, trivial⟩ ?_
    exact absurd ((i64_bd (lo := 1) (hi := 10) rfl rfl).mp bw) hm
  ·
    show X (9, [some (.ref 65), some (.int m), none, none, none, none, none, none], [.int 0], h)
    refine go hX 2 (gs := [True, True]) (z' := (14, [some (.ref 65), some (.int m), none, none, none, none, none, none], [.int (-1000000001)], h)) rfl ⟨trivial, trivial, trivial⟩ ?_
    refine rt_ hX (G := True) (r := some (.int (-1000000001))) rfl trivial ?_
    exact K
theorem srF_b : ∀ {k : Nat} {s : Int32} {v : Nat}, 0 ≤ s.toInt → s.toInt ≤ 65535 → 0 ≤ (srF k s v).1.toInt ∧ (srF k s v).1.toInt ≤ 65535
  | 0, s, v, a, b => ⟨a, b⟩
  | k + 1, s, v, a, b => by
    unfold srF
    split
    · exact ⟨a, b⟩
    · exact srF_b (sd_b a b).1 (Int.le_of_lt_add_one (sd_b a b).2)
/-! By hand: searches are drawn alike. -/
set_option maxHeartbeats 4000000 in
set_option maxRecDepth 100000 in
theorem okP43 : PmOK rgT pm43 := by
  intro d hd ρ as bs h hlen hin hb hc hf hR
  have hd : 4 ≤ d := hd
  have hlen : as.length = 2 := hlen
  generalize hL : as ++ bs = L at hin
  have hin0 := hin
  obtain ⟨v0, s0, rfl, hin⟩ := hin
  rw [if_pos rfl] at hin
  obtain ⟨rfl, -, hin⟩ := hin
  obtain ⟨v1, s1, rfl, hin⟩ := hin
  rw [if_neg (by decide), if_pos rfl] at hin
  obtain ⟨g0, ⟨a0, rfl, e0⟩, hin⟩ := hin
  obtain ⟨v2, s2, rfl, hin⟩ := hin
  rw [if_pos rfl] at hin
  obtain ⟨rfl, -, hin⟩ := hin
  obtain ⟨v3, s3, rfl, hin⟩ := hin
  rw [if_neg (by decide), if_pos rfl] at hin
  obtain ⟨g1, ⟨b1, rfl, e1⟩, hin⟩ := hin
  cases hin
  obtain ⟨rfl, rfl⟩ := List.append_inj (show as ++ bs = [Value.ref 0, .int a0] ++ [Value.ref 65, .int b1] from hL) hlen
  have f0 : (0 : Int) ≤ 0 + (1 * ρ 0 + (-1 * ρ 1 + 0)) := hf _ (List.mem_of_getElem? (i := 0) rfl)
  have f1 : (0 : Int) ≤ 0 + (-1 * ρ 0 + (1 * ρ 1 + 0)) := hf _ (List.mem_of_getElem? (i := 1) rfl)
  have f2 : (0 : Int) ≤ 0 + (1 * ρ 2 + (-1 * ρ 3 + 0)) := hf _ (List.mem_of_getElem? (i := 2) rfl)
  have f3 : (0 : Int) ≤ 0 + (-1 * ρ 2 + (1 * ρ 3 + 0)) := hf _ (List.mem_of_getElem? (i := 3) rfl)
  have f4 : (0 : Int) ≤ 0 + (1 * ρ 4 + (-1 * ρ 5 + 0)) := hf _ (List.mem_of_getElem? (i := 4) rfl)
  have f5 : (0 : Int) ≤ 0 + (-1 * ρ 4 + (1 * ρ 5 + 0)) := hf _ (List.mem_of_getElem? (i := 5) rfl)
  have e0 : ρ 0 = a0.toInt := e0
  have e1 : ρ 1 = b1.toInt := e1
  obtain rfl : a0 = b1 := Int32.toInt_inj.mp (by omega)
  have g0 : (-2147483648 : Int) ≤ ρ 0 ∧ ρ 0 ≤ 2147483647 := g0
  have g1 : (-2147483648 : Int) ≤ ρ 1 ∧ ρ 1 ≤ 2147483647 := g1
  have r2 : (0 : Int) ≤ ρ 2 ∧ ρ 2 ≤ 10 := hb (2, 0, 10) (List.mem_of_getElem? (i := 0) rfl)
  have c2 : ρ 2 = (h.1 4 2).toInt := hc_i (hc (0, 4, (2, []), leX 2) (List.mem_of_getElem? (i := 0) rfl)) rfl
  have r3 : (0 : Int) ≤ ρ 3 ∧ ρ 3 ≤ 10 := hb (3, 0, 10) (List.mem_of_getElem? (i := 1) rfl)
  have c3 : ρ 3 = (h.1 66 2).toInt := hc_i (hc (0, 66, (2, []), leX 3) (List.mem_of_getElem? (i := 1) rfl)) rfl
  have r4 : (0 : Int) ≤ ρ 4 ∧ ρ 4 ≤ 65535 := hb (4, 0, 65535) (List.mem_of_getElem? (i := 2) rfl)
  have c4 : ρ 4 = (h.1 1 6).toInt := hc_i (hc (0, 1, (6, []), leX 4) (List.mem_of_getElem? (i := 2) rfl)) rfl
  have r5 : (0 : Int) ≤ ρ 5 ∧ ρ 5 ≤ 65535 := hb (5, 0, 65535) (List.mem_of_getElem? (i := 3) rfl)
  have c5 : ρ 5 = (h.1 66 6).toInt := hc_i (hc (0, 66, (6, []), leX 5) (List.mem_of_getElem? (i := 3) rfl)) rfl
  have r6 : (0 : Int) ≤ ρ 6 ∧ ρ 6 ≤ 0 := hb (6, 0, 0) (List.mem_of_getElem? (i := 4) rfl)
  have c6 : KC h 9 288 0 (ρ 6) := kc_at (hc (9, 288, (0, []), leX 6) (List.mem_of_getElem? (i := 4) rfl))
  have M0 := hand_M (rg := rgT) (s := pm43.2.2.1) (h := h) (ρ := ρ) (by decide +kernel) (by decide +kernel) hin0 hb hc hf hR
  obtain ⟨d', rfl⟩ : ∃ d', d = d' + 4 := ⟨d - 4, by omega⟩
  obtain ⟨n, hn⟩ : ∃ n : Nat, (n : Int) = ρ 2 := ⟨(ρ 2).toNat, Int.toNat_of_nonneg r2.1⟩
  have n10 : n ≤ 10 := cnt_le (m := 10) hn r2.2
  have en : h.1 4 2 = nI n := cnt_n hn c2
  have en2 : h.1 66 2 = nI n := cnt_n (hn.trans (eqI f2 f3)) c3
  have R288 : RLO h 288 0 0 := by have q := c6; rw [show ρ 6 = 0 from Int.le_antisymm r6.2 r6.1] at q; exact q
  have es : h.1 66 6 = h.1 1 6 := Int32.toInt_inj.mp (c5.symm.trans ((eqI f4 f5).symm.trans c4))
  have s0 : 0 ≤ (h.1 1 6).toInt := c4 ▸ r4.1
  have s1 : (h.1 1 6).toInt ≤ 65535 := c4 ▸ r4.2
  have ssA : sS true [Value.ref 0, .int a0] := List.forall_mem_cons.mpr ⟨fun _ => rfl, List.forall_mem_cons.mpr ⟨trivial, fun _ h => absurd h List.not_mem_nil⟩⟩
  have ssB : sS false [Value.ref 65, .int a0] := List.forall_mem_cons.mpr ⟨fun _ => rfl, List.forall_mem_cons.mpr ⟨trivial, fun _ h => absurd h List.not_mem_nil⟩⟩
  have c1 : (1 : Int32).toInt = 1 := rfl
  have c10 : (10 : Int32).toInt = 10 := rfl
  by_cases hv : 1 ≤ a0 ∧ a0 ≤ 10
  case neg =>
    refine pm_mk (p := pm43) (rA := some (.int (-1000000001))) (hA := h) (rB := some (.int (-1000000001))) (hB := h) (fun Q q => c_searchA0 hv q) (fun Q q => c_searchB0 hv q) ssA ssB ?_
    rw [mx_self]
    exact hand_post M0 Ag.rf (Nat.le_refl _) (hand_r (e := leC (-1000000001)) ⟨leS_C, leV_C _ _⟩) (hand_r (e := leC (-1000000001)) ⟨leS_C, leV_C _ _⟩) (by decide +kernel)
  have hx : 1 ≤ a0.toInt ∧ a0.toInt ≤ 10 := ⟨by have := hv.1; rw [Int32.le_iff_toInt_le, c1] at this; exact this, by have := hv.2; rw [Int32.le_iff_toInt_le, c10] at this; exact this⟩
  obtain ⟨m, hm, rfl⟩ : ∃ m : Nat, (m : Int) = a0.toInt ∧ a0 = nI m := ⟨a0.toInt.toNat, by omega, i_nI (by omega)⟩
  have m10 : m ≤ 10 := by omega
  obtain ⟨W, hW⟩ : ∃ W : Nat → Bool, W = fun k => !decide (h.1 66 (nI (51 + 16 * k)) = 1) := ⟨_, rfl⟩
  have hWB : ∀ k, k < n → (¬ h.1 66 ((40 + (16 * nI k)) + 11) = 1 ↔ W k = true) := fun k hk => by
    rw [show ((40 : Int32) + (16 * nI k)) + 11 = nI (51 + 16 * k) from ixH (f := 11) (by omega) (by decide), hW]
    simp
  have hWA : ∀ k, k < n → (¬ h.1 5 ((nI k * 14) + 11) = 1 ↔ W k = true) := fun k hk => by
    have q : h.1 5 (nI (11 + 14 * k)) = h.1 66 (nI (51 + 16 * k)) := rowE (o1 := 5) (o2 := 66) (b1 := 11) (b2 := 51) (s1 := 14) (s2 := 16) (n := 10) R288 (Int.le_refl 0) rfl (by decide) (by decide) (show k < 10 by omega)
    rw [show (nI k * 14) + 11 = nI (11 + 14 * k) from ixA (f := 11) (by omega) (by decide), q, hW]
    simp
  obtain ⟨A, hA⟩ : ∃ A, A = chB_ W n := ⟨_, rfl⟩
  obtain ⟨v, hv'⟩ : ∃ v, v = srF m (h.1 1 6) A := ⟨_, rfl⟩
  have cA : CRun (d' + 4) 144 [.ref 0, .int (nI m)] h (some (.int (nI (pkB A v.2)))) (hI h 1 6 v.1) := fun Q q => c_searchA n10 en hWA hA hv.1 hv.2 m10 s0 s1 (by rw [← hv']; exact q)
  have cB : CRun (d' + 4) 250 [.ref 65, .int (nI m)] h (some (.int (nI (pkB A v.2)))) (hI h 66 6 v.1) := fun Q q => c_searchB n10 en2 hWB hA hv.1 hv.2 m10 (by rw [es]; exact s0) (by rw [es]; exact s1) (by rw [es, ← hv']; exact q)
  have vb : 0 ≤ v.1.toInt ∧ v.1.toInt ≤ 65535 := by rw [hv']; exact srF_b s0 s1
  refine pm_mk (p := pm43) cA cB ssA ssB ?_
  have eH : mxH true (hI h 1 6 v.1) (hI h 66 6 v.1) = hI (hI h 1 6 v.1) 66 6 v.1 := by
    rw [mx_wB (by decide), ← (cA.off ssA).1]
  rw [eH]
  have M2 := M0.nw (x := v.1.toInt) (l := 0) (u := 65535) vb.1 vb.2
  have n22 : (cnS pm43.2.2.1).1 = 7 := by decide +kernel
  obtain ⟨ρ', hρ⟩ : ∃ ρ', ρ' = updS ρ 7 v.1.toInt := ⟨_, rfl⟩
  have M2 : Mo rgT pm43.2.2.1.2.2.2.2.2.1 h ρ' (nwS (cnS pm43.2.2.1) 0 65535) h := by rw [hρ]; exact M2
  have qG : ρ' 7 = v.1.toInt := by rw [hρ, updS_at]
  have ag : Ag ρ ρ' 7 := fun k hk => by rw [hρ, updS_lt hk]
  have M3 := (M2.wr (o := 1) (i := leC 6) (e := leX 7) (j := 6) (v := v.1) ⟨leS_C, leV_C _ _⟩ ⟨leS_X (by decide +kernel), by rw [leV_X, qG]⟩ (by decide +kernel)).1
  have M4 := (M3.wr (o := 66) (i := leC 6) (e := leX 7) (j := 6) (v := v.1) ⟨leS_C, leV_C _ _⟩ ⟨leS_X (by decide +kernel), by rw [leV_X, qG]⟩ (by decide +kernel)).1
  have M8 := M4.nw (x := (nI (pkB A v.2)).toInt) (l := -2147483648) (u := 2147483647) (i32b _).1 (i32b _).2
  refine hand_post (r := some (0, leX 8)) (r' := some (0, leX 8)) M8 (ag.tr (upd_ag (n := 8)) (by decide)) (by decide +kernel) (hand_r ⟨leS_X (by decide +kernel), ?_⟩) (hand_r ⟨leS_X (by decide +kernel), ?_⟩) (by decide +kernel)
  · rw [leV_X]
    unfold updS
    rw [if_pos (by decide +kernel)]
  · rw [leV_X]
    unfold updS
    rw [if_pos (by decide +kernel)]
