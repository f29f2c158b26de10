/-! By hand: check. -/
/-- the sum of the first k -/
noncomputable def ckS (f : Nat → Int32) : Nat → Int32
  | 0 => 0
  | k + 1 => ckS f k + f k
theorem ckS_ext {f g : Nat → Int32} : ∀ {n : Nat}, (∀ k, k < n → f k = g k) → ckS f n = ckS g n
  | 0, _ => rfl
  | n + 1, e => by
    show ckS f n + f n = ckS g n + g n
    rw [ckS_ext (fun k hk => e k (by omega)), e n (by omega)]
/-- what check answers when the first k0 places are as told: m are told, N asked for -/
noncomputable def ckA (k0 m N : Nat) : Int32 := if k0 = m ∧ k0 = N then 0 else nI (1 + k0)
theorem ckA_1 {k0 m N : Nat} (h : k0 < N) : ckA k0 m N = nI (1 + k0) := if_neg (fun z => by omega)
theorem ckA_m {k0 m N : Nat} (h : ¬ k0 = m) : ckA k0 m N = nI (1 + k0) := if_neg (fun z => h z.1)
theorem ckA_0 {k0 m N : Nat} (h : k0 = m) (g : k0 = N) : ckA k0 m N = 0 := if_pos ⟨h, g⟩
theorem ck_2 {k : Nat} : (2 : Int32) * nI k = nI (2 * k) := (Int32.ofNat_mul 2 k).symm
theorem ck_1 {k : Nat} : (1 : Int32) + nI k = nI (1 + k) := nI_add 1 k
theorem ck_p {k : Nat} : nI k + (1 : Int32) = nI (k + 1) := nI_add k 1
theorem ck_p2 {k : Nat} : (2 : Int32) + nI k = nI (2 + k) := nI_add 2 k
theorem ck_w {h : Hp} {o : Nat} {j v w : Int32} : hI (hI h o j v) o j w = hI h o j w := mx_ext (fun a b => by
  show (if a = o ∧ b = j then w else if a = o ∧ b = j then v else h.1 a b) = if a = o ∧ b = j then w else h.1 a b
  split <;> rfl) (fun a b => rfl) rfl
theorem ck_w3 {h : Hp} {o : Nat} {i j u v w : Int32} (n : i ≠ j) : hI (hI (hI h o i u) o j v) o i w = hI (hI h o i w) o j v := mx_ext (fun a b => by
  show (if a = o ∧ b = i then w else if a = o ∧ b = j then v else if a = o ∧ b = i then u else h.1 a b) = if a = o ∧ b = j then v else if a = o ∧ b = i then w else h.1 a b
  by_cases e : a = o ∧ b = i
  · rw [if_pos e, if_neg (fun z => n (e.2.symm.trans z.2)), if_pos e]
  · rw [if_neg e, if_neg e]
    split <;> rfl) (fun a b => rfl) rfl
theorem ck_ne {a b : Nat} (ha : a < 2147483648) (hb : b < 2147483648) (n : a ≠ b) : nI a ≠ nI b := fun z => n (by
  have := congrArg Int32.toInt z
  rw [nI_i ha, nI_i hb] at this
  omega)
theorem ck_gH {d : Nat} {Q : Option Value → Hp → Prop} {h : Hp} {x : Int32} (x0 : 0 ≤ x) (x1 : x < h.1 26 2) (xm : h.1 26 2 ≤ 10) (k : Q (some (.int (h.1 27 ((x * 14) + 10)))) h) : Call (d + 1) 94 [.ref 26, .int x, .int 10] h Q := by
  refine call_of (rfl : psM[94]? = some _) rfl rfl (rcvV rfl) (fun X hX => ?_)
  show X (0, [some (.ref 26), some (.int x), some (.int 10)], [], h)
  refine go hX 2 (gs := [True, True]) (z' := (if x < 0 then 24 else 4, [some (.ref 26), some (.int x), some (.int 10)], [], h)) rfl ⟨trivial, trivial, trivial⟩ ?_
  refine br (fun b1 => ?_) (fun b1 => ?_)
  ·
    refine go hX 1 (gs := [True]) (z' := (25, [some (.ref 26), some (.int x), some (.int 10)], [.int 0], h)) rfl ⟨trivial, trivial⟩ ?_
    refine rt_ hX (G := True) (r := some (.int 0)) rfl trivial ?_
    exfalso; grind
  ·
    refine go hX 4 (gs := [True, True, True, True]) (z' := (if (h.1 26 2) ≤ x then 24 else 12, [some (.ref 26), some (.int x), some (.int 10)], [], h)) rfl ⟨trivial, trivial, trivial, trivial, trivial⟩ ?_
    refine br (fun b2 => ?_) (fun b2 => ?_)
    ·
      refine go hX 1 (gs := [True]) (z' := (25, [some (.ref 26), some (.int x), some (.int 10)], [.int 0], h)) rfl ⟨trivial, trivial⟩ ?_
      refine rt_ hX (G := True) (r := some (.int 0)) rfl trivial ?_
      exfalso; grind
    ·
      refine go hX 15 (gs := [ibd ((x * 14) + 10) 140, True, True, True, True, True, True, True, True, True, True, True, True, True, True]) (z' := (39, [some (.ref 26), some (.int x), some (.int 10)], [.int (h.1 27 ((x * 14) + 10))], h)) rfl ⟨?_, trivial, trivial, trivial, trivial, trivial, trivial, trivial, trivial, trivial, trivial, trivial, trivial, trivial, trivial, trivial⟩ ?_
      · exact ibd_of (B := 140) rfl (by grind) (by grind)
      refine rt_ hX (G := True) (r := some (.int (h.1 27 ((x * 14) + 10)))) rfl trivial ?_
      exact k
theorem ck_gK {d : Nat} {Q : Option Value → Hp → Prop} {h : Hp} {x : Int32} (x0 : 0 ≤ x) (x1 : x < h.1 24 2) (xm : h.1 24 2 ≤ 3) (k : Q (some (.int (h.1 25 ((x * 8) + 6)))) h) : Call (d + 1) 94 [.ref 24, .int x, .int 6] h Q := by
  refine call_of (rfl : psM[94]? = some _) rfl rfl (rcvV rfl) (fun X hX => ?_)
  show X (0, [some (.ref 24), some (.int x), some (.int 6)], [], h)
  refine go hX 2 (gs := [True, True]) (z' := (if x < 0 then 24 else 4, [some (.ref 24), some (.int x), some (.int 6)], [], h)) rfl ⟨trivial, trivial, trivial⟩ ?_
  refine br (fun b1 => ?_) (fun b1 => ?_)
  ·
    refine go hX 1 (gs := [True]) (z' := (25, [some (.ref 24), some (.int x), some (.int 6)], [.int 0], h)) rfl ⟨trivial, trivial⟩ ?_
    refine rt_ hX (G := True) (r := some (.int 0)) rfl trivial ?_
    exfalso; grind
  ·
    refine go hX 4 (gs := [True, True, True, True]) (z' := (if (h.1 24 2) ≤ x then 24 else 12, [some (.ref 24), some (.int x), some (.int 6)], [], h)) rfl ⟨trivial, trivial, trivial, trivial, trivial⟩ ?_
    refine br (fun b2 => ?_) (fun b2 => ?_)
    ·
      refine go hX 1 (gs := [True]) (z' := (25, [some (.ref 24), some (.int x), some (.int 6)], [.int 0], h)) rfl ⟨trivial, trivial⟩ ?_
      refine rt_ hX (G := True) (r := some (.int 0)) rfl trivial ?_
      exfalso; grind
    ·
      refine go hX 15 (gs := [ibd ((x * 8) + 6) 24, True, True, True, True, True, True, True, True, True, True, True, True, True, True]) (z' := (39, [some (.ref 24), some (.int x), some (.int 6)], [.int (h.1 25 ((x * 8) + 6))], h)) rfl ⟨?_, trivial, trivial, trivial, trivial, trivial, trivial, trivial, trivial, trivial, trivial, trivial, trivial, trivial, trivial, trivial⟩ ?_
      · exact ibd_of (B := 24) rfl (by grind) (by grind)
      refine rt_ hX (G := True) (r := some (.int (h.1 25 ((x * 8) + 6)))) rfl trivial ?_
      exact k
theorem ck_rH {d : Nat} {Q : Option Value → Hp → Prop} {h : Hp} (k : Q (some (.int (h.1 26 2))) h) : Call (d + 1) 91 [.ref 26] h Q := by
  refine call_of (rfl : psM[91]? = some _) rfl rfl (rcvV rfl) (fun X hX => ?_)
  show X (0, [some (.ref 26)], [], h)
  refine go hX 2 (gs := [True, True]) (z' := (4, [some (.ref 26)], [.int (h.1 26 2)], h)) rfl ⟨trivial, trivial, trivial⟩ ?_
  refine rt_ hX (G := True) (r := some (.int (h.1 26 2))) rfl trivial ?_
  exact k
theorem ck_rK {d : Nat} {Q : Option Value → Hp → Prop} {h : Hp} (k : Q (some (.int (h.1 24 2))) h) : Call (d + 1) 91 [.ref 24] h Q := by
  refine call_of (rfl : psM[91]? = some _) rfl rfl (rcvV rfl) (fun X hX => ?_)
  show X (0, [some (.ref 24)], [], h)
  refine go hX 2 (gs := [True, True]) (z' := (4, [some (.ref 24)], [.int (h.1 24 2)], h)) rfl ⟨trivial, trivial, trivial⟩ ?_
  refine rt_ hX (G := True) (r := some (.int (h.1 24 2))) rfl trivial ?_
  exact k
theorem lp_ckE {d : Nat} {Q : Option Value → Hp → Prop} {X : Cf → Prop} (hX : Clo (Call (d + 1)) cd89 (some .int) Q X) {h : Hp} {n : Nat} (nm : n ≤ 10) (en : h.1 26 2 = nI n) (K : Q (some (.int (ckS (fun k => h.1 27 ((nI k * 14) + 10)) n))) h) {k : Nat} (hk : k ≤ n) : X (4, [some (.ref 23), some (.int (ckS (fun k => h.1 27 ((nI k * 14) + 10)) k)), some (.int (nI k))], [], h) := by
  refine dn_ind (P := fun k => X (4, [some (.ref 23), some (.int (ckS (fun k => h.1 27 ((nI k * 14) + 10)) k)), some (.int (nI k))], [], h)) (fun k hk ih => ?_) hk
  refine go hX 3 (gs := [True, True, True]) (z' := (9, [some (.ref 23), some (.int (ckS (fun k => h.1 27 ((nI k * 14) + 10)) k)), some (.int (nI k))], [.ref 26, .int (nI k)], h)) rfl ⟨trivial, trivial, trivial, trivial⟩ ?_
  refine cl hX 91 1 [.ref 26] [.int (nI k)] rfl rfl rfl rfl ?_
  refine ck_rH ?_
  show X (12, [some (.ref 23), some (.int (ckS (fun k => h.1 27 ((nI k * 14) + 10)) k)), some (.int (nI k))], [.int (h.1 26 2), .int (nI k)], h)
  refine go hX 1 (gs := [True]) (z' := (if (h.1 26 2) ≤ (nI k) then 34 else 15, [some (.ref 23), some (.int (ckS (fun k => h.1 27 ((nI k * 14) + 10)) k)), some (.int (nI k))], [], h)) rfl ⟨trivial, trivial⟩ ?_
  refine br (fun b1 => ?_) (fun b1 => ?_)
  ·
    refine go hX 1 (gs := [True]) (z' := (35, [some (.ref 23), some (.int (ckS (fun k => h.1 27 ((nI k * 14) + 10)) k)), some (.int (nI k))], [.int (ckS (fun k => h.1 27 ((nI k * 14) + 10)) k)], h)) rfl ⟨trivial, trivial⟩ ?_
    refine rt_ hX (G := True) (r := some (.int (ckS (fun k => h.1 27 ((nI k * 14) + 10)) k))) rfl trivial ?_
    have e : k = n := Nat.le_antisymm hk ((tx_le (by omega) (by omega)).mp (by rw [← en]; exact b1))
    subst e
    exact K
  ·
    have kx : k < n := Nat.lt_of_not_le (fun z => b1 (by rw [en]; exact (tx_le (by omega) (by omega)).mpr z))
    refine go hX 5 (gs := [True, True, True, True, True]) (z' := (23, [some (.ref 23), some (.int (ckS (fun k => h.1 27 ((nI k * 14) + 10)) k)), some (.int (nI k))], [.int 10, .int (nI k), .ref 26, .int (ckS (fun k => h.1 27 ((nI k * 14) + 10)) k)], h)) rfl ⟨trivial, trivial, trivial, trivial, trivial, trivial⟩ ?_
    refine cl hX 94 3 [.ref 26, .int (nI k), .int 10] [.int (ckS (fun k => h.1 27 ((nI k * 14) + 10)) k)] rfl rfl rfl rfl ?_
    refine ck_gH (tx_0 k (by omega)) (by rw [en]; exact (tx_lt (by omega) (by omega)).mpr kx) (by rw [en]; exact (tx_le (b := 10) (by omega) (by decide)).mpr nm) ?_
    show X (26, [some (.ref 23), some (.int (ckS (fun k => h.1 27 ((nI k * 14) + 10)) k)), some (.int (nI k))], [.int (h.1 27 ((nI k * 14) + 10)), .int (ckS (fun k => h.1 27 ((nI k * 14) + 10)) k)], h)
    refine go hX 4 (gs := [True, True, True, True]) (z' := (4, [some (.ref 23), some (.int ((ckS (fun k => h.1 27 ((nI k * 14) + 10)) k) + (h.1 27 ((nI k * 14) + 10)))), some (.int ((nI k) + 1))], [], h)) rfl ⟨trivial, trivial, trivial, trivial, trivial⟩ ?_
    rw [tx_1]
    exact ih (k + 1) (Nat.lt_succ_self k) (by omega)
theorem ck_sE {d : Nat} {Q : Option Value → Hp → Prop} {h : Hp} {n : Nat} (nm : n ≤ 10) (en : h.1 26 2 = nI n) (K : Q (some (.int (ckS (fun k => h.1 27 ((nI k * 14) + 10)) n))) h) : Call (d + 2) 89 [.ref 23] h Q := by
  refine call_of (rfl : psM[89]? = some _) rfl rfl (rcvV rfl) (fun X hX => ?_)
  show X (0, [some (.ref 23), none, none], [], h)
  refine go hX 4 (gs := [True, True, True, True]) (z' := (4, [some (.ref 23), some (.int 0), some (.int 0)], [], h)) rfl ⟨trivial, trivial, trivial, trivial, trivial⟩ ?_
  exact lp_ckE hX nm en K (Nat.zero_le n)
theorem lp_ckM {d : Nat} {Q : Option Value → Hp → Prop} {X : Cf → Prop} (hX : Clo (Call (d + 1)) cd90 (some .int) Q X) {h : Hp} {n : Nat} (nm : n ≤ 3) (en : h.1 24 2 = nI n) (K : Q (some (.int (ckS (fun k => h.1 25 ((nI k * 8) + 6)) n))) h) {k : Nat} (hk : k ≤ n) : X (4, [some (.ref 23), some (.int (ckS (fun k => h.1 25 ((nI k * 8) + 6)) k)), some (.int (nI k))], [], h) := by
  refine dn_ind (P := fun k => X (4, [some (.ref 23), some (.int (ckS (fun k => h.1 25 ((nI k * 8) + 6)) k)), some (.int (nI k))], [], h)) (fun k hk ih => ?_) hk
  refine go hX 3 (gs := [True, True, True]) (z' := (9, [some (.ref 23), some (.int (ckS (fun k => h.1 25 ((nI k * 8) + 6)) k)), some (.int (nI k))], [.ref 24, .int (nI k)], h)) rfl ⟨trivial, trivial, trivial, trivial⟩ ?_
  refine cl hX 91 1 [.ref 24] [.int (nI k)] rfl rfl rfl rfl ?_
  refine ck_rK ?_
  show X (12, [some (.ref 23), some (.int (ckS (fun k => h.1 25 ((nI k * 8) + 6)) k)), some (.int (nI k))], [.int (h.1 24 2), .int (nI k)], h)
  refine go hX 1 (gs := [True]) (z' := (if (h.1 24 2) ≤ (nI k) then 34 else 15, [some (.ref 23), some (.int (ckS (fun k => h.1 25 ((nI k * 8) + 6)) k)), some (.int (nI k))], [], h)) rfl ⟨trivial, trivial⟩ ?_
  refine br (fun b1 => ?_) (fun b1 => ?_)
  ·
    refine go hX 1 (gs := [True]) (z' := (35, [some (.ref 23), some (.int (ckS (fun k => h.1 25 ((nI k * 8) + 6)) k)), some (.int (nI k))], [.int (ckS (fun k => h.1 25 ((nI k * 8) + 6)) k)], h)) rfl ⟨trivial, trivial⟩ ?_
    refine rt_ hX (G := True) (r := some (.int (ckS (fun k => h.1 25 ((nI k * 8) + 6)) k))) rfl trivial ?_
    have e : k = n := Nat.le_antisymm hk ((tx_le (by omega) (by omega)).mp (by rw [← en]; exact b1))
    subst e
    exact K
  ·
    have kx : k < n := Nat.lt_of_not_le (fun z => b1 (by rw [en]; exact (tx_le (by omega) (by omega)).mpr z))
    refine go hX 5 (gs := [True, True, True, True, True]) (z' := (23, [some (.ref 23), some (.int (ckS (fun k => h.1 25 ((nI k * 8) + 6)) k)), some (.int (nI k))], [.int 6, .int (nI k), .ref 24, .int (ckS (fun k => h.1 25 ((nI k * 8) + 6)) k)], h)) rfl ⟨trivial, trivial, trivial, trivial, trivial, trivial⟩ ?_
    refine cl hX 94 3 [.ref 24, .int (nI k), .int 6] [.int (ckS (fun k => h.1 25 ((nI k * 8) + 6)) k)] rfl rfl rfl rfl ?_
    refine ck_gK (tx_0 k (by omega)) (by rw [en]; exact (tx_lt (by omega) (by omega)).mpr kx) (by rw [en]; exact (tx_le (b := 3) (by omega) (by decide)).mpr nm) ?_
    show X (26, [some (.ref 23), some (.int (ckS (fun k => h.1 25 ((nI k * 8) + 6)) k)), some (.int (nI k))], [.int (h.1 25 ((nI k * 8) + 6)), .int (ckS (fun k => h.1 25 ((nI k * 8) + 6)) k)], h)
    refine go hX 4 (gs := [True, True, True, True]) (z' := (4, [some (.ref 23), some (.int ((ckS (fun k => h.1 25 ((nI k * 8) + 6)) k) + (h.1 25 ((nI k * 8) + 6)))), some (.int ((nI k) + 1))], [], h)) rfl ⟨trivial, trivial, trivial, trivial, trivial⟩ ?_
    rw [tx_1]
    exact ih (k + 1) (Nat.lt_succ_self k) (by omega)
theorem ck_sM {d : Nat} {Q : Option Value → Hp → Prop} {h : Hp} {n : Nat} (nm : n ≤ 3) (en : h.1 24 2 = nI n) (K : Q (some (.int (ckS (fun k => h.1 25 ((nI k * 8) + 6)) n))) h) : Call (d + 2) 90 [.ref 23] h Q := by
  refine call_of (rfl : psM[90]? = some _) rfl rfl (rcvV rfl) (fun X hX => ?_)
  show X (0, [some (.ref 23), none, none], [], h)
  refine go hX 4 (gs := [True, True, True, True]) (z' := (4, [some (.ref 23), some (.int 0), some (.int 0)], [], h)) rfl ⟨trivial, trivial, trivial, trivial, trivial⟩ ?_
  exact lp_ckM hX nm en K (Nat.zero_le n)
theorem ck_in {d : Nat} {Q : Option Value → Hp → Prop} {h : Hp} {v lo hi : Int32} (k1 : lo ≤ v ∧ v ≤ hi → Q (some (.int 1)) h) (k0 : ¬ (lo ≤ v ∧ v ≤ hi) → Q (some (.int 0)) h) : Call (d + 1) 156 [.int v, .int lo, .int hi] h Q := by
  refine call_of (rfl : psM[156]? = some _) rfl rfl (rcvS rfl) (fun X hX => ?_)
  show X (0, [some (.int v), some (.int lo), some (.int hi)], [], h)
  refine go hX 3 (gs := [True, True, True]) (z' := (if v < lo then 14 else 5, [some (.int v), some (.int lo), some (.int hi)], [], h)) rfl ⟨trivial, trivial, trivial, trivial⟩ ?_
  refine br (fun b1 => ?_) (fun b1 => ?_)
  ·
    refine go hX 1 (gs := [True]) (z' := (15, [some (.int v), some (.int lo), some (.int hi)], [.int 0], h)) rfl ⟨trivial, trivial⟩ ?_
    refine rt_ hX (G := isB 0) (r := some (.int 0)) rfl isB0 ?_
    exact k0 (by grind)
  ·
    refine go hX 3 (gs := [True, True, True]) (z' := (if hi < v then 14 else 10, [some (.int v), some (.int lo), some (.int hi)], [], h)) rfl ⟨trivial, trivial, trivial, trivial⟩ ?_
    refine br (fun b2 => ?_) (fun b2 => ?_)
    ·
      refine go hX 1 (gs := [True]) (z' := (15, [some (.int v), some (.int lo), some (.int hi)], [.int 0], h)) rfl ⟨trivial, trivial⟩ ?_
      refine rt_ hX (G := isB 0) (r := some (.int 0)) rfl isB0 ?_
      exact k0 (by grind)
    ·
      refine go hX 2 (gs := [True, True]) (z' := (15, [some (.int v), some (.int lo), some (.int hi)], [.int 1], h)) rfl ⟨trivial, trivial, trivial⟩ ?_
      refine rt_ hX (G := isB 1) (r := some (.int 1)) rfl isB1 ?_
      exact k1 (by grind)
theorem ck_told {d : Nat} {Q : Option Value → Hp → Prop} {h : Hp} {j m : Nat} {v : Int32} (hj : j < 60) (hm : m ≤ 60) (k1 : (j < m ∧ h.1 64 (nI j) = v) → Q (some (.int 1)) h) (k0 : ¬ (j < m ∧ h.1 64 (nI j) = v) → Q (some (.int 0)) h) : Call (d + 1) 152 [.ref 0, .int (nI j), .int (nI m), .int v] h Q := by
  refine call_of (rfl : psM[152]? = some _) rfl rfl (rcvV rfl) (fun X hX => ?_)
  show X (0, [some (.ref 0), some (.int (nI j)), some (.int (nI m)), some (.int v)], [], h)
  refine go hX 2 (gs := [True, True]) (z' := (if (nI j) < 0 then 32 else 4, [some (.ref 0), some (.int (nI j)), some (.int (nI m)), some (.int v)], [], h)) rfl ⟨trivial, trivial, trivial⟩ ?_
  refine br (fun b1 => ?_) (fun b1 => ?_)
  ·
    refine go hX 1 (gs := [True]) (z' := (33, [some (.ref 0), some (.int (nI j)), some (.int (nI m)), some (.int v)], [.int 0], h)) rfl ⟨trivial, trivial⟩ ?_
    refine rt_ hX (G := isB 0) (r := some (.int 0)) rfl isB0 ?_
    have z := tx_0 j (by omega)
    rw [Int32.le_iff_toInt_le] at z
    rw [Int32.lt_iff_toInt_lt] at b1
    omega
  ·
    refine go hX 3 (gs := [True, True, True]) (z' := (if (nI m) ≤ (nI j) then 32 else 9, [some (.ref 0), some (.int (nI j)), some (.int (nI m)), some (.int v)], [], h)) rfl ⟨trivial, trivial, trivial, trivial⟩ ?_
    refine br (fun b2 => ?_) (fun b2 => ?_)
    ·
      refine go hX 1 (gs := [True]) (z' := (33, [some (.ref 0), some (.int (nI j)), some (.int (nI m)), some (.int v)], [.int 0], h)) rfl ⟨trivial, trivial⟩ ?_
      refine rt_ hX (G := isB 0) (r := some (.int 0)) rfl isB0 ?_
      exact k0 (fun z => absurd z.1 (Nat.not_lt.mpr ((tx_le (by omega) (by omega)).mp b2)))
    ·
      refine go hX 5 (gs := [True, True, True, True, True]) (z' := (if (nI 60) ≤ (nI j) then 32 else 18, [some (.ref 0), some (.int (nI j)), some (.int (nI m)), some (.int v)], [], h)) rfl ⟨trivial, trivial, trivial, trivial, trivial, trivial⟩ ?_
      refine br (fun b3 => ?_) (fun b3 => ?_)
      ·
        refine go hX 1 (gs := [True]) (z' := (33, [some (.ref 0), some (.int (nI j)), some (.int (nI m)), some (.int v)], [.int 0], h)) rfl ⟨trivial, trivial⟩ ?_
        refine rt_ hX (G := isB 0) (r := some (.int 0)) rfl isB0 ?_
        exact absurd ((tx_le (a := 60) (by omega) (by omega)).mp b3) (by omega)
      ·
        refine go hX 6 (gs := [True, True, ibd (nI j) 60, True, True, True]) (z' := (if (h.1 64 (nI j)) = v then 28 else 32, [some (.ref 0), some (.int (nI j)), some (.int (nI m)), some (.int v)], [], h)) rfl ⟨trivial, trivial, ?_, trivial, trivial, trivial, trivial⟩ ?_
        · exact ibd_of (B := 60) rfl (tx_0 j (by omega)) ((tx_lt (b := 60) (by omega) (by omega)).mpr hj)
        refine br (fun b4 => ?_) (fun b4 => ?_)
        ·
          refine go hX 2 (gs := [True, True]) (z' := (33, [some (.ref 0), some (.int (nI j)), some (.int (nI m)), some (.int v)], [.int 1], h)) rfl ⟨trivial, trivial, trivial⟩ ?_
          refine rt_ hX (G := isB 1) (r := some (.int 1)) rfl isB1 ?_
          exact k1 ⟨Nat.lt_of_not_le (fun z => b2 ((tx_le (by omega) (by omega)).mpr z)), b4⟩
        ·
          refine go hX 1 (gs := [True]) (z' := (33, [some (.ref 0), some (.int (nI j)), some (.int (nI m)), some (.int v)], [.int 0], h)) rfl ⟨trivial, trivial⟩ ?_
          refine rt_ hX (G := isB 0) (r := some (.int 0)) rfl isB0 ?_
          exact k0 (fun z => b4 z.2)
theorem lp_ckA {d : Nat} {Q : Option Value → Hp → Prop} {X : Cf → Prop} (hX : Clo (Call (d + 6)) cd151 (some .int) Q X) {As : Nat → Hp} {n m nh ns k0 : Nat} {v w : Nat → Int32} (n30 : n ≤ 30) (m60 : m ≤ 60) (nh10 : nh ≤ 10) (ns3 : ns ≤ 3) (hp : ∀ i, i < n → CRun (d + 6) 0 [.ref 37, .ref 23] (As i) none (As (i + 1))) (h26 : ∀ i, i < n → (As (i + 1)).1 26 2 = nI nh) (h24 : ∀ i, i < n → (As (i + 1)).1 24 2 = nI ns) (hE : ∀ i, i < n → ckS (fun k => (As (i + 1)).1 27 ((nI k * 14) + 10)) nh = v (2 * i)) (hM : ∀ i, i < n → ckS (fun k => (As (i + 1)).1 25 ((nI k * 8) + 6)) ns = v (2 * i + 1)) (hw : ∀ i, i < n → ∀ j, j < m → (As (i + 1)).1 64 (nI j) = w j) (p1 : ∀ j, j < k0 → j < m ∧ j < 2 * n ∧ w j = v j) (p2 : ¬ (k0 < m ∧ k0 < 2 * n ∧ w k0 = v k0)) (K : ∀ j, j ≤ n → Q (some (.int (ckA k0 m (2 * n)))) (As j)) {k : Nat} (hk : k ≤ n) : 2 * k ≤ k0 → X (46, [some (.ref 0), some (.int (nI n)), some (.int (nI m)), some (.int (nI k))], [], (As k)) := by
  refine dn_ind (P := fun k => 2 * k ≤ k0 → X (46, [some (.ref 0), some (.int (nI n)), some (.int (nI m)), some (.int (nI k))], [], (As k))) (fun k hk ih => ?_) hk
  intro hk0
  refine go hX 3 (gs := [True, True, True]) (z' := (if (nI n) ≤ (nI k) then 118 else 51, [some (.ref 0), some (.int (nI n)), some (.int (nI m)), some (.int (nI k))], [], (As k))) rfl ⟨trivial, trivial, trivial, trivial⟩ ?_
  refine br (fun b1 => ?_) (fun b1 => ?_)
  ·
    refine go hX 5 (gs := [True, True, True, True, True]) (z' := (if (nI m) ≤ (2 * (nI n)) then 133 else 125, [some (.ref 0), some (.int (nI n)), some (.int (nI m)), some (.int (nI k))], [], (As k))) rfl ⟨trivial, trivial, trivial, trivial, trivial, trivial⟩ ?_
    refine br (fun b2 => ?_) (fun b2 => ?_)
    ·
      refine go hX 1 (gs := [True]) (z' := (134, [some (.ref 0), some (.int (nI n)), some (.int (nI m)), some (.int (nI k))], [.int 0], (As k))) rfl ⟨trivial, trivial⟩ ?_
      refine rt_ hX (G := True) (r := some (.int 0)) rfl trivial ?_
      have e : k = n := Nat.le_antisymm hk ((tx_le (by omega) (by omega)).mp b1)
      subst e
      have kl : k0 ≤ 2 * k := by rcases Nat.eq_zero_or_pos k0 with z | z; omega; have q := p1 (k0 - 1) (by omega); omega
      have ke : k0 = 2 * k := by omega
      have km : k0 ≤ m := by rcases Nat.eq_zero_or_pos k0 with z | z; omega; have q := p1 (k0 - 1) (by omega); omega
      have c := (tx_le (by omega) (by omega)).mp (show nI m ≤ nI (2 * k) by rw [← ck_2]; exact b2)
      have e1 : (0 : Int32) = ckA k0 m (2 * k) := (ckA_0 (by omega) ke).symm
      rw [e1]
      exact K _ (Nat.le_refl _)
    ·
      refine go hX 6 (gs := [True, True, True, True, True, True]) (z' := (134, [some (.ref 0), some (.int (nI n)), some (.int (nI m)), some (.int (nI k))], [.int (1 + (2 * (nI n)))], (As k))) rfl ⟨trivial, trivial, trivial, trivial, trivial, trivial, trivial⟩ ?_
      refine rt_ hX (G := True) (r := some (.int (1 + (2 * (nI n))))) rfl trivial ?_
      have e : k = n := Nat.le_antisymm hk ((tx_le (by omega) (by omega)).mp b1)
      subst e
      have kl : k0 ≤ 2 * k := by rcases Nat.eq_zero_or_pos k0 with z | z; omega; have q := p1 (k0 - 1) (by omega); omega
      have ke : k0 = 2 * k := by omega
      have km : k0 ≤ m := by rcases Nat.eq_zero_or_pos k0 with z | z; omega; have q := p1 (k0 - 1) (by omega); omega
      have c : ¬ m ≤ 2 * k := fun z => b2 (by rw [ck_2]; exact (tx_le (by omega) (by omega)).mpr z)
      have e1 : (1 : Int32) + 2 * nI k = ckA k0 m (2 * k) := by rw [ckA_m (by omega), ck_2, ck_1, ke]
      rw [e1]
      exact K _ (Nat.le_refl _)
  ·
    have kx : k < n := Nat.lt_of_not_le (fun z => b1 ((tx_le (by omega) (by omega)).mpr z))
    refine go hX 4 (gs := [True, True, True, True]) (z' := (59, [some (.ref 0), some (.int (nI n)), some (.int (nI m)), some (.int (nI k))], [.ref 23, .ref 37], (As k))) rfl ⟨trivial, trivial, trivial, trivial, trivial⟩ ?_
    refine cl hX 0 2 [.ref 37, .ref 23] [] rfl rfl rfl rfl ?_
    refine hp k kx _ ?_
    show X (62, [some (.ref 0), some (.int (nI n)), some (.int (nI m)), some (.int (nI k))], [], (As (k + 1)))
    refine go hX 7 (gs := [True, True, True, True, True, True, True]) (z' := (71, [some (.ref 0), some (.int (nI n)), some (.int (nI m)), some (.int (nI k))], [.ref 23, .int (nI m), .int (2 * (nI k)), .ref 0], (As (k + 1)))) rfl ⟨trivial, trivial, trivial, trivial, trivial, trivial, trivial, trivial⟩ ?_
    refine cl hX 89 1 [.ref 23] [.int (nI m), .int (2 * (nI k)), .ref 0] rfl rfl rfl rfl ?_
    refine ck_sE nh10 (h26 k kx) ?_
    rw [hE k kx]
    show X (74, [some (.ref 0), some (.int (nI n)), some (.int (nI m)), some (.int (nI k))], [.int (v (2 * k)), .int (nI m), .int (2 * (nI k)), .ref 0], (As (k + 1)))
    refine cl hX 152 4 [.ref 0, .int (2 * (nI k)), .int (nI m), .int (v (2 * k))] [] rfl rfl rfl rfl ?_
    rw [ck_2]
    refine ck_told (by omega) m60 (fun t1 => ?_) (fun t1 => ?_)
    ·
      show X (77, [some (.ref 0), some (.int (nI n)), some (.int (nI m)), some (.int (nI k))], [.int 1], (As (k + 1)))
      refine go hX 10 (gs := [True, True, True, True, True, True, True, True, True, True]) (z' := (97, [some (.ref 0), some (.int (nI n)), some (.int (nI m)), some (.int (nI k))], [.ref 23, .int (nI m), .int ((2 * (nI k)) + 1), .ref 0], (As (k + 1)))) rfl ⟨trivial, trivial, trivial, trivial, trivial, trivial, trivial, trivial, trivial, trivial, trivial⟩ ?_
      refine cl hX 90 1 [.ref 23] [.int (nI m), .int ((2 * (nI k)) + 1), .ref 0] rfl rfl rfl rfl ?_
      refine ck_sM ns3 (h24 k kx) ?_
      rw [hM k kx]
      show X (100, [some (.ref 0), some (.int (nI n)), some (.int (nI m)), some (.int (nI k))], [.int (v (2 * k + 1)), .int (nI m), .int ((2 * (nI k)) + 1), .ref 0], (As (k + 1)))
      refine cl hX 152 4 [.ref 0, .int ((2 * (nI k)) + 1), .int (nI m), .int (v (2 * k + 1))] [] rfl rfl rfl rfl ?_
      rw [ck_2, ck_p]
      refine ck_told (by omega) m60 (fun t2 => ?_) (fun t2 => ?_)
      ·
        show X (103, [some (.ref 0), some (.int (nI n)), some (.int (nI m)), some (.int (nI k))], [.int 1], (As (k + 1)))
        refine go hX 3 (gs := [True, True, True]) (z' := (46, [some (.ref 0), some (.int (nI n)), some (.int (nI m)), some (.int ((nI k) + 1))], [], (As (k + 1)))) rfl ⟨trivial, trivial, trivial, trivial⟩ ?_
        have s0 : 2 * k < k0 := Nat.lt_of_not_le (fun z => p2 (by have e : k0 = 2 * k := (by omega); rw [e]; exact ⟨t1.1, by omega, by rw [← hw k kx _ t1.1]; exact t1.2⟩))
        have s1 : 2 * k + 1 < k0 := Nat.lt_of_not_le (fun z => p2 (by have e : k0 = 2 * k + 1 := (by omega); rw [e]; exact ⟨t2.1, by omega, by rw [← hw k kx _ t2.1]; exact t2.2⟩))
        rw [tx_1]
        exact ih (k + 1) (Nat.lt_succ_self k) (by omega) (by omega)
      ·
        show X (103, [some (.ref 0), some (.int (nI n)), some (.int (nI m)), some (.int (nI k))], [.int 0], (As (k + 1)))
        refine go hX 6 (gs := [True, True, True, True, True, True]) (z' := (111, [some (.ref 0), some (.int (nI n)), some (.int (nI m)), some (.int (nI k))], [.int (2 + (2 * (nI k)))], (As (k + 1)))) rfl ⟨trivial, trivial, trivial, trivial, trivial, trivial, trivial⟩ ?_
        refine rt_ hX (G := True) (r := some (.int (2 + (2 * (nI k))))) rfl trivial ?_
        have s0 : 2 * k < k0 := Nat.lt_of_not_le (fun z => p2 (by have e : k0 = 2 * k := (by omega); rw [e]; exact ⟨t1.1, by omega, by rw [← hw k kx _ t1.1]; exact t1.2⟩))
        have e : k0 = 2 * k + 1 := Nat.le_antisymm (Nat.le_of_not_lt (fun z => t2 (by have q := p1 (2 * k + 1) z; exact ⟨q.1, by rw [hw k kx _ q.1]; exact q.2.2⟩))) s0
        have e1 : (2 : Int32) + 2 * nI k = ckA k0 m (2 * n) := by rw [ckA_1 (by omega), ck_2, ck_p2, e]; congr 1; omega
        rw [e1]
        exact K _ kx
    ·
      show X (77, [some (.ref 0), some (.int (nI n)), some (.int (nI m)), some (.int (nI k))], [.int 0], (As (k + 1)))
      refine go hX 6 (gs := [True, True, True, True, True, True]) (z' := (85, [some (.ref 0), some (.int (nI n)), some (.int (nI m)), some (.int (nI k))], [.int (1 + (2 * (nI k)))], (As (k + 1)))) rfl ⟨trivial, trivial, trivial, trivial, trivial, trivial, trivial⟩ ?_
      refine rt_ hX (G := True) (r := some (.int (1 + (2 * (nI k))))) rfl trivial ?_
      have e : k0 = 2 * k := Nat.le_antisymm (Nat.le_of_not_lt (fun z => t1 (by have q := p1 (2 * k) z; exact ⟨q.1, by rw [hw k kx _ q.1]; exact q.2.2⟩))) hk0
      have e1 : (1 : Int32) + 2 * nI k = ckA k0 m (2 * n) := by rw [ckA_1 (by omega), ck_2, ck_1, e]
      rw [e1]
      exact K _ kx
theorem ck_A0 {d : Nat} {Q : Option Value → Hp → Prop} {h : Hp} {n : Int32} (hn : ¬ (1 ≤ n ∧ n ≤ 30)) (kB : Q (some (.int (-1000000001))) (hI h 0 11 0)) : Call (d + 7) 151 [.ref 0, .int n] h Q := by
  refine call_of (rfl : psM[151]? = some _) rfl rfl (rcvV rfl) (fun X hX => ?_)
  show X (0, [some (.ref 0), some (.int n), none, none], [], h)
  refine go hX 9 (gs := [True, True, True, True, True, True, True, True, True]) (z' := (14, [some (.ref 0), some (.int n), some (.int (h.1 0 11)), none], [.int 30, .int 1, .int n], (hI h 0 11 0))) rfl ⟨trivial, trivial, trivial, trivial, trivial, trivial, trivial, trivial, trivial, trivial⟩ ?_
  refine cl hX 156 3 [.int n, .int 1, .int 30] [] rfl rfl rfl rfl ?_
  refine ck_in (fun bw => ?_) (fun bw => ?_)
  ·
    show X (17, [some (.ref 0), some (.int n), some (.int (h.1 0 11)), none], [.int 1], (hI h 0 11 0))
    refine go hX 4 (gs := [True, True, True, True]) (z' := (if (h.1 0 12) = 0 then 30 else 33, [some (.ref 0), some (.int n), some (.int (h.1 0 11)), none], [], (hI h 0 11 0))) rfl ⟨trivial, trivial, trivial, trivial, trivial⟩ ?_
    refine br (fun b1 => ?_) (fun b1 => ?_)
    ·
      refine go hX 1 (gs := [True]) (z' := (32, [some (.ref 0), some (.int n), some (.int (h.1 0 11)), none], [.int (-1000000002)], (hI h 0 11 0))) rfl ⟨trivial, trivial⟩ ?_
      refine rt_ hX (G := True) (r := some (.int (-1000000002))) rfl trivial ?_
      exact absurd bw hn
    ·
      refine go hX 4 (gs := [True, True, True, True]) (z' := (41, [some (.ref 0), some (.int n), some (.int (h.1 0 11)), none], [.ref 12, .ref 23], (hI h 0 11 0))) rfl ⟨trivial, trivial, trivial, trivial, trivial⟩ ?_
      refine cl hX 61 2 [.ref 23, .ref 12] [] rfl rfl rfl rfl ?_
      exact absurd bw hn
  ·
    show X (17, [some (.ref 0), some (.int n), some (.int (h.1 0 11)), none], [.int 0], (hI h 0 11 0))
    refine go hX 2 (gs := [True, True]) (z' := (22, [some (.ref 0), some (.int n), some (.int (h.1 0 11)), none], [.int (-1000000001)], (hI h 0 11 0))) rfl ⟨trivial, trivial, trivial⟩ ?_
    refine rt_ hX (G := True) (r := some (.int (-1000000001))) rfl trivial ?_
    exact kB
theorem ck_A1 {d : Nat} {Q : Option Value → Hp → Prop} {h : Hp} {n : Int32} (hn : 1 ≤ n ∧ n ≤ 30) (hz : h.1 0 12 = 0) (kN : Q (some (.int (-1000000002))) (hI h 0 11 0)) : Call (d + 7) 151 [.ref 0, .int n] h Q := by
  refine call_of (rfl : psM[151]? = some _) rfl rfl (rcvV rfl) (fun X hX => ?_)
  show X (0, [some (.ref 0), some (.int n), none, none], [], h)
  refine go hX 9 (gs := [True, True, True, True, True, True, True, True, True]) (z' := (14, [some (.ref 0), some (.int n), some (.int (h.1 0 11)), none], [.int 30, .int 1, .int n], (hI h 0 11 0))) rfl ⟨trivial, trivial, trivial, trivial, trivial, trivial, trivial, trivial, trivial, trivial⟩ ?_
  refine cl hX 156 3 [.int n, .int 1, .int 30] [] rfl rfl rfl rfl ?_
  refine ck_in (fun bw => ?_) (fun bw => ?_)
  ·
    show X (17, [some (.ref 0), some (.int n), some (.int (h.1 0 11)), none], [.int 1], (hI h 0 11 0))
    refine go hX 4 (gs := [True, True, True, True]) (z' := (if (h.1 0 12) = 0 then 30 else 33, [some (.ref 0), some (.int n), some (.int (h.1 0 11)), none], [], (hI h 0 11 0))) rfl ⟨trivial, trivial, trivial, trivial, trivial⟩ ?_
    refine br (fun b1 => ?_) (fun b1 => ?_)
    ·
      refine go hX 1 (gs := [True]) (z' := (32, [some (.ref 0), some (.int n), some (.int (h.1 0 11)), none], [.int (-1000000002)], (hI h 0 11 0))) rfl ⟨trivial, trivial⟩ ?_
      refine rt_ hX (G := True) (r := some (.int (-1000000002))) rfl trivial ?_
      exact kN
    ·
      refine go hX 4 (gs := [True, True, True, True]) (z' := (41, [some (.ref 0), some (.int n), some (.int (h.1 0 11)), none], [.ref 12, .ref 23], (hI h 0 11 0))) rfl ⟨trivial, trivial, trivial, trivial, trivial⟩ ?_
      refine cl hX 61 2 [.ref 23, .ref 12] [] rfl rfl rfl rfl ?_
      exact absurd hz b1
  ·
    show X (17, [some (.ref 0), some (.int n), some (.int (h.1 0 11)), none], [.int 0], (hI h 0 11 0))
    refine go hX 2 (gs := [True, True]) (z' := (22, [some (.ref 0), some (.int n), some (.int (h.1 0 11)), none], [.int (-1000000001)], (hI h 0 11 0))) rfl ⟨trivial, trivial, trivial⟩ ?_
    refine rt_ hX (G := True) (r := some (.int (-1000000001))) rfl trivial ?_
    exact absurd hn bw
theorem ck_A2 {d : Nat} {Q : Option Value → Hp → Prop} {h : Hp} {As : Nat → Hp} {n m nh ns k0 : Nat} {v w : Nat → Int32} (n30 : n ≤ 30) (m60 : m ≤ 60) (nh10 : nh ≤ 10) (ns3 : ns ≤ 3) (hp : ∀ i, i < n → CRun (d + 6) 0 [.ref 37, .ref 23] (As i) none (As (i + 1))) (h26 : ∀ i, i < n → (As (i + 1)).1 26 2 = nI nh) (h24 : ∀ i, i < n → (As (i + 1)).1 24 2 = nI ns) (hE : ∀ i, i < n → ckS (fun k => (As (i + 1)).1 27 ((nI k * 14) + 10)) nh = v (2 * i)) (hM : ∀ i, i < n → ckS (fun k => (As (i + 1)).1 25 ((nI k * 8) + 6)) ns = v (2 * i + 1)) (hw : ∀ i, i < n → ∀ j, j < m → (As (i + 1)).1 64 (nI j) = w j) (p1 : ∀ j, j < k0 → j < m ∧ j < 2 * n ∧ w j = v j) (p2 : ¬ (k0 < m ∧ k0 < 2 * n ∧ w k0 = v k0)) (K : ∀ j, j ≤ n → Q (some (.int (ckA k0 m (2 * n)))) (As j)) (em : h.1 0 11 = nI m) (hn : 1 ≤ nI n ∧ nI n ≤ 30) (hz : ¬ h.1 0 12 = 0) (cB : CRun (d + 6) 61 [.ref 23, .ref 12] (hI h 0 11 0) none (As 0)) : Call (d + 7) 151 [.ref 0, .int (nI n)] h Q := by
  refine call_of (rfl : psM[151]? = some _) rfl rfl (rcvV rfl) (fun X hX => ?_)
  show X (0, [some (.ref 0), some (.int (nI n)), none, none], [], h)
  refine go hX 9 (gs := [True, True, True, True, True, True, True, True, True]) (z' := (14, [some (.ref 0), some (.int (nI n)), some (.int (h.1 0 11)), none], [.int 30, .int 1, .int (nI n)], (hI h 0 11 0))) rfl ⟨trivial, trivial, trivial, trivial, trivial, trivial, trivial, trivial, trivial, trivial⟩ ?_
  refine cl hX 156 3 [.int (nI n), .int 1, .int 30] [] rfl rfl rfl rfl ?_
  refine ck_in (fun bw => ?_) (fun bw => ?_)
  ·
    show X (17, [some (.ref 0), some (.int (nI n)), some (.int (h.1 0 11)), none], [.int 1], (hI h 0 11 0))
    refine go hX 4 (gs := [True, True, True, True]) (z' := (if (h.1 0 12) = 0 then 30 else 33, [some (.ref 0), some (.int (nI n)), some (.int (h.1 0 11)), none], [], (hI h 0 11 0))) rfl ⟨trivial, trivial, trivial, trivial, trivial⟩ ?_
    refine br (fun b1 => ?_) (fun b1 => ?_)
    ·
      refine go hX 1 (gs := [True]) (z' := (32, [some (.ref 0), some (.int (nI n)), some (.int (h.1 0 11)), none], [.int (-1000000002)], (hI h 0 11 0))) rfl ⟨trivial, trivial⟩ ?_
      refine rt_ hX (G := True) (r := some (.int (-1000000002))) rfl trivial ?_
      exact absurd b1 hz
    ·
      refine go hX 4 (gs := [True, True, True, True]) (z' := (41, [some (.ref 0), some (.int (nI n)), some (.int (h.1 0 11)), none], [.ref 12, .ref 23], (hI h 0 11 0))) rfl ⟨trivial, trivial, trivial, trivial, trivial⟩ ?_
      refine cl hX 61 2 [.ref 23, .ref 12] [] rfl rfl rfl rfl ?_
      refine cB _ ?_
      show X (44, [some (.ref 0), some (.int (nI n)), some (.int (h.1 0 11)), none], [], (As 0))
      refine go hX 2 (gs := [True, True]) (z' := (46, [some (.ref 0), some (.int (nI n)), some (.int (h.1 0 11)), some (.int 0)], [], (As 0))) rfl ⟨trivial, trivial, trivial⟩ ?_
      rw [em]
      exact lp_ckA (d := d) hX n30 m60 nh10 ns3 hp h26 h24 hE hM hw p1 p2 K (Nat.zero_le n) (Nat.zero_le _)
  ·
    show X (17, [some (.ref 0), some (.int (nI n)), some (.int (h.1 0 11)), none], [.int 0], (hI h 0 11 0))
    refine go hX 2 (gs := [True, True]) (z' := (22, [some (.ref 0), some (.int (nI n)), some (.int (h.1 0 11)), none], [.int (-1000000001)], (hI h 0 11 0))) rfl ⟨trivial, trivial, trivial⟩ ?_
    refine rt_ hX (G := True) (r := some (.int (-1000000001))) rfl trivial ?_
    exact absurd hn bw
theorem ck_sh {d : Nat} {Q : Option Value → Hp → Prop} {h : Hp} {x : Int32} (k : Q (some (.int (10 + (10 * x)))) h) : Call (d + 1) 163 [.ref 65, .int x] h Q := by
  refine call_of (rfl : psM[163]? = some _) rfl rfl (rcvV rfl) (fun X hX => ?_)
  show X (0, [some (.ref 65), some (.int x)], [], h)
  refine go hX 5 (gs := [True, True, True, True, True]) (z' := (7, [some (.ref 65), some (.int x)], [.int (10 + (10 * x))], h)) rfl ⟨trivial, trivial, trivial, trivial, trivial, trivial⟩ ?_
  refine rt_ hX (G := True) (r := some (.int (10 + (10 * x)))) rfl trivial ?_
  exact k
theorem lp_ckH {d : Nat} {Q : Option Value → Hp → Prop} {X : Cf → Prop} (hX : Clo (Call (d + 1)) cd261 (some .int) Q X) {g : Hp} {n m nh i : Nat} (i30 : i < 30) (nh10 : nh ≤ 10) (en : g.1 66 2 = nI nh) (K : X (135, [some (.ref 65), some (.int (nI n)), some (.int (nI m)), some (.int (nI i)), some (.int (nI nh))], [], (hI (hI g 83 (2 * (nI i)) (ckS (fun k => g.1 66 ((40 + (16 * nI k)) + 10)) nh)) 83 ((2 * (nI i)) + 1) 0))) {k : Nat} (hk : k ≤ nh) : X (93, [some (.ref 65), some (.int (nI n)), some (.int (nI m)), some (.int (nI i)), some (.int (nI k))], [], (hI (hI g 83 (2 * (nI i)) (ckS (fun k => g.1 66 ((40 + (16 * nI k)) + 10)) k)) 83 ((2 * (nI i)) + 1) 0)) := by
  have nab : (2 * nI i : Int32) ≠ (2 * nI i) + 1 := by rw [ck_2, ck_p]; exact ck_ne (by omega) (by omega) (by omega)
  refine dn_ind (P := fun k => X (93, [some (.ref 65), some (.int (nI n)), some (.int (nI m)), some (.int (nI i)), some (.int (nI k))], [], (hI (hI g 83 (2 * (nI i)) (ckS (fun k => g.1 66 ((40 + (16 * nI k)) + 10)) k)) 83 ((2 * (nI i)) + 1) 0))) (fun k hk ih => ?_) hk
  refine go hX 6 (gs := [True, ibd 2 3400, True, True, True, True]) (z' := (if (g.1 66 2) ≤ (nI k) then 135 else 104, [some (.ref 65), some (.int (nI n)), some (.int (nI m)), some (.int (nI i)), some (.int (nI k))], [], (hI (hI g 83 (2 * (nI i)) (ckS (fun k => g.1 66 ((40 + (16 * nI k)) + 10)) k)) 83 ((2 * (nI i)) + 1) 0))) rfl ⟨trivial, ?_, trivial, trivial, trivial, trivial, trivial⟩ ?_
  · exact ⟨by decide, by decide⟩
  refine br (fun b1 => ?_) (fun b1 => ?_)
  ·
    have e : k = nh := Nat.le_antisymm hk ((tx_le (by omega) (by omega)).mp (by rw [← en]; exact b1))
    subst e
    exact K
  ·
    have kx : k < nh := Nat.lt_of_not_le (fun z => b1 (by rw [en]; exact (tx_le (by omega) (by omega)).mpr z))
    refine go hX 11 (gs := [True, True, True, True, ibd (2 * (nI i)) 60, True, True, True, True, True, True]) (z' := (120, [some (.ref 65), some (.int (nI n)), some (.int (nI m)), some (.int (nI i)), some (.int (nI k))], [.int (nI k), .ref 65, .ref 66, .int ((hI (hI g 83 (2 * (nI i)) (ckS (fun k => g.1 66 ((40 + (16 * nI k)) + 10)) k)) 83 ((2 * (nI i)) + 1) 0).1 83 (2 * (nI i))), .int (2 * (nI i)), .ref 83], (hI (hI g 83 (2 * (nI i)) (ckS (fun k => g.1 66 ((40 + (16 * nI k)) + 10)) k)) 83 ((2 * (nI i)) + 1) 0))) rfl ⟨trivial, trivial, trivial, trivial, ?_, trivial, trivial, trivial, trivial, trivial, trivial, trivial⟩ ?_
    · rw [ck_2]; exact ibd_of (B := 60) rfl (tx_0 _ (by omega)) ((tx_lt (b := 60) (by omega) (by omega)).mpr (by omega))
    refine cl hX 164 2 [.ref 65, .int (nI k)] [.ref 66, .int ((hI (hI g 83 (2 * (nI i)) (ckS (fun k => g.1 66 ((40 + (16 * nI k)) + 10)) k)) 83 ((2 * (nI i)) + 1) 0).1 83 (2 * (nI i))), .int (2 * (nI i)), .ref 83] rfl rfl rfl rfl ?_
    refine c_handAtP ?_
    show X (123, [some (.ref 65), some (.int (nI n)), some (.int (nI m)), some (.int (nI i)), some (.int (nI k))], [.int (40 + (16 * (nI k))), .ref 66, .int ((hI (hI g 83 (2 * (nI i)) (ckS (fun k => g.1 66 ((40 + (16 * nI k)) + 10)) k)) 83 ((2 * (nI i)) + 1) 0).1 83 (2 * (nI i))), .int (2 * (nI i)), .ref 83], (hI (hI g 83 (2 * (nI i)) (ckS (fun k => g.1 66 ((40 + (16 * nI k)) + 10)) k)) 83 ((2 * (nI i)) + 1) 0))
    refine go hX 7 (gs := [True, True, ibd (2 * (nI i)) 60, True, ibd ((40 + (16 * (nI k))) + 10) 3400, True, True]) (z' := (93, [some (.ref 65), some (.int (nI n)), some (.int (nI m)), some (.int (nI i)), some (.int ((nI k) + 1))], [], (hI (hI (hI g 83 (2 * (nI i)) (ckS (fun k => g.1 66 ((40 + (16 * nI k)) + 10)) k)) 83 ((2 * (nI i)) + 1) 0) 83 (2 * (nI i)) (((hI (hI g 83 (2 * (nI i)) (ckS (fun k => g.1 66 ((40 + (16 * nI k)) + 10)) k)) 83 ((2 * (nI i)) + 1) 0).1 83 (2 * (nI i))) + (g.1 66 ((40 + (16 * (nI k))) + 10)))))) rfl ⟨trivial, trivial, ?_, trivial, ?_, trivial, trivial, trivial⟩ ?_
    · rw [ck_2]; exact ibd_of (B := 60) rfl (tx_0 _ (by omega)) ((tx_lt (b := 60) (by omega) (by omega)).mpr (by omega))
    · rw [show (40 + (16 * (nI k))) + 10 = nI (40 + 10 + 16 * k) from ixH (f := 10) (by omega) (by decide)]; exact ibd_of (B := 3400) rfl (tx_0 _ (by omega)) ((tx_lt (b := 3400) (by omega) (by decide)).mpr (by omega))
    rw [tx_1, hI_jn nab, hI_eq, ck_w3 nab]
    exact ih (k + 1) (Nat.lt_succ_self k) (by omega)
theorem lp_ckK {d : Nat} {Q : Option Value → Hp → Prop} {X : Cf → Prop} (hX : Clo (Call (d + 1)) cd261 (some .int) Q X) {g : Hp} {n m nh ns i : Nat} (i30 : i < 30) (ns3 : ns ≤ 3) (es : g.1 66 1 = nI ns) (K : X (182, [some (.ref 65), some (.int (nI n)), some (.int (nI m)), some (.int (nI i)), some (.int (nI ns))], [], (hI (hI g 83 (2 * (nI i)) (ckS (fun k => g.1 66 ((40 + (16 * nI k)) + 10)) nh)) 83 ((2 * (nI i)) + 1) (ckS (fun k => g.1 66 ((10 + (10 * nI k)) + 6)) ns)))) {k : Nat} (hk : k ≤ ns) : X (138, [some (.ref 65), some (.int (nI n)), some (.int (nI m)), some (.int (nI i)), some (.int (nI k))], [], (hI (hI g 83 (2 * (nI i)) (ckS (fun k => g.1 66 ((40 + (16 * nI k)) + 10)) nh)) 83 ((2 * (nI i)) + 1) (ckS (fun k => g.1 66 ((10 + (10 * nI k)) + 6)) k))) := by
  refine dn_ind (P := fun k => X (138, [some (.ref 65), some (.int (nI n)), some (.int (nI m)), some (.int (nI i)), some (.int (nI k))], [], (hI (hI g 83 (2 * (nI i)) (ckS (fun k => g.1 66 ((40 + (16 * nI k)) + 10)) nh)) 83 ((2 * (nI i)) + 1) (ckS (fun k => g.1 66 ((10 + (10 * nI k)) + 6)) k)))) (fun k hk ih => ?_) hk
  refine go hX 6 (gs := [True, ibd 1 3400, True, True, True, True]) (z' := (if (g.1 66 1) ≤ (nI k) then 182 else 149, [some (.ref 65), some (.int (nI n)), some (.int (nI m)), some (.int (nI i)), some (.int (nI k))], [], (hI (hI g 83 (2 * (nI i)) (ckS (fun k => g.1 66 ((40 + (16 * nI k)) + 10)) nh)) 83 ((2 * (nI i)) + 1) (ckS (fun k => g.1 66 ((10 + (10 * nI k)) + 6)) k)))) rfl ⟨trivial, ?_, trivial, trivial, trivial, trivial, trivial⟩ ?_
  · exact ⟨by decide, by decide⟩
  refine br (fun b1 => ?_) (fun b1 => ?_)
  ·
    have e : k = ns := Nat.le_antisymm hk ((tx_le (by omega) (by omega)).mp (by rw [← es]; exact b1))
    subst e
    exact K
  ·
    have kx : k < ns := Nat.lt_of_not_le (fun z => b1 (by rw [es]; exact (tx_le (by omega) (by omega)).mpr z))
    refine go hX 13 (gs := [True, True, True, True, ibd ((2 * (nI i)) + 1) 60, True, True, True, True, True, True, True, True]) (z' := (167, [some (.ref 65), some (.int (nI n)), some (.int (nI m)), some (.int (nI i)), some (.int (nI k))], [.int (nI k), .ref 65, .ref 66, .int ((hI (hI g 83 (2 * (nI i)) (ckS (fun k => g.1 66 ((40 + (16 * nI k)) + 10)) nh)) 83 ((2 * (nI i)) + 1) (ckS (fun k => g.1 66 ((10 + (10 * nI k)) + 6)) k)).1 83 ((2 * (nI i)) + 1)), .int ((2 * (nI i)) + 1), .ref 83], (hI (hI g 83 (2 * (nI i)) (ckS (fun k => g.1 66 ((40 + (16 * nI k)) + 10)) nh)) 83 ((2 * (nI i)) + 1) (ckS (fun k => g.1 66 ((10 + (10 * nI k)) + 6)) k)))) rfl ⟨trivial, trivial, trivial, trivial, ?_, trivial, trivial, trivial, trivial, trivial, trivial, trivial, trivial, trivial⟩ ?_
    · rw [ck_2, ck_p]; exact ibd_of (B := 60) rfl (tx_0 _ (by omega)) ((tx_lt (b := 60) (by omega) (by omega)).mpr (by omega))
    refine cl hX 163 2 [.ref 65, .int (nI k)] [.ref 66, .int ((hI (hI g 83 (2 * (nI i)) (ckS (fun k => g.1 66 ((40 + (16 * nI k)) + 10)) nh)) 83 ((2 * (nI i)) + 1) (ckS (fun k => g.1 66 ((10 + (10 * nI k)) + 6)) k)).1 83 ((2 * (nI i)) + 1)), .int ((2 * (nI i)) + 1), .ref 83] rfl rfl rfl rfl ?_
    refine ck_sh ?_
    show X (170, [some (.ref 65), some (.int (nI n)), some (.int (nI m)), some (.int (nI i)), some (.int (nI k))], [.int (10 + (10 * (nI k))), .ref 66, .int ((hI (hI g 83 (2 * (nI i)) (ckS (fun k => g.1 66 ((40 + (16 * nI k)) + 10)) nh)) 83 ((2 * (nI i)) + 1) (ckS (fun k => g.1 66 ((10 + (10 * nI k)) + 6)) k)).1 83 ((2 * (nI i)) + 1)), .int ((2 * (nI i)) + 1), .ref 83], (hI (hI g 83 (2 * (nI i)) (ckS (fun k => g.1 66 ((40 + (16 * nI k)) + 10)) nh)) 83 ((2 * (nI i)) + 1) (ckS (fun k => g.1 66 ((10 + (10 * nI k)) + 6)) k)))
    refine go hX 7 (gs := [True, True, ibd ((2 * (nI i)) + 1) 60, True, ibd ((10 + (10 * (nI k))) + 6) 3400, True, True]) (z' := (138, [some (.ref 65), some (.int (nI n)), some (.int (nI m)), some (.int (nI i)), some (.int ((nI k) + 1))], [], (hI (hI (hI g 83 (2 * (nI i)) (ckS (fun k => g.1 66 ((40 + (16 * nI k)) + 10)) nh)) 83 ((2 * (nI i)) + 1) (ckS (fun k => g.1 66 ((10 + (10 * nI k)) + 6)) k)) 83 ((2 * (nI i)) + 1) (((hI (hI g 83 (2 * (nI i)) (ckS (fun k => g.1 66 ((40 + (16 * nI k)) + 10)) nh)) 83 ((2 * (nI i)) + 1) (ckS (fun k => g.1 66 ((10 + (10 * nI k)) + 6)) k)).1 83 ((2 * (nI i)) + 1)) + (g.1 66 ((10 + (10 * (nI k))) + 6)))))) rfl ⟨trivial, trivial, ?_, trivial, ?_, trivial, trivial, trivial⟩ ?_
    · rw [ck_2, ck_p]; exact ibd_of (B := 60) rfl (tx_0 _ (by omega)) ((tx_lt (b := 60) (by omega) (by omega)).mpr (by omega))
    · rw [show (10 + (10 * (nI k))) + 6 = nI (10 + 6 + 10 * k) from ixK (f := 6) (by omega) (by decide)]; exact ibd_of (B := 3400) rfl (tx_0 _ (by omega)) ((tx_lt (b := 3400) (by omega) (by decide)).mpr (by omega))
    rw [tx_1, hI_eq, ck_w]
    exact ih (k + 1) (Nat.lt_succ_self k) (by omega)
theorem lp_ckW {d : Nat} {Q : Option Value → Hp → Prop} {X : Cf → Prop} (hX : Clo (Call (d + 1)) cd261 (some .int) Q X) {E : Hp} {n m k0 : Nat} {v w : Nat → Int32} (n30 : n ≤ 30) (m60 : m ≤ 60) (hw : ∀ j, j < m → E.1 82 (nI j) = w j) (hv : ∀ j, j < 2 * n → E.1 83 (nI j) = v j) (p1 : ∀ j, j < k0 → j < m ∧ j < 2 * n ∧ w j = v j) (p2 : ¬ (k0 < m ∧ k0 < 2 * n ∧ w k0 = v k0)) (K : Q (some (.int (ckA k0 m (2 * n)))) E) : ∀ {x : Option Value}, (x = none ∨ ∃ x4, x = some (.int x4)) → X (202, [some (.ref 65), some (.int (nI n)), some (.int (nI m)), some (.int (nI 0)), x], [], E) := by
  have key : ∀ {k : Nat}, k ≤ 60 → (∀ {x : Option Value}, (x = none ∨ ∃ x4, x = some (.int x4)) → k ≤ k0 → X (202, [some (.ref 65), some (.int (nI n)), some (.int (nI m)), some (.int (nI k)), x], [], E)) := fun {k} hk => by
    refine dn_ind (P := fun k => ∀ {x : Option Value}, (x = none ∨ ∃ x4, x = some (.int x4)) → k ≤ k0 → X (202, [some (.ref 65), some (.int (nI n)), some (.int (nI m)), some (.int (nI k)), x], [], E)) (fun k hk ih => ?_) hk
    intro x hx hk0
    have k0m : k0 ≤ m ∧ k0 ≤ 2 * n := by rcases Nat.eq_zero_or_pos k0 with z | z; omega; have q := p1 (k0 - 1) (by omega); omega
    rcases hx with rfl | ⟨x4, rfl⟩
    ·
      refine go hX 3 (gs := [True, True, True]) (z' := (if (nI m) ≤ (nI k) then 235 else 207, [some (.ref 65), some (.int (nI n)), some (.int (nI m)), some (.int (nI k)), none], [], E)) rfl ⟨trivial, trivial, trivial, trivial⟩ ?_
      refine br (fun b1 => ?_) (fun b1 => ?_)
      ·
        refine go hX 3 (gs := [True, True, True]) (z' := (if (nI k) = (nI m) then 240 else 251, [some (.ref 65), some (.int (nI n)), some (.int (nI m)), some (.int (nI k)), none], [], E)) rfl ⟨trivial, trivial, trivial, trivial⟩ ?_
        refine br (fun b2 => ?_) (fun b2 => ?_)
        ·
          refine go hX 5 (gs := [True, True, True, True, True]) (z' := (if (nI k) = (2 * (nI n)) then 247 else 251, [some (.ref 65), some (.int (nI n)), some (.int (nI m)), some (.int (nI k)), none], [], E)) rfl ⟨trivial, trivial, trivial, trivial, trivial, trivial⟩ ?_
          refine br (fun b3 => ?_) (fun b3 => ?_)
          ·
            refine go hX 2 (gs := [True, True]) (z' := (254, [some (.ref 65), some (.int (nI n)), some (.int (nI m)), some (.int (nI k)), none], [.int 0], E)) rfl ⟨trivial, trivial, trivial⟩ ?_
            refine rt_ hX (G := True) (r := some (.int 0)) rfl trivial ?_
            have q1 : m ≤ k := (tx_le (by omega) (by omega)).mp b1
            have ke : k0 = k := Nat.le_antisymm (Nat.le_of_not_lt (fun z => by have q := (p1 k z).1; omega)) hk0
            have hk60 : k ≤ 60 := by omega
            have a1 : k = m := by have z := congrArg Int32.toInt b2; rw [nI_i (by omega), nI_i (by omega)] at z; omega
            have a2 : k = 2 * n := by have z := congrArg Int32.toInt b3; rw [ck_2, nI_i (by omega), nI_i (by omega)] at z; omega
            rw [ckA_0 (by omega) (by omega)] at K
            exact K
          ·
            refine go hX 3 (gs := [True, True, True]) (z' := (254, [some (.ref 65), some (.int (nI n)), some (.int (nI m)), some (.int (nI k)), none], [.int (1 + (nI k))], E)) rfl ⟨trivial, trivial, trivial, trivial⟩ ?_
            refine rt_ hX (G := True) (r := some (.int (1 + (nI k)))) rfl trivial ?_
            have q1 : m ≤ k := (tx_le (by omega) (by omega)).mp b1
            have ke : k0 = k := Nat.le_antisymm (Nat.le_of_not_lt (fun z => by have q := (p1 k z).1; omega)) hk0
            have hk60 : k ≤ 60 := by omega
            have a1 : k = m := by have z := congrArg Int32.toInt b2; rw [nI_i (by omega), nI_i (by omega)] at z; omega
            have a2 : ¬ k = 2 * n := fun z => b3 (by rw [ck_2, z])
            have e1 : (1 : Int32) + nI k = ckA k0 m (2 * n) := by
              rw [ck_1, ke]
              exact (if_neg (fun z => by omega)).symm
            rw [e1]
            exact K
        ·
          refine go hX 3 (gs := [True, True, True]) (z' := (254, [some (.ref 65), some (.int (nI n)), some (.int (nI m)), some (.int (nI k)), none], [.int (1 + (nI k))], E)) rfl ⟨trivial, trivial, trivial, trivial⟩ ?_
          refine rt_ hX (G := True) (r := some (.int (1 + (nI k)))) rfl trivial ?_
          have q1 : m ≤ k := (tx_le (by omega) (by omega)).mp b1
          have ke : k0 = k := Nat.le_antisymm (Nat.le_of_not_lt (fun z => by have q := (p1 k z).1; omega)) hk0
          have hk60 : k ≤ 60 := by omega
          have a1 : ¬ k = m := fun z => b2 (by rw [z])
          have e1 : (1 : Int32) + nI k = ckA k0 m (2 * n) := by
            rw [ck_1, ke]
            exact (if_neg (fun z => by omega)).symm
          rw [e1]
          exact K
      ·
        refine go hX 5 (gs := [True, True, True, True, True]) (z' := (if (2 * (nI n)) ≤ (nI k) then 235 else 214, [some (.ref 65), some (.int (nI n)), some (.int (nI m)), some (.int (nI k)), none], [], E)) rfl ⟨trivial, trivial, trivial, trivial, trivial, trivial⟩ ?_
        refine br (fun b4 => ?_) (fun b4 => ?_)
        ·
          refine go hX 3 (gs := [True, True, True]) (z' := (if (nI k) = (nI m) then 240 else 251, [some (.ref 65), some (.int (nI n)), some (.int (nI m)), some (.int (nI k)), none], [], E)) rfl ⟨trivial, trivial, trivial, trivial⟩ ?_
          refine br (fun b5 => ?_) (fun b5 => ?_)
          ·
            refine go hX 5 (gs := [True, True, True, True, True]) (z' := (if (nI k) = (2 * (nI n)) then 247 else 251, [some (.ref 65), some (.int (nI n)), some (.int (nI m)), some (.int (nI k)), none], [], E)) rfl ⟨trivial, trivial, trivial, trivial, trivial, trivial⟩ ?_
            refine br (fun b6 => ?_) (fun b6 => ?_)
            ·
              refine go hX 2 (gs := [True, True]) (z' := (254, [some (.ref 65), some (.int (nI n)), some (.int (nI m)), some (.int (nI k)), none], [.int 0], E)) rfl ⟨trivial, trivial, trivial⟩ ?_
              refine rt_ hX (G := True) (r := some (.int 0)) rfl trivial ?_
              have q1 : k < m := Nat.lt_of_not_le (fun z => b1 ((tx_le (by omega) (by omega)).mpr z))
              have q2 : 2 * n ≤ k := (tx_le (by omega) (by omega)).mp (by rw [← ck_2]; exact b4)
              have ke : k0 = k := Nat.le_antisymm (Nat.le_of_not_lt (fun z => by have q := (p1 k z).2.1; omega)) hk0
              have hk60 : k ≤ 60 := by omega
              have a1 : k = m := by have z := congrArg Int32.toInt b5; rw [nI_i (by omega), nI_i (by omega)] at z; omega
              have a2 : k = 2 * n := by have z := congrArg Int32.toInt b6; rw [ck_2, nI_i (by omega), nI_i (by omega)] at z; omega
              rw [ckA_0 (by omega) (by omega)] at K
              exact K
            ·
              refine go hX 3 (gs := [True, True, True]) (z' := (254, [some (.ref 65), some (.int (nI n)), some (.int (nI m)), some (.int (nI k)), none], [.int (1 + (nI k))], E)) rfl ⟨trivial, trivial, trivial, trivial⟩ ?_
              refine rt_ hX (G := True) (r := some (.int (1 + (nI k)))) rfl trivial ?_
              have q1 : k < m := Nat.lt_of_not_le (fun z => b1 ((tx_le (by omega) (by omega)).mpr z))
              have q2 : 2 * n ≤ k := (tx_le (by omega) (by omega)).mp (by rw [← ck_2]; exact b4)
              have ke : k0 = k := Nat.le_antisymm (Nat.le_of_not_lt (fun z => by have q := (p1 k z).2.1; omega)) hk0
              have hk60 : k ≤ 60 := by omega
              have a1 : k = m := by have z := congrArg Int32.toInt b5; rw [nI_i (by omega), nI_i (by omega)] at z; omega
              have a2 : ¬ k = 2 * n := fun z => b6 (by rw [ck_2, z])
              have e1 : (1 : Int32) + nI k = ckA k0 m (2 * n) := by
                rw [ck_1, ke]
                exact (if_neg (fun z => by omega)).symm
              rw [e1]
              exact K
          ·
            refine go hX 3 (gs := [True, True, True]) (z' := (254, [some (.ref 65), some (.int (nI n)), some (.int (nI m)), some (.int (nI k)), none], [.int (1 + (nI k))], E)) rfl ⟨trivial, trivial, trivial, trivial⟩ ?_
            refine rt_ hX (G := True) (r := some (.int (1 + (nI k)))) rfl trivial ?_
            have q1 : k < m := Nat.lt_of_not_le (fun z => b1 ((tx_le (by omega) (by omega)).mpr z))
            have q2 : 2 * n ≤ k := (tx_le (by omega) (by omega)).mp (by rw [← ck_2]; exact b4)
            have ke : k0 = k := Nat.le_antisymm (Nat.le_of_not_lt (fun z => by have q := (p1 k z).2.1; omega)) hk0
            have hk60 : k ≤ 60 := by omega
            have a1 : ¬ k = m := fun z => b5 (by rw [z])
            have e1 : (1 : Int32) + nI k = ckA k0 m (2 * n) := by
              rw [ck_1, ke]
              exact (if_neg (fun z => by omega)).symm
            rw [e1]
            exact K
        ·
          refine go hX 9 (gs := [True, ibd (nI k) 60, True, True, True, ibd (nI k) 60, True, True, True]) (z' := (if (E.1 82 (nI k)) = (E.1 83 (nI k)) then 229 else 235, [some (.ref 65), some (.int (nI n)), some (.int (nI m)), some (.int (nI k)), none], [], E)) rfl ⟨trivial, ?_, trivial, trivial, trivial, ?_, trivial, trivial, trivial, trivial⟩ ?_
          · exact ibd_of (B := 60) rfl (tx_0 _ (by omega)) ((tx_lt (b := 60) (by omega) (by omega)).mpr (Nat.lt_of_lt_of_le (Nat.lt_of_not_le (fun z => b1 ((tx_le (by omega) (by omega)).mpr z))) m60))
          · exact ibd_of (B := 60) rfl (tx_0 _ (by omega)) ((tx_lt (b := 60) (by omega) (by omega)).mpr (Nat.lt_of_lt_of_le (Nat.lt_of_not_le (fun z => b1 ((tx_le (by omega) (by omega)).mpr z))) m60))
          refine br (fun b7 => ?_) (fun b7 => ?_)
          ·
            refine go hX 2 (gs := [True, True]) (z' := (202, [some (.ref 65), some (.int (nI n)), some (.int (nI m)), some (.int ((nI k) + 1)), none], [], E)) rfl ⟨trivial, trivial, trivial⟩ ?_
            have q1 : k < m := Nat.lt_of_not_le (fun z => b1 ((tx_le (by omega) (by omega)).mpr z))
            have q2 : k < 2 * n := Nat.lt_of_not_le (fun z => b4 (by rw [ck_2]; exact (tx_le (by omega) (by omega)).mpr z))
            have q3 := b7
            rw [hw k q1, hv k q2] at q3
            rw [tx_1]
            exact ih (k + 1) (Nat.lt_succ_self k) (by omega) (Or.inl rfl) (Nat.lt_of_le_of_ne hk0 (fun z => p2 (by rw [← z]; exact ⟨q1, q2, q3⟩)))
          ·
            refine go hX 3 (gs := [True, True, True]) (z' := (if (nI k) = (nI m) then 240 else 251, [some (.ref 65), some (.int (nI n)), some (.int (nI m)), some (.int (nI k)), none], [], E)) rfl ⟨trivial, trivial, trivial, trivial⟩ ?_
            refine br (fun b8 => ?_) (fun b8 => ?_)
            ·
              refine go hX 5 (gs := [True, True, True, True, True]) (z' := (if (nI k) = (2 * (nI n)) then 247 else 251, [some (.ref 65), some (.int (nI n)), some (.int (nI m)), some (.int (nI k)), none], [], E)) rfl ⟨trivial, trivial, trivial, trivial, trivial, trivial⟩ ?_
              refine br (fun b9 => ?_) (fun b9 => ?_)
              ·
                refine go hX 2 (gs := [True, True]) (z' := (254, [some (.ref 65), some (.int (nI n)), some (.int (nI m)), some (.int (nI k)), none], [.int 0], E)) rfl ⟨trivial, trivial, trivial⟩ ?_
                refine rt_ hX (G := True) (r := some (.int 0)) rfl trivial ?_
                have q1 : k < m := Nat.lt_of_not_le (fun z => b1 ((tx_le (by omega) (by omega)).mpr z))
                have q2 : k < 2 * n := Nat.lt_of_not_le (fun z => b4 (by rw [ck_2]; exact (tx_le (by omega) (by omega)).mpr z))
                have q3 := b7
                rw [hw k q1, hv k q2] at q3
                have ke : k0 = k := Nat.le_antisymm (Nat.le_of_not_lt (fun z => q3 (p1 k z).2.2)) hk0
                have hk60 : k ≤ 60 := by omega
                have a1 : k = m := by have z := congrArg Int32.toInt b8; rw [nI_i (by omega), nI_i (by omega)] at z; omega
                have a2 : k = 2 * n := by have z := congrArg Int32.toInt b9; rw [ck_2, nI_i (by omega), nI_i (by omega)] at z; omega
                rw [ckA_0 (by omega) (by omega)] at K
                exact K
              ·
                refine go hX 3 (gs := [True, True, True]) (z' := (254, [some (.ref 65), some (.int (nI n)), some (.int (nI m)), some (.int (nI k)), none], [.int (1 + (nI k))], E)) rfl ⟨trivial, trivial, trivial, trivial⟩ ?_
                refine rt_ hX (G := True) (r := some (.int (1 + (nI k)))) rfl trivial ?_
                have q1 : k < m := Nat.lt_of_not_le (fun z => b1 ((tx_le (by omega) (by omega)).mpr z))
                have q2 : k < 2 * n := Nat.lt_of_not_le (fun z => b4 (by rw [ck_2]; exact (tx_le (by omega) (by omega)).mpr z))
                have q3 := b7
                rw [hw k q1, hv k q2] at q3
                have ke : k0 = k := Nat.le_antisymm (Nat.le_of_not_lt (fun z => q3 (p1 k z).2.2)) hk0
                have hk60 : k ≤ 60 := by omega
                have a1 : k = m := by have z := congrArg Int32.toInt b8; rw [nI_i (by omega), nI_i (by omega)] at z; omega
                have a2 : ¬ k = 2 * n := fun z => b9 (by rw [ck_2, z])
                have e1 : (1 : Int32) + nI k = ckA k0 m (2 * n) := by
                  rw [ck_1, ke]
                  exact (if_neg (fun z => by omega)).symm
                rw [e1]
                exact K
            ·
              refine go hX 3 (gs := [True, True, True]) (z' := (254, [some (.ref 65), some (.int (nI n)), some (.int (nI m)), some (.int (nI k)), none], [.int (1 + (nI k))], E)) rfl ⟨trivial, trivial, trivial, trivial⟩ ?_
              refine rt_ hX (G := True) (r := some (.int (1 + (nI k)))) rfl trivial ?_
              have q1 : k < m := Nat.lt_of_not_le (fun z => b1 ((tx_le (by omega) (by omega)).mpr z))
              have q2 : k < 2 * n := Nat.lt_of_not_le (fun z => b4 (by rw [ck_2]; exact (tx_le (by omega) (by omega)).mpr z))
              have q3 := b7
              rw [hw k q1, hv k q2] at q3
              have ke : k0 = k := Nat.le_antisymm (Nat.le_of_not_lt (fun z => q3 (p1 k z).2.2)) hk0
              have hk60 : k ≤ 60 := by omega
              have a1 : ¬ k = m := fun z => b8 (by rw [z])
              have e1 : (1 : Int32) + nI k = ckA k0 m (2 * n) := by
                rw [ck_1, ke]
                exact (if_neg (fun z => by omega)).symm
              rw [e1]
              exact K
    ·
      refine go hX 3 (gs := [True, True, True]) (z' := (if (nI m) ≤ (nI k) then 235 else 207, [some (.ref 65), some (.int (nI n)), some (.int (nI m)), some (.int (nI k)), some (.int x4)], [], E)) rfl ⟨trivial, trivial, trivial, trivial⟩ ?_
      refine br (fun b1 => ?_) (fun b1 => ?_)
      ·
        refine go hX 3 (gs := [True, True, True]) (z' := (if (nI k) = (nI m) then 240 else 251, [some (.ref 65), some (.int (nI n)), some (.int (nI m)), some (.int (nI k)), some (.int x4)], [], E)) rfl ⟨trivial, trivial, trivial, trivial⟩ ?_
        refine br (fun b2 => ?_) (fun b2 => ?_)
        ·
          refine go hX 5 (gs := [True, True, True, True, True]) (z' := (if (nI k) = (2 * (nI n)) then 247 else 251, [some (.ref 65), some (.int (nI n)), some (.int (nI m)), some (.int (nI k)), some (.int x4)], [], E)) rfl ⟨trivial, trivial, trivial, trivial, trivial, trivial⟩ ?_
          refine br (fun b3 => ?_) (fun b3 => ?_)
          ·
            refine go hX 2 (gs := [True, True]) (z' := (254, [some (.ref 65), some (.int (nI n)), some (.int (nI m)), some (.int (nI k)), some (.int x4)], [.int 0], E)) rfl ⟨trivial, trivial, trivial⟩ ?_
            refine rt_ hX (G := True) (r := some (.int 0)) rfl trivial ?_
            have q1 : m ≤ k := (tx_le (by omega) (by omega)).mp b1
            have ke : k0 = k := Nat.le_antisymm (Nat.le_of_not_lt (fun z => by have q := (p1 k z).1; omega)) hk0
            have hk60 : k ≤ 60 := by omega
            have a1 : k = m := by have z := congrArg Int32.toInt b2; rw [nI_i (by omega), nI_i (by omega)] at z; omega
            have a2 : k = 2 * n := by have z := congrArg Int32.toInt b3; rw [ck_2, nI_i (by omega), nI_i (by omega)] at z; omega
            rw [ckA_0 (by omega) (by omega)] at K
            exact K
          ·
            refine go hX 3 (gs := [True, True, True]) (z' := (254, [some (.ref 65), some (.int (nI n)), some (.int (nI m)), some (.int (nI k)), some (.int x4)], [.int (1 + (nI k))], E)) rfl ⟨trivial, trivial, trivial, trivial⟩ ?_
            refine rt_ hX (G := True) (r := some (.int (1 + (nI k)))) rfl trivial ?_
            have q1 : m ≤ k := (tx_le (by omega) (by omega)).mp b1
            have ke : k0 = k := Nat.le_antisymm (Nat.le_of_not_lt (fun z => by have q := (p1 k z).1; omega)) hk0
            have hk60 : k ≤ 60 := by omega
            have a1 : k = m := by have z := congrArg Int32.toInt b2; rw [nI_i (by omega), nI_i (by omega)] at z; omega
            have a2 : ¬ k = 2 * n := fun z => b3 (by rw [ck_2, z])
            have e1 : (1 : Int32) + nI k = ckA k0 m (2 * n) := by
              rw [ck_1, ke]
              exact (if_neg (fun z => by omega)).symm
            rw [e1]
            exact K
        ·
          refine go hX 3 (gs := [True, True, True]) (z' := (254, [some (.ref 65), some (.int (nI n)), some (.int (nI m)), some (.int (nI k)), some (.int x4)], [.int (1 + (nI k))], E)) rfl ⟨trivial, trivial, trivial, trivial⟩ ?_
          refine rt_ hX (G := True) (r := some (.int (1 + (nI k)))) rfl trivial ?_
          have q1 : m ≤ k := (tx_le (by omega) (by omega)).mp b1
          have ke : k0 = k := Nat.le_antisymm (Nat.le_of_not_lt (fun z => by have q := (p1 k z).1; omega)) hk0
          have hk60 : k ≤ 60 := by omega
          have a1 : ¬ k = m := fun z => b2 (by rw [z])
          have e1 : (1 : Int32) + nI k = ckA k0 m (2 * n) := by
            rw [ck_1, ke]
            exact (if_neg (fun z => by omega)).symm
          rw [e1]
          exact K
      ·
        refine go hX 5 (gs := [True, True, True, True, True]) (z' := (if (2 * (nI n)) ≤ (nI k) then 235 else 214, [some (.ref 65), some (.int (nI n)), some (.int (nI m)), some (.int (nI k)), some (.int x4)], [], E)) rfl ⟨trivial, trivial, trivial, trivial, trivial, trivial⟩ ?_
        refine br (fun b4 => ?_) (fun b4 => ?_)
        ·
          refine go hX 3 (gs := [True, True, True]) (z' := (if (nI k) = (nI m) then 240 else 251, [some (.ref 65), some (.int (nI n)), some (.int (nI m)), some (.int (nI k)), some (.int x4)], [], E)) rfl ⟨trivial, trivial, trivial, trivial⟩ ?_
          refine br (fun b5 => ?_) (fun b5 => ?_)
          ·
            refine go hX 5 (gs := [True, True, True, True, True]) (z' := (if (nI k) = (2 * (nI n)) then 247 else 251, [some (.ref 65), some (.int (nI n)), some (.int (nI m)), some (.int (nI k)), some (.int x4)], [], E)) rfl ⟨trivial, trivial, trivial, trivial, trivial, trivial⟩ ?_
            refine br (fun b6 => ?_) (fun b6 => ?_)
            ·
              refine go hX 2 (gs := [True, True]) (z' := (254, [some (.ref 65), some (.int (nI n)), some (.int (nI m)), some (.int (nI k)), some (.int x4)], [.int 0], E)) rfl ⟨trivial, trivial, trivial⟩ ?_
              refine rt_ hX (G := True) (r := some (.int 0)) rfl trivial ?_
              have q1 : k < m := Nat.lt_of_not_le (fun z => b1 ((tx_le (by omega) (by omega)).mpr z))
              have q2 : 2 * n ≤ k := (tx_le (by omega) (by omega)).mp (by rw [← ck_2]; exact b4)
              have ke : k0 = k := Nat.le_antisymm (Nat.le_of_not_lt (fun z => by have q := (p1 k z).2.1; omega)) hk0
              have hk60 : k ≤ 60 := by omega
              have a1 : k = m := by have z := congrArg Int32.toInt b5; rw [nI_i (by omega), nI_i (by omega)] at z; omega
              have a2 : k = 2 * n := by have z := congrArg Int32.toInt b6; rw [ck_2, nI_i (by omega), nI_i (by omega)] at z; omega
              rw [ckA_0 (by omega) (by omega)] at K
              exact K
            ·
              refine go hX 3 (gs := [True, True, True]) (z' := (254, [some (.ref 65), some (.int (nI n)), some (.int (nI m)), some (.int (nI k)), some (.int x4)], [.int (1 + (nI k))], E)) rfl ⟨trivial, trivial, trivial, trivial⟩ ?_
              refine rt_ hX (G := True) (r := some (.int (1 + (nI k)))) rfl trivial ?_
              have q1 : k < m := Nat.lt_of_not_le (fun z => b1 ((tx_le (by omega) (by omega)).mpr z))
              have q2 : 2 * n ≤ k := (tx_le (by omega) (by omega)).mp (by rw [← ck_2]; exact b4)
              have ke : k0 = k := Nat.le_antisymm (Nat.le_of_not_lt (fun z => by have q := (p1 k z).2.1; omega)) hk0
              have hk60 : k ≤ 60 := by omega
              have a1 : k = m := by have z := congrArg Int32.toInt b5; rw [nI_i (by omega), nI_i (by omega)] at z; omega
              have a2 : ¬ k = 2 * n := fun z => b6 (by rw [ck_2, z])
              have e1 : (1 : Int32) + nI k = ckA k0 m (2 * n) := by
                rw [ck_1, ke]
                exact (if_neg (fun z => by omega)).symm
              rw [e1]
              exact K
          ·
            refine go hX 3 (gs := [True, True, True]) (z' := (254, [some (.ref 65), some (.int (nI n)), some (.int (nI m)), some (.int (nI k)), some (.int x4)], [.int (1 + (nI k))], E)) rfl ⟨trivial, trivial, trivial, trivial⟩ ?_
            refine rt_ hX (G := True) (r := some (.int (1 + (nI k)))) rfl trivial ?_
            have q1 : k < m := Nat.lt_of_not_le (fun z => b1 ((tx_le (by omega) (by omega)).mpr z))
            have q2 : 2 * n ≤ k := (tx_le (by omega) (by omega)).mp (by rw [← ck_2]; exact b4)
            have ke : k0 = k := Nat.le_antisymm (Nat.le_of_not_lt (fun z => by have q := (p1 k z).2.1; omega)) hk0
            have hk60 : k ≤ 60 := by omega
            have a1 : ¬ k = m := fun z => b5 (by rw [z])
            have e1 : (1 : Int32) + nI k = ckA k0 m (2 * n) := by
              rw [ck_1, ke]
              exact (if_neg (fun z => by omega)).symm
            rw [e1]
            exact K
        ·
          refine go hX 9 (gs := [True, ibd (nI k) 60, True, True, True, ibd (nI k) 60, True, True, True]) (z' := (if (E.1 82 (nI k)) = (E.1 83 (nI k)) then 229 else 235, [some (.ref 65), some (.int (nI n)), some (.int (nI m)), some (.int (nI k)), some (.int x4)], [], E)) rfl ⟨trivial, ?_, trivial, trivial, trivial, ?_, trivial, trivial, trivial, trivial⟩ ?_
          · exact ibd_of (B := 60) rfl (tx_0 _ (by omega)) ((tx_lt (b := 60) (by omega) (by omega)).mpr (Nat.lt_of_lt_of_le (Nat.lt_of_not_le (fun z => b1 ((tx_le (by omega) (by omega)).mpr z))) m60))
          · exact ibd_of (B := 60) rfl (tx_0 _ (by omega)) ((tx_lt (b := 60) (by omega) (by omega)).mpr (Nat.lt_of_lt_of_le (Nat.lt_of_not_le (fun z => b1 ((tx_le (by omega) (by omega)).mpr z))) m60))
          refine br (fun b7 => ?_) (fun b7 => ?_)
          ·
            refine go hX 2 (gs := [True, True]) (z' := (202, [some (.ref 65), some (.int (nI n)), some (.int (nI m)), some (.int ((nI k) + 1)), some (.int x4)], [], E)) rfl ⟨trivial, trivial, trivial⟩ ?_
            have q1 : k < m := Nat.lt_of_not_le (fun z => b1 ((tx_le (by omega) (by omega)).mpr z))
            have q2 : k < 2 * n := Nat.lt_of_not_le (fun z => b4 (by rw [ck_2]; exact (tx_le (by omega) (by omega)).mpr z))
            have q3 := b7
            rw [hw k q1, hv k q2] at q3
            rw [tx_1]
            exact ih (k + 1) (Nat.lt_succ_self k) (by omega) (Or.inr ⟨_, rfl⟩) (Nat.lt_of_le_of_ne hk0 (fun z => p2 (by rw [← z]; exact ⟨q1, q2, q3⟩)))
          ·
            refine go hX 3 (gs := [True, True, True]) (z' := (if (nI k) = (nI m) then 240 else 251, [some (.ref 65), some (.int (nI n)), some (.int (nI m)), some (.int (nI k)), some (.int x4)], [], E)) rfl ⟨trivial, trivial, trivial, trivial⟩ ?_
            refine br (fun b8 => ?_) (fun b8 => ?_)
            ·
              refine go hX 5 (gs := [True, True, True, True, True]) (z' := (if (nI k) = (2 * (nI n)) then 247 else 251, [some (.ref 65), some (.int (nI n)), some (.int (nI m)), some (.int (nI k)), some (.int x4)], [], E)) rfl ⟨trivial, trivial, trivial, trivial, trivial, trivial⟩ ?_
              refine br (fun b9 => ?_) (fun b9 => ?_)
              ·
                refine go hX 2 (gs := [True, True]) (z' := (254, [some (.ref 65), some (.int (nI n)), some (.int (nI m)), some (.int (nI k)), some (.int x4)], [.int 0], E)) rfl ⟨trivial, trivial, trivial⟩ ?_
                refine rt_ hX (G := True) (r := some (.int 0)) rfl trivial ?_
                have q1 : k < m := Nat.lt_of_not_le (fun z => b1 ((tx_le (by omega) (by omega)).mpr z))
                have q2 : k < 2 * n := Nat.lt_of_not_le (fun z => b4 (by rw [ck_2]; exact (tx_le (by omega) (by omega)).mpr z))
                have q3 := b7
                rw [hw k q1, hv k q2] at q3
                have ke : k0 = k := Nat.le_antisymm (Nat.le_of_not_lt (fun z => q3 (p1 k z).2.2)) hk0
                have hk60 : k ≤ 60 := by omega
                have a1 : k = m := by have z := congrArg Int32.toInt b8; rw [nI_i (by omega), nI_i (by omega)] at z; omega
                have a2 : k = 2 * n := by have z := congrArg Int32.toInt b9; rw [ck_2, nI_i (by omega), nI_i (by omega)] at z; omega
                rw [ckA_0 (by omega) (by omega)] at K
                exact K
              ·
                refine go hX 3 (gs := [True, True, True]) (z' := (254, [some (.ref 65), some (.int (nI n)), some (.int (nI m)), some (.int (nI k)), some (.int x4)], [.int (1 + (nI k))], E)) rfl ⟨trivial, trivial, trivial, trivial⟩ ?_
                refine rt_ hX (G := True) (r := some (.int (1 + (nI k)))) rfl trivial ?_
                have q1 : k < m := Nat.lt_of_not_le (fun z => b1 ((tx_le (by omega) (by omega)).mpr z))
                have q2 : k < 2 * n := Nat.lt_of_not_le (fun z => b4 (by rw [ck_2]; exact (tx_le (by omega) (by omega)).mpr z))
                have q3 := b7
                rw [hw k q1, hv k q2] at q3
                have ke : k0 = k := Nat.le_antisymm (Nat.le_of_not_lt (fun z => q3 (p1 k z).2.2)) hk0
                have hk60 : k ≤ 60 := by omega
                have a1 : k = m := by have z := congrArg Int32.toInt b8; rw [nI_i (by omega), nI_i (by omega)] at z; omega
                have a2 : ¬ k = 2 * n := fun z => b9 (by rw [ck_2, z])
                have e1 : (1 : Int32) + nI k = ckA k0 m (2 * n) := by
                  rw [ck_1, ke]
                  exact (if_neg (fun z => by omega)).symm
                rw [e1]
                exact K
            ·
              refine go hX 3 (gs := [True, True, True]) (z' := (254, [some (.ref 65), some (.int (nI n)), some (.int (nI m)), some (.int (nI k)), some (.int x4)], [.int (1 + (nI k))], E)) rfl ⟨trivial, trivial, trivial, trivial⟩ ?_
              refine rt_ hX (G := True) (r := some (.int (1 + (nI k)))) rfl trivial ?_
              have q1 : k < m := Nat.lt_of_not_le (fun z => b1 ((tx_le (by omega) (by omega)).mpr z))
              have q2 : k < 2 * n := Nat.lt_of_not_le (fun z => b4 (by rw [ck_2]; exact (tx_le (by omega) (by omega)).mpr z))
              have q3 := b7
              rw [hw k q1, hv k q2] at q3
              have ke : k0 = k := Nat.le_antisymm (Nat.le_of_not_lt (fun z => q3 (p1 k z).2.2)) hk0
              have hk60 : k ≤ 60 := by omega
              have a1 : ¬ k = m := fun z => b8 (by rw [z])
              have e1 : (1 : Int32) + nI k = ckA k0 m (2 * n) := by
                rw [ck_1, ke]
                exact (if_neg (fun z => by omega)).symm
              rw [e1]
              exact K
  exact fun {x} hx => key (Nat.zero_le _) hx (Nat.zero_le _)
theorem lp_ckB {d : Nat} {Q : Option Value → Hp → Prop} {X : Cf → Prop} (hX : Clo (Call (d + 6)) cd261 (some .int) Q X) {Bs : Nat → Hp} {E : Hp} {n m nh ns k0 : Nat} {v w : Nat → Int32} (n30 : n ≤ 30) (m60 : m ≤ 60) (nh10 : nh ≤ 10) (ns3 : ns ≤ 3) (hB : ∀ i, i < n → ∃ g, CRun (d + 6) 247 [.ref 65] (Bs i) none g ∧ g.1 66 2 = nI nh ∧ g.1 66 1 = nI ns ∧ Bs (i + 1) = hI (hI g 83 (2 * (nI i)) (ckS (fun k => g.1 66 ((40 + (16 * nI k)) + 10)) nh)) 83 ((2 * (nI i)) + 1) (ckS (fun k => g.1 66 ((10 + (10 * nI k)) + 6)) ns)) (cE : CRun (d + 6) 260 [.ref 65, .ref 68, .ref 66] (Bs n) none E) (hw : ∀ j, j < m → E.1 82 (nI j) = w j) (hv : ∀ j, j < 2 * n → E.1 83 (nI j) = v j) (p1 : ∀ j, j < k0 → j < m ∧ j < 2 * n ∧ w j = v j) (p2 : ¬ (k0 < m ∧ k0 < 2 * n ∧ w k0 = v k0)) (K : Q (some (.int (ckA k0 m (2 * n)))) E) {i : Nat} (hk : i ≤ n) : ∀ {x : Option Value}, (x = none ∨ ∃ x4, x = some (.int x4)) → X (61, [some (.ref 65), some (.int (nI n)), some (.int (nI m)), some (.int (nI i)), x], [], (Bs i)) := by
  refine dn_ind (P := fun i => ∀ {x : Option Value}, (x = none ∨ ∃ x4, x = some (.int x4)) → X (61, [some (.ref 65), some (.int (nI n)), some (.int (nI m)), some (.int (nI i)), x], [], (Bs i))) (fun i hk ih => ?_) hk
  intro x hx
  rcases hx with rfl | ⟨x4, rfl⟩
  ·
    refine go hX 3 (gs := [True, True, True]) (z' := (if (nI n) ≤ (nI i) then 188 else 66, [some (.ref 65), some (.int (nI n)), some (.int (nI m)), some (.int (nI i)), none], [], (Bs i))) rfl ⟨trivial, trivial, trivial, trivial⟩ ?_
    refine br (fun b1 => ?_) (fun b1 => ?_)
    ·
      refine go hX 5 (gs := [True, True, True, True, True]) (z' := (197, [some (.ref 65), some (.int (nI n)), some (.int (nI m)), some (.int (nI i)), none], [.ref 66, .ref 68, .ref 65], (Bs i))) rfl ⟨trivial, trivial, trivial, trivial, trivial, trivial⟩ ?_
      refine cl hX 260 3 [.ref 65, .ref 68, .ref 66] [] rfl rfl rfl rfl ?_
      have e : i = n := Nat.le_antisymm hk ((tx_le (by omega) (by omega)).mp b1)
      have cE1 : CRun (d + 6) 260 [.ref 65, .ref 68, .ref 66] (Bs i) none E := by rw [e]; exact cE
      refine cE1 _ ?_
      show X (200, [some (.ref 65), some (.int (nI n)), some (.int (nI m)), some (.int (nI i)), none], [], E)
      refine go hX 2 (gs := [True, True]) (z' := (202, [some (.ref 65), some (.int (nI n)), some (.int (nI m)), some (.int 0), none], [], E)) rfl ⟨trivial, trivial, trivial⟩ ?_
      exact lp_ckW (d := d + 5) hX n30 m60 hw hv p1 p2 K (Or.inl rfl)
    ·
      have kx : i < n := Nat.lt_of_not_le (fun z => b1 ((tx_le (by omega) (by omega)).mpr z))
      have ih1 := ih (i + 1) (Nat.lt_succ_self i) (by omega) (x := some (.int (nI ns))) (Or.inr ⟨_, rfl⟩)
      refine go hX 1 (gs := [True]) (z' := (67, [some (.ref 65), some (.int (nI n)), some (.int (nI m)), some (.int (nI i)), none], [.ref 65], (Bs i))) rfl ⟨trivial, trivial⟩ ?_
      refine cl hX 247 1 [.ref 65] [] rfl rfl rfl rfl ?_
      obtain ⟨g, cg, en, es, eB⟩ := hB i kx
      refine cg _ ?_
      show X (70, [some (.ref 65), some (.int (nI n)), some (.int (nI m)), some (.int (nI i)), none], [], g)
      refine go hX 18 (gs := [True, True, ibd ((2 * (nI i)) + 1) 60, True, True, True, True, True, True, True, True, ibd (2 * (nI i)) 60, True, True, True, True, True, True]) (z' := (93, [some (.ref 65), some (.int (nI n)), some (.int (nI m)), some (.int (nI i)), some (.int 0)], [], (hI (hI g 83 (2 * (nI i)) 0) 83 ((2 * (nI i)) + 1) 0))) rfl ⟨trivial, trivial, ?_, trivial, trivial, trivial, trivial, trivial, trivial, trivial, trivial, ?_, trivial, trivial, trivial, trivial, trivial, trivial, trivial⟩ ?_
      · rw [ck_2, ck_p]; exact ibd_of (B := 60) rfl (tx_0 _ (by omega)) ((tx_lt (b := 60) (by omega) (by omega)).mpr (by omega))
      · rw [ck_2]; exact ibd_of (B := 60) rfl (tx_0 _ (by omega)) ((tx_lt (b := 60) (by omega) (by omega)).mpr (by omega))
      refine lp_ckH (d := d + 5) hX (nh := nh) (by omega) nh10 en ?_ (Nat.zero_le nh)
      show X (135, [some (.ref 65), some (.int (nI n)), some (.int (nI m)), some (.int (nI i)), some (.int (nI nh))], [], (hI (hI g 83 (2 * (nI i)) (ckS (fun k => g.1 66 ((40 + (16 * nI k)) + 10)) nh)) 83 ((2 * (nI i)) + 1) 0))
      refine go hX 2 (gs := [True, True]) (z' := (138, [some (.ref 65), some (.int (nI n)), some (.int (nI m)), some (.int (nI i)), some (.int 0)], [], (hI (hI g 83 (2 * (nI i)) (ckS (fun k => g.1 66 ((40 + (16 * nI k)) + 10)) nh)) 83 ((2 * (nI i)) + 1) 0))) rfl ⟨trivial, trivial, trivial⟩ ?_
      refine lp_ckK (d := d + 5) hX (nh := nh) (ns := ns) (by omega) ns3 es ?_ (Nat.zero_le ns)
      show X (182, [some (.ref 65), some (.int (nI n)), some (.int (nI m)), some (.int (nI i)), some (.int (nI ns))], [], (hI (hI g 83 (2 * (nI i)) (ckS (fun k => g.1 66 ((40 + (16 * nI k)) + 10)) nh)) 83 ((2 * (nI i)) + 1) (ckS (fun k => g.1 66 ((10 + (10 * nI k)) + 6)) ns)))
      refine go hX 2 (gs := [True, True]) (z' := (61, [some (.ref 65), some (.int (nI n)), some (.int (nI m)), some (.int ((nI i) + 1)), some (.int (nI ns))], [], (hI (hI g 83 (2 * (nI i)) (ckS (fun k => g.1 66 ((40 + (16 * nI k)) + 10)) nh)) 83 ((2 * (nI i)) + 1) (ckS (fun k => g.1 66 ((10 + (10 * nI k)) + 6)) ns)))) rfl ⟨trivial, trivial, trivial⟩ ?_
      rw [tx_1]
      rw [eB] at ih1
      exact ih1
  ·
    refine go hX 3 (gs := [True, True, True]) (z' := (if (nI n) ≤ (nI i) then 188 else 66, [some (.ref 65), some (.int (nI n)), some (.int (nI m)), some (.int (nI i)), some (.int x4)], [], (Bs i))) rfl ⟨trivial, trivial, trivial, trivial⟩ ?_
    refine br (fun b1 => ?_) (fun b1 => ?_)
    ·
      refine go hX 5 (gs := [True, True, True, True, True]) (z' := (197, [some (.ref 65), some (.int (nI n)), some (.int (nI m)), some (.int (nI i)), some (.int x4)], [.ref 66, .ref 68, .ref 65], (Bs i))) rfl ⟨trivial, trivial, trivial, trivial, trivial, trivial⟩ ?_
      refine cl hX 260 3 [.ref 65, .ref 68, .ref 66] [] rfl rfl rfl rfl ?_
      have e : i = n := Nat.le_antisymm hk ((tx_le (by omega) (by omega)).mp b1)
      have cE1 : CRun (d + 6) 260 [.ref 65, .ref 68, .ref 66] (Bs i) none E := by rw [e]; exact cE
      refine cE1 _ ?_
      show X (200, [some (.ref 65), some (.int (nI n)), some (.int (nI m)), some (.int (nI i)), some (.int x4)], [], E)
      refine go hX 2 (gs := [True, True]) (z' := (202, [some (.ref 65), some (.int (nI n)), some (.int (nI m)), some (.int 0), some (.int x4)], [], E)) rfl ⟨trivial, trivial, trivial⟩ ?_
      exact lp_ckW (d := d + 5) hX n30 m60 hw hv p1 p2 K (Or.inr ⟨_, rfl⟩)
    ·
      have kx : i < n := Nat.lt_of_not_le (fun z => b1 ((tx_le (by omega) (by omega)).mpr z))
      have ih1 := ih (i + 1) (Nat.lt_succ_self i) (by omega) (x := some (.int (nI ns))) (Or.inr ⟨_, rfl⟩)
      refine go hX 1 (gs := [True]) (z' := (67, [some (.ref 65), some (.int (nI n)), some (.int (nI m)), some (.int (nI i)), some (.int x4)], [.ref 65], (Bs i))) rfl ⟨trivial, trivial⟩ ?_
      refine cl hX 247 1 [.ref 65] [] rfl rfl rfl rfl ?_
      obtain ⟨g, cg, en, es, eB⟩ := hB i kx
      refine cg _ ?_
      show X (70, [some (.ref 65), some (.int (nI n)), some (.int (nI m)), some (.int (nI i)), some (.int x4)], [], g)
      refine go hX 18 (gs := [True, True, ibd ((2 * (nI i)) + 1) 60, True, True, True, True, True, True, True, True, ibd (2 * (nI i)) 60, True, True, True, True, True, True]) (z' := (93, [some (.ref 65), some (.int (nI n)), some (.int (nI m)), some (.int (nI i)), some (.int 0)], [], (hI (hI g 83 (2 * (nI i)) 0) 83 ((2 * (nI i)) + 1) 0))) rfl ⟨trivial, trivial, ?_, trivial, trivial, trivial, trivial, trivial, trivial, trivial, trivial, ?_, trivial, trivial, trivial, trivial, trivial, trivial, trivial⟩ ?_
      · rw [ck_2, ck_p]; exact ibd_of (B := 60) rfl (tx_0 _ (by omega)) ((tx_lt (b := 60) (by omega) (by omega)).mpr (by omega))
      · rw [ck_2]; exact ibd_of (B := 60) rfl (tx_0 _ (by omega)) ((tx_lt (b := 60) (by omega) (by omega)).mpr (by omega))
      refine lp_ckH (d := d + 5) hX (nh := nh) (by omega) nh10 en ?_ (Nat.zero_le nh)
      show X (135, [some (.ref 65), some (.int (nI n)), some (.int (nI m)), some (.int (nI i)), some (.int (nI nh))], [], (hI (hI g 83 (2 * (nI i)) (ckS (fun k => g.1 66 ((40 + (16 * nI k)) + 10)) nh)) 83 ((2 * (nI i)) + 1) 0))
      refine go hX 2 (gs := [True, True]) (z' := (138, [some (.ref 65), some (.int (nI n)), some (.int (nI m)), some (.int (nI i)), some (.int 0)], [], (hI (hI g 83 (2 * (nI i)) (ckS (fun k => g.1 66 ((40 + (16 * nI k)) + 10)) nh)) 83 ((2 * (nI i)) + 1) 0))) rfl ⟨trivial, trivial, trivial⟩ ?_
      refine lp_ckK (d := d + 5) hX (nh := nh) (ns := ns) (by omega) ns3 es ?_ (Nat.zero_le ns)
      show X (182, [some (.ref 65), some (.int (nI n)), some (.int (nI m)), some (.int (nI i)), some (.int (nI ns))], [], (hI (hI g 83 (2 * (nI i)) (ckS (fun k => g.1 66 ((40 + (16 * nI k)) + 10)) nh)) 83 ((2 * (nI i)) + 1) (ckS (fun k => g.1 66 ((10 + (10 * nI k)) + 6)) ns)))
      refine go hX 2 (gs := [True, True]) (z' := (61, [some (.ref 65), some (.int (nI n)), some (.int (nI m)), some (.int ((nI i) + 1)), some (.int (nI ns))], [], (hI (hI g 83 (2 * (nI i)) (ckS (fun k => g.1 66 ((40 + (16 * nI k)) + 10)) nh)) 83 ((2 * (nI i)) + 1) (ckS (fun k => g.1 66 ((10 + (10 * nI k)) + 6)) ns)))) rfl ⟨trivial, trivial, trivial⟩ ?_
      rw [tx_1]
      rw [eB] at ih1
      exact ih1
theorem ck_inB {d : Nat} {Q : Option Value → Hp → Prop} {h : Hp} {n : Int32} (k1 : 1 ≤ n ∧ n ≤ 30 → Q (some (.int 1)) h) (k0 : ¬ (1 ≤ n ∧ n ≤ 30) → Q (some (.int 0)) h) : Call (d + 1) 159 [.long (Int32.toInt64 n), .long 1, .long 30] h Q := by
  have e1 : (1 : Int64) ≤ Int32.toInt64 n ↔ 1 ≤ n := i64_le 1 n
  have e2 : Int32.toInt64 n ≤ (30 : Int64) ↔ n ≤ 30 := i64_le n 30
  exact c_isInP (fun z => k1 ⟨e1.mp z.1, e2.mp z.2⟩) (fun z => k0 (fun q => z ⟨e1.mpr q.1, e2.mpr q.2⟩))
theorem ck_B0 {d : Nat} {Q : Option Value → Hp → Prop} {h : Hp} {n : Int32} (hn : ¬ (1 ≤ n ∧ n ≤ 30)) (kB : Q (some (.int (-1000000001))) (hI h 65 34 0)) : Call (d + 7) 261 [.ref 65, .int n] h Q := by
  refine call_of (rfl : psM[261]? = some _) rfl rfl (rcvV rfl) (fun X hX => ?_)
  show X (0, [some (.ref 65), some (.int n), none, none, none], [], h)
  refine go hX 10 (gs := [True, True, True, True, True, True, True, True, True, True]) (z' := (16, [some (.ref 65), some (.int n), some (.int (h.1 65 34)), none, none], [.long 30, .long 1, .long (Int32.toInt64 n)], (hI h 65 34 0))) rfl ⟨trivial, trivial, trivial, trivial, trivial, trivial, trivial, trivial, trivial, trivial, trivial⟩ ?_
  refine cl hX 159 3 [.long (Int32.toInt64 n), .long 1, .long 30] [] rfl rfl rfl rfl ?_
  refine ck_inB (fun bw => ?_) (fun bw => ?_)
  ·
    show X (19, [some (.ref 65), some (.int n), some (.int (h.1 65 34)), none, none], [.int 1], (hI h 65 34 0))
    refine go hX 4 (gs := [True, True, True, True]) (z' := (if (h.1 65 3) = 0 then 32 else 35, [some (.ref 65), some (.int n), some (.int (h.1 65 34)), none, none], [], (hI h 65 34 0))) rfl ⟨trivial, trivial, trivial, trivial, trivial⟩ ?_
    refine br (fun b1 => ?_) (fun b1 => ?_)
    ·
      refine go hX 1 (gs := [True]) (z' := (34, [some (.ref 65), some (.int n), some (.int (h.1 65 34)), none, none], [.int (-1000000002)], (hI h 65 34 0))) rfl ⟨trivial, trivial⟩ ?_
      refine rt_ hX (G := True) (r := some (.int (-1000000002))) rfl trivial ?_
      exact absurd bw hn
    ·
      refine go hX 5 (gs := [True, True, True, True, True]) (z' := (44, [some (.ref 65), some (.int n), some (.int (h.1 65 34)), none, none], [.ref 68, .ref 66, .ref 65], (hI h 65 34 0))) rfl ⟨trivial, trivial, trivial, trivial, trivial, trivial⟩ ?_
      refine cl hX 260 3 [.ref 65, .ref 66, .ref 68] [] rfl rfl rfl rfl ?_
      exact absurd bw hn
  ·
    show X (19, [some (.ref 65), some (.int n), some (.int (h.1 65 34)), none, none], [.int 0], (hI h 65 34 0))
    refine go hX 2 (gs := [True, True]) (z' := (24, [some (.ref 65), some (.int n), some (.int (h.1 65 34)), none, none], [.int (-1000000001)], (hI h 65 34 0))) rfl ⟨trivial, trivial, trivial⟩ ?_
    refine rt_ hX (G := True) (r := some (.int (-1000000001))) rfl trivial ?_
    exact kB
theorem ck_B1 {d : Nat} {Q : Option Value → Hp → Prop} {h : Hp} {n : Int32} (hn : 1 ≤ n ∧ n ≤ 30) (hz : h.1 65 3 = 0) (kN : Q (some (.int (-1000000002))) (hI h 65 34 0)) : Call (d + 7) 261 [.ref 65, .int n] h Q := by
  refine call_of (rfl : psM[261]? = some _) rfl rfl (rcvV rfl) (fun X hX => ?_)
  show X (0, [some (.ref 65), some (.int n), none, none, none], [], h)
  refine go hX 10 (gs := [True, True, True, True, True, True, True, True, True, True]) (z' := (16, [some (.ref 65), some (.int n), some (.int (h.1 65 34)), none, none], [.long 30, .long 1, .long (Int32.toInt64 n)], (hI h 65 34 0))) rfl ⟨trivial, trivial, trivial, trivial, trivial, trivial, trivial, trivial, trivial, trivial, trivial⟩ ?_
  refine cl hX 159 3 [.long (Int32.toInt64 n), .long 1, .long 30] [] rfl rfl rfl rfl ?_
  refine ck_inB (fun bw => ?_) (fun bw => ?_)
  ·
    show X (19, [some (.ref 65), some (.int n), some (.int (h.1 65 34)), none, none], [.int 1], (hI h 65 34 0))
    refine go hX 4 (gs := [True, True, True, True]) (z' := (if (h.1 65 3) = 0 then 32 else 35, [some (.ref 65), some (.int n), some (.int (h.1 65 34)), none, none], [], (hI h 65 34 0))) rfl ⟨trivial, trivial, trivial, trivial, trivial⟩ ?_
    refine br (fun b1 => ?_) (fun b1 => ?_)
    ·
      refine go hX 1 (gs := [True]) (z' := (34, [some (.ref 65), some (.int n), some (.int (h.1 65 34)), none, none], [.int (-1000000002)], (hI h 65 34 0))) rfl ⟨trivial, trivial⟩ ?_
      refine rt_ hX (G := True) (r := some (.int (-1000000002))) rfl trivial ?_
      exact kN
    ·
      refine go hX 5 (gs := [True, True, True, True, True]) (z' := (44, [some (.ref 65), some (.int n), some (.int (h.1 65 34)), none, none], [.ref 68, .ref 66, .ref 65], (hI h 65 34 0))) rfl ⟨trivial, trivial, trivial, trivial, trivial, trivial⟩ ?_
      refine cl hX 260 3 [.ref 65, .ref 66, .ref 68] [] rfl rfl rfl rfl ?_
      exact absurd hz b1
  ·
    show X (19, [some (.ref 65), some (.int n), some (.int (h.1 65 34)), none, none], [.int 0], (hI h 65 34 0))
    refine go hX 2 (gs := [True, True]) (z' := (24, [some (.ref 65), some (.int n), some (.int (h.1 65 34)), none, none], [.int (-1000000001)], (hI h 65 34 0))) rfl ⟨trivial, trivial, trivial⟩ ?_
    refine rt_ hX (G := True) (r := some (.int (-1000000001))) rfl trivial ?_
    exact absurd hn bw
theorem ck_B2 {d : Nat} {Q : Option Value → Hp → Prop} {h G : Hp} {Bs : Nat → Hp} {E : Hp} {n m nh ns k0 : Nat} {v w : Nat → Int32} (n30 : n ≤ 30) (m60 : m ≤ 60) (nh10 : nh ≤ 10) (ns3 : ns ≤ 3) (hB : ∀ i, i < n → ∃ g, CRun (d + 6) 247 [.ref 65] (Bs i) none g ∧ g.1 66 2 = nI nh ∧ g.1 66 1 = nI ns ∧ Bs (i + 1) = hI (hI g 83 (2 * (nI i)) (ckS (fun k => g.1 66 ((40 + (16 * nI k)) + 10)) nh)) 83 ((2 * (nI i)) + 1) (ckS (fun k => g.1 66 ((10 + (10 * nI k)) + 6)) ns)) (cE : CRun (d + 6) 260 [.ref 65, .ref 68, .ref 66] (Bs n) none E) (hw : ∀ j, j < m → E.1 82 (nI j) = w j) (hv : ∀ j, j < 2 * n → E.1 83 (nI j) = v j) (p1 : ∀ j, j < k0 → j < m ∧ j < 2 * n ∧ w j = v j) (p2 : ¬ (k0 < m ∧ k0 < 2 * n ∧ w k0 = v k0)) (K : Q (some (.int (ckA k0 m (2 * n)))) E) (em : h.1 65 34 = nI m) (hn : 1 ≤ nI n ∧ nI n ≤ 30) (hz : ¬ h.1 65 3 = 0) (c1 : CRun (d + 6) 260 [.ref 65, .ref 66, .ref 68] (hI h 65 34 0) none G) (c2 : CRun (d + 6) 260 [.ref 65, .ref 67, .ref 66] G none (Bs 0)) : Call (d + 7) 261 [.ref 65, .int (nI n)] h Q := by
  refine call_of (rfl : psM[261]? = some _) rfl rfl (rcvV rfl) (fun X hX => ?_)
  show X (0, [some (.ref 65), some (.int (nI n)), none, none, none], [], h)
  refine go hX 10 (gs := [True, True, True, True, True, True, True, True, True, True]) (z' := (16, [some (.ref 65), some (.int (nI n)), some (.int (h.1 65 34)), none, none], [.long 30, .long 1, .long (Int32.toInt64 (nI n))], (hI h 65 34 0))) rfl ⟨trivial, trivial, trivial, trivial, trivial, trivial, trivial, trivial, trivial, trivial, trivial⟩ ?_
  refine cl hX 159 3 [.long (Int32.toInt64 (nI n)), .long 1, .long 30] [] rfl rfl rfl rfl ?_
  refine ck_inB (fun bw => ?_) (fun bw => ?_)
  ·
    show X (19, [some (.ref 65), some (.int (nI n)), some (.int (h.1 65 34)), none, none], [.int 1], (hI h 65 34 0))
    refine go hX 4 (gs := [True, True, True, True]) (z' := (if (h.1 65 3) = 0 then 32 else 35, [some (.ref 65), some (.int (nI n)), some (.int (h.1 65 34)), none, none], [], (hI h 65 34 0))) rfl ⟨trivial, trivial, trivial, trivial, trivial⟩ ?_
    refine br (fun b1 => ?_) (fun b1 => ?_)
    ·
      refine go hX 1 (gs := [True]) (z' := (34, [some (.ref 65), some (.int (nI n)), some (.int (h.1 65 34)), none, none], [.int (-1000000002)], (hI h 65 34 0))) rfl ⟨trivial, trivial⟩ ?_
      refine rt_ hX (G := True) (r := some (.int (-1000000002))) rfl trivial ?_
      exact absurd b1 hz
    ·
      refine go hX 5 (gs := [True, True, True, True, True]) (z' := (44, [some (.ref 65), some (.int (nI n)), some (.int (h.1 65 34)), none, none], [.ref 68, .ref 66, .ref 65], (hI h 65 34 0))) rfl ⟨trivial, trivial, trivial, trivial, trivial, trivial⟩ ?_
      refine cl hX 260 3 [.ref 65, .ref 66, .ref 68] [] rfl rfl rfl rfl ?_
      refine c1 _ ?_
      show X (47, [some (.ref 65), some (.int (nI n)), some (.int (h.1 65 34)), none, none], [], G)
      refine go hX 5 (gs := [True, True, True, True, True]) (z' := (56, [some (.ref 65), some (.int (nI n)), some (.int (h.1 65 34)), none, none], [.ref 66, .ref 67, .ref 65], G)) rfl ⟨trivial, trivial, trivial, trivial, trivial, trivial⟩ ?_
      refine cl hX 260 3 [.ref 65, .ref 67, .ref 66] [] rfl rfl rfl rfl ?_
      refine c2 _ ?_
      show X (59, [some (.ref 65), some (.int (nI n)), some (.int (h.1 65 34)), none, none], [], (Bs 0))
      refine go hX 2 (gs := [True, True]) (z' := (61, [some (.ref 65), some (.int (nI n)), some (.int (h.1 65 34)), some (.int 0), none], [], (Bs 0))) rfl ⟨trivial, trivial, trivial⟩ ?_
      rw [em]
      exact lp_ckB (d := d) hX n30 m60 nh10 ns3 hB cE hw hv p1 p2 K (Nat.zero_le n) (Or.inl rfl)
  ·
    show X (19, [some (.ref 65), some (.int (nI n)), some (.int (h.1 65 34)), none, none], [.int 0], (hI h 65 34 0))
    refine go hX 2 (gs := [True, True]) (z' := (24, [some (.ref 65), some (.int (nI n)), some (.int (h.1 65 34)), none, none], [.int (-1000000001)], (hI h 65 34 0))) rfl ⟨trivial, trivial, trivial⟩ ?_
    refine rt_ hX (G := True) (r := some (.int (-1000000001))) rfl trivial ?_
    exact absurd hn bw
