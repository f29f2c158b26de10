/-! By hand (contracts printed by wip/se/m28.py). -/
theorem c_setX {d : Nat} {Q : Option Value → Hp → Prop} {h : Hp} {x f v : Int32} (x0 : 0 ≤ x) (x1 : x < h.1 8 2) (xm : h.1 8 2 ≤ 12) (f0 : 0 ≤ f) (f1 : f < 100) (k : Q none (hI h 9 ((x * 100) + f) v)) : Call (d + 1) 95 [.ref 8, .int x, .int f, .int v] h Q := by
  refine call_of (rfl : psM[95]? = some _) rfl rfl (rcvV rfl) (fun X hX => ?_)
  show X (0, [some (.ref 8), some (.int x), some (.int f), some (.int v)], [], h)
  refine go hX 2 (gs := [True, True]) (z' := (if x < 0 then 24 else 4, [some (.ref 8), some (.int x), some (.int f), some (.int v)], [], h)) rfl ⟨trivial, trivial, trivial⟩ ?_
  refine br (fun b1 => ?_) (fun b1 => ?_)
  ·
    refine rt_ hX (G := True) (r := none) rfl trivial ?_
    exfalso; grind
  ·
    refine go hX 4 (gs := [True, True, True, True]) (z' := (if (h.1 8 2) ≤ x then 24 else 12, [some (.ref 8), some (.int x), some (.int f), some (.int v)], [], h)) rfl ⟨trivial, trivial, trivial, trivial, trivial⟩ ?_
    refine br (fun b2 => ?_) (fun b2 => ?_)
    ·
      refine rt_ hX (G := True) (r := none) rfl trivial ?_
      exfalso; grind
    ·
      refine go hX 2 (gs := [True, True]) (z' := (if f < 0 then 24 else 16, [some (.ref 8), some (.int x), some (.int f), some (.int v)], [], h)) rfl ⟨trivial, trivial, trivial⟩ ?_
      refine br (fun b3 => ?_) (fun b3 => ?_)
      ·
        refine rt_ hX (G := True) (r := none) rfl trivial ?_
        exfalso; grind
      ·
        refine go hX 4 (gs := [True, True, True, True]) (z' := (if f < 100 then 25 else 24, [some (.ref 8), some (.int x), some (.int f), some (.int v)], [], h)) rfl ⟨trivial, trivial, trivial, trivial, trivial⟩ ?_
        refine br (fun b4 => ?_) (fun b4 => ?_)
        ·
          refine go hX 10 (gs := [ibd ((x * 100) + f) 1200, True, True, True, True, True, True, True, True, True]) (z' := (39, [some (.ref 8), some (.int x), some (.int f), some (.int v)], [], (hI h 9 ((x * 100) + f) v))) rfl ⟨?_, trivial, trivial, trivial, trivial, trivial, trivial, trivial, trivial, trivial, trivial⟩ ?_
          · exact ibd_of (B := 1200) rfl (by grind) (by grind)
          refine rt_ hX (G := True) (r := none) rfl trivial ?_
          exact k
        ·
          refine rt_ hX (G := True) (r := none) rfl trivial ?_
          exfalso; grind
theorem c_fullX {d : Nat} {Q : Option Value → Hp → Prop} {h : Hp} (k1 : ¬ h.1 8 2 < 12 → Q (some (.int 1)) h) (k0 : h.1 8 2 < 12 → Q (some (.int 0)) h) : Call (d + 1) 92 [.ref 8] h Q := by
  refine call_of (rfl : psM[92]? = some _) rfl rfl (rcvV rfl) (fun X hX => ?_)
  show X (0, [some (.ref 8)], [], h)
  refine go hX 5 (gs := [True, True, True, True, True]) (z' := (if (h.1 8 2) < 12 then 15 else 11, [some (.ref 8)], [], h)) rfl ⟨trivial, trivial, trivial, trivial, trivial, trivial⟩ ?_
  refine br (fun b1 => ?_) (fun b1 => ?_)
  ·
    refine go hX 1 (gs := [True]) (z' := (16, [some (.ref 8)], [.int 0], h)) rfl ⟨trivial, trivial⟩ ?_
    refine rt_ hX (G := isB 0) (r := some (.int 0)) rfl isB0 ?_
    exact k0 b1
  ·
    refine go hX 2 (gs := [True, True]) (z' := (16, [some (.ref 8)], [.int 1], h)) rfl ⟨trivial, trivial, trivial⟩ ?_
    refine rt_ hX (G := isB 1) (r := some (.int 1)) rfl isB1 ?_
    exact k1 b1
theorem c_addX {d : Nat} {Q : Option Value → Hp → Prop} {h : Hp} (a : h.1 8 2 < 12) (k : Q (some (.int ((h.1 8 2 + 1) - 1))) (hI h 8 2 (h.1 8 2 + 1))) : Call (d + 1) 98 [.ref 8] h Q := by
  refine call_of (rfl : psM[98]? = some _) rfl rfl (rcvV rfl) (fun X hX => ?_)
  show X (0, [some (.ref 8)], [], h)
  refine go hX 5 (gs := [True, True, True, True, True]) (z' := (if (h.1 8 2) < 12 then 14 else 11, [some (.ref 8)], [], h)) rfl ⟨trivial, trivial, trivial, trivial, trivial, trivial⟩ ?_
  refine br (fun b1 => ?_) (fun b1 => ?_)
  ·
    refine go hX 10 (gs := [True, True, True, True, True, True, True, True, True, True]) (z' := (30, [some (.ref 8)], [.int (((h.1 8 2) + 1) - 1)], (hI h 8 2 ((h.1 8 2) + 1)))) rfl ⟨trivial, trivial, trivial, trivial, trivial, trivial, trivial, trivial, trivial, trivial, trivial⟩ ?_
    refine rt_ hX (G := True) (r := some (.int (((h.1 8 2) + 1) - 1))) rfl trivial ?_
    exact k
  ·
    refine go hX 1 (gs := [True]) (z' := (13, [some (.ref 8)], [.int (-1000000005)], h)) rfl ⟨trivial, trivial⟩ ?_
    refine rt_ hX (G := True) (r := some (.int (-1000000005))) rfl trivial ?_
    exact absurd a b1
theorem c_sizeP {d : Nat} {Q : Option Value → Hp → Prop} {h : Hp} (k : Q (some (.int (h.1 56 1))) h) : Call (d + 1) 21 [.ref 56] h Q := by
  refine call_of (rfl : psM[21]? = some _) rfl rfl (rcvV rfl) (fun X hX => ?_)
  show X (0, [some (.ref 56)], [], h)
  refine go hX 2 (gs := [True, True]) (z' := (4, [some (.ref 56)], [.int (h.1 56 1)], h)) rfl ⟨trivial, trivial, trivial⟩ ?_
  refine rt_ hX (G := True) (r := some (.int (h.1 56 1))) rfl trivial ?_
  exact k
theorem c_atP {d : Nat} {Q : Option Value → Hp → Prop} {h : Hp} {i : Int32} (i0 : 0 ≤ i) (i1 : i < h.1 56 1) (im : h.1 56 1 ≤ 96) (k : Q (some (.int (h.1 57 i))) h) : Call (d + 1) 24 [.ref 56, .int i] h Q := by
  refine call_of (rfl : psM[24]? = some _) rfl rfl (rcvV rfl) (fun X hX => ?_)
  show X (0, [some (.ref 56), some (.int i)], [], h)
  refine go hX 2 (gs := [True, True]) (z' := (if i < 0 then 30 else 4, [some (.ref 56), some (.int i)], [], h)) rfl ⟨trivial, trivial, trivial⟩ ?_
  refine br (fun b1 => ?_) (fun b1 => ?_)
  ·
    refine go hX 1 (gs := [True]) (z' := (31, [some (.ref 56), some (.int i)], [.int 0], h)) rfl ⟨trivial, trivial⟩ ?_
    refine rt_ hX (G := True) (r := some (.int 0)) rfl trivial ?_
    exfalso; grind
  ·
    refine go hX 4 (gs := [True, True, True, True]) (z' := (if (h.1 56 1) ≤ i then 30 else 12, [some (.ref 56), some (.int i)], [], h)) rfl ⟨trivial, trivial, trivial, trivial, trivial⟩ ?_
    refine br (fun b2 => ?_) (fun b2 => ?_)
    ·
      refine go hX 1 (gs := [True]) (z' := (31, [some (.ref 56), some (.int i)], [.int 0], h)) rfl ⟨trivial, trivial⟩ ?_
      refine rt_ hX (G := True) (r := some (.int 0)) rfl trivial ?_
      exfalso; grind
    ·
      refine go hX 5 (gs := [True, True, True, True, True]) (z' := (if (nI 96) ≤ i then 30 else 21, [some (.ref 56), some (.int i)], [], h)) rfl ⟨trivial, trivial, trivial, trivial, trivial, trivial⟩ ?_
      refine br (fun b3 => ?_) (fun b3 => ?_)
      ·
        refine go hX 1 (gs := [True]) (z' := (31, [some (.ref 56), some (.int i)], [.int 0], h)) rfl ⟨trivial, trivial⟩ ?_
        refine rt_ hX (G := True) (r := some (.int 0)) rfl trivial ?_
        have q : (96 : Int32) ≤ i := b3
        exfalso; grind
      ·
        refine go hX 5 (gs := [True, ibd i 96, True, True, True]) (z' := (31, [some (.ref 56), some (.int i)], [.int (h.1 57 i)], h)) rfl ⟨trivial, ?_, trivial, trivial, trivial, trivial⟩ ?_
        · exact ibd_of (B := 96) rfl (by grind) (by grind)
        refine rt_ hX (G := True) (r := some (.int (h.1 57 i))) rfl trivial ?_
        exact k
theorem c_cutT {d : Nat} {Q : Option Value → Hp → Prop} {h : Hp} (k : ∀ v, Q none (hI h 53 1 v)) : Call (d + 1) 103 [.ref 53, .int 0] h Q := by
  refine call_of (rfl : psM[103]? = some _) rfl rfl (rcvV rfl) (fun X hX => ?_)
  show X (0, [some (.ref 53), some (.int 0)], [], h)
  refine go hX 8 (gs := [True, True, True, True, True, True, True, True]) (z' := (16, [some (.ref 53), some (.int 0)], [], (hI h 53 1 (if 0 < (if (h.1 53 1) < 0 then (h.1 53 1) else 0) then (if (h.1 53 1) < 0 then (h.1 53 1) else 0) else 0)))) rfl ⟨trivial, trivial, trivial, trivial, trivial, trivial, trivial, trivial, trivial⟩ ?_
  refine rt_ hX (G := True) (r := none) rfl trivial ?_
  exact k _
theorem c_withinT {d : Nat} {Q : Option Value → Hp → Prop} {h : Hp} {v lo hi : Int32} (k1 : lo ≤ v ∧ v ≤ hi → Q (some (.int 1)) h) (k0 : ¬ (lo ≤ v ∧ v ≤ hi) → Q (some (.int 0)) h) : Call (d + 1) 156 [.int v, .int lo, .int hi] h Q := by
  refine call_of (rfl : psM[156]? = some _) rfl rfl (rcvS rfl) (fun X hX => ?_)
  show X (0, [some (.int v), some (.int lo), some (.int hi)], [], h)
  refine go hX 3 (gs := [True, True, True]) (z' := (if v < lo then 14 else 5, [some (.int v), some (.int lo), some (.int hi)], [], h)) rfl ⟨trivial, trivial, trivial, trivial⟩ ?_
  refine br (fun b1 => ?_) (fun b1 => ?_)
  ·
    refine go hX 1 (gs := [True]) (z' := (15, [some (.int v), some (.int lo), some (.int hi)], [.int 0], h)) rfl ⟨trivial, trivial⟩ ?_
    refine rt_ hX (G := isB 0) (r := some (.int 0)) rfl isB0 ?_
    exact k0 (by grind)
  ·
    refine go hX 3 (gs := [True, True, True]) (z' := (if hi < v then 14 else 10, [some (.int v), some (.int lo), some (.int hi)], [], h)) rfl ⟨trivial, trivial, trivial, trivial⟩ ?_
    refine br (fun b2 => ?_) (fun b2 => ?_)
    ·
      refine go hX 1 (gs := [True]) (z' := (15, [some (.int v), some (.int lo), some (.int hi)], [.int 0], h)) rfl ⟨trivial, trivial⟩ ?_
      refine rt_ hX (G := isB 0) (r := some (.int 0)) rfl isB0 ?_
      exact k0 (by grind)
    ·
      refine go hX 2 (gs := [True, True]) (z' := (15, [some (.int v), some (.int lo), some (.int hi)], [.int 1], h)) rfl ⟨trivial, trivial, trivial⟩ ?_
      refine rt_ hX (G := isB 1) (r := some (.int 1)) rfl isB1 ?_
      exact k1 (by grind)
/-- so many steps have gone over -/
noncomputable def WtI (h0 : Hp) (tx i : Nat) (h : Hp) : Prop := (∀ o (j : Int32), o ≠ 9 → h.1 o j = h0.1 o j) ∧ h.2 = h0.2 ∧ (∀ j : Nat, j < 100 * tx + 4 → h.1 9 (nI j) = h0.1 9 (nI j)) ∧ ∀ k : Nat, k < i → h.1 9 (nI (100 * tx + 4 + k)) = h0.1 57 (nI k)
theorem ixT {tx f : Nat} (ht : tx < 12) (hf : f < 100) : (nI tx * 100) + nI f = nI (100 * tx + f) := by
  show nI tx * nI 100 + nI f = _
  rw [show nI tx * nI 100 = nI (tx * 100) from (Int32.ofNat_mul tx 100).symm, nI_add, Nat.mul_comm]
theorem nIj {a b : Nat} (ha : a < 4000) (hb : b < 4000) (h : a ≠ b) : nI a ≠ nI b := fun z => h ((nIle_eq (by omega) (by omega)).mp z)
theorem WtI.st {h0 h : Hp} {tx i : Nat} (w : WtI h0 tx i h) (ht : tx < 12) (hi : i < 96) {v : Int32} (hv : v = h0.1 57 (nI i)) : WtI h0 tx (i + 1) (hI h 9 ((nI tx * 100) + nI (4 + i)) v) := by
  rw [ixT ht (by omega)]
  refine ⟨fun o j q => (hI_ne q).trans (w.1 o j q), w.2.1, fun j hj => ?_, fun k hk => ?_⟩
  · rw [hI_jn (nIj (by omega) (by omega) (by omega))]
    exact w.2.2.1 j hj
  · by_cases e : k = i
    · subst e
      rw [show 100 * tx + 4 + k = 100 * tx + (4 + k) by omega, hI_eq, hv]
    · rw [hI_jn (nIj (by omega) (by omega) (by omega))]
      exact w.2.2.2 k (by omega)
theorem lp_wt {d : Nat} {Q : Option Value → Hp → Prop} {X : Cf → Prop} (hX : Clo (Call (d + 1)) cd28 none Q X) {h0 : Hp} {tx n : Nat} (ht : tx < 12) (e8 : h0.1 8 2 = nI (tx + 1)) (en : h0.1 56 1 = nI n) (hn96 : n ≤ 96) (K : ∀ h, WtI h0 tx n h → Q none h) {k : Nat} (hk : k ≤ n) : ∀ h, WtI h0 tx k h → X (35, [some (.ref 55), some (.ref 8), some (.int (nI tx)), some (.int (nI k))], [], h) := by
  refine dn_ind (P := fun k => ∀ h, WtI h0 tx k h → X (35, [some (.ref 55), some (.ref 8), some (.int (nI tx)), some (.int (nI k))], [], h)) (fun k hk ih h w => ?_) hk
  have t0 : (0 : Int32) ≤ nI tx := tx_0 tx (by omega)
  have t1 : nI tx < h.1 8 2 := by rw [w.1 8 _ (by decide), e8]; exact (tx_lt (by omega) (by omega)).mpr (by omega)
  have tm : h.1 8 2 ≤ 12 := by rw [w.1 8 _ (by decide), e8]; exact (tx_le (b := 12) (by omega) (by decide)).mpr (by omega)
  have en1 : h.1 56 1 = nI n := by rw [w.1 56 _ (by decide), en]
  refine go hX 3 (gs := [True, True, True]) (z' := (40, [some (.ref 55), some (.ref 8), some (.int (nI tx)), some (.int (nI k))], [.ref 56, .int (nI k)], h)) rfl ⟨trivial, trivial, trivial, trivial⟩ ?_
  refine cl hX 21 1 [.ref 56] [.int (nI k)] rfl rfl rfl rfl ?_
  refine c_sizeP ?_
  rw [en1]
  show X (43, [some (.ref 55), some (.ref 8), some (.int (nI tx)), some (.int (nI k))], [.int (nI n), .int (nI k)], h)
  refine go hX 1 (gs := [True]) (z' := (if (nI n) ≤ (nI k) then 68 else 46, [some (.ref 55), some (.ref 8), some (.int (nI tx)), some (.int (nI k))], [], h)) rfl ⟨trivial, trivial⟩ ?_
  refine br (fun b1 => ?_) (fun b1 => ?_)
  ·
    have e : k = n := Nat.le_antisymm hk ((tx_le (by omega) (by omega)).mp b1)
    rw [e] at w
    refine rt_ hX (G := True) (r := none) rfl trivial ?_
    exact K _ w
  ·
    have kn : k < n := Nat.lt_of_not_le (fun z => b1 ((tx_le (by omega) (by omega)).mpr z))
    refine go hX 8 (gs := [True, True, True, True, True, True, True, True]) (z' := (56, [some (.ref 55), some (.ref 8), some (.int (nI tx)), some (.int (nI k))], [.int (nI k), .ref 56, .int (4 + (nI k)), .int (nI tx), .ref 8], h)) rfl ⟨trivial, trivial, trivial, trivial, trivial, trivial, trivial, trivial, trivial⟩ ?_
    refine cl hX 24 2 [.ref 56, .int (nI k)] [.int (4 + (nI k)), .int (nI tx), .ref 8] rfl rfl rfl rfl ?_
    refine c_atP (tx_0 k (by omega)) (by rw [en1]; exact (tx_lt (by omega) (by omega)).mpr kn) (by rw [en1]; exact (tx_le (b := 96) (by omega) (by decide)).mpr hn96) ?_
    show X (59, [some (.ref 55), some (.ref 8), some (.int (nI tx)), some (.int (nI k))], [.int (h.1 57 (nI k)), .int (4 + (nI k)), .int (nI tx), .ref 8], h)
    refine cl hX 95 4 [.ref 8, .int (nI tx), .int (4 + (nI k)), .int (h.1 57 (nI k))] [] rfl rfl rfl rfl ?_
    refine c_setX t0 t1 tm (by rw [show (4 : Int32) + nI k = nI (4 + k) from nI_add 4 k]; exact tx_0 _ (by omega)) (by rw [show (4 : Int32) + nI k = nI (4 + k) from nI_add 4 k]; exact (tx_lt (b := 100) (by omega) (by decide)).mpr (by omega)) ?_
    show X (62, [some (.ref 55), some (.ref 8), some (.int (nI tx)), some (.int (nI k))], [], (hI h 9 ((nI tx * 100) + (4 + nI k)) (h.1 57 (nI k))))
    refine go hX 2 (gs := [True, True]) (z' := (35, [some (.ref 55), some (.ref 8), some (.int (nI tx)), some (.int ((nI k) + 1))], [], (hI h 9 ((nI tx * 100) + (4 + nI k)) (h.1 57 (nI k))))) rfl ⟨trivial, trivial, trivial⟩ ?_
    rw [tx_1, show (4 : Int32) + nI k = nI (4 + k) from nI_add 4 k]
    exact ih (k + 1) (Nat.lt_succ_self k) (by omega) _ (w.st ht (by omega) (w.1 57 _ (by decide)))
theorem c_writeTo {d : Nat} {Q : Option Value → Hp → Prop} {h : Hp} {tx n : Nat} (ht : tx < 12) (e8 : h.1 8 2 = nI (tx + 1)) (en : h.1 56 1 = nI n) (hn96 : n ≤ 96) (K : ∀ h1 h0, h0 = (hI (hI (hI h 9 ((nI tx * 100) + 0) (h.1 55 3)) 9 ((nI tx * 100) + 2) (h.1 55 4)) 9 ((nI tx * 100) + 3) (h.1 56 1)) → WtI h0 tx n h1 → Q none h1) : Call (d + 2) 28 [.ref 55, .ref 8, .int (nI tx)] h Q := by
  have t0 : (0 : Int32) ≤ nI tx := tx_0 tx (by omega)
  have t1 : nI tx < h.1 8 2 := by rw [e8]; exact (tx_lt (by omega) (by omega)).mpr (by omega)
  have tm : h.1 8 2 ≤ 12 := by rw [e8]; exact (tx_le (b := 12) (by omega) (by decide)).mpr (by omega)
  refine call_of (rfl : psM[28]? = some _) rfl rfl (rcvV rfl) (fun X hX => ?_)
  show X (0, [some (.ref 55), some (.ref 8), some (.int (nI tx)), none], [], h)
  refine go hX 5 (gs := [True, True, True, True, True]) (z' := (7, [some (.ref 55), some (.ref 8), some (.int (nI tx)), none], [.int (h.1 55 3), .int 0, .int (nI tx), .ref 8], h)) rfl ⟨trivial, trivial, trivial, trivial, trivial, trivial⟩ ?_
  refine cl hX 95 4 [.ref 8, .int (nI tx), .int 0, .int (h.1 55 3)] [] rfl rfl rfl rfl ?_
  refine c_setX t0 t1 tm (by decide) (by decide) ?_
  show X (10, [some (.ref 55), some (.ref 8), some (.int (nI tx)), none], [], (hI h 9 ((nI tx * 100) + 0) (h.1 55 3)))
  refine go hX 5 (gs := [True, True, True, True, True]) (z' := (17, [some (.ref 55), some (.ref 8), some (.int (nI tx)), none], [.int (h.1 55 4), .int 2, .int (nI tx), .ref 8], (hI h 9 ((nI tx * 100) + 0) (h.1 55 3)))) rfl ⟨trivial, trivial, trivial, trivial, trivial, trivial⟩ ?_
  refine cl hX 95 4 [.ref 8, .int (nI tx), .int 2, .int (h.1 55 4)] [] rfl rfl rfl rfl ?_
  refine c_setX t0 (by rw [hI_ne (by decide)]; exact t1) (by rw [hI_ne (by decide)]; exact tm) (by decide) (by decide) ?_
  show X (20, [some (.ref 55), some (.ref 8), some (.int (nI tx)), none], [], (hI (hI h 9 ((nI tx * 100) + 0) (h.1 55 3)) 9 ((nI tx * 100) + 2) (h.1 55 4)))
  refine go hX 5 (gs := [True, True, True, True, True]) (z' := (27, [some (.ref 55), some (.ref 8), some (.int (nI tx)), none], [.ref 56, .int 3, .int (nI tx), .ref 8], (hI (hI h 9 ((nI tx * 100) + 0) (h.1 55 3)) 9 ((nI tx * 100) + 2) (h.1 55 4)))) rfl ⟨trivial, trivial, trivial, trivial, trivial, trivial⟩ ?_
  refine cl hX 21 1 [.ref 56] [.int 3, .int (nI tx), .ref 8] rfl rfl rfl rfl ?_
  refine c_sizeP ?_
  show X (30, [some (.ref 55), some (.ref 8), some (.int (nI tx)), none], [.int (h.1 56 1), .int 3, .int (nI tx), .ref 8], (hI (hI h 9 ((nI tx * 100) + 0) (h.1 55 3)) 9 ((nI tx * 100) + 2) (h.1 55 4)))
  refine cl hX 95 4 [.ref 8, .int (nI tx), .int 3, .int (h.1 56 1)] [] rfl rfl rfl rfl ?_
  refine c_setX t0 (by rw [hI_ne (by decide), hI_ne (by decide)]; exact t1) (by rw [hI_ne (by decide), hI_ne (by decide)]; exact tm) (by decide) (by decide) ?_
  show X (33, [some (.ref 55), some (.ref 8), some (.int (nI tx)), none], [], (hI (hI (hI h 9 ((nI tx * 100) + 0) (h.1 55 3)) 9 ((nI tx * 100) + 2) (h.1 55 4)) 9 ((nI tx * 100) + 3) (h.1 56 1)))
  refine go hX 2 (gs := [True, True]) (z' := (35, [some (.ref 55), some (.ref 8), some (.int (nI tx)), some (.int 0)], [], (hI (hI (hI h 9 ((nI tx * 100) + 0) (h.1 55 3)) 9 ((nI tx * 100) + 2) (h.1 55 4)) 9 ((nI tx * 100) + 3) (h.1 56 1)))) rfl ⟨trivial, trivial, trivial⟩ ?_
  refine lp_wt (h0 := (hI (hI (hI h 9 ((nI tx * 100) + 0) (h.1 55 3)) 9 ((nI tx * 100) + 2) (h.1 55 4)) 9 ((nI tx * 100) + 3) (h.1 56 1))) hX ht (by rw [hI_ne (by decide), hI_ne (by decide), hI_ne (by decide)]; exact e8) (by rw [hI_ne (by decide), hI_ne (by decide), hI_ne (by decide)]; exact en) hn96 (fun h1 w => K h1 _ rfl w) (Nat.zero_le n) _ ⟨fun _ _ _ => rfl, rfl, fun _ _ => rfl, fun k hk => absurd hk (Nat.not_lt_zero k)⟩
theorem c_textA {d : Nat} {Q : Option Value → Hp → Prop} {h h1 : Hp} {day rv : Int32} {tx n : Nat} (cr : ∀ Q : Option Value → Hp → Prop, Q (some (.int rv)) h1 → Call (d + 2) 27 [.ref 55] h Q) (hx : tx ≤ 12) (e8 : h1.1 8 2 = nI tx) (en : rv = -1000000005 → h1.1 56 1 = nI n) (hn96 : rv = -1000000005 → n ≤ 96) (kB : ∀ (r v : Int32) {H : Hp}, H = hI h 53 1 v ∨ H = hI h1 53 1 v → Q (some (.int r)) H) (kS : ∀ v h3 h0, h0 = hI (hI (hI (hI (hI (hI h1 53 1 v) 8 2 (nI (tx + 1))) 9 ((nI tx * 100) + 1) day) 9 ((nI tx * 100) + 0) (h1.1 55 3)) 9 ((nI tx * 100) + 2) (h1.1 55 4)) 9 ((nI tx * 100) + 3) (h1.1 56 1) → tx < 12 → rv = -1000000005 → WtI h0 tx n h3 → Q (some (.int (nI tx))) h3) : Call (d + 3) 130 [.ref 0, .int day] h Q := by
  refine call_of (rfl : psM[130]? = some _) rfl rfl (rcvV rfl) (fun X hX => ?_)
  show X (0, [some (.ref 0), some (.int day), none, none], [], h)
  refine go hX 3 (gs := [True, True, True]) (z' := (5, [some (.ref 0), some (.int day), none, none], [.int 999, .int 0, .int day], h)) rfl ⟨trivial, trivial, trivial, trivial⟩ ?_
  refine cl hX 156 3 [.int day, .int 0, .int 999] [] rfl rfl rfl rfl ?_
  refine c_withinT (fun bw => ?_) (fun bw => ?_)
  ·
    show X (8, [some (.ref 0), some (.int day), none, none], [.int 1], h)
    refine go hX 3 (gs := [True, True, True]) (z' := (26, [some (.ref 0), some (.int day), none, none], [.ref 55], h)) rfl ⟨trivial, trivial, trivial, trivial⟩ ?_
    refine cl hX 27 1 [.ref 55] [] rfl rfl rfl rfl ?_
    refine cr _ ?_
    show X (29, [some (.ref 0), some (.int day), none, none], [.int rv], h1)
    refine go hX 4 (gs := [True, True, True, True]) (z' := (35, [some (.ref 0), some (.int day), some (.int rv), none], [.int 0, .ref 53], h1)) rfl ⟨trivial, trivial, trivial, trivial, trivial⟩ ?_
    refine cl hX 103 2 [.ref 53, .int 0] [] rfl rfl rfl rfl ?_
    refine c_cutT (fun v1 => ?_)
    show X (38, [some (.ref 0), some (.int day), some (.int rv), none], [], (hI h1 53 1 v1))
    refine go hX 3 (gs := [True, True, True]) (z' := (if rv = (-1000000005) then 49 else 44, [some (.ref 0), some (.int day), some (.int rv), none], [], (hI h1 53 1 v1))) rfl ⟨trivial, trivial, trivial, trivial⟩ ?_
    refine br (fun b1 => ?_) (fun b1 => ?_)
    ·
      refine go hX 3 (gs := [True, True, True]) (z' := (56, [some (.ref 0), some (.int day), some (.int rv), none], [.ref 8], (hI h1 53 1 v1))) rfl ⟨trivial, trivial, trivial, trivial⟩ ?_
      refine cl hX 92 1 [.ref 8] [] rfl rfl rfl rfl ?_
      refine c_fullX (fun bf => ?_) (fun bf => ?_)
      ·
        show X (59, [some (.ref 0), some (.int day), some (.int rv), none], [.int 1], (hI h1 53 1 v1))
        refine go hX 2 (gs := [True, True]) (z' := (64, [some (.ref 0), some (.int day), some (.int rv), none], [.int (-1000000003)], (hI h1 53 1 v1))) rfl ⟨trivial, trivial, trivial⟩ ?_
        refine rt_ hX (G := True) (r := some (.int (-1000000003))) rfl trivial ?_
        exact kB _ _ (Or.inr rfl)
      ·
        show X (59, [some (.ref 0), some (.int day), some (.int rv), none], [.int 0], (hI h1 53 1 v1))
        refine go hX 4 (gs := [True, True, True, True]) (z' := (72, [some (.ref 0), some (.int day), some (.int rv), none], [.ref 8], (hI h1 53 1 v1))) rfl ⟨trivial, trivial, trivial, trivial, trivial⟩ ?_
        refine cl hX 98 1 [.ref 8] [] rfl rfl rfl rfl ?_
        have ea : h1.1 8 2 = nI tx := e8
        have h12 : tx < 12 := by
          have z : nI tx < (12 : Int32) := by rw [← e8]; exact bf
          exact (tx_lt (b := 12) (by omega) (by decide)).mp z
        refine c_addX bf ?_
        rw [show (hI h1 53 1 v1).1 8 2 = nI tx from e8, show nI tx + 1 = nI (tx + 1) from tx_1 tx, show nI (tx + 1) - 1 = nI tx from nI_m1]
        show X (75, [some (.ref 0), some (.int day), some (.int rv), none], [.int (nI tx)], (hI (hI h1 53 1 v1) 8 2 (nI (tx + 1))))
        refine go hX 7 (gs := [True, True, True, True, True, True, True]) (z' := (86, [some (.ref 0), some (.int day), some (.int rv), some (.int (nI tx))], [.int day, .int 1, .int (nI tx), .ref 8], (hI (hI h1 53 1 v1) 8 2 (nI (tx + 1))))) rfl ⟨trivial, trivial, trivial, trivial, trivial, trivial, trivial, trivial⟩ ?_
        refine cl hX 95 4 [.ref 8, .int (nI tx), .int 1, .int day] [] rfl rfl rfl rfl ?_
        refine c_setX (tx_0 tx (by omega)) (by rw [hI_eq]; exact (tx_lt (by omega) (by omega)).mpr (by omega)) (by rw [hI_eq]; exact (tx_le (b := 12) (by omega) (by decide)).mpr (by omega)) (by decide) (by decide) ?_
        show X (89, [some (.ref 0), some (.int day), some (.int rv), some (.int (nI tx))], [], (hI (hI (hI h1 53 1 v1) 8 2 (nI (tx + 1))) 9 ((nI tx * 100) + 1) day))
        refine go hX 6 (gs := [True, True, True, True, True, True]) (z' := (101, [some (.ref 0), some (.int day), some (.int rv), some (.int (nI tx))], [.int (nI tx), .ref 8, .ref 55], (hI (hI (hI h1 53 1 v1) 8 2 (nI (tx + 1))) 9 ((nI tx * 100) + 1) day))) rfl ⟨trivial, trivial, trivial, trivial, trivial, trivial, trivial⟩ ?_
        refine cl hX 28 3 [.ref 55, .ref 8, .int (nI tx)] [] rfl rfl rfl rfl ?_
        refine c_writeTo (n := n) h12 (by rw [hI_ne (by decide), hI_eq]) (by rw [hI_ne (by decide), hI_ne (by decide), hI_ne (by decide)]; exact en b1) (hn96 b1) (fun h3 h0 e0 w => ?_)
        show X (104, [some (.ref 0), some (.int day), some (.int rv), some (.int (nI tx))], [], h3)
        refine go hX 1 (gs := [True]) (z' := (105, [some (.ref 0), some (.int day), some (.int rv), some (.int (nI tx))], [.int (nI tx)], h3)) rfl ⟨trivial, trivial⟩ ?_
        refine rt_ hX (G := True) (r := some (.int (nI tx))) rfl trivial ?_
        exact kS _ h3 h0 e0 h12 b1 w
    ·
      refine go hX 3 (gs := [True, True, True]) (z' := (48, [some (.ref 0), some (.int day), some (.int rv), none], [.int ((-100) - rv)], (hI h1 53 1 v1))) rfl ⟨trivial, trivial, trivial, trivial⟩ ?_
      refine rt_ hX (G := True) (r := some (.int ((-100) - rv))) rfl trivial ?_
      exact kB _ _ (Or.inr rfl)
  ·
    show X (8, [some (.ref 0), some (.int day), none, none], [.int 0], h)
    refine go hX 4 (gs := [True, True, True, True]) (z' := (16, [some (.ref 0), some (.int day), none, none], [.int 0, .ref 53], h)) rfl ⟨trivial, trivial, trivial, trivial, trivial⟩ ?_
    refine cl hX 103 2 [.ref 53, .int 0] [] rfl rfl rfl rfl ?_
    refine c_cutT (fun v2 => ?_)
    show X (19, [some (.ref 0), some (.int day), none, none], [], (hI h 53 1 v2))
    refine go hX 1 (gs := [True]) (z' := (21, [some (.ref 0), some (.int day), none, none], [.int (-1000000001)], (hI h 53 1 v2))) rfl ⟨trivial, trivial⟩ ?_
    refine rt_ hX (G := True) (r := some (.int (-1000000001))) rfl trivial ?_
    exact kB _ _ (Or.inl rfl)
theorem c_isInT {d : Nat} {Q : Option Value → Hp → Prop} {h : Hp} {v lo hi : Int64} (k1 : lo ≤ v ∧ v ≤ hi → Q (some (.int 1)) h) (k0 : ¬ (lo ≤ v ∧ v ≤ hi) → Q (some (.int 0)) h) : Call (d + 1) 159 [.long v, .long lo, .long hi] h Q := by
  refine call_of (rfl : psM[159]? = some _) rfl rfl (rcvS rfl) (fun X hX => ?_)
  show X (0, [some (.long v), none, some (.long lo), none, some (.long hi), none], [], h)
  refine go hX 4 (gs := [True, True, True, True]) (z' := (if (lg_cmp v lo) < 0 then 17 else 6, [some (.long v), none, some (.long lo), none, some (.long hi), none], [], h)) rfl ⟨trivial, trivial, trivial, trivial, trivial⟩ ?_
  refine br (fun b1 => ?_) (fun b1 => ?_)
  ·
    refine go hX 1 (gs := [True]) (z' := (18, [some (.long v), none, some (.long lo), none, some (.long hi), none], [.int 0], h)) rfl ⟨trivial, trivial⟩ ?_
    refine rt_ hX (G := isB 0) (r := some (.int 0)) rfl isB0 ?_
    simp only [lg_cmp_lt, lg_cmp_gt] at *
    exact k0 (by grind)
  ·
    refine go hX 4 (gs := [True, True, True, True]) (z' := (if 0 < (lg_cmp v hi) then 17 else 13, [some (.long v), none, some (.long lo), none, some (.long hi), none], [], h)) rfl ⟨trivial, trivial, trivial, trivial, trivial⟩ ?_
    refine br (fun b2 => ?_) (fun b2 => ?_)
    ·
      refine go hX 1 (gs := [True]) (z' := (18, [some (.long v), none, some (.long lo), none, some (.long hi), none], [.int 0], h)) rfl ⟨trivial, trivial⟩ ?_
      refine rt_ hX (G := isB 0) (r := some (.int 0)) rfl isB0 ?_
      simp only [lg_cmp_lt, lg_cmp_gt] at *
      exact k0 (by grind)
    ·
      refine go hX 2 (gs := [True, True]) (z' := (18, [some (.long v), none, some (.long lo), none, some (.long hi), none], [.int 1], h)) rfl ⟨trivial, trivial, trivial⟩ ?_
      refine rt_ hX (G := isB 1) (r := some (.int 1)) rfl isB1 ?_
      simp only [lg_cmp_lt, lg_cmp_gt] at *
      exact k1 (by grind)
theorem c_textAtT {d : Nat} {Q : Option Value → Hp → Prop} {h : Hp} {x : Int32} (k : Q (some (.int (600 + (200 * x)))) h) : Call (d + 1) 166 [.ref 65, .int x] h Q := by
  refine call_of (rfl : psM[166]? = some _) rfl rfl (rcvV rfl) (fun X hX => ?_)
  show X (0, [some (.ref 65), some (.int x)], [], h)
  refine go hX 5 (gs := [True, True, True, True, True]) (z' := (9, [some (.ref 65), some (.int x)], [.int (600 + (200 * x))], h)) rfl ⟨trivial, trivial, trivial, trivial, trivial, trivial⟩ ?_
  refine rt_ hX (G := True) (r := some (.int (600 + (200 * x)))) rfl trivial ?_
  exact k
theorem ixU : ∀ {tx : Nat}, tx < 12 → (600 : Int32) + (200 * nI tx) = nI (600 + 200 * tx) := by
  intro tx h
  show nI 600 + nI 200 * nI tx = _
  rw [show nI 200 * nI tx = nI (200 * tx) from (Int32.ofNat_mul 200 tx).symm, nI_add]
theorem c_textB {d : Nat} {Q : Option Value → Hp → Prop} {h h1 : Hp} {day rv : Int32} {tx : Nat} (cr : ∀ Q : Option Value → Hp → Prop, Q (some (.int rv)) h1 → Call (d + 2) 224 [.ref 65] h Q) (hx : tx ≤ 12) (e4 : h1.1 66 4 = nI tx) (kB : ∀ r : Int32, Q (some (.int r)) h1) (kS : ∀ (r : Int32) (H : Hp), H = hI (hI (hI (hI h1 66 ((nI (600 + 200 * tx)) + 0) rv) 66 ((nI (600 + 200 * tx)) + 1) day) 66 ((nI (600 + 200 * tx)) + 2) (h1.1 65 26)) 66 ((nI (600 + 200 * tx)) + 3) (h1.1 65 24) → tx < 12 → 0 ≤ rv → Q (some (.int r)) (hI H 66 4 (H.1 66 4 + 1))) : Call (d + 3) 225 [.ref 65, .int day] h Q := by
  refine call_of (rfl : psM[225]? = some _) rfl rfl (rcvV rfl) (fun X hX => ?_)
  show X (0, [some (.ref 65), some (.int day), none, none, none], [], h)
  refine go hX 4 (gs := [True, True, True, True]) (z' := (6, [some (.ref 65), some (.int day), none, none, none], [.long 999, .long 0, .long (Int32.toInt64 day)], h)) rfl ⟨trivial, trivial, trivial, trivial, trivial⟩ ?_
  refine cl hX 159 3 [.long (Int32.toInt64 day), .long 0, .long 999] [] rfl rfl rfl rfl ?_
  refine c_isInT (fun bw => ?_) (fun bw => ?_)
  ·
    show X (9, [some (.ref 65), some (.int day), none, none, none], [.int 1], h)
    refine go hX 2 (gs := [True, True]) (z' := (11, [some (.ref 65), some (.int day), some (.int 1), none, none], [.ref 65], h)) rfl ⟨trivial, trivial, trivial⟩ ?_
    refine cl hX 224 1 [.ref 65] [] rfl rfl rfl rfl ?_
    refine cr _ ?_
    show X (14, [some (.ref 65), some (.int day), some (.int 1), none, none], [.int rv], h1)
    refine go hX 5 (gs := [True, True, True, True, True]) (z' := (if 0 ≤ rv then 34 else 26, [some (.ref 65), some (.int day), some (.int 1), some (.int rv), none], [], h1)) rfl ⟨trivial, trivial, trivial, trivial, trivial, trivial⟩ ?_
    refine br (fun b1 => ?_) (fun b1 => ?_)
    ·
      refine go hX 6 (gs := [True, True, ibd 4 3400, True, True, True]) (z' := (if (h1.1 66 4) = 12 then 45 else 48, [some (.ref 65), some (.int day), some (.int 1), some (.int rv), none], [], h1)) rfl ⟨trivial, trivial, ?_, trivial, trivial, trivial, trivial⟩ ?_
      · exact ibd_of (B := 3400) rfl (by decide) (by decide)
      refine br (fun b2 => ?_) (fun b2 => ?_)
      ·
        refine go hX 1 (gs := [True]) (z' := (47, [some (.ref 65), some (.int day), some (.int 1), some (.int rv), none], [.int (-1000000003)], h1)) rfl ⟨trivial, trivial⟩ ?_
        refine rt_ hX (G := True) (r := some (.int (-1000000003))) rfl trivial ?_
        exact kB _
      ·
        refine go hX 5 (gs := [ibd 4 3400, True, True, True, True]) (z' := (55, [some (.ref 65), some (.int day), some (.int 1), some (.int rv), none], [.int (h1.1 66 4), .ref 65], h1)) rfl ⟨?_, trivial, trivial, trivial, trivial, trivial⟩ ?_
        · exact ibd_of (B := 3400) rfl (by decide) (by decide)
        refine cl hX 166 2 [.ref 65, .int (h1.1 66 4)] [] rfl rfl rfl rfl ?_
        refine c_textAtT ?_
        have b12 : tx < 12 := Nat.lt_of_le_of_ne hx (fun z => b2 (by rw [z] at e4; exact e4))
        rw [e4, ixU b12]
        show X (58, [some (.ref 65), some (.int day), some (.int 1), some (.int rv), none], [.int (nI (600 + 200 * tx))], h1)
        refine go hX 45 (gs := [True, True, ibd 4 3400, True, True, True, ibd 4 3400, True, True, ibd 4 3400, True, True, True, True, ibd ((nI (600 + 200 * tx)) + 3) 3400, True, True, True, True, True, True, True, ibd ((nI (600 + 200 * tx)) + 2) 3400, True, True, True, True, True, True, True, ibd ((nI (600 + 200 * tx)) + 1) 3400, True, True, True, True, True, True, ibd ((nI (600 + 200 * tx)) + 0) 3400, True, True, True, True, True, True, True]) (z' := (124, [some (.ref 65), some (.int day), some (.int 1), some (.int rv), some (.int (nI (600 + 200 * tx)))], [.int ((((hI (hI (hI (hI h1 66 ((nI (600 + 200 * tx)) + 0) rv) 66 ((nI (600 + 200 * tx)) + 1) day) 66 ((nI (600 + 200 * tx)) + 2) (h1.1 65 26)) 66 ((nI (600 + 200 * tx)) + 3) (h1.1 65 24)).1 66 4) + 1) - 1)], (hI (hI (hI (hI (hI h1 66 ((nI (600 + 200 * tx)) + 0) rv) 66 ((nI (600 + 200 * tx)) + 1) day) 66 ((nI (600 + 200 * tx)) + 2) (h1.1 65 26)) 66 ((nI (600 + 200 * tx)) + 3) (h1.1 65 24)) 66 4 (((hI (hI (hI (hI h1 66 ((nI (600 + 200 * tx)) + 0) rv) 66 ((nI (600 + 200 * tx)) + 1) day) 66 ((nI (600 + 200 * tx)) + 2) (h1.1 65 26)) 66 ((nI (600 + 200 * tx)) + 3) (h1.1 65 24)).1 66 4) + 1)))) rfl ⟨trivial, trivial, ?_, trivial, trivial, trivial, ?_, trivial, trivial, ?_, trivial, trivial, trivial, trivial, ?_, trivial, trivial, trivial, trivial, trivial, trivial, trivial, ?_, trivial, trivial, trivial, trivial, trivial, trivial, trivial, ?_, trivial, trivial, trivial, trivial, trivial, trivial, ?_, trivial, trivial, trivial, trivial, trivial, trivial, trivial, trivial⟩ ?_
        · exact ibd_of (B := 3400) rfl (by decide) (by decide)
        · exact ibd_of (B := 3400) rfl (by decide) (by decide)
        · exact ibd_of (B := 3400) rfl (by decide) (by decide)
        · rw [show nI (600 + 200 * tx) + 3 = nI (600 + 200 * tx + 3) from nI_add _ 3]; exact ibd_of (B := 3400) rfl (tx_0 _ (by omega)) ((tx_lt (b := 3400) (by omega) (by decide)).mpr (by omega))
        · rw [show nI (600 + 200 * tx) + 2 = nI (600 + 200 * tx + 2) from nI_add _ 2]; exact ibd_of (B := 3400) rfl (tx_0 _ (by omega)) ((tx_lt (b := 3400) (by omega) (by decide)).mpr (by omega))
        · rw [show nI (600 + 200 * tx) + 1 = nI (600 + 200 * tx + 1) from nI_add _ 1]; exact ibd_of (B := 3400) rfl (tx_0 _ (by omega)) ((tx_lt (b := 3400) (by omega) (by decide)).mpr (by omega))
        · rw [show nI (600 + 200 * tx) + 0 = nI (600 + 200 * tx + 0) from nI_add _ 0]; exact ibd_of (B := 3400) rfl (tx_0 _ (by omega)) ((tx_lt (b := 3400) (by omega) (by decide)).mpr (by omega))
        refine rt_ hX (G := True) (r := some (.int ((((hI (hI (hI (hI h1 66 ((nI (600 + 200 * tx)) + 0) rv) 66 ((nI (600 + 200 * tx)) + 1) day) 66 ((nI (600 + 200 * tx)) + 2) (h1.1 65 26)) 66 ((nI (600 + 200 * tx)) + 3) (h1.1 65 24)).1 66 4) + 1) - 1))) rfl trivial ?_
        exact kS _ _ rfl b12 b1
    ·
      refine go hX 4 (gs := [True, True, True, True]) (z' := (33, [some (.ref 65), some (.int day), some (.int 1), some (.int rv), none], [.int ((-100) - (h1.1 65 17))], h1)) rfl ⟨trivial, trivial, trivial, trivial, trivial⟩ ?_
      refine rt_ hX (G := True) (r := some (.int ((-100) - (h1.1 65 17)))) rfl trivial ?_
      exact kB _
  ·
    show X (9, [some (.ref 65), some (.int day), none, none, none], [.int 0], h)
    refine go hX 2 (gs := [True, True]) (z' := (11, [some (.ref 65), some (.int day), some (.int 0), none, none], [.ref 65], h)) rfl ⟨trivial, trivial, trivial⟩ ?_
    refine cl hX 224 1 [.ref 65] [] rfl rfl rfl rfl ?_
    refine cr _ ?_
    show X (14, [some (.ref 65), some (.int day), some (.int 0), none, none], [.int rv], h1)
    refine go hX 4 (gs := [True, True, True, True]) (z' := (21, [some (.ref 65), some (.int day), some (.int 0), some (.int rv), none], [.int (-1000000001)], h1)) rfl ⟨trivial, trivial, trivial, trivial, trivial⟩ ?_
    refine rt_ hX (G := True) (r := some (.int (-1000000001))) rfl trivial ?_
    exact kB _
/-! By hand: the texts are the same, behind text too. -/
theorem PS_at {f g : Int32 → Int32} {key A0 : Nat} : ∀ {out : List Int}, PLr f out → SBs g key A0 out → ∀ i, i < out.length → stR key (f (nI i)).toInt (g (nI (A0 + 2 * i))) (g (nI (A0 + 2 * i + 1)))
  | [], _, _, i, hi => absurd hi (Nat.not_lt_zero i)
  | s :: o, ⟨p1, p2⟩, ⟨q1, q2⟩, i, hi => by
    by_cases e : i = o.length
    · subst e
      rw [p1]
      exact q1
    · exact PS_at p2 q2 i (by simp only [List.length_cons] at hi; omega)
theorem stW_of {key : Nat} {s : Int} {x v : Int32} (hk : key ≤ 5) (h : stR key s x v) : stW (key : Int) s x.toInt v.toInt := by
  obtain ⟨l, n⟩ := nmT_nmL key hk
  rcases h with ⟨rfl, h2, h3, h4⟩ | ⟨rfl, k, hk1, h2, rfl⟩ | ⟨rfl, h2, h3⟩
  · exact Or.inl ⟨rfl, h2, h3, h4⟩
  · refine Or.inr (Or.inl ⟨rfl, k, by omega, h2, ?_⟩)
    have b := (nmT_b key hk k hk1).2
    rw [nI_i (by omega), n k hk1]
  · exact Or.inr (Or.inr ⟨rfl, h2, h3⟩)
/-- how the class's call ends -/
noncomputable def TxA (h h1 : Hp) (rv : Int32) (tx n : Nat) (H : Hp) : Prop := (H.1 8 2 = nI tx ∧ ∀ j, H.1 9 j = h.1 9 j) ∨ (tx < 12 ∧ rv = -1000000005 ∧ H.1 8 2 = nI (tx + 1) ∧ (∀ j, j < 100 * tx → H.1 9 (nI j) = h.1 9 (nI j)) ∧ H.1 9 (nI (100 * tx)) = h1.1 55 3 ∧ H.1 9 (nI (100 * tx + 3)) = h1.1 56 1 ∧ ∀ k, k < n → H.1 9 (nI (100 * tx + 4 + k)) = h1.1 57 (nI k))
noncomputable def TxB (h1 : Hp) (rv : Int32) (tx : Nat) (H : Hp) : Prop := (H.1 66 4 = nI tx ∧ ∀ i, 600 ≤ i → i < 4000 → H.1 66 (nI i) = h1.1 66 (nI i)) ∨ (tx < 12 ∧ 0 ≤ rv ∧ H.1 66 4 = nI (tx + 1) ∧ (∀ i, 600 ≤ i → i < 4000 → (i < 600 + 200 * tx ∨ 604 + 200 * tx ≤ i) → H.1 66 (nI i) = h1.1 66 (nI i)) ∧ H.1 66 (nI (603 + 200 * tx)) = h1.1 65 24)
theorem rd_out4 {h h' : Hp} {tx : Nat} (f : frPB (adB tx) h h') : h'.1 66 4 = h.1 66 4 := by
  refine f.1 66 _ (fun q => ?_)
  rcases q with ⟨q, -⟩ | ⟨-, k, hk, q⟩
  · exact absurd q (by decide)
  · have b := adB_b (tx := tx)
    have q := congrArg Int32.toInt q
    have c4 : (4 : Int32).toInt = 4 := rfl
    rw [nI_i (by omega)] at q
    omega
theorem TxA.kp {h h1 H : Hp} {rv v day : Int32} {tx n : Nat} (fa : frA h h1) (e8 : h.1 8 2 = nI tx) (h12 : tx < 12) (hr : rv = -1000000005) (w : WtI (hI (hI (hI (hI (hI (hI h1 53 1 v) 8 2 (nI (tx + 1))) 9 ((nI tx * 100) + 1) day) 9 ((nI tx * 100) + 0) (h1.1 55 3)) 9 ((nI tx * 100) + 2) (h1.1 55 4)) 9 ((nI tx * 100) + 3) (h1.1 56 1)) tx n H) : TxA h h1 rv tx n H := by
  have x0 : (nI tx * 100) + 0 = nI (100 * tx) := ixT (f := 0) h12 (by decide)
  have x1 : (nI tx * 100) + 1 = nI (100 * tx + 1) := ixT (f := 1) h12 (by decide)
  have x2 : (nI tx * 100) + 2 = nI (100 * tx + 2) := ixT (f := 2) h12 (by decide)
  have x3 : (nI tx * 100) + 3 = nI (100 * tx + 3) := ixT (f := 3) h12 (by decide)
  rw [x0, x1, x2, x3] at w
  obtain ⟨w1, w2, w3, w4⟩ := w
  refine Or.inr ⟨h12, hr, ?_, fun j hj => ?_, ?_, ?_, fun k hk => ?_⟩
  · rw [w1 8 2 (by decide), hI_ne (by decide), hI_ne (by decide), hI_ne (by decide), hI_ne (by decide), hI_eq]
  · rw [w3 j (by omega), hI_jn (nIj (by omega) (by omega) (by omega)), hI_jn (nIj (by omega) (by omega) (by omega)), hI_jn (nIj (by omega) (by omega) (by omega)), hI_jn (nIj (by omega) (by omega) (by omega)), hI_ne (by decide), hI_ne (by decide)]
    exact fa.1 9 _ (by decide)
  · rw [w3 _ (by omega), hI_jn (nIj (by omega) (by omega) (by omega)), hI_jn (nIj (by omega) (by omega) (by omega)), hI_eq]
  · rw [w3 _ (by omega), hI_eq]
  · rw [w4 k hk, hI_ne (by decide), hI_ne (by decide), hI_ne (by decide), hI_ne (by decide), hI_ne (by decide), hI_ne (by decide)]
theorem TxB.kp {h h1 : Hp} {rv day : Int32} {tx : Nat} (e4 : h1.1 66 4 = nI tx) (h12 : tx < 12) (hr : 0 ≤ rv) {H : Hp} (eH : H = hI (hI (hI (hI h1 66 ((nI (600 + 200 * tx)) + 0) rv) 66 ((nI (600 + 200 * tx)) + 1) day) 66 ((nI (600 + 200 * tx)) + 2) (h1.1 65 26)) 66 ((nI (600 + 200 * tx)) + 3) (h1.1 65 24)) : TxB h1 rv tx (hI H 66 4 (H.1 66 4 + 1)) := by
  have ix : ∀ f : Nat, nI (600 + 200 * tx) + nI f = nI (600 + 200 * tx + f) := fun f => nI_add _ f
  have x0 : nI (600 + 200 * tx) + 0 = nI (600 + 200 * tx) := ix 0
  have x1 : nI (600 + 200 * tx) + 1 = nI (600 + 200 * tx + 1) := ix 1
  have x2 : nI (600 + 200 * tx) + 2 = nI (600 + 200 * tx + 2) := ix 2
  have x3 : nI (600 + 200 * tx) + 3 = nI (600 + 200 * tx + 3) := ix 3
  rw [x0, x1, x2, x3] at eH
  have n4 : ∀ i : Nat, 600 ≤ i → i < 4000 → nI i ≠ 4 := fun i a b => nIj (b := 4) (by omega) (by decide) (by omega)
  have n4' : ∀ i : Nat, 600 ≤ i → i < 4000 → (4 : Int32) ≠ nI i := fun i a b => (n4 i a b).symm
  have eh4 : H.1 66 4 = nI tx := by rw [eH, hI_jn (n4' _ (by omega) (by omega)), hI_jn (n4' _ (by omega) (by omega)), hI_jn (n4' _ (by omega) (by omega)), hI_jn (n4' _ (by omega) (by omega)), e4]
  refine Or.inr ⟨h12, hr, ?_, fun i i0 i1 i2 => ?_, ?_⟩
  · rw [hI_eq, eh4, tx_1]
  · rw [hI_jn (n4 i i0 i1), eH, hI_jn (nIj (by omega) (by omega) (by omega)), hI_jn (nIj (by omega) (by omega) (by omega)), hI_jn (nIj (by omega) (by omega) (by omega)), hI_jn (nIj (by omega) (by omega) (by omega))]
  · rw [hI_jn (n4 _ (by omega) (by omega)), eH, show 603 + 200 * tx = 600 + 200 * tx + 3 by omega, hI_eq]
set_option maxRecDepth 100000 in
theorem okP44 : PmOK rgT pm44 := by
  intro d hd ρ as bs h hlen hin hb hc hf hR
  have hd : 117 ≤ d := hd
  have hlen : as.length = 2 := hlen
  generalize hL : as ++ bs = L at hin
  have hin0 := hin
  obtain ⟨v0, s0, rfl, hin⟩ := hin
  rw [if_pos rfl] at hin
  obtain ⟨rfl, -, hin⟩ := hin
  obtain ⟨v1, s1, rfl, hin⟩ := hin
  rw [if_neg (by decide), if_pos rfl] at hin
  obtain ⟨g0, ⟨a0, rfl, e0⟩, hin⟩ := hin
  obtain ⟨v2, s2, rfl, hin⟩ := hin
  rw [if_pos rfl] at hin
  obtain ⟨rfl, -, hin⟩ := hin
  obtain ⟨v3, s3, rfl, hin⟩ := hin
  rw [if_neg (by decide), if_pos rfl] at hin
  obtain ⟨g1, ⟨b1, rfl, e1⟩, hin⟩ := hin
  cases hin
  obtain ⟨rfl, rfl⟩ := List.append_inj (show as ++ bs = [Value.ref 0, .int a0] ++ [Value.ref 65, .int b1] from hL) hlen
  have f0 : (0 : Int) ≤ 0 + (1 * ρ 2 + (-1 * ρ 3 + 0)) := hf _ (List.mem_of_getElem? (i := 0) rfl)
  have f1 : (0 : Int) ≤ 0 + (-1 * ρ 2 + (1 * ρ 3 + 0)) := hf _ (List.mem_of_getElem? (i := 1) rfl)
  have f2 : (0 : Int) ≤ 0 + (1 * ρ 4 + (-1 * ρ 5 + 0)) := hf _ (List.mem_of_getElem? (i := 2) rfl)
  have f3 : (0 : Int) ≤ 0 + (-1 * ρ 4 + (1 * ρ 5 + 0)) := hf _ (List.mem_of_getElem? (i := 3) rfl)
  have f4 : (0 : Int) ≤ 0 + (1 * ρ 6 + (-1 * ρ 7 + 0)) := hf _ (List.mem_of_getElem? (i := 4) rfl)
  have f5 : (0 : Int) ≤ 0 + (-1 * ρ 6 + (1 * ρ 7 + 0)) := hf _ (List.mem_of_getElem? (i := 5) rfl)
  have f6 : (0 : Int) ≤ 0 + (1 * ρ 8 + (-1 * ρ 9 + 0)) := hf _ (List.mem_of_getElem? (i := 6) rfl)
  have f7 : (0 : Int) ≤ 0 + (-1 * ρ 8 + (1 * ρ 9 + 0)) := hf _ (List.mem_of_getElem? (i := 7) rfl)
  have f8 : (0 : Int) ≤ 0 + (1 * ρ 10 + (-1 * ρ 11 + 0)) := hf _ (List.mem_of_getElem? (i := 8) rfl)
  have f9 : (0 : Int) ≤ 0 + (-1 * ρ 10 + (1 * ρ 11 + 0)) := hf _ (List.mem_of_getElem? (i := 9) rfl)
  have f10 : (0 : Int) ≤ 0 + (1 * ρ 12 + (-1 * ρ 13 + 0)) := hf _ (List.mem_of_getElem? (i := 10) rfl)
  have f11 : (0 : Int) ≤ 0 + (-1 * ρ 12 + (1 * ρ 13 + 0)) := hf _ (List.mem_of_getElem? (i := 11) rfl)
  have f12 : (0 : Int) ≤ 0 + (1 * ρ 14 + (-1 * ρ 15 + 0)) := hf _ (List.mem_of_getElem? (i := 12) rfl)
  have f13 : (0 : Int) ≤ 0 + (-1 * ρ 14 + (1 * ρ 15 + 0)) := hf _ (List.mem_of_getElem? (i := 13) rfl)
  have f14 : (0 : Int) ≤ 0 + (1 * ρ 16 + (-1 * ρ 17 + 0)) := hf _ (List.mem_of_getElem? (i := 14) rfl)
  have f15 : (0 : Int) ≤ 0 + (-1 * ρ 16 + (1 * ρ 17 + 0)) := hf _ (List.mem_of_getElem? (i := 15) rfl)
  have f16 : (0 : Int) ≤ 0 + (1 * ρ 18 + (-1 * ρ 19 + 0)) := hf _ (List.mem_of_getElem? (i := 16) rfl)
  have f17 : (0 : Int) ≤ 0 + (-1 * ρ 18 + (1 * ρ 19 + 0)) := hf _ (List.mem_of_getElem? (i := 17) rfl)
  have f18 : (0 : Int) ≤ 0 + (1 * ρ 20 + (-1 * ρ 21 + 0)) := hf _ (List.mem_of_getElem? (i := 18) rfl)
  have f19 : (0 : Int) ≤ 0 + (-1 * ρ 20 + (1 * ρ 21 + 0)) := hf _ (List.mem_of_getElem? (i := 19) rfl)
  have f20 : (0 : Int) ≤ 0 + (1 * ρ 22 + (-1 * ρ 23 + 0)) := hf _ (List.mem_of_getElem? (i := 20) rfl)
  have f21 : (0 : Int) ≤ 0 + (-1 * ρ 22 + (1 * ρ 23 + 0)) := hf _ (List.mem_of_getElem? (i := 21) rfl)
  have f22 : (0 : Int) ≤ 0 + (1 * ρ 6 + (-1 * ρ 35 + 0)) := hf _ (List.mem_of_getElem? (i := 22) rfl)
  have f23 : (0 : Int) ≤ 0 + (-1 * ρ 6 + (1 * ρ 35 + 0)) := hf _ (List.mem_of_getElem? (i := 23) rfl)
  have f24 : (0 : Int) ≤ 0 + (1 * ρ 0 + (-1 * ρ 1 + 0)) := hf _ (List.mem_of_getElem? (i := 24) rfl)
  have f25 : (0 : Int) ≤ 0 + (-1 * ρ 0 + (1 * ρ 1 + 0)) := hf _ (List.mem_of_getElem? (i := 25) rfl)
  have e0 : ρ 0 = a0.toInt := e0
  have e1 : ρ 1 = b1.toInt := e1
  obtain rfl : a0 = b1 := Int32.toInt_inj.mp (by omega)
  have g0 : (-2147483648 : Int) ≤ ρ 0 ∧ ρ 0 ≤ 2147483647 := g0
  have g1 : (-2147483648 : Int) ≤ ρ 1 ∧ ρ 1 ≤ 2147483647 := g1
  have r2 : (0 : Int) ≤ ρ 2 ∧ ρ 2 ≤ 3 := hb (2, 0, 3) (List.mem_of_getElem? (i := 0) rfl)
  have c2 : ρ 2 = (h.1 2 2).toInt := hc_i (hc (0, 2, (2, []), leX 2) (List.mem_of_getElem? (i := 0) rfl)) rfl
  have r3 : (0 : Int) ≤ ρ 3 ∧ ρ 3 ≤ 3 := hb (3, 0, 3) (List.mem_of_getElem? (i := 1) rfl)
  have c3 : ρ 3 = (h.1 66 1).toInt := hc_i (hc (0, 66, (1, []), leX 3) (List.mem_of_getElem? (i := 1) rfl)) rfl
  have r4 : (0 : Int) ≤ ρ 4 ∧ ρ 4 ≤ 10 := hb (4, 0, 10) (List.mem_of_getElem? (i := 2) rfl)
  have c4 : ρ 4 = (h.1 4 2).toInt := hc_i (hc (0, 4, (2, []), leX 4) (List.mem_of_getElem? (i := 2) rfl)) rfl
  have r5 : (0 : Int) ≤ ρ 5 ∧ ρ 5 ≤ 10 := hb (5, 0, 10) (List.mem_of_getElem? (i := 3) rfl)
  have c5 : ρ 5 = (h.1 66 2).toInt := hc_i (hc (0, 66, (2, []), leX 5) (List.mem_of_getElem? (i := 3) rfl)) rfl
  have r6 : (0 : Int) ≤ ρ 6 ∧ ρ 6 ≤ 12 := hb (6, 0, 12) (List.mem_of_getElem? (i := 4) rfl)
  have c6 : ρ 6 = (h.1 8 2).toInt := hc_i (hc (0, 8, (2, []), leX 6) (List.mem_of_getElem? (i := 4) rfl)) rfl
  have r7 : (0 : Int) ≤ ρ 7 ∧ ρ 7 ≤ 12 := hb (7, 0, 12) (List.mem_of_getElem? (i := 5) rfl)
  have c7 : ρ 7 = (h.1 66 4).toInt := hc_i (hc (0, 66, (4, []), leX 7) (List.mem_of_getElem? (i := 5) rfl)) rfl
  have r8 : (0 : Int) ≤ ρ 8 ∧ ρ 8 ≤ 999 := hb (8, 0, 999) (List.mem_of_getElem? (i := 6) rfl)
  have c8 : ρ 8 = (h.1 1 5).toInt := hc_i (hc (0, 1, (5, []), leX 8) (List.mem_of_getElem? (i := 6) rfl)) rfl
  have r9 : (0 : Int) ≤ ρ 9 ∧ ρ 9 ≤ 999 := hb (9, 0, 999) (List.mem_of_getElem? (i := 7) rfl)
  have c9 : ρ 9 = (h.1 66 0).toInt := hc_i (hc (0, 66, (0, []), leX 9) (List.mem_of_getElem? (i := 7) rfl)) rfl
  have r10 : (0 : Int) ≤ ρ 10 ∧ ρ 10 ≤ 30 := hb (10, 0, 30) (List.mem_of_getElem? (i := 8) rfl)
  have c10 : ρ 10 = (h.1 6 2).toInt := hc_i (hc (0, 6, (2, []), leX 10) (List.mem_of_getElem? (i := 8) rfl)) rfl
  have r11 : (0 : Int) ≤ ρ 11 ∧ ρ 11 ≤ 30 := hb (11, 0, 30) (List.mem_of_getElem? (i := 9) rfl)
  have c11 : ρ 11 = (h.1 66 3).toInt := hc_i (hc (0, 66, (3, []), leX 11) (List.mem_of_getElem? (i := 9) rfl)) rfl
  have r12 : (0 : Int) ≤ ρ 12 ∧ ρ 12 ≤ 3 := hb (12, 0, 3) (List.mem_of_getElem? (i := 10) rfl)
  have c12 : ρ 12 = (h.1 13 2).toInt := hc_i (hc (0, 13, (2, []), leX 12) (List.mem_of_getElem? (i := 10) rfl)) rfl
  have r13 : (0 : Int) ≤ ρ 13 ∧ ρ 13 ≤ 3 := hb (13, 0, 3) (List.mem_of_getElem? (i := 11) rfl)
  have c13 : ρ 13 = (h.1 67 1).toInt := hc_i (hc (0, 67, (1, []), leX 13) (List.mem_of_getElem? (i := 11) rfl)) rfl
  have r14 : (0 : Int) ≤ ρ 14 ∧ ρ 14 ≤ 10 := hb (14, 0, 10) (List.mem_of_getElem? (i := 12) rfl)
  have c14 : ρ 14 = (h.1 15 2).toInt := hc_i (hc (0, 15, (2, []), leX 14) (List.mem_of_getElem? (i := 12) rfl)) rfl
  have r15 : (0 : Int) ≤ ρ 15 ∧ ρ 15 ≤ 10 := hb (15, 0, 10) (List.mem_of_getElem? (i := 13) rfl)
  have c15 : ρ 15 = (h.1 67 2).toInt := hc_i (hc (0, 67, (2, []), leX 15) (List.mem_of_getElem? (i := 13) rfl)) rfl
  have r16 : (0 : Int) ≤ ρ 16 ∧ ρ 16 ≤ 12 := hb (16, 0, 12) (List.mem_of_getElem? (i := 14) rfl)
  have c16 : ρ 16 = (h.1 19 2).toInt := hc_i (hc (0, 19, (2, []), leX 16) (List.mem_of_getElem? (i := 14) rfl)) rfl
  have r17 : (0 : Int) ≤ ρ 17 ∧ ρ 17 ≤ 12 := hb (17, 0, 12) (List.mem_of_getElem? (i := 15) rfl)
  have c17 : ρ 17 = (h.1 67 4).toInt := hc_i (hc (0, 67, (4, []), leX 17) (List.mem_of_getElem? (i := 15) rfl)) rfl
  have r18 : (0 : Int) ≤ ρ 18 ∧ ρ 18 ≤ 999 := hb (18, 0, 999) (List.mem_of_getElem? (i := 16) rfl)
  have c18 : ρ 18 = (h.1 12 5).toInt := hc_i (hc (0, 12, (5, []), leX 18) (List.mem_of_getElem? (i := 16) rfl)) rfl
  have r19 : (0 : Int) ≤ ρ 19 ∧ ρ 19 ≤ 999 := hb (19, 0, 999) (List.mem_of_getElem? (i := 17) rfl)
  have c19 : ρ 19 = (h.1 67 0).toInt := hc_i (hc (0, 67, (0, []), leX 19) (List.mem_of_getElem? (i := 17) rfl)) rfl
  have r20 : (0 : Int) ≤ ρ 20 ∧ ρ 20 ≤ 30 := hb (20, 0, 30) (List.mem_of_getElem? (i := 18) rfl)
  have c20 : ρ 20 = (h.1 17 2).toInt := hc_i (hc (0, 17, (2, []), leX 20) (List.mem_of_getElem? (i := 18) rfl)) rfl
  have r21 : (0 : Int) ≤ ρ 21 ∧ ρ 21 ≤ 30 := hb (21, 0, 30) (List.mem_of_getElem? (i := 19) rfl)
  have c21 : ρ 21 = (h.1 67 3).toInt := hc_i (hc (0, 67, (3, []), leX 21) (List.mem_of_getElem? (i := 19) rfl)) rfl
  have r22 : (0 : Int) ≤ ρ 22 ∧ ρ 22 ≤ 96 := hb (22, 0, 96) (List.mem_of_getElem? (i := 20) rfl)
  have c22 : ρ 22 = (h.1 53 1).toInt := hc_i (hc (0, 53, (1, []), leX 22) (List.mem_of_getElem? (i := 20) rfl)) rfl
  have r23 : (0 : Int) ≤ ρ 23 ∧ ρ 23 ≤ 96 := hb (23, 0, 96) (List.mem_of_getElem? (i := 21) rfl)
  have c23 : ρ 23 = (h.1 65 16).toInt := hc_i (hc (0, 65, (16, []), leX 23) (List.mem_of_getElem? (i := 21) rfl)) rfl
  have r24 : (0 : Int) ≤ ρ 24 ∧ ρ 24 ≤ 0 := hb (24, 0, 0) (List.mem_of_getElem? (i := 22) rfl)
  have c24 : KC h 14 8 0 (ρ 24) := kc_at (hc (14, 8, (0, []), leX 24) (List.mem_of_getElem? (i := 22) rfl))
  have r25 : (0 : Int) ≤ ρ 25 ∧ ρ 25 ≤ 0 := hb (25, 0, 0) (List.mem_of_getElem? (i := 23) rfl)
  have c25 : KC h 14 12 0 (ρ 25) := kc_at (hc (14, 12, (0, []), leX 25) (List.mem_of_getElem? (i := 23) rfl))
  have r26 : (0 : Int) ≤ ρ 26 ∧ ρ 26 ≤ 0 := hb (26, 0, 0) (List.mem_of_getElem? (i := 24) rfl)
  have c26 : KC h 5 66 0 (ρ 26) := kc_at (hc (5, 66, (0, []), leX 26) (List.mem_of_getElem? (i := 24) rfl))
  have r27 : (0 : Int) ≤ ρ 27 ∧ ρ 27 ≤ 0 := hb (27, 0, 0) (List.mem_of_getElem? (i := 25) rfl)
  have c27 : KC h 9 448 0 (ρ 27) := kc_at (hc (9, 448, (0, []), leX 27) (List.mem_of_getElem? (i := 25) rfl))
  have r28 : (0 : Int) ≤ ρ 28 ∧ ρ 28 ≤ 0 := hb (28, 0, 0) (List.mem_of_getElem? (i := 26) rfl)
  have c28 : KC h 9 464 0 (ρ 28) := kc_at (hc (9, 464, (0, []), leX 28) (List.mem_of_getElem? (i := 26) rfl))
  have r29 : (0 : Int) ≤ ρ 29 ∧ ρ 29 ≤ 0 := hb (29, 0, 0) (List.mem_of_getElem? (i := 27) rfl)
  have c29 : KC h 9 480 0 (ρ 29) := kc_at (hc (9, 480, (0, []), leX 29) (List.mem_of_getElem? (i := 27) rfl))
  have r30 : (0 : Int) ≤ ρ 30 ∧ ρ 30 ≤ 0 := hb (30, 0, 0) (List.mem_of_getElem? (i := 28) rfl)
  have c30 : KC h 9 512 0 (ρ 30) := kc_at (hc (9, 512, (0, []), leX 30) (List.mem_of_getElem? (i := 28) rfl))
  have r31 : (0 : Int) ≤ ρ 31 ∧ ρ 31 ≤ 0 := hb (31, 0, 0) (List.mem_of_getElem? (i := 29) rfl)
  have c31 : KC h 9 528 0 (ρ 31) := kc_at (hc (9, 528, (0, []), leX 31) (List.mem_of_getElem? (i := 29) rfl))
  have r32 : (0 : Int) ≤ ρ 32 ∧ ρ 32 ≤ 0 := hb (32, 0, 0) (List.mem_of_getElem? (i := 30) rfl)
  have c32 : KC h 9 544 0 (ρ 32) := kc_at (hc (9, 544, (0, []), leX 32) (List.mem_of_getElem? (i := 30) rfl))
  have r33 : (0 : Int) ≤ ρ 33 ∧ ρ 33 ≤ 0 := hb (33, 0, 0) (List.mem_of_getElem? (i := 31) rfl)
  have c33 : KC h 9 560 0 (ρ 33) := kc_at (hc (9, 560, (0, []), leX 33) (List.mem_of_getElem? (i := 31) rfl))
  have r34 : (0 : Int) ≤ ρ 34 ∧ ρ 34 ≤ 0 := hb (34, 0, 0) (List.mem_of_getElem? (i := 32) rfl)
  have c34 : KC h 9 2003 0 (ρ 34) := kc_at (hc (9, 2003, (0, []), leX 34) (List.mem_of_getElem? (i := 32) rfl))
  have r35 : (0 : Int) ≤ ρ 35 ∧ ρ 35 ≤ 12 := hb (35, 0, 12) (List.mem_of_getElem? (i := 33) rfl)
  have c35 : KC h 15 0 0 (ρ 35) := kc_at (hc (15, 0, (0, []), leX 35) (List.mem_of_getElem? (i := 33) rfl))
  obtain ⟨n, hn⟩ : ∃ n : Nat, (n : Int) = ρ 23 := ⟨(ρ 23).toNat, by omega⟩
  obtain ⟨tx, htx⟩ : ∃ n : Nat, (n : Int) = ρ 7 := ⟨(ρ 7).toNat, by omega⟩
  have tB : TPB h n := ⟨by omega, by rw [i_nJ (v := h.1 65 16) (by omega)]; congr 1; omega⟩
  have ex : h.1 66 4 = nI tx := by rw [i_nJ (v := h.1 66 4) (by omega)]; congr 1; omega
  have R2 : ∀ p : Nat, p < 96 → (h.1 54 (nI p)).toInt = (h.1 78 (nI p)).toInt := fun p hp => by
    obtain ⟨k, o1, b1, s1, o2, bb2, s2, m, cv, e0, R⟩ := (show RLO h 2003 0 (ρ 34) from c34)
    have e1 : rlD 2003 = some (0, (54, 0, 1), (78, 0, 1), 96, 0) := rfl
    have e0 : rlD 2003 = some (k, (o1, b1, s1), (o2, bb2, s2), m, cv) := e0
    rw [e1] at e0
    cases e0
    have R := R p (by omega) (by omega) (Or.inr (by omega))
    rw [rlR0] at R
    have ei : Int32.ofInt (0 + 1 * (p : Int)) = nI p := Int32.toInt_inj.mp (by rw [i32of (by omega) (by omega), nI_i (by omega)]; omega)
    have R : (h.1 54 (Int32.ofInt (0 + 1 * (p : Int)))).toInt = (h.1 78 (Int32.ofInt (0 + 1 * (p : Int)))).toInt := R
    rw [ei] at R
    exact R
  have b54 : ∀ p : Nat, p < 96 → 0 ≤ (h.1 54 (nI p)).toInt ∧ (h.1 54 (nI p)).toInt ≤ 255 := fun p hp => hR (54, 0, 1, 96, 0, 255) (by decide +kernel) (nI p) p (by omega) (by dsimp only; omega) (by rw [nI_i (by omega)]; dsimp only; omega)
  have c255 : (255 : Int32).toInt = 255 := rfl
  have bB : BY (h.1 78) n := fun p hp => by
    have := b54 p (by omega)
    have := R2 p (by omega)
    exact ⟨by rw [ge0I]; omega, by rw [Int32.le_iff_toInt_le, c255]; omega⟩
  have hin0' := hin0
  have tA : TP h n := ⟨by omega, by rw [i_nJ (v := h.1 53 1) (by omega)]; congr 1; omega⟩
  have bA : BY (h.1 54) n := fun p hp => by
    have := b54 p (by omega)
    exact ⟨by rw [ge0I]; omega, by rw [Int32.le_iff_toInt_le, c255]; omega⟩
  have e : ∀ p, p < n → h.1 54 (nI p) = h.1 78 (nI p) := fun p hp => Int32.toInt_inj.mp (R2 p (by omega))
  have e8 : h.1 8 2 = nI tx := by rw [i_nJ (v := h.1 8 2) (by omega)]; congr 1; omega
  obtain ⟨rA, hA, rB, hB, cA, cB, x1, x2, x3, x4, RG, FR, oe, hoe, ρ', ag, bd, rt, rt', kc, fc⟩ := okP27 d hd ρ [.ref 0, .int a0] [.ref 65, .int a0] h rfl hin0' hb hc hf hR
  obtain rfl := List.mem_singleton.mp hoe
  refine ⟨rA, hA, rB, hB, cA, cB, x1, x2, x3, x4, RG, FR, _, List.mem_singleton.mpr rfl, ρ', ag, bd, rt, rt', fun c hc' => ?_, fc⟩
  have k8 := hc_i (I := 2) (kc (0, 8, (2, []), (0, [(37, 1)])) (List.mem_of_getElem? (i := 0) rfl)) rfl
  have k66 := hc_i (I := 4) (kc (0, 66, (4, []), (0, [(37, 1)])) (List.mem_of_getElem? (i := 1) rfl)) rfl
  have k8 : ρ' 37 = (hA.1 8 2).toInt := k8
  have k66 : ρ' 37 = (hB.1 66 4).toInt := k66
  obtain ⟨d', rfl⟩ : ∃ d', d = d' + 3 := ⟨d - 3, by omega⟩
  have ssA : sS true [Value.ref 55] := List.forall_mem_cons.mpr ⟨fun _ => rfl, fun _ h => absurd h List.not_mem_nil⟩
  have ssB : sS false [Value.ref 65] := List.forall_mem_cons.mpr ⟨fun _ => rfl, fun _ h => absurd h List.not_mem_nil⟩
  have SA := okRA (d' + 2) (by show 6 ≤ _; omega) (fun k => ρ ([].getD k 0)) [.ref 55] h ⟨_, _, rfl, by rw [if_pos rfl]; exact ⟨rfl, by decide, rfl⟩⟩ (fun _ h => absurd h List.not_mem_nil) (fun _ h => absurd h List.not_mem_nil) (fun _ h => absurd h List.not_mem_nil) hR
  have SB := okRB (d' + 2) (by show 116 ≤ _; omega) (fun k => ρ ([23, 7, 26].getD k 0)) [.ref 65] h ⟨_, _, rfl, by rw [if_pos rfl]; exact ⟨rfl, by decide, rfl⟩⟩ (List.forall_mem_cons.mpr ⟨by show (0 : Int) ≤ ρ 23 ∧ ρ 23 ≤ 96; omega, List.forall_mem_cons.mpr ⟨by show (0 : Int) ≤ ρ 7 ∧ ρ 7 ≤ 12; omega, List.forall_mem_cons.mpr ⟨by show (0 : Int) ≤ ρ 26 ∧ ρ 26 ≤ 0; omega, fun _ h => absurd h List.not_mem_nil⟩⟩⟩) (List.forall_mem_cons.mpr ⟨⟨16, leV_C _ 16, by show leV _ (leX 0) = _; rw [leV_X]; exact c23⟩, List.forall_mem_cons.mpr ⟨⟨4, leV_C _ 4, by show leV _ (leX 1) = _; rw [leV_X]; exact c7⟩, List.forall_mem_cons.mpr ⟨by show KC h 5 66 (leV _ (leC 0)) (leV _ (leX 2)); rw [leV_C, leV_X]; exact c26, fun _ h => absurd h List.not_mem_nil⟩⟩⟩) (fun _ h => absurd h List.not_mem_nil) hR
  obtain ⟨sA, gA, sB, gB, qA, qB, -, -, fa, en, H⟩ := rp_both (by omega) tA tB bA e ex (by omega) SA SB
  obtain ⟨va, rfl⟩ : ∃ v : Int32, sA = some (.int v) := by
    rcases H with ⟨s, -, h1, -⟩ | ⟨key, pr, out, -, h1, -⟩
    · exact ⟨_, h1⟩
    · exact ⟨_, h1⟩
  obtain ⟨vb, rfl⟩ : ∃ v : Int32, sB = some (.int v) := by
    rcases H with ⟨s, -, -, h1, -⟩ | ⟨key, pr, out, -, -, h1, -⟩
    · exact ⟨_, h1⟩
    · exact ⟨_, h1⟩
  have K : KC (mxH true hA hB) 15 0 0 (ρ' 37) := by
    have c12 : tx ≤ 12 := by omega
    have e8A : gA.1 8 2 = nI tx := (fa.1 8 2 (by decide)).trans e8
    have e4B : gB.1 66 4 = nI tx := by
      have := rd_out4 en.fr
      rw [this, ex]
    obtain ⟨m, hm, hmn⟩ : ∃ m : Nat, (va = -1000000005 → gA.1 56 1 = nI m) ∧ (va = -1000000005 → m ≤ 96) := by
      rcases H with ⟨s, hs, h1, -⟩ | ⟨key, pr, out, -, h1, -, -, -, -, h2, -, -, -, h3⟩
      · refine ⟨0, fun z => ?_, fun _ => by decide⟩
        obtain rfl := (Value.int.inj (Option.some.inj h1))
        have := congrArg Int32.toInt z
        have cN : (-1000000005 : Int32).toInt = -1000000005 := rfl
        rw [nI_i (by omega)] at this
        omega
      · exact ⟨out.length, fun _ => h2, fun _ => h3⟩
    have zA : TxA h gA va tx m hA := CRun.of (Q := fun _ H => TxA h gA va tx m H) cA (c_textA (fun Q q => qA Q q) c12 e8A hm hmn (fun r v {H} hH => by
      rcases hH with rfl | rfl
      · exact Or.inl ⟨by rw [hI_ne (by decide)]; exact e8, fun j => hI_ne (by decide)⟩
      · exact Or.inl ⟨by rw [hI_ne (by decide)]; exact e8A, fun j => (hI_ne (by decide)).trans (fa.1 9 j (by decide))⟩) (fun v h3 h0 e0 h12 hr w => by rw [e0] at w; exact TxA.kp fa e8 h12 hr w))
    have zB : TxB gB vb tx hB := CRun.of (Q := fun _ H => TxB gB vb tx H) cB (c_textB (fun Q q => qB Q q) c12 e4B (fun r => Or.inl ⟨e4B, fun _ _ _ => rfl⟩) (fun r H eH h12 hr => TxB.kp (h := h) e4B h12 hr eH))
    have S0 : SMO h 0 tx := by
      have := c35
      rw [show ρ 35 = (tx : Int) by omega] at this
      exact this
    rcases zA with ⟨a8, a9⟩ | ⟨h12, hr, a8, a9, aK, aN, aS⟩
    · -- none came
      have y0 : ρ' 37 = tx := by rw [k8, a8, nI_i (by omega)]
      rcases zB with ⟨b4, b66⟩ | ⟨-, -, b4, -⟩
      · rw [y0]
        exact sm_read (tx := tx) (Int.le_refl _) S0 (fun i _ _ => a9 _) (fun i i1 i2 i3 => ((mx_off (by decide)).trans (b66 i i1 (by omega))).trans (rd_out2 en.fr i2 i3))
      · rw [b4, nI_i (by omega)] at k66
        omega
    · have y1 : ρ' 37 = (tx : Int) + 1 := by rw [k8, a8, nI_i (by omega)]; omega
      rcases zB with ⟨b4, -⟩ | ⟨-, hr2, b4, b66, bN⟩
      · rw [b4, nI_i (by omega)] at k66
        omega
      obtain ⟨key, pr, out, hkey, -, -, e3, -, -, e56, pl, e24, sb, hlo⟩ := H.resolve_left (fun ⟨s, hs, h1, _⟩ => by
        have z := Value.int.inj (Option.some.inj h1)
        rw [hr] at z
        have := congrArg Int32.toInt z
        have cN : (-1000000005 : Int32).toInt = -1000000005 := rfl
        rw [nI_i (by omega)] at this
        omega)
      have em : m = out.length := by
        have := hm hr
        rw [e56] at this
        exact ((nIle_eq (by have := hmn hr; omega) (by omega)).mp this.symm)
      rw [y1]
      intro t t0 t1 t2
      by_cases tt : t < tx
      · exact sm_read (H := mxH true hA hB) (tx := tx) (Int.le_refl _) S0 (fun i i1 _ => a9 _ i1) (fun i i1 i2 i3 => ((mx_off (by decide)).trans (b66 i i1 (by omega) (Or.inl (by omega)))).trans (rd_out2 en.fr i2 i3)) t t0 tt t2
      · have et : t = (tx : Int) := by omega
        subst et
        have oI : ∀ j : Int, 0 ≤ j → j < 4000 → Int32.ofInt j = nI j.toNat := fun j a b => Int32.toInt_inj.mp (by rw [i32of (by omega) (by omega), nI_i (by omega)]; omega)
        have u0 : rlV (mxH true hA hB) 0 (smC 0) (100 * (tx : Int)) = key := by
          show (hA.1 9 (Int32.ofInt _)).toInt = _
          rw [oI _ (by omega) (by omega), show (100 * (tx : Int)).toNat = 100 * tx by omega, aK, e3, nI_i (by omega)]
        have u3 : rlV (mxH true hA hB) 0 (smC 0) (100 * (tx : Int) + 3) = out.length := by
          show (hA.1 9 (Int32.ofInt _)).toInt = _
          rw [oI _ (by omega) (by omega), show (100 * (tx : Int) + 3).toNat = 100 * tx + 3 by omega, aN, e56, nI_i (by omega)]
        have u6 : rlV (mxH true hA hB) 0 (bgR 0) (603 + 200 * (tx : Int)) = out.length := by
          show (hB.1 66 (Int32.ofInt _)).toInt = _
          rw [oI _ (by omega) (by omega), show (603 + 200 * (tx : Int)).toNat = 603 + 200 * tx by omega, bN, e24, nI_i (by omega)]
        rw [u0, u3, u6]
        refine ⟨by omega, by omega, by omega, by omega, rfl, fun i i0 i1 => ?_⟩
        obtain ⟨j, rfl⟩ : ∃ j : Nat, i = (j : Int) := ⟨i.toNat, by omega⟩
        have g1 : rlV (mxH true hA hB) 0 (smC 0) (100 * (tx : Int) + 4 + (j : Int)) = (gA.1 57 (nI j)).toInt := by
          show (hA.1 9 (Int32.ofInt _)).toInt = _
          rw [oI _ (by omega) (by omega), show (100 * (tx : Int) + 4 + (j : Int)).toNat = 100 * tx + 4 + j by omega, aS j (by omega)]
        have g2 : rlV (mxH true hA hB) 0 (bgR 0) (604 + 200 * (tx : Int) + 2 * (j : Int)) = (gB.1 66 (nI (604 + 200 * tx + 2 * j))).toInt := by
          show (hB.1 66 (Int32.ofInt _)).toInt = _
          rw [oI _ (by omega) (by omega), show (604 + 200 * (tx : Int) + 2 * (j : Int)).toNat = 604 + 200 * tx + 2 * j by omega, b66 _ (by omega) (by omega) (Or.inr (by omega))]
        have g3 : rlV (mxH true hA hB) 0 (bgR 0) (605 + 200 * (tx : Int) + 2 * (j : Int)) = (gB.1 66 (nI (604 + 200 * tx + 2 * j + 1))).toInt := by
          show (hB.1 66 (Int32.ofInt _)).toInt = _
          rw [oI _ (by omega) (by omega), show (605 + 200 * (tx : Int) + 2 * (j : Int)).toNat = 604 + 200 * tx + 2 * j + 1 by omega, b66 _ (by omega) (by omega) (Or.inr (by omega))]
        rw [g1, g2, g3]
        have ad : adB tx = 604 + 200 * tx := if_pos h12
        rw [ad] at sb
        exact stW_of hkey (PS_at pl sb j (by omega))
  rcases List.mem_append.mp (show c ∈ ([(0, 8, (2, []), (0, [(37, 1)])), (0, 66, (4, []), (0, [(37, 1)])), (0, 53, (1, []), (0, [(38, 1)])), (0, 65, (16, []), (0, [(38, 1)])), (14, 8, (0, []), (0, [])), (14, 12, (0, []), (0, [])), (5, 66, (0, []), (0, [])), (9, 448, (0, []), (0, [])), (9, 464, (0, []), (0, [])), (9, 480, (0, []), (0, [])), (9, 512, (0, []), (0, [])), (9, 528, (0, []), (0, [])), (9, 544, (0, []), (0, [])), (9, 560, (0, []), (0, []))] : List Kc) ++ [((15, 0, (0, []), (0, [(37, 1)])) : Kc)] from hc') with hc' | hc'
  · exact kc c hc'
  · obtain rfl := List.mem_singleton.mp hc'
    show KC _ 15 0 (leV ρ' (leC 0)) (leV ρ' (leX 37))
    rw [leV_C, leV_X]
    exact K
