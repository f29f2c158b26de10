/-! By hand (contracts printed by wip/se/m37.py). -/
theorem c_tg5 {d : Nat} {Q : Option Value → Hp → Prop} {h : Hp} {x : Int32} (x0 : 0 ≤ x) (x1 : x < h.1 6 2) (xm : h.1 6 2 ≤ 30) (k : Q (some (.int (h.1 7 ((x * 8) + 5)))) h) : Call (d + 1) 94 [.ref 6, .int x, .int 5] h Q := by
  refine call_of (rfl : psM[94]? = some _) rfl rfl (rcvV rfl) (fun X hX => ?_)
  show X (0, [some (.ref 6), some (.int x), some (.int 5)], [], h)
  refine go hX 2 (gs := [True, True]) (z' := (if x < 0 then 24 else 4, [some (.ref 6), some (.int x), some (.int 5)], [], h)) rfl ⟨trivial, trivial, trivial⟩ ?_
  refine br (fun b1 => ?_) (fun b1 => ?_)
  ·
    refine go hX 1 (gs := [True]) (z' := (25, [some (.ref 6), some (.int x), some (.int 5)], [.int 0], h)) rfl ⟨trivial, trivial⟩ ?_
    refine rt_ hX (G := True) (r := some (.int 0)) rfl trivial ?_
    exfalso; grind
  ·
    refine go hX 4 (gs := [True, True, True, True]) (z' := (if (h.1 6 2) ≤ x then 24 else 12, [some (.ref 6), some (.int x), some (.int 5)], [], h)) rfl ⟨trivial, trivial, trivial, trivial, trivial⟩ ?_
    refine br (fun b2 => ?_) (fun b2 => ?_)
    ·
      refine go hX 1 (gs := [True]) (z' := (25, [some (.ref 6), some (.int x), some (.int 5)], [.int 0], h)) rfl ⟨trivial, trivial⟩ ?_
      refine rt_ hX (G := True) (r := some (.int 0)) rfl trivial ?_
      exfalso; grind
    ·
      refine go hX 15 (gs := [ibd ((x * 8) + 5) 240, True, True, True, True, True, True, True, True, True, True, True, True, True, True]) (z' := (39, [some (.ref 6), some (.int x), some (.int 5)], [.int (h.1 7 ((x * 8) + 5))], h)) rfl ⟨?_, trivial, trivial, trivial, trivial, trivial, trivial, trivial, trivial, trivial, trivial, trivial, trivial, trivial, trivial, trivial⟩ ?_
      · exact ibd_of (B := 240) rfl (by grind) (by grind)
      refine rt_ hX (G := True) (r := some (.int (h.1 7 ((x * 8) + 5)))) rfl trivial ?_
      exact k
/-- the bits of the first k -/
noncomputable def whF (T : Nat → Bool) (V : Nat → Int32) : Nat → Int32
  | 0 => 0
  | k + 1 => whF T V k ||| (if T k = true then V k else 0)
theorem or_z {a : Int32} : a ||| 0 = a := by
  apply Int32.toBitVec_inj.mp
  rw [Int32.toBitVec_or]
  exact BitVec.or_zero
theorem wh_t {T : Nat → Bool} {V : Nat → Int32} {k : Nat} (t : T k = true) : whF T V k ||| V k = whF T V (k + 1) := by
  show _ = whF T V k ||| (if T k = true then V k else 0)
  rw [if_pos t]
theorem wh_f {T : Nat → Bool} {V : Nat → Int32} {k : Nat} (t : ¬ T k = true) : whF T V k = whF T V (k + 1) := by
  show _ = whF T V k ||| (if T k = true then V k else 0)
  rw [if_neg t, or_z]
theorem lp_whoA {d : Nat} {Q : Option Value → Hp → Prop} {X : Cf → Prop} (hX : Clo (Call (d + 3)) cd125 (some .int) Q X) {h : Hp} {n : Nat} (n30 : n ≤ 30) (en : h.1 6 2 = nI n) {s : Int32} {T : Nat → Bool} {V : Nat → Int32} (hT : ∀ k, k < n → (((h.1 7 ((nI k * 8) + 1) = s ∧ (1 ≤ (h.1 7 ((nI k * 8) + 0)).toInt ∧ (h.1 7 ((nI k * 8) + 0)).toInt ≤ 3)) ∧ h.1 7 ((nI k * 8) + 4) = 1) ↔ T k = true)) (hV : ∀ k, k < n → T k = true → (1 <<< ((h.1 7 ((nI k * 8) + 5)) &&& 31)) = V k) (hK : ∀ k, k < n → 0 ≤ (h.1 7 ((nI k * 8) + 0)).toInt ∧ (h.1 7 ((nI k * 8) + 0)).toInt ≤ 5) (K : Q (some (.int (whF T V n))) h) {k : Nat} (hk : k ≤ n) : X (21, [some (.ref 0), some (.int s), some (.int (whF T V k)), some (.int (nI k))], [], h) := by
  refine dn_ind (P := fun k => X (21, [some (.ref 0), some (.int s), some (.int (whF T V k)), some (.int (nI k))], [], h)) (fun k hk ih => ?_) hk
  refine go hX 4 (gs := [True, True, True, True]) (z' := (29, [some (.ref 0), some (.int s), some (.int (whF T V k)), some (.int (nI k))], [.ref 6, .int (nI k)], h)) rfl ⟨trivial, trivial, trivial, trivial, trivial⟩ ?_
  refine cl hX 91 1 [.ref 6] [.int (nI k)] rfl rfl rfl rfl ?_
  refine c_rowsT ?_
  show X (32, [some (.ref 0), some (.int s), some (.int (whF T V k)), some (.int (nI k))], [.int (h.1 6 2), .int (nI k)], h)
  refine go hX 1 (gs := [True]) (z' := (if (h.1 6 2) ≤ (nI k) then 86 else 35, [some (.ref 0), some (.int s), some (.int (whF T V k)), some (.int (nI k))], [], h)) rfl ⟨trivial, trivial⟩ ?_
  refine br (fun b1 => ?_) (fun b1 => ?_)
  ·
    refine go hX 1 (gs := [True]) (z' := (87, [some (.ref 0), some (.int s), some (.int (whF T V k)), some (.int (nI k))], [.int (whF T V k)], h)) rfl ⟨trivial, trivial⟩ ?_
    refine rt_ hX (G := True) (r := some (.int (whF T V k))) rfl trivial ?_
    have e : k = n := Nat.le_antisymm hk ((tx_le (by omega) (by omega)).mp (by rw [← en]; exact b1))
    subst e
    exact K
  ·
    have kx : k < n := Nat.lt_of_not_le (fun z => b1 (by rw [en]; exact (tx_le (by omega) (by omega)).mpr z))
    refine go hX 4 (gs := [True, True, True, True]) (z' := (41, [some (.ref 0), some (.int s), some (.int (whF T V k)), some (.int (nI k))], [.int s, .int (nI k), .ref 1], h)) rfl ⟨trivial, trivial, trivial, trivial, trivial⟩ ?_
    refine cl hX 75 3 [.ref 1, .int (nI k), .int s] [] rfl rfl rfl rfl ?_
    refine c_tool (tx_0 k (by omega)) (by rw [en]; exact (tx_lt (by omega) (by omega)).mpr kx) (by rw [en]; exact (tx_le (b := 30) (by omega) (by decide)).mpr n30) (hK k kx) (fun bt => ?_) (fun bt => ?_)
    ·
      show X (44, [some (.ref 0), some (.int s), some (.int (whF T V k)), some (.int (nI k))], [.int 1], h)
      refine go hX 6 (gs := [True, True, True, True, True, True]) (z' := (56, [some (.ref 0), some (.int s), some (.int (whF T V k)), some (.int (nI k))], [.int 4, .int (nI k), .ref 6], h)) rfl ⟨trivial, trivial, trivial, trivial, trivial, trivial, trivial⟩ ?_
      refine cl hX 94 3 [.ref 6, .int (nI k), .int 4] [] rfl rfl rfl rfl ?_
      refine c_tg4 (tx_0 k (by omega)) (by rw [en]; exact (tx_lt (by omega) (by omega)).mpr kx) (by rw [en]; exact (tx_le (b := 30) (by omega) (by decide)).mpr n30) ?_
      show X (59, [some (.ref 0), some (.int s), some (.int (whF T V k)), some (.int (nI k))], [.int (h.1 7 ((nI k * 8) + 4))], h)
      refine go hX 2 (gs := [True, True]) (z' := (if (h.1 7 ((nI k * 8) + 4)) = 1 then 63 else 80, [some (.ref 0), some (.int s), some (.int (whF T V k)), some (.int (nI k))], [], h)) rfl ⟨trivial, trivial, trivial⟩ ?_
      refine br (fun b2 => ?_) (fun b2 => ?_)
      ·
        refine go hX 7 (gs := [True, True, True, True, True, True, True]) (z' := (74, [some (.ref 0), some (.int s), some (.int (whF T V k)), some (.int (nI k))], [.int 5, .int (nI k), .ref 6, .int 1, .int (whF T V k)], h)) rfl ⟨trivial, trivial, trivial, trivial, trivial, trivial, trivial, trivial⟩ ?_
        refine cl hX 94 3 [.ref 6, .int (nI k), .int 5] [.int 1, .int (whF T V k)] rfl rfl rfl rfl ?_
        refine c_tg5 (tx_0 k (by omega)) (by rw [en]; exact (tx_lt (by omega) (by omega)).mpr kx) (by rw [en]; exact (tx_le (b := 30) (by omega) (by decide)).mpr n30) ?_
        show X (77, [some (.ref 0), some (.int s), some (.int (whF T V k)), some (.int (nI k))], [.int (h.1 7 ((nI k * 8) + 5)), .int 1, .int (whF T V k)], h)
        refine go hX 5 (gs := [True, True, True, True, True]) (z' := (21, [some (.ref 0), some (.int s), some (.int ((whF T V k) ||| (1 <<< ((h.1 7 ((nI k * 8) + 5)) &&& 31)))), some (.int ((nI k) + 1))], [], h)) rfl ⟨trivial, trivial, trivial, trivial, trivial, trivial⟩ ?_
        rw [tx_1]
        have t : T k = true := (hT k kx).mp ⟨bt, b2⟩
        rw [hV k kx t, wh_t t]
        exact ih (k + 1) (Nat.lt_succ_self k) (by omega)
      ·
        refine go hX 2 (gs := [True, True]) (z' := (21, [some (.ref 0), some (.int s), some (.int (whF T V k)), some (.int ((nI k) + 1))], [], h)) rfl ⟨trivial, trivial, trivial⟩ ?_
        rw [tx_1]
        rw [wh_f (V := V) (show ¬ T k = true from fun z => b2 ((hT k kx).mpr z).2)]
        exact ih (k + 1) (Nat.lt_succ_self k) (by omega)
    ·
      show X (44, [some (.ref 0), some (.int s), some (.int (whF T V k)), some (.int (nI k))], [.int 0], h)
      refine go hX 3 (gs := [True, True, True]) (z' := (21, [some (.ref 0), some (.int s), some (.int (whF T V k)), some (.int ((nI k) + 1))], [], h)) rfl ⟨trivial, trivial, trivial, trivial⟩ ?_
      rw [tx_1]
      rw [wh_f (V := V) (show ¬ T k = true from fun z => bt ((hT k kx).mpr z).1)]
      exact ih (k + 1) (Nat.lt_succ_self k) (by omega)
theorem c_whoA {d : Nat} {Q : Option Value → Hp → Prop} {h : Hp} {n : Nat} (n30 : n ≤ 30) (en : h.1 6 2 = nI n) {s : Int32} {T : Nat → Bool} {V : Nat → Int32} (hT : ∀ k, k < n → (((h.1 7 ((nI k * 8) + 1) = s ∧ (1 ≤ (h.1 7 ((nI k * 8) + 0)).toInt ∧ (h.1 7 ((nI k * 8) + 0)).toInt ≤ 3)) ∧ h.1 7 ((nI k * 8) + 4) = 1) ↔ T k = true)) (hV : ∀ k, k < n → T k = true → (1 <<< ((h.1 7 ((nI k * 8) + 5)) &&& 31)) = V k) (hK : ∀ k, k < n → 0 ≤ (h.1 7 ((nI k * 8) + 0)).toInt ∧ (h.1 7 ((nI k * 8) + 0)).toInt ≤ 5) (k1 : (0 ≤ s ∧ s < h.1 2 2) → Q (some (.int (whF T V n))) h) (kB : ¬ (0 ≤ s ∧ s < h.1 2 2) → Q (some (.int (-1000000001))) h) : Call (d + 4) 125 [.ref 0, .int s] h Q := by
  refine call_of (rfl : psM[125]? = some _) rfl rfl (rcvV rfl) (fun X hX => ?_)
  show X (0, [some (.ref 0), some (.int s), none, none], [], h)
  refine go hX 4 (gs := [True, True, True, True]) (z' := (8, [some (.ref 0), some (.int s), none, none], [.int s, .ref 2], h)) rfl ⟨trivial, trivial, trivial, trivial, trivial⟩ ?_
  refine cl hX 93 2 [.ref 2, .int s] [] rfl rfl rfl rfl ?_
  refine c_holdsP (fun hP => ?_) (fun hP => ?_)
  ·
    show X (11, [some (.ref 0), some (.int s), none, none], [.int 1], h)
    refine go hX 5 (gs := [True, True, True, True, True]) (z' := (21, [some (.ref 0), some (.int s), some (.int 0), some (.int 0)], [], h)) rfl ⟨trivial, trivial, trivial, trivial, trivial, trivial⟩ ?_
    exact lp_whoA hX n30 en hT hV hK (k1 hP) (Nat.zero_le n)
  ·
    show X (11, [some (.ref 0), some (.int s), none, none], [.int 0], h)
    refine go hX 2 (gs := [True, True]) (z' := (16, [some (.ref 0), some (.int s), none, none], [.int (-1000000001)], h)) rfl ⟨trivial, trivial, trivial⟩ ?_
    refine rt_ hX (G := True) (r := some (.int (-1000000001))) rfl trivial ?_
    exact kB hP
theorem lp_whoB {d : Nat} {Q : Option Value → Hp → Prop} {X : Cf → Prop} (hX : Clo (Call (d + 3)) cd203 (some .int) Q X) {h : Hp} {n : Nat} (n30 : n ≤ 30) (en : h.1 66 3 = nI n) {s : Int32} {T : Nat → Bool} {V : Nat → Int32} (hT : ∀ k, k < n → ((h.1 66 ((300 + (9 * (nI k))) + 1) = s ∧ h.1 66 ((300 + (9 * (nI k))) + 4) = 1) ↔ T k = true)) (hV : ∀ k, k < n → T k = true → (1 <<< ((h.1 66 ((300 + (9 * (nI k))) + 5)) &&& 31)) = V k) (K : Q (some (.int (whF T V n))) h) {k : Nat} (hk : k ≤ n) : ∀ {l4 : Option Value}, (l4 = none ∨ ∃ x4, l4 = some (.int x4)) → X (15, [some (.ref 65), some (.int s), some (.int (whF T V k)), some (.int (nI k)), l4], [], h) := by
  refine dn_ind (P := fun k => ∀ {l4 : Option Value}, (l4 = none ∨ ∃ x4, l4 = some (.int x4)) → X (15, [some (.ref 65), some (.int s), some (.int (whF T V k)), some (.int (nI k)), l4], [], h)) (fun k hk ih => ?_) hk
  intro l4 hl
  rcases hl with rfl | ⟨x4, rfl⟩
  ·
    refine go hX 6 (gs := [True, ibd 3 3400, True, True, True, True]) (z' := (if (h.1 66 3) ≤ (nI k) then 82 else 25, [some (.ref 65), some (.int s), some (.int (whF T V k)), some (.int (nI k)), none], [], h)) rfl ⟨trivial, ?_, trivial, trivial, trivial, trivial, trivial⟩ ?_
    · exact ⟨by decide, by decide⟩
    refine br (fun b1 => ?_) (fun b1 => ?_)
    ·
      refine go hX 1 (gs := [True]) (z' := (83, [some (.ref 65), some (.int s), some (.int (whF T V k)), some (.int (nI k)), none], [.int (whF T V k)], h)) rfl ⟨trivial, trivial⟩ ?_
      refine rt_ hX (G := True) (r := some (.int (whF T V k))) rfl trivial ?_
      have e : k = n := Nat.le_antisymm hk ((tx_le (by omega) (by omega)).mp (by rw [← en]; exact b1))
      subst e
      exact K
    ·
      have kx : k < n := Nat.lt_of_not_le (fun z => b1 (by rw [en]; exact (tx_le (by omega) (by omega)).mpr z))
      refine go hX 2 (gs := [True, True]) (z' := (27, [some (.ref 65), some (.int s), some (.int (whF T V k)), some (.int (nI k)), none], [.int (nI k), .ref 65], h)) rfl ⟨trivial, trivial, trivial⟩ ?_
      refine cl hX 165 2 [.ref 65, .int (nI k)] [] rfl rfl rfl rfl ?_
      refine c_thingAtP ?_
      show X (30, [some (.ref 65), some (.int s), some (.int (whF T V k)), some (.int (nI k)), none], [.int (300 + (9 * (nI k)))], h)
      refine go hX 10 (gs := [True, True, ibd ((300 + (9 * (nI k))) + 1) 3400, True, True, True, True, True, True, True]) (z' := (if (h.1 66 ((300 + (9 * (nI k))) + 1)) = s then 46 else 73, [some (.ref 65), some (.int s), some (.int (whF T V k)), some (.int (nI k)), some (.int (300 + (9 * (nI k))))], [.int (whF T V k)], h)) rfl ⟨trivial, trivial, ?_, trivial, trivial, trivial, trivial, trivial, trivial, trivial, trivial⟩ ?_
      · rw [show (300 + (9 * (nI k))) + 1 = nI (300 + 9 * k + 1) from ix9 (f := 1) (by omega) (by decide)]; exact ibd_of (B := 3400) rfl (tx_0 _ (by omega)) ((tx_lt (b := 3400) (by omega) (by decide)).mpr (by omega))
      refine br (fun b2 => ?_) (fun b2 => ?_)
      ·
        refine go hX 8 (gs := [True, True, ibd ((300 + (9 * (nI k))) + 4) 3400, True, True, True, True, True]) (z' := (if (h.1 66 ((300 + (9 * (nI k))) + 4)) = 1 then 59 else 73, [some (.ref 65), some (.int s), some (.int (whF T V k)), some (.int (nI k)), some (.int (300 + (9 * (nI k))))], [.int (whF T V k)], h)) rfl ⟨trivial, trivial, ?_, trivial, trivial, trivial, trivial, trivial, trivial⟩ ?_
        · rw [show (300 + (9 * (nI k))) + 4 = nI (300 + 9 * k + 4) from ix9 (f := 4) (by omega) (by decide)]; exact ibd_of (B := 3400) rfl (tx_0 _ (by omega)) ((tx_lt (b := 3400) (by omega) (by decide)).mpr (by omega))
        refine br (fun b3 => ?_) (fun b3 => ?_)
        ·
          refine go hX 13 (gs := [True, True, True, True, True, True, ibd ((300 + (9 * (nI k))) + 5) 3400, True, True, True, True, True, True]) (z' := (15, [some (.ref 65), some (.int s), some (.int ((whF T V k) ||| (1 <<< ((h.1 66 ((300 + (9 * (nI k))) + 5)) &&& 31)))), some (.int ((nI k) + 1)), some (.int (300 + (9 * (nI k))))], [], h)) rfl ⟨trivial, trivial, trivial, trivial, trivial, trivial, ?_, trivial, trivial, trivial, trivial, trivial, trivial, trivial⟩ ?_
          · rw [show (300 + (9 * (nI k))) + 5 = nI (300 + 9 * k + 5) from ix9 (f := 5) (by omega) (by decide)]; exact ibd_of (B := 3400) rfl (tx_0 _ (by omega)) ((tx_lt (b := 3400) (by omega) (by decide)).mpr (by omega))
          rw [tx_1]
          have t : T k = true := (hT k kx).mp ⟨b2, b3⟩
          rw [hV k kx t, wh_t t]
          exact ih (k + 1) (Nat.lt_succ_self k) (by omega) (Or.inr ⟨_, rfl⟩)
        ·
          refine go hX 5 (gs := [True, True, True, True, True]) (z' := (15, [some (.ref 65), some (.int s), some (.int ((whF T V k) ||| 0)), some (.int ((nI k) + 1)), some (.int (300 + (9 * (nI k))))], [], h)) rfl ⟨trivial, trivial, trivial, trivial, trivial, trivial⟩ ?_
          rw [tx_1]
          rw [or_z, wh_f (V := V) (show ¬ T k = true from fun z => b3 ((hT k kx).mpr z).2)]
          exact ih (k + 1) (Nat.lt_succ_self k) (by omega) (Or.inr ⟨_, rfl⟩)
      ·
        refine go hX 5 (gs := [True, True, True, True, True]) (z' := (15, [some (.ref 65), some (.int s), some (.int ((whF T V k) ||| 0)), some (.int ((nI k) + 1)), some (.int (300 + (9 * (nI k))))], [], h)) rfl ⟨trivial, trivial, trivial, trivial, trivial, trivial⟩ ?_
        rw [tx_1]
        rw [or_z, wh_f (V := V) (show ¬ T k = true from fun z => b2 ((hT k kx).mpr z).1)]
        exact ih (k + 1) (Nat.lt_succ_self k) (by omega) (Or.inr ⟨_, rfl⟩)
  ·
    refine go hX 6 (gs := [True, ibd 3 3400, True, True, True, True]) (z' := (if (h.1 66 3) ≤ (nI k) then 82 else 25, [some (.ref 65), some (.int s), some (.int (whF T V k)), some (.int (nI k)), some (.int x4)], [], h)) rfl ⟨trivial, ?_, trivial, trivial, trivial, trivial, trivial⟩ ?_
    · exact ⟨by decide, by decide⟩
    refine br (fun b1 => ?_) (fun b1 => ?_)
    ·
      refine go hX 1 (gs := [True]) (z' := (83, [some (.ref 65), some (.int s), some (.int (whF T V k)), some (.int (nI k)), some (.int x4)], [.int (whF T V k)], h)) rfl ⟨trivial, trivial⟩ ?_
      refine rt_ hX (G := True) (r := some (.int (whF T V k))) rfl trivial ?_
      have e : k = n := Nat.le_antisymm hk ((tx_le (by omega) (by omega)).mp (by rw [← en]; exact b1))
      subst e
      exact K
    ·
      have kx : k < n := Nat.lt_of_not_le (fun z => b1 (by rw [en]; exact (tx_le (by omega) (by omega)).mpr z))
      refine go hX 2 (gs := [True, True]) (z' := (27, [some (.ref 65), some (.int s), some (.int (whF T V k)), some (.int (nI k)), some (.int x4)], [.int (nI k), .ref 65], h)) rfl ⟨trivial, trivial, trivial⟩ ?_
      refine cl hX 165 2 [.ref 65, .int (nI k)] [] rfl rfl rfl rfl ?_
      refine c_thingAtP ?_
      show X (30, [some (.ref 65), some (.int s), some (.int (whF T V k)), some (.int (nI k)), some (.int x4)], [.int (300 + (9 * (nI k)))], h)
      refine go hX 10 (gs := [True, True, ibd ((300 + (9 * (nI k))) + 1) 3400, True, True, True, True, True, True, True]) (z' := (if (h.1 66 ((300 + (9 * (nI k))) + 1)) = s then 46 else 73, [some (.ref 65), some (.int s), some (.int (whF T V k)), some (.int (nI k)), some (.int (300 + (9 * (nI k))))], [.int (whF T V k)], h)) rfl ⟨trivial, trivial, ?_, trivial, trivial, trivial, trivial, trivial, trivial, trivial, trivial⟩ ?_
      · rw [show (300 + (9 * (nI k))) + 1 = nI (300 + 9 * k + 1) from ix9 (f := 1) (by omega) (by decide)]; exact ibd_of (B := 3400) rfl (tx_0 _ (by omega)) ((tx_lt (b := 3400) (by omega) (by decide)).mpr (by omega))
      refine br (fun b2 => ?_) (fun b2 => ?_)
      ·
        refine go hX 8 (gs := [True, True, ibd ((300 + (9 * (nI k))) + 4) 3400, True, True, True, True, True]) (z' := (if (h.1 66 ((300 + (9 * (nI k))) + 4)) = 1 then 59 else 73, [some (.ref 65), some (.int s), some (.int (whF T V k)), some (.int (nI k)), some (.int (300 + (9 * (nI k))))], [.int (whF T V k)], h)) rfl ⟨trivial, trivial, ?_, trivial, trivial, trivial, trivial, trivial, trivial⟩ ?_
        · rw [show (300 + (9 * (nI k))) + 4 = nI (300 + 9 * k + 4) from ix9 (f := 4) (by omega) (by decide)]; exact ibd_of (B := 3400) rfl (tx_0 _ (by omega)) ((tx_lt (b := 3400) (by omega) (by decide)).mpr (by omega))
        refine br (fun b3 => ?_) (fun b3 => ?_)
        ·
          refine go hX 13 (gs := [True, True, True, True, True, True, ibd ((300 + (9 * (nI k))) + 5) 3400, True, True, True, True, True, True]) (z' := (15, [some (.ref 65), some (.int s), some (.int ((whF T V k) ||| (1 <<< ((h.1 66 ((300 + (9 * (nI k))) + 5)) &&& 31)))), some (.int ((nI k) + 1)), some (.int (300 + (9 * (nI k))))], [], h)) rfl ⟨trivial, trivial, trivial, trivial, trivial, trivial, ?_, trivial, trivial, trivial, trivial, trivial, trivial, trivial⟩ ?_
          · rw [show (300 + (9 * (nI k))) + 5 = nI (300 + 9 * k + 5) from ix9 (f := 5) (by omega) (by decide)]; exact ibd_of (B := 3400) rfl (tx_0 _ (by omega)) ((tx_lt (b := 3400) (by omega) (by decide)).mpr (by omega))
          rw [tx_1]
          have t : T k = true := (hT k kx).mp ⟨b2, b3⟩
          rw [hV k kx t, wh_t t]
          exact ih (k + 1) (Nat.lt_succ_self k) (by omega) (Or.inr ⟨_, rfl⟩)
        ·
          refine go hX 5 (gs := [True, True, True, True, True]) (z' := (15, [some (.ref 65), some (.int s), some (.int ((whF T V k) ||| 0)), some (.int ((nI k) + 1)), some (.int (300 + (9 * (nI k))))], [], h)) rfl ⟨trivial, trivial, trivial, trivial, trivial, trivial⟩ ?_
          rw [tx_1]
          rw [or_z, wh_f (V := V) (show ¬ T k = true from fun z => b3 ((hT k kx).mpr z).2)]
          exact ih (k + 1) (Nat.lt_succ_self k) (by omega) (Or.inr ⟨_, rfl⟩)
      ·
        refine go hX 5 (gs := [True, True, True, True, True]) (z' := (15, [some (.ref 65), some (.int s), some (.int ((whF T V k) ||| 0)), some (.int ((nI k) + 1)), some (.int (300 + (9 * (nI k))))], [], h)) rfl ⟨trivial, trivial, trivial, trivial, trivial, trivial⟩ ?_
        rw [tx_1]
        rw [or_z, wh_f (V := V) (show ¬ T k = true from fun z => b2 ((hT k kx).mpr z).1)]
        exact ih (k + 1) (Nat.lt_succ_self k) (by omega) (Or.inr ⟨_, rfl⟩)
theorem c_whoB {d : Nat} {Q : Option Value → Hp → Prop} {h : Hp} {n : Nat} (n30 : n ≤ 30) (en : h.1 66 3 = nI n) {s : Int32} {T : Nat → Bool} {V : Nat → Int32} (hT : ∀ k, k < n → ((h.1 66 ((300 + (9 * (nI k))) + 1) = s ∧ h.1 66 ((300 + (9 * (nI k))) + 4) = 1) ↔ T k = true)) (hV : ∀ k, k < n → T k = true → (1 <<< ((h.1 66 ((300 + (9 * (nI k))) + 5)) &&& 31)) = V k) (k1 : (0 ≤ s ∧ s ≤ h.1 66 1 - 1) → Q (some (.int (whF T V n))) h) (kB : ¬ (0 ≤ s ∧ s ≤ h.1 66 1 - 1) → Q (some (.int (-1000000001))) h) : Call (d + 4) 203 [.ref 65, .int s] h Q := by
  refine call_of (rfl : psM[203]? = some _) rfl rfl (rcvV rfl) (fun X hX => ?_)
  show X (0, [some (.ref 65), some (.int s), none, none, none], [], h)
  refine go hX 2 (gs := [True, True]) (z' := (2, [some (.ref 65), some (.int s), none, none, none], [.int s, .ref 65], h)) rfl ⟨trivial, trivial, trivial⟩ ?_
  refine cl hX 168 2 [.ref 65, .int s] [] rfl rfl rfl rfl ?_
  refine c_isShopP (fun hP => ?_) (fun hP => ?_)
  ·
    show X (5, [some (.ref 65), some (.int s), none, none, none], [.int 1], h)
    refine go hX 5 (gs := [True, True, True, True, True]) (z' := (15, [some (.ref 65), some (.int s), some (.int 0), some (.int 0), none], [], h)) rfl ⟨trivial, trivial, trivial, trivial, trivial, trivial⟩ ?_
    exact lp_whoB hX n30 en hT hV (k1 hP) (Nat.zero_le n) (Or.inl rfl)
  ·
    show X (5, [some (.ref 65), some (.int s), none, none, none], [.int 0], h)
    refine go hX 2 (gs := [True, True]) (z' := (10, [some (.ref 65), some (.int s), none, none, none], [.int (-1000000001)], h)) rfl ⟨trivial, trivial, trivial⟩ ?_
    refine rt_ hX (G := True) (r := some (.int (-1000000001))) rfl trivial ?_
    exact kB hP
/-! By hand: who. -/
theorem rowC {h : Hp} {r o1 o2 b1 s1 b2 s2 n cv : Nat} {y : Int} (w : RLO h r 0 y) (hy : y ≤ 0) (e : rlD r = some (0, (o1, (b1 : Int), (s1 : Int)), (o2, (b2 : Int), (s2 : Int)), (n : Int), cv)) (m1 : b1 + s1 * n < 100000) (m2 : b2 + s2 * n < 100000) {t : Nat} (ht : t < n) : rlR cv (h.1 o1 (nI (b1 + s1 * t))).toInt (h.1 o2 (nI (b2 + s2 * t))).toInt := by
  obtain ⟨k, p1, c1, d1, p2, c2, d2, m, cv', e0, R⟩ := w
  rw [e] at e0
  cases e0
  have R := R t (by omega) (by omega) (Or.inr (by omega))
  have q1 : s1 * t ≤ s1 * n := Nat.mul_le_mul_left _ (by omega)
  have q2 : s2 * t ≤ s2 * n := Nat.mul_le_mul_left _ (by omega)
  have i1 : Int32.ofInt ((b1 : Int) + (s1 : Int) * (t : Int)) = nI (b1 + s1 * t) := by rw [← nI_ofI (by omega)]; congr 1
  have i2 : Int32.ofInt ((b2 : Int) + (s2 : Int) * (t : Int)) = nI (b2 + s2 * t) := by rw [← nI_ofI (by omega)]; congr 1
  have R : rlR cv (h.1 o1 (Int32.ofInt ((b1 : Int) + (s1 : Int) * (t : Int)))).toInt (h.1 o2 (Int32.ofInt ((b2 : Int) + (s2 : Int) * (t : Int)))).toInt := R
  rw [i1, i2] at R
  exact R
theorem who_eq {d : Nat} {h : Hp} {n nS : Nat} {s : Int32} (n30 : n ≤ 30) (s3 : nS ≤ 3) (en : h.1 6 2 = nI n) (en2 : h.1 66 3 = nI n) (es : h.1 2 2 = nI nS) (es2 : h.1 66 1 = nI nS) (R320 : RLO h 320 0 0) (R336 : RLO h 336 0 0) (R384 : RLO h 384 0 0) (R400 : RLO h 400 0 0) (R576 : RLO h 576 0 0) (R592 : RLO h 592 0 0) (hR : ∀ q ∈ rgT, RgO h q) : ∃ r : Int32, CRun (d + 4) 125 [.ref 0, .int s] h (some (.int r)) h ∧ CRun (d + 4) 203 [.ref 65, .int s] h (some (.int r)) h := by
  have k0 : (0 : Int32).toInt = 0 := rfl
  have k1 : (1 : Int32).toInt = 1 := rfl
  have decP := hold_dec (f := 0) (g := 0) (Nat.le_trans s3 (by decide)) es es2 s
  obtain ⟨T, hTd⟩ : ∃ T : Nat → Bool, T = fun k => decide (h.1 66 ((300 + (9 * nI k)) + 1) = s ∧ h.1 66 ((300 + (9 * nI k)) + 4) = 1) := ⟨_, rfl⟩
  obtain ⟨V, hVd⟩ : ∃ V : Nat → Int32, V = fun k => (1 <<< ((h.1 66 ((300 + (9 * nI k)) + 5)) &&& 31)) := ⟨_, rfl⟩
  have hTB : ∀ k, k < n → ((h.1 66 ((300 + (9 * nI k)) + 1) = s ∧ h.1 66 ((300 + (9 * nI k)) + 4) = 1) ↔ T k = true) := fun k _ => by rw [hTd]; exact decide_eq_true_iff.symm
  have hVB : ∀ k, k < n → T k = true → (1 <<< ((h.1 66 ((300 + (9 * nI k)) + 5)) &&& 31)) = V k := fun k _ _ => by rw [hVd]
  have c0 : ∀ k, k < 30 → h.1 7 ((nI k * 8) + 0) = h.1 66 (300 + (9 * nI k)) := fun k hk => by
    rw [show (nI k * 8) + 0 = nI (0 + 8 * k + 0) from ix8 (f := 0) hk (by decide), ix90 hk, show nI (0 + 8 * k + 0) = nI (0 + 8 * k) by congr 1, show nI (300 + 9 * k + 0) = nI (300 + 9 * k) by congr 1]
    exact rowE (o1 := 7) (o2 := 66) (b1 := 0) (b2 := 300) (s1 := 8) (s2 := 9) (n := 30) R320 (Int.le_refl 0) rfl (by decide) (by decide) hk
  have c1 : ∀ k, k < 30 → h.1 7 ((nI k * 8) + 1) = h.1 66 ((300 + (9 * nI k)) + 1) := fun k hk => by
    rw [show (nI k * 8) + 1 = nI (1 + 8 * k) from by rw [show (nI k * 8) + 1 = nI (0 + 8 * k + 1) from ix8 (f := 1) hk (by decide)]; try (congr 1 <;> omega), show (300 + (9 * nI k)) + 1 = nI (301 + 9 * k) from by rw [show (300 + (9 * nI k)) + 1 = nI (300 + 9 * k + 1) from ix9 (f := 1) hk (by decide)]; try (congr 1 <;> omega)]
    exact rowE (o1 := 7) (o2 := 66) (b1 := 1) (b2 := 301) (s1 := 8) (s2 := 9) (n := 30) R336 (Int.le_refl 0) rfl (by decide) (by decide) hk
  have c4 : ∀ k, k < 30 → h.1 7 ((nI k * 8) + 4) = h.1 66 ((300 + (9 * nI k)) + 4) := fun k hk => by
    rw [show (nI k * 8) + 4 = nI (4 + 8 * k) from by rw [show (nI k * 8) + 4 = nI (0 + 8 * k + 4) from ix8 (f := 4) hk (by decide)]; try (congr 1 <;> omega), show (300 + (9 * nI k)) + 4 = nI (304 + 9 * k) from by rw [show (300 + (9 * nI k)) + 4 = nI (300 + 9 * k + 4) from ix9 (f := 4) hk (by decide)]; try (congr 1 <;> omega)]
    exact rowE (o1 := 7) (o2 := 66) (b1 := 4) (b2 := 304) (s1 := 8) (s2 := 9) (n := 30) R384 (Int.le_refl 0) rfl (by decide) (by decide) hk
  have hK : ∀ k, k < n → 0 ≤ (h.1 7 ((nI k * 8) + 0)).toInt ∧ (h.1 7 ((nI k * 8) + 0)).toInt ≤ 5 := fun k hk => by
    rw [c0 k (by omega), ix90 (by omega)]
    exact hR (66, 300, 9, 30, 0, 5) (by decide +kernel) (nI (300 + 9 * k + 0)) k (by omega) (by dsimp only; omega) (by rw [nI_i (by omega)]; dsimp only; omega)
  have kd : ∀ k, k < 30 → h.1 66 ((300 + (9 * nI k)) + 4) = 1 → 1 ≤ (h.1 7 ((nI k * 8) + 0)).toInt ∧ (h.1 7 ((nI k * 8) + 0)).toInt ≤ 3 := fun k hk e => by
    have R := rowC (cv := 3) (o1 := 7) (o2 := 66) (b1 := 0) (b2 := 304) (s1 := 8) (s2 := 9) (n := 30) R576 (Int.le_refl 0) rfl (by decide) (by decide) hk
    unfold rlR at R
    rw [if_neg (by decide), if_neg (by decide), if_pos rfl] at R
    rw [show (nI k * 8) + 0 = nI (0 + 8 * k) from by rw [show (nI k * 8) + 0 = nI (0 + 8 * k + 0) from ix8 (f := 0) hk (by decide)]; try (congr 1 <;> omega)]
    refine R ?_
    rw [← show (300 + (9 * nI k)) + 4 = nI (304 + 9 * k) from by rw [show (300 + (9 * nI k)) + 4 = nI (300 + 9 * k + 4) from ix9 (f := 4) hk (by decide)]; try (congr 1 <;> omega), e]
    exact k1
  have hd : ∀ k, k < 30 → h.1 66 ((300 + (9 * nI k)) + 4) = 1 → h.1 7 ((nI k * 8) + 5) = h.1 66 ((300 + (9 * nI k)) + 5) := fun k hk e => by
    have R := rowC (cv := 4) (o1 := 7) (o2 := 66) (b1 := 5) (b2 := 304) (s1 := 8) (s2 := 9) (n := 30) R592 (Int.le_refl 0) rfl (by decide) (by decide) hk
    unfold rlR at R
    rw [if_neg (by decide), if_neg (by decide), if_neg (by decide), if_pos rfl] at R
    have R := R (by
      rw [← show (300 + (9 * nI k)) + 4 = nI (304 + 9 * k) from by rw [show (300 + (9 * nI k)) + 4 = nI (300 + 9 * k + 4) from ix9 (f := 4) hk (by decide)]; try (congr 1 <;> omega), e]
      exact k1)
    have q := rowN (o1 := 7) (o2 := 66) (b1 := 5) (b2 := 305) (s1 := 8) (s2 := 9) (n := 30) R400 (Int.le_refl 0) rfl (by decide) (by decide) hk
    rw [show (nI k * 8) + 5 = nI (5 + 8 * k) from by rw [show (nI k * 8) + 5 = nI (0 + 8 * k + 5) from ix8 (f := 5) hk (by decide)]; try (congr 1 <;> omega), show (300 + (9 * nI k)) + 5 = nI (305 + 9 * k) from by rw [show (300 + (9 * nI k)) + 5 = nI (300 + 9 * k + 5) from ix9 (f := 5) hk (by decide)]; try (congr 1 <;> omega)]
    apply Int32.toInt_inj.mp
    omega
  have hTA : ∀ k, k < n → (((h.1 7 ((nI k * 8) + 1) = s ∧ (1 ≤ (h.1 7 ((nI k * 8) + 0)).toInt ∧ (h.1 7 ((nI k * 8) + 0)).toInt ≤ 3)) ∧ h.1 7 ((nI k * 8) + 4) = 1) ↔ T k = true) := fun k hk => by
    rw [← hTB k hk, c1 k (by omega), c4 k (by omega)]
    exact ⟨fun z => ⟨z.1.1, z.2⟩, fun z => ⟨⟨z.1, kd k (by omega) z.2⟩, z.2⟩⟩
  have hVA : ∀ k, k < n → T k = true → (1 <<< ((h.1 7 ((nI k * 8) + 5)) &&& 31)) = V k := fun k hk t => by
    rw [hd k (by omega) ((hTB k hk).mpr t).2]
    exact hVB k hk t
  by_cases hP : 0 ≤ s ∧ s < h.1 2 2
  · exact ⟨whF T V n, fun Q q => c_whoA n30 en hTA hVA hK (fun _ => q) (fun z => absurd hP z), fun Q q => c_whoB n30 en2 hTB hVB (fun _ => q) (fun z => absurd (decP.mp hP) z)⟩
  · exact ⟨-1000000001, fun Q q => c_whoA n30 en hTA hVA hK (fun z => absurd z hP) (fun _ => q), fun Q q => c_whoB n30 en2 hTB hVB (fun z => absurd (decP.mpr z) hP) (fun _ => q)⟩
set_option maxHeartbeats 4000000 in
set_option maxRecDepth 100000 in
theorem okP42 : PmOK rgT pm42 := by
  intro d hd ρ as bs h hlen hin hb hc hf hR
  have hd : 4 ≤ d := hd
  have hlen : as.length = 2 := hlen
  generalize hL : as ++ bs = L at hin
  have hin0 := hin
  obtain ⟨v0, s0, rfl, hin⟩ := hin
  rw [if_pos rfl] at hin
  obtain ⟨rfl, -, hin⟩ := hin
  obtain ⟨v1, s1, rfl, hin⟩ := hin
  rw [if_neg (by decide), if_pos rfl] at hin
  obtain ⟨g0, ⟨a0, rfl, e0⟩, hin⟩ := hin
  obtain ⟨v2, s2, rfl, hin⟩ := hin
  rw [if_pos rfl] at hin
  obtain ⟨rfl, -, hin⟩ := hin
  obtain ⟨v3, s3, rfl, hin⟩ := hin
  rw [if_neg (by decide), if_pos rfl] at hin
  obtain ⟨g1, ⟨b1, rfl, e1⟩, hin⟩ := hin
  cases hin
  obtain ⟨rfl, rfl⟩ := List.append_inj (show as ++ bs = [Value.ref 0, .int a0] ++ [Value.ref 65, .int b1] from hL) hlen
  have f0 : (0 : Int) ≤ 0 + (1 * ρ 0 + (-1 * ρ 1 + 0)) := hf _ (List.mem_of_getElem? (i := 0) rfl)
  have f1 : (0 : Int) ≤ 0 + (-1 * ρ 0 + (1 * ρ 1 + 0)) := hf _ (List.mem_of_getElem? (i := 1) rfl)
  have f2 : (0 : Int) ≤ 0 + (1 * ρ 2 + (-1 * ρ 3 + 0)) := hf _ (List.mem_of_getElem? (i := 2) rfl)
  have f3 : (0 : Int) ≤ 0 + (-1 * ρ 2 + (1 * ρ 3 + 0)) := hf _ (List.mem_of_getElem? (i := 3) rfl)
  have f4 : (0 : Int) ≤ 0 + (1 * ρ 4 + (-1 * ρ 5 + 0)) := hf _ (List.mem_of_getElem? (i := 4) rfl)
  have f5 : (0 : Int) ≤ 0 + (-1 * ρ 4 + (1 * ρ 5 + 0)) := hf _ (List.mem_of_getElem? (i := 5) rfl)
  have e0 : ρ 0 = a0.toInt := e0
  have e1 : ρ 1 = b1.toInt := e1
  obtain rfl : a0 = b1 := Int32.toInt_inj.mp (by omega)
  have g0 : (-2147483648 : Int) ≤ ρ 0 ∧ ρ 0 ≤ 2147483647 := g0
  have g1 : (-2147483648 : Int) ≤ ρ 1 ∧ ρ 1 ≤ 2147483647 := g1
  have r2 : (0 : Int) ≤ ρ 2 ∧ ρ 2 ≤ 3 := hb (2, 0, 3) (List.mem_of_getElem? (i := 0) rfl)
  have c2 : ρ 2 = (h.1 2 2).toInt := hc_i (hc (0, 2, (2, []), leX 2) (List.mem_of_getElem? (i := 0) rfl)) rfl
  have r3 : (0 : Int) ≤ ρ 3 ∧ ρ 3 ≤ 3 := hb (3, 0, 3) (List.mem_of_getElem? (i := 1) rfl)
  have c3 : ρ 3 = (h.1 66 1).toInt := hc_i (hc (0, 66, (1, []), leX 3) (List.mem_of_getElem? (i := 1) rfl)) rfl
  have r4 : (0 : Int) ≤ ρ 4 ∧ ρ 4 ≤ 30 := hb (4, 0, 30) (List.mem_of_getElem? (i := 2) rfl)
  have c4 : ρ 4 = (h.1 6 2).toInt := hc_i (hc (0, 6, (2, []), leX 4) (List.mem_of_getElem? (i := 2) rfl)) rfl
  have r5 : (0 : Int) ≤ ρ 5 ∧ ρ 5 ≤ 30 := hb (5, 0, 30) (List.mem_of_getElem? (i := 3) rfl)
  have c5 : ρ 5 = (h.1 66 3).toInt := hc_i (hc (0, 66, (3, []), leX 5) (List.mem_of_getElem? (i := 3) rfl)) rfl
  have r6 : (0 : Int) ≤ ρ 6 ∧ ρ 6 ≤ 0 := hb (6, 0, 0) (List.mem_of_getElem? (i := 4) rfl)
  have c6 : KC h 9 320 0 (ρ 6) := kc_at (hc (9, 320, (0, []), leX 6) (List.mem_of_getElem? (i := 4) rfl))
  have r7 : (0 : Int) ≤ ρ 7 ∧ ρ 7 ≤ 0 := hb (7, 0, 0) (List.mem_of_getElem? (i := 5) rfl)
  have c7 : KC h 9 336 0 (ρ 7) := kc_at (hc (9, 336, (0, []), leX 7) (List.mem_of_getElem? (i := 5) rfl))
  have r8 : (0 : Int) ≤ ρ 8 ∧ ρ 8 ≤ 0 := hb (8, 0, 0) (List.mem_of_getElem? (i := 6) rfl)
  have c8 : KC h 9 384 0 (ρ 8) := kc_at (hc (9, 384, (0, []), leX 8) (List.mem_of_getElem? (i := 6) rfl))
  have r9 : (0 : Int) ≤ ρ 9 ∧ ρ 9 ≤ 0 := hb (9, 0, 0) (List.mem_of_getElem? (i := 7) rfl)
  have c9 : KC h 9 400 0 (ρ 9) := kc_at (hc (9, 400, (0, []), leX 9) (List.mem_of_getElem? (i := 7) rfl))
  have r10 : (0 : Int) ≤ ρ 10 ∧ ρ 10 ≤ 0 := hb (10, 0, 0) (List.mem_of_getElem? (i := 8) rfl)
  have c10 : KC h 9 576 0 (ρ 10) := kc_at (hc (9, 576, (0, []), leX 10) (List.mem_of_getElem? (i := 8) rfl))
  have r11 : (0 : Int) ≤ ρ 11 ∧ ρ 11 ≤ 0 := hb (11, 0, 0) (List.mem_of_getElem? (i := 9) rfl)
  have c11 : KC h 9 592 0 (ρ 11) := kc_at (hc (9, 592, (0, []), leX 11) (List.mem_of_getElem? (i := 9) rfl))
  have M0 := hand_M (rg := rgT) (s := pm42.2.2.1) (h := h) (ρ := ρ) (by decide +kernel) (by decide +kernel) hin0 hb hc hf hR
  clear M0
  have fin : ∀ {r : Int32} {hA hB : Hp}, CRun d 125 [.ref 0, .int a0] h (some (.int r)) hA → CRun d 203 [.ref 65, .int a0] h (some (.int r)) hB → Frm [] h (mxH true hA hB) → ∃ rA hA rB hB, CRun d 125 [.ref 0, .int a0] h rA hA ∧ CRun d 203 [.ref 65, .int a0] h rB hB ∧ hA.2.2 = h.2.2 ∧ hB.2.2 = h.2.2 ∧ (∀ v, rA = some v → vS true v) ∧ (∀ v, rB = some v → vS false v) ∧ PmPost rgT pm42.2.2.1 pm42.2.2.2 ρ h rA rB (mxH true hA hB) := fun {r hA hB} cA cB W => by
    refine pm_mk (p := pm42) cA cB (List.forall_mem_cons.mpr ⟨fun _ => rfl, List.forall_mem_cons.mpr ⟨trivial, fun _ h => absurd h List.not_mem_nil⟩⟩) (List.forall_mem_cons.mpr ⟨fun _ => rfl, List.forall_mem_cons.mpr ⟨trivial, fun _ h => absurd h List.not_mem_nil⟩⟩) ?_
    have W : Frm pm42.2.2.1.2.2.2.2.2.1 h (mxH true hA hB) := W
    refine ⟨rgV_sp (by decide +kernel) W hR, W, _, List.mem_of_getElem? (i := 0) rfl, updS ρ 12 r.toInt, upd_ag, ?_, ⟨r, rfl, ?_⟩, ⟨r, rfl, ?_⟩, fun c hc => absurd hc List.not_mem_nil, fun f hf => absurd hf List.not_mem_nil⟩
    · refine List.forall_mem_cons.mpr ⟨?_, fun _ h => absurd h List.not_mem_nil⟩
      show (-2147483648 : Int) ≤ updS ρ 12 r.toInt 12 ∧ updS ρ 12 r.toInt 12 ≤ 2147483647
      rw [updS_at]
      exact i32b r
    · show leV _ (leX 12) = _
      rw [leV_X, updS_at]
    · show leV _ (leX 12) = _
      rw [leV_X, updS_at]
  obtain ⟨t, ht⟩ : ∃ n : Nat, (n : Int) = ρ 4 := ⟨(ρ 4).toNat, Int.toNat_of_nonneg r4.1⟩
  obtain ⟨m, hm⟩ : ∃ n : Nat, (n : Int) = ρ 2 := ⟨(ρ 2).toNat, Int.toNat_of_nonneg r2.1⟩
  have R320 : RLO h 320 0 0 := by have q := c6; rw [show ρ 6 = 0 from Int.le_antisymm r6.2 r6.1] at q; exact q
  have R336 : RLO h 336 0 0 := by have q := c7; rw [show ρ 7 = 0 from Int.le_antisymm r7.2 r7.1] at q; exact q
  have R384 : RLO h 384 0 0 := by have q := c8; rw [show ρ 8 = 0 from Int.le_antisymm r8.2 r8.1] at q; exact q
  have R400 : RLO h 400 0 0 := by have q := c9; rw [show ρ 9 = 0 from Int.le_antisymm r9.2 r9.1] at q; exact q
  have R576 : RLO h 576 0 0 := by have q := c10; rw [show ρ 10 = 0 from Int.le_antisymm r10.2 r10.1] at q; exact q
  have R592 : RLO h 592 0 0 := by have q := c11; rw [show ρ 11 = 0 from Int.le_antisymm r11.2 r11.1] at q; exact q
  obtain ⟨d', rfl⟩ : ∃ d', d = d' + 4 := ⟨d - 4, by have := hd; omega⟩
  obtain ⟨r, cA, cB⟩ := who_eq (d := d') (s := a0) (cnt_le (m := 30) ht r4.2) (cnt_le (m := 3) hm r2.2) (cnt_n ht c4) (cnt_n (ht.trans (eqI f4 f5)) c5) (cnt_n hm c2) (cnt_n (hm.trans (eqI f2 f3)) c3) R320 R336 R384 R400 R576 R592 hR
  exact fin cA cB (by rw [mx_self]; exact Frm.rf)

