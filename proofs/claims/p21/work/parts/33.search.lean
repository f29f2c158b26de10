/-! Bits of an int; the draw of the reference, by hand (contracts printed by wip/se/m3.py). -/
noncomputable def Bt (x : Int32) (j : Nat) : Bool := x.toBitVec.getLsbD j
set_option maxRecDepth 100000 in
theorem sh_k : ∀ k, k < 32 → ((nI k &&& 31).toBitVec.smod 32).toNat = k := by decide +kernel
theorem Bt_or (x y : Int32) (j : Nat) : Bt (x ||| y) j = (Bt x j || Bt y j) := by
  unfold Bt
  rw [Int32.toBitVec_or, BitVec.getLsbD_or]
theorem Bt_and (x y : Int32) (j : Nat) : Bt (x &&& y) j = (Bt x j && Bt y j) := by
  unfold Bt
  rw [Int32.toBitVec_and, BitVec.getLsbD_and]
theorem Bt_xor (x y : Int32) (j : Nat) : Bt (x ^^^ y) j = ((Bt x j) ^^ (Bt y j)) := by
  unfold Bt
  rw [Int32.toBitVec_xor, BitVec.getLsbD_xor]
set_option maxRecDepth 100000 in
theorem Bt_m1 : ∀ j, j < 32 → Bt (-1) j = true := by decide +kernel
set_option maxRecDepth 100000 in
theorem Bt_0 : ∀ j, j < 32 → Bt 0 j = false := by decide +kernel
set_option maxRecDepth 100000 in
theorem Bt_one : ∀ k, k < 32 → ∀ j, j < 32 → Bt (1 <<< (nI k &&& 31)) j = decide (j = k) := by decide +kernel
theorem shr_bit (x : Int32) {k : Nat} (hk : k < 32) : (x >>> (nI k &&& 31)) &&& 1 = if Bt x k = true then 1 else 0 := by
  rw [pk_and _ 1 (by decide)]
  have e : (x >>> (nI k &&& 31)).toBitVec.getLsbD 0 = Bt x k := by
    show (x.toBitVec.sshiftRight ((nI k &&& 31).toBitVec.smod 32).toNat).getLsbD 0 = _
    rw [sh_k k hk, BitVec.getLsbD_sshiftRight, if_pos (show k + 0 < 32 by omega), Nat.add_zero]
    unfold Bt
    simp
  have e : (x >>> (nI k &&& 31)).toBitVec.toNat.testBit 0 = Bt x k := e
  rw [Nat.testBit_zero] at e
  cases hb : Bt x k with
  | true =>
    rw [hb, decide_eq_true_eq] at e
    rw [show (2 : Nat) ^ 1 = 2 from rfl, e, if_pos rfl]
    rfl
  | false =>
    rw [hb, decide_eq_false_iff_not] at e
    rw [show (2 : Nat) ^ 1 = 2 from rfl, show (x >>> (nI k &&& 31)).toBitVec.toNat % 2 = 0 by omega, if_neg (by decide)]
    rfl
noncomputable def pcn (x : Int32) : Nat := (List.range 32).countP (Bt x)
noncomputable def cfr (x : Int32) (k : Nat) : Nat := (List.range 32).countP (fun j => decide (k ≤ j) && Bt x j)
theorem cfr_0 (x : Int32) : cfr x 0 = pcn x := List.countP_congr (fun j _ => by simp)
theorem cfr_32 (x : Int32) : cfr x 32 = 0 := List.countP_eq_zero.mpr (fun j hj => by
  have := List.mem_range.mp hj
  rw [decide_eq_false (show ¬ 32 ≤ j by omega)]
  simp)
theorem cfr_t {x : Int32} {k : Nat} (hk : k < 32) (hb : Bt x k = true) : cfr x k = cfr x (k + 1) + 1 := countP_flip hk (by simp [hb]) (by rw [decide_eq_false (show ¬ k + 1 ≤ k by omega)]; rfl) (fun j _ hne => by
  rw [show decide (k + 1 ≤ j) = decide (k ≤ j) from decide_eq_decide.mpr ⟨fun h => by omega, fun h => by omega⟩])
theorem cfr_f {x : Int32} {k : Nat} (hb : Bt x k = false) : cfr x k = cfr x (k + 1) := List.countP_congr (fun j _ => by
  by_cases hj : j = k
  · subst hj
    simp [hb]
  · rw [show decide (k + 1 ≤ j) = decide (k ≤ j) from decide_eq_decide.mpr ⟨fun h => by omega, fun h => by omega⟩])
theorem pcn_or {x : Int32} {k : Nat} (hk : k < 32) (hb : Bt x k = false) : pcn (x ||| (1 <<< (nI k &&& 31))) = pcn x + 1 := countP_flip hk (by rw [Bt_or, Bt_one k hk k hk]; simp) hb (fun j hj hne => by rw [Bt_or, Bt_one k hk j hj, decide_eq_false hne, Bool.or_false])
theorem pcn_clr {x : Int32} {k : Nat} (hk : k < 32) (hb : Bt x k = true) : pcn x = pcn (x &&& ((1 <<< (nI k &&& 31)) ^^^ (-1))) + 1 := countP_flip hk hb (by rw [Bt_and, Bt_xor, Bt_one k hk k hk, Bt_m1 k hk]; simp) (fun j hj hne => by rw [Bt_and, Bt_xor, Bt_one k hk j hj, Bt_m1 j hj, decide_eq_false hne]; simp)
theorem pcn_0 : pcn 0 = 0 := List.countP_eq_zero.mpr (fun j hj => by rw [Bt_0 j (List.mem_range.mp hj)]; decide)
theorem or_0 (x : Int32) : x ||| 0 = x := by
  apply Int32.toBitVec_inj.mp
  rw [Int32.toBitVec_or]
  exact BitVec.or_zero
/-- all but the SEED is as it was -/
noncomputable def frS (h h1 : Hp) : Prop := (∀ o (j : Int32), ¬ (o = 66 ∧ j = 6) → h1.1 o j = h.1 o j) ∧ h1.2 = h.2
theorem frS_st {h h1 : Hp} {v : Int32} (f : frS h h1) : frS h (hI h1 66 6 v) := by
  refine ⟨fun o j hn => ?_, f.2⟩
  show (if o = 66 ∧ j = 6 then v else h1.1 o j) = _
  rw [if_neg hn]
  exact f.1 o j hn
theorem seed_b {s : Int32} (s0 : 0 ≤ s.toInt) (s1 : s.toInt ≤ 65535) : 0 ≤ (s * 25173 + 13849 - (s * 25173 + 13849) / 65536 * 65536).toInt ∧ (s * 25173 + 13849 - (s * 25173 + 13849) / 65536 * 65536).toInt < 65536 := by
  have c1 : (25173 : Int32).toInt = 25173 := rfl
  have c2 : (13849 : Int32).toInt = 13849 := rfl
  have c3 : (65536 : Int32).toInt = 65536 := rfl
  have e : (s * 25173 + 13849).toInt = s.toInt * 25173 + 13849 := by
    rw [Int32.toInt_add, Int32.toInt_mul, c1, c2, b32 (x := s.toInt * 25173) (by omega) (by omega), b32 (by omega) (by omega)]
  have := rem_b (x := s * 25173 + 13849) (y := 65536) (by omega) (by omega)
  rw [c3] at this
  exact this
theorem i32p {i : Int32} {B : Int} (hB : B ≤ 2147483647) (hi : i.toInt < B) : (i + 1).toInt = i.toInt + 1 := by
  have hl := i.le_toInt
  rw [Int32.toInt_add, Int32.toInt_one, Int.bmod_eq_of_le] <;> omega
theorem i32m {i : Int32} (hi : 0 < i.toInt) : (i + (-1)).toInt = i.toInt - 1 := by
  have hl := i32b i
  simp only [I32lo, I32hi] at hl
  have c1 : (-1 : Int32).toInt = -1 := rfl
  rw [Int32.toInt_add, c1, b32 (by omega) (by omega)]
  omega
theorem i32m' {i : Int32} (hi : 0 < i.toInt) : (i - 1).toInt = i.toInt - 1 := by
  have hl := i32b i
  simp only [I32lo, I32hi] at hl
  have c1 : (1 : Int32).toInt = 1 := rfl
  rw [Int32.toInt_sub, c1, b32 (by omega) (by omega)]
theorem c_isIn {d : Nat} {Q : Option Value → Hp → Prop} {h : Hp} {v lo hi : Int64} (k1 : lo ≤ v ∧ v ≤ hi → Q (some (.int 1)) h) (k0 : ¬ (lo ≤ v ∧ v ≤ hi) → Q (some (.int 0)) h) : Call (d + 1) 159 [.long v, .long lo, .long hi] h Q := by
  refine call_of (rfl : psM[159]? = some _) rfl rfl (rcvS rfl) (fun X hX => ?_)
  show X (0, [some (.long v), none, some (.long lo), none, some (.long hi), none], [], h)
  refine go hX 4 (gs := [True, True, True, True]) (z' := (if (lg_cmp v lo) < 0 then 17 else 6, [some (.long v), none, some (.long lo), none, some (.long hi), none], [], h)) rfl ⟨trivial, trivial, trivial, trivial, trivial⟩ ?_
  refine br (fun b1 => ?_) (fun b1 => ?_)
  ·
    refine go hX 1 (gs := [True]) (z' := (18, [some (.long v), none, some (.long lo), none, some (.long hi), none], [.int 0], h)) rfl ⟨trivial, trivial⟩ ?_
    refine rt_ hX (G := isB 0) (r := some (.int 0)) rfl isB0 ?_
    simp only [lg_cmp_lt, lg_cmp_gt] at *
    exact k0 (by grind)
  ·
    refine go hX 4 (gs := [True, True, True, True]) (z' := (if 0 < (lg_cmp v hi) then 17 else 13, [some (.long v), none, some (.long lo), none, some (.long hi), none], [], h)) rfl ⟨trivial, trivial, trivial, trivial, trivial⟩ ?_
    refine br (fun b2 => ?_) (fun b2 => ?_)
    ·
      refine go hX 1 (gs := [True]) (z' := (18, [some (.long v), none, some (.long lo), none, some (.long hi), none], [.int 0], h)) rfl ⟨trivial, trivial⟩ ?_
      refine rt_ hX (G := isB 0) (r := some (.int 0)) rfl isB0 ?_
      simp only [lg_cmp_lt, lg_cmp_gt] at *
      exact k0 (by grind)
    ·
      refine go hX 2 (gs := [True, True]) (z' := (18, [some (.long v), none, some (.long lo), none, some (.long hi), none], [.int 1], h)) rfl ⟨trivial, trivial, trivial⟩ ?_
      refine rt_ hX (G := isB 1) (r := some (.int 1)) rfl isB1 ?_
      simp only [lg_cmp_lt, lg_cmp_gt] at *
      exact k1 (by grind)
theorem c_isFree {d : Nat} {Q : Option Value → Hp → Prop} {h : Hp} {x : Int32} (x0 : 0 ≤ x) (x1 : x < 10) (k1 : h.1 66 ((40 + (16 * x)) + 11) = 1 → Q (some (.int 1)) h) (k0 : ¬ h.1 66 ((40 + (16 * x)) + 11) = 1 → Q (some (.int 0)) h) : Call (d + 2) 172 [.ref 65, .int x] h Q := by
  refine call_of (rfl : psM[172]? = some _) rfl rfl (rcvV rfl) (fun X hX => ?_)
  show X (0, [some (.ref 65), some (.int x)], [], h)
  refine go hX 4 (gs := [True, True, True, True]) (z' := (6, [some (.ref 65), some (.int x)], [.int x, .ref 65, .ref 66], h)) rfl ⟨trivial, trivial, trivial, trivial, trivial⟩ ?_
  refine cl hX 164 2 [.ref 65, .int x] [.ref 66] rfl rfl rfl rfl ?_
  refine c_handAt ?_
  show X (9, [some (.ref 65), some (.int x)], [.int (40 + (16 * x)), .ref 66], h)
  refine go hX 5 (gs := [True, True, ibd ((40 + (16 * x)) + 11) 3400, True, True]) (z' := (if (h.1 66 ((40 + (16 * x)) + 11)) = 1 then 17 else 21, [some (.ref 65), some (.int x)], [], h)) rfl ⟨trivial, trivial, ?_, trivial, trivial, trivial⟩ ?_
  · exact ibd_of (B := 3400) rfl (by grind) (by grind)
  refine br (fun b1 => ?_) (fun b1 => ?_)
  ·
    refine go hX 2 (gs := [True, True]) (z' := (22, [some (.ref 65), some (.int x)], [.int 1], h)) rfl ⟨trivial, trivial, trivial⟩ ?_
    refine rt_ hX (G := isB 1) (r := some (.int 1)) rfl isB1 ?_
    exact k1 b1
  ·
    refine go hX 1 (gs := [True]) (z' := (22, [some (.ref 65), some (.int x)], [.int 0], h)) rfl ⟨trivial, trivial⟩ ?_
    refine rt_ hX (G := isB 0) (r := some (.int 0)) rfl isB0 ?_
    exact k0 b1
theorem pk_s0 (x : Int32) : x - 0 = x := by
  apply Int32.toInt_inj.mp
  have hl := i32b x
  simp only [I32lo, I32hi] at hl
  rw [Int32.toInt_sub, Int32.toInt_zero, b32 (by omega) (by omega)]
  omega
theorem sr_in {d : Nat} {Q : Option Value → Hp → Prop} {X : Cf → Prop} (hX : Clo (Call d) cd250 (some .int) Q X) {m left many drawn i : Int32} {h1 : Hp} (K3 : ∀ (place hh : Int32) (k : Nat), k < 32 → hh = nI k → Bt left k = true → X (163, [some (.ref 65), some (.int m), some (.int left), some (.int many), some (.int drawn), some (.int i), some (.int place), some (.int hh)], [], h1)) : ∀ (t k : Nat) (place hh : Int32), 32 - k = t → hh = nI k → 0 ≤ place.toInt → place.toInt < (cfr left k : Int) → X (132, [some (.ref 65), some (.int m), some (.int left), some (.int many), some (.int drawn), some (.int i), some (.int place), some (.int hh)], [], h1) := by
  have c0 : (0 : Int32).toInt = 0 := rfl
  intro t
  induction t with
  | zero =>
    intro k place hh hk0 hk p0 p1
    have : cfr left k = 0 := List.countP_eq_zero.mpr (fun j hj => by
      have := List.mem_range.mp hj
      rw [decide_eq_false (show ¬ k ≤ j by omega)]
      simp)
    omega
  | succ t ih0 =>
    intro k place hh hkt hk p0 p1
    have hk32 : k < 32 := by omega
    have ih := fun (k' : Nat) (pl hh' : Int32) (q : 32 - k' = t) => ih0 k' pl hh' q
    have sb := shr_bit left hk32
    rw [← hk] at sb
    have bt0 : left >>> (hh &&& 31) &&& 1 = 0 → Bt left k = false := fun q => by
      cases hb : Bt left k with
      | false => rfl
      | true => rw [sb, hb, if_pos rfl] at q; exact absurd q (by decide)
    have bt1 : ¬ left >>> (hh &&& 31) &&& 1 = 0 → Bt left k = true := fun q => by
      cases hb : Bt left k with
      | true => rfl
      | false => rw [sb, hb, if_neg (by decide)] at q; exact absurd rfl q
    have e1 : ¬ left >>> (hh &&& 31) &&& 1 = 0 → left >>> (hh &&& 31) &&& 1 = 1 := fun q => by rw [sb, bt1 q, if_pos rfl]
    have pp : ¬ place ≤ 0 → 0 < place.toInt := fun q => by
      rw [Int32.le_iff_toInt_le] at q
      omega
    refine go hX 6 (gs := [True, True, True, True, True, True]) (z' := (if ((left >>> (hh &&& 31)) &&& 1) = 0 then 146 else 141, [some (.ref 65), some (.int m), some (.int left), some (.int many), some (.int drawn), some (.int i), some (.int place), some (.int hh)], [], h1)) rfl ⟨trivial, trivial, trivial, trivial, trivial, trivial, trivial⟩ ?_
    refine br (fun b1 => ?_) (fun b1 => ?_)
    ·
      refine go hX 10 (gs := [True, True, True, True, True, True, True, True, True, True]) (z' := (132, [some (.ref 65), some (.int m), some (.int left), some (.int many), some (.int drawn), some (.int i), some (.int (place - ((left >>> (hh &&& 31)) &&& 1))), some (.int (hh + 1))], [], h1)) rfl ⟨trivial, trivial, trivial, trivial, trivial, trivial, trivial, trivial, trivial, trivial, trivial⟩ ?_
      refine ih (k + 1) _ _ (by omega) (by rw [hk, nI_1]) ?_ ?_
      · rw [b1, pk_s0]; exact p0
      · rw [b1, pk_s0]; have := cfr_f (bt0 b1); omega
    ·
      refine go hX 2 (gs := [True, True]) (z' := (if place ≤ 0 then 163 else 146, [some (.ref 65), some (.int m), some (.int left), some (.int many), some (.int drawn), some (.int i), some (.int place), some (.int hh)], [], h1)) rfl ⟨trivial, trivial, trivial⟩ ?_
      refine br (fun b2 => ?_) (fun b2 => ?_)
      ·
        exact K3 _ _ k hk32 hk (bt1 b1)
      ·
        refine go hX 10 (gs := [True, True, True, True, True, True, True, True, True, True]) (z' := (132, [some (.ref 65), some (.int m), some (.int left), some (.int many), some (.int drawn), some (.int i), some (.int (place - ((left >>> (hh &&& 31)) &&& 1))), some (.int (hh + 1))], [], h1)) rfl ⟨trivial, trivial, trivial, trivial, trivial, trivial, trivial, trivial, trivial, trivial, trivial⟩ ?_
        refine ih (k + 1) _ _ (by omega) (by rw [hk, nI_1]) ?_ ?_
        · rw [e1 b1, i32m' (pp b2)]; have := pp b2; omega
        · rw [e1 b1, i32m' (pp b2)]; have := cfr_t hk32 (bt1 b1); omega
theorem sr_mid {d : Nat} {h : Hp} {Q : Option Value → Hp → Prop} {X : Cf → Prop} (hX : Clo (Call d) cd250 (some .int) Q X) {m : Int32} (kk : ∀ r h', frS h h' → 0 ≤ (h'.1 66 6).toInt → (h'.1 66 6).toInt ≤ 65535 → Q (some (.int r)) h') : ∀ (n : Nat) (left many drawn i : Int32) (a6 a7 : Option Value) (h1 : Hp), many.toInt = (n : Int) → pcn left = n → frS h h1 → 0 ≤ (h1.1 66 6).toInt → (h1.1 66 6).toInt ≤ 65535 → ((a6 = none ∧ a7 = none) ∨ ∃ x6 x7 : Int32, a6 = some (.int x6) ∧ a7 = some (.int x7)) → X (82, [some (.ref 65), some (.int m), some (.int left), some (.int many), some (.int drawn), some (.int i), a6, a7], [], h1) := by
  have c0 : (0 : Int32).toInt = 0 := rfl
  intro n
  induction n with
  | zero =>
    intro left many drawn i a6 a7 h1 hm hp fr sd0 sd1 h67
    rcases h67 with ⟨rfl, rfl⟩ | ⟨x6, x7, rfl, rfl⟩
    ·
      refine go hX 3 (gs := [True, True, True]) (z' := (if m ≤ i then 190 else 88, [some (.ref 65), some (.int m), some (.int left), some (.int many), some (.int drawn), some (.int i), none, none], [], h1)) rfl ⟨trivial, trivial, trivial, trivial⟩ ?_
      refine br (fun b1 => ?_) (fun b1 => ?_)
      ·
        refine go hX 1 (gs := [True]) (z' := (192, [some (.ref 65), some (.int m), some (.int left), some (.int many), some (.int drawn), some (.int i), none, none], [.int drawn], h1)) rfl ⟨trivial, trivial⟩ ?_
        refine rt_ hX (G := True) (r := some (.int drawn)) rfl trivial ?_
        exact kk _ _ fr sd0 sd1
      ·
        refine go hX 2 (gs := [True, True]) (z' := (if many ≤ 0 then 190 else 92, [some (.ref 65), some (.int m), some (.int left), some (.int many), some (.int drawn), some (.int i), none, none], [], h1)) rfl ⟨trivial, trivial, trivial⟩ ?_
        refine br (fun b2 => ?_) (fun b2 => ?_)
        ·
          refine go hX 1 (gs := [True]) (z' := (192, [some (.ref 65), some (.int m), some (.int left), some (.int many), some (.int drawn), some (.int i), none, none], [.int drawn], h1)) rfl ⟨trivial, trivial⟩ ?_
          refine rt_ hX (G := True) (r := some (.int drawn)) rfl trivial ?_
          exact kk _ _ fr sd0 sd1
        ·
          refine go hX 23 (gs := [True, True, True, ¬ many = (0 : Int32), True, ibd 6 3400, True, True, True, ibd 6 3400, ¬ 65536 = (0 : Int32), True, True, True, True, True, ibd 6 3400, True, True, True, True, True, True]) (z' := (132, [some (.ref 65), some (.int m), some (.int left), some (.int many), some (.int drawn), some (.int i), some (.int (((((h1.1 66 6) * 25173) + 13849) - (((h1.1 66 6) * 25173) + 13849) / 65536 * 65536) - ((((h1.1 66 6) * 25173) + 13849) - (((h1.1 66 6) * 25173) + 13849) / 65536 * 65536) / many * many)), some (.int 0)], [], (hI h1 66 6 ((((h1.1 66 6) * 25173) + 13849) - (((h1.1 66 6) * 25173) + 13849) / 65536 * 65536)))) rfl ⟨trivial, trivial, trivial, ?_, trivial, ?_, trivial, trivial, trivial, ?_, ?_, trivial, trivial, trivial, trivial, trivial, ?_, trivial, trivial, trivial, trivial, trivial, trivial, trivial⟩ ?_
          · exact absurd (show many ≤ 0 by rw [Int32.le_iff_toInt_le]; omega) b2
          · exact ibd_of (B := 3400) rfl (by decide) (by decide)
          · exact ibd_of (B := 3400) rfl (by decide) (by decide)
          · decide
          · exact ibd_of (B := 3400) rfl (by decide) (by decide)
          exact absurd (show many ≤ 0 by rw [Int32.le_iff_toInt_le]; omega) b2
    ·
      refine go hX 3 (gs := [True, True, True]) (z' := (if m ≤ i then 190 else 88, [some (.ref 65), some (.int m), some (.int left), some (.int many), some (.int drawn), some (.int i), some (.int x6), some (.int x7)], [], h1)) rfl ⟨trivial, trivial, trivial, trivial⟩ ?_
      refine br (fun b1 => ?_) (fun b1 => ?_)
      ·
        refine go hX 1 (gs := [True]) (z' := (192, [some (.ref 65), some (.int m), some (.int left), some (.int many), some (.int drawn), some (.int i), some (.int x6), some (.int x7)], [.int drawn], h1)) rfl ⟨trivial, trivial⟩ ?_
        refine rt_ hX (G := True) (r := some (.int drawn)) rfl trivial ?_
        exact kk _ _ fr sd0 sd1
      ·
        refine go hX 2 (gs := [True, True]) (z' := (if many ≤ 0 then 190 else 92, [some (.ref 65), some (.int m), some (.int left), some (.int many), some (.int drawn), some (.int i), some (.int x6), some (.int x7)], [], h1)) rfl ⟨trivial, trivial, trivial⟩ ?_
        refine br (fun b2 => ?_) (fun b2 => ?_)
        ·
          refine go hX 1 (gs := [True]) (z' := (192, [some (.ref 65), some (.int m), some (.int left), some (.int many), some (.int drawn), some (.int i), some (.int x6), some (.int x7)], [.int drawn], h1)) rfl ⟨trivial, trivial⟩ ?_
          refine rt_ hX (G := True) (r := some (.int drawn)) rfl trivial ?_
          exact kk _ _ fr sd0 sd1
        ·
          refine go hX 23 (gs := [True, True, True, ¬ many = (0 : Int32), True, ibd 6 3400, True, True, True, ibd 6 3400, ¬ 65536 = (0 : Int32), True, True, True, True, True, ibd 6 3400, True, True, True, True, True, True]) (z' := (132, [some (.ref 65), some (.int m), some (.int left), some (.int many), some (.int drawn), some (.int i), some (.int (((((h1.1 66 6) * 25173) + 13849) - (((h1.1 66 6) * 25173) + 13849) / 65536 * 65536) - ((((h1.1 66 6) * 25173) + 13849) - (((h1.1 66 6) * 25173) + 13849) / 65536 * 65536) / many * many)), some (.int 0)], [], (hI h1 66 6 ((((h1.1 66 6) * 25173) + 13849) - (((h1.1 66 6) * 25173) + 13849) / 65536 * 65536)))) rfl ⟨trivial, trivial, trivial, ?_, trivial, ?_, trivial, trivial, trivial, ?_, ?_, trivial, trivial, trivial, trivial, trivial, ?_, trivial, trivial, trivial, trivial, trivial, trivial, trivial⟩ ?_
          · exact absurd (show many ≤ 0 by rw [Int32.le_iff_toInt_le]; omega) b2
          · exact ibd_of (B := 3400) rfl (by decide) (by decide)
          · exact ibd_of (B := 3400) rfl (by decide) (by decide)
          · decide
          · exact ibd_of (B := 3400) rfl (by decide) (by decide)
          exact absurd (show many ≤ 0 by rw [Int32.le_iff_toInt_le]; omega) b2
  | succ n ih =>
    intro left many drawn i a6 a7 h1 hm hp fr sd0 sd1 h67
    rcases h67 with ⟨rfl, rfl⟩ | ⟨x6, x7, rfl, rfl⟩
    ·
      refine go hX 3 (gs := [True, True, True]) (z' := (if m ≤ i then 190 else 88, [some (.ref 65), some (.int m), some (.int left), some (.int many), some (.int drawn), some (.int i), none, none], [], h1)) rfl ⟨trivial, trivial, trivial, trivial⟩ ?_
      refine br (fun b1 => ?_) (fun b1 => ?_)
      ·
        refine go hX 1 (gs := [True]) (z' := (192, [some (.ref 65), some (.int m), some (.int left), some (.int many), some (.int drawn), some (.int i), none, none], [.int drawn], h1)) rfl ⟨trivial, trivial⟩ ?_
        refine rt_ hX (G := True) (r := some (.int drawn)) rfl trivial ?_
        exact kk _ _ fr sd0 sd1
      ·
        refine go hX 2 (gs := [True, True]) (z' := (if many ≤ 0 then 190 else 92, [some (.ref 65), some (.int m), some (.int left), some (.int many), some (.int drawn), some (.int i), none, none], [], h1)) rfl ⟨trivial, trivial, trivial⟩ ?_
        refine br (fun b2 => ?_) (fun b2 => ?_)
        ·
          refine go hX 1 (gs := [True]) (z' := (192, [some (.ref 65), some (.int m), some (.int left), some (.int many), some (.int drawn), some (.int i), none, none], [.int drawn], h1)) rfl ⟨trivial, trivial⟩ ?_
          refine rt_ hX (G := True) (r := some (.int drawn)) rfl trivial ?_
          exact kk _ _ fr sd0 sd1
        ·
          refine go hX 23 (gs := [True, True, True, ¬ many = (0 : Int32), True, ibd 6 3400, True, True, True, ibd 6 3400, ¬ 65536 = (0 : Int32), True, True, True, True, True, ibd 6 3400, True, True, True, True, True, True]) (z' := (132, [some (.ref 65), some (.int m), some (.int left), some (.int many), some (.int drawn), some (.int i), some (.int (((((h1.1 66 6) * 25173) + 13849) - (((h1.1 66 6) * 25173) + 13849) / 65536 * 65536) - ((((h1.1 66 6) * 25173) + 13849) - (((h1.1 66 6) * 25173) + 13849) / 65536 * 65536) / many * many)), some (.int 0)], [], (hI h1 66 6 ((((h1.1 66 6) * 25173) + 13849) - (((h1.1 66 6) * 25173) + 13849) / 65536 * 65536)))) rfl ⟨trivial, trivial, trivial, ?_, trivial, ?_, trivial, trivial, trivial, ?_, ?_, trivial, trivial, trivial, trivial, trivial, ?_, trivial, trivial, trivial, trivial, trivial, trivial, trivial⟩ ?_
          · intro hz; rw [hz] at b2; exact absurd (by decide) b2
          · exact ibd_of (B := 3400) rfl (by decide) (by decide)
          · exact ibd_of (B := 3400) rfl (by decide) (by decide)
          · decide
          · exact ibd_of (B := 3400) rfl (by decide) (by decide)
          have mp : 1 ≤ many.toInt := by rw [Int32.le_iff_toInt_le] at b2; omega
          have hv := seed_b sd0 sd1
          have hr := rem_b (x := (h1.1 66 6 * 25173 + 13849 - (h1.1 66 6 * 25173 + 13849) / 65536 * 65536)) (y := many) hv.1 mp
          generalize hv0 : (h1.1 66 6 * 25173 + 13849 - (h1.1 66 6 * 25173 + 13849) / 65536 * 65536) = v at hv hr ⊢
          refine sr_in hX (fun place hh k k32 hk bk => ?_) 32 0 _ _ rfl rfl hr.1 (by rw [cfr_0]; omega)
          clear hr
          refine go hX 17 (gs := [True, True, True, True, True, True, True, True, True, True, True, True, True, True, True, True, True]) (z' := (82, [some (.ref 65), some (.int m), some (.int (left &&& ((1 <<< (hh &&& 31)) ^^^ (-1)))), some (.int (many + (-1))), some (.int (drawn ||| (1 <<< (hh &&& 31)))), some (.int (i + 1)), some (.int place), some (.int hh)], [], (hI h1 66 6 v))) rfl ⟨trivial, trivial, trivial, trivial, trivial, trivial, trivial, trivial, trivial, trivial, trivial, trivial, trivial, trivial, trivial, trivial, trivial, trivial⟩ ?_
          have pc := pcn_clr k32 bk
          rw [← hk] at pc
          refine ih _ _ _ _ _ _ _ ?_ ?_ (frS_st fr) ?_ ?_ (Or.inr ⟨_, _, rfl, rfl⟩)
          · rw [i32m (by omega)]; omega
          · omega
          · rw [hI_at]; exact hv.1
          · rw [hI_at]; omega
    ·
      refine go hX 3 (gs := [True, True, True]) (z' := (if m ≤ i then 190 else 88, [some (.ref 65), some (.int m), some (.int left), some (.int many), some (.int drawn), some (.int i), some (.int x6), some (.int x7)], [], h1)) rfl ⟨trivial, trivial, trivial, trivial⟩ ?_
      refine br (fun b1 => ?_) (fun b1 => ?_)
      ·
        refine go hX 1 (gs := [True]) (z' := (192, [some (.ref 65), some (.int m), some (.int left), some (.int many), some (.int drawn), some (.int i), some (.int x6), some (.int x7)], [.int drawn], h1)) rfl ⟨trivial, trivial⟩ ?_
        refine rt_ hX (G := True) (r := some (.int drawn)) rfl trivial ?_
        exact kk _ _ fr sd0 sd1
      ·
        refine go hX 2 (gs := [True, True]) (z' := (if many ≤ 0 then 190 else 92, [some (.ref 65), some (.int m), some (.int left), some (.int many), some (.int drawn), some (.int i), some (.int x6), some (.int x7)], [], h1)) rfl ⟨trivial, trivial, trivial⟩ ?_
        refine br (fun b2 => ?_) (fun b2 => ?_)
        ·
          refine go hX 1 (gs := [True]) (z' := (192, [some (.ref 65), some (.int m), some (.int left), some (.int many), some (.int drawn), some (.int i), some (.int x6), some (.int x7)], [.int drawn], h1)) rfl ⟨trivial, trivial⟩ ?_
          refine rt_ hX (G := True) (r := some (.int drawn)) rfl trivial ?_
          exact kk _ _ fr sd0 sd1
        ·
          refine go hX 23 (gs := [True, True, True, ¬ many = (0 : Int32), True, ibd 6 3400, True, True, True, ibd 6 3400, ¬ 65536 = (0 : Int32), True, True, True, True, True, ibd 6 3400, True, True, True, True, True, True]) (z' := (132, [some (.ref 65), some (.int m), some (.int left), some (.int many), some (.int drawn), some (.int i), some (.int (((((h1.1 66 6) * 25173) + 13849) - (((h1.1 66 6) * 25173) + 13849) / 65536 * 65536) - ((((h1.1 66 6) * 25173) + 13849) - (((h1.1 66 6) * 25173) + 13849) / 65536 * 65536) / many * many)), some (.int 0)], [], (hI h1 66 6 ((((h1.1 66 6) * 25173) + 13849) - (((h1.1 66 6) * 25173) + 13849) / 65536 * 65536)))) rfl ⟨trivial, trivial, trivial, ?_, trivial, ?_, trivial, trivial, trivial, ?_, ?_, trivial, trivial, trivial, trivial, trivial, ?_, trivial, trivial, trivial, trivial, trivial, trivial, trivial⟩ ?_
          · intro hz; rw [hz] at b2; exact absurd (by decide) b2
          · exact ibd_of (B := 3400) rfl (by decide) (by decide)
          · exact ibd_of (B := 3400) rfl (by decide) (by decide)
          · decide
          · exact ibd_of (B := 3400) rfl (by decide) (by decide)
          have mp : 1 ≤ many.toInt := by rw [Int32.le_iff_toInt_le] at b2; omega
          have hv := seed_b sd0 sd1
          have hr := rem_b (x := (h1.1 66 6 * 25173 + 13849 - (h1.1 66 6 * 25173 + 13849) / 65536 * 65536)) (y := many) hv.1 mp
          generalize hv0 : (h1.1 66 6 * 25173 + 13849 - (h1.1 66 6 * 25173 + 13849) / 65536 * 65536) = v at hv hr ⊢
          refine sr_in hX (fun place hh k k32 hk bk => ?_) 32 0 _ _ rfl rfl hr.1 (by rw [cfr_0]; omega)
          clear hr
          refine go hX 17 (gs := [True, True, True, True, True, True, True, True, True, True, True, True, True, True, True, True, True]) (z' := (82, [some (.ref 65), some (.int m), some (.int (left &&& ((1 <<< (hh &&& 31)) ^^^ (-1)))), some (.int (many + (-1))), some (.int (drawn ||| (1 <<< (hh &&& 31)))), some (.int (i + 1)), some (.int place), some (.int hh)], [], (hI h1 66 6 v))) rfl ⟨trivial, trivial, trivial, trivial, trivial, trivial, trivial, trivial, trivial, trivial, trivial, trivial, trivial, trivial, trivial, trivial, trivial, trivial⟩ ?_
          have pc := pcn_clr k32 bk
          rw [← hk] at pc
          refine ih _ _ _ _ _ _ _ ?_ ?_ (frS_st fr) ?_ ?_ (Or.inr ⟨_, _, rfl, rfl⟩)
          · rw [i32m (by omega)]; omega
          · omega
          · rw [hI_at]; exact hv.1
          · rw [hI_at]; omega
theorem i_p0 (x : Int32) : x + 0 = x := by
  apply Int32.toInt_inj.mp
  have hl := i32b x
  simp only [I32lo, I32hi] at hl
  rw [Int32.toInt_add, Int32.toInt_zero, b32 (by omega) (by omega)]
  omega
theorem c_search {d : Nat} {Q : Option Value → Hp → Prop} {h : Hp} {m : Int32} (n0 : 0 ≤ (h.1 66 2).toInt) (n1 : (h.1 66 2).toInt ≤ 10) (sd0 : 0 ≤ (h.1 66 6).toInt) (sd1 : (h.1 66 6).toInt ≤ 65535) (kk : ∀ r h', frS h h' → 0 ≤ (h'.1 66 6).toInt → (h'.1 66 6).toInt ≤ 65535 → Q (some (.int r)) h') : Call (d + 4) 250 [.ref 65, .int m] h Q := by
  refine call_of (rfl : psM[250]? = some _) rfl rfl (rcvV rfl) (fun X hX => ?_)
  show X (0, [some (.ref 65), some (.int m), none, none, none, none, none, none], [], h)
  have c0 : (0 : Int32).toInt = 0 := rfl
  have c10 : (10 : Int32).toInt = 10 := rfl
  have key : ∀ (t k : Nat) (hh left many : Int32), 32 - k = t → hh = nI k → k ≤ 10 → (∀ j, k ≤ j → j < 32 → Bt left j = false) → ((pcn left : Nat) : Int) = many.toInt → many.toInt ≤ k → X (22, [some (.ref 65), some (.int m), some (.int left), some (.int many), some (.int hh), none, none, none], [], h) := by
    intro t
    induction t with
    | zero => intro k hh left many hk0 hk hk10; omega
    | succ t ih0 =>
      intro k hh left many hkt hk hk10 z0 pm mk
      have eh : hh.toInt = k := by rw [hk]; exact nI_toInt (by omega)
      have hx0 : 0 ≤ hh := by rw [Int32.le_iff_toInt_le]; omega
      have lt : ¬ h.1 66 2 ≤ hh → k < 10 := fun q => by rw [Int32.le_iff_toInt_le] at q; omega
      have hx1 : ¬ h.1 66 2 ≤ hh → hh < 10 := fun q => by rw [Int32.lt_iff_toInt_lt]; have := lt q; omega
      refine go hX 6 (gs := [True, ibd 2 3400, True, True, True, True]) (z' := (if (h.1 66 2) ≤ hh then 76 else 33, [some (.ref 65), some (.int m), some (.int left), some (.int many), some (.int hh), none, none, none], [], h)) rfl ⟨trivial, ?_, trivial, trivial, trivial, trivial, trivial⟩ ?_
      · exact ibd_of (B := 3400) rfl (by decide) (by decide)
      refine br (fun b1 => ?_) (fun b1 => ?_)
      ·
        refine go hX 4 (gs := [True, True, True, True]) (z' := (82, [some (.ref 65), some (.int m), some (.int left), some (.int many), some (.int 0), some (.int 0), none, none], [], h)) rfl ⟨trivial, trivial, trivial, trivial, trivial⟩ ?_
        exact sr_mid hX kk (pcn left) left many 0 0 none none h (by omega) rfl ⟨fun _ _ _ => rfl, rfl⟩ sd0 sd1 (Or.inl ⟨rfl, rfl⟩)
      ·
        refine go hX 3 (gs := [True, True, True]) (z' := (37, [some (.ref 65), some (.int m), some (.int left), some (.int many), some (.int hh), none, none, none], [.int hh, .ref 65, .int left], h)) rfl ⟨trivial, trivial, trivial, trivial⟩ ?_
        refine cl hX 172 2 [.ref 65, .int hh] [.int left] rfl rfl rfl rfl ?_
        refine c_isFree hx0 (hx1 b1) (fun f2 => ?_) (fun f2 => ?_)
        ·
          show X (40, [some (.ref 65), some (.int m), some (.int left), some (.int many), some (.int hh), none, none, none], [.int 1, .int left], h)
          refine go hX 8 (gs := [True, True, True, True, True, True, True, True]) (z' := (57, [some (.ref 65), some (.int m), some (.int (left ||| 0)), some (.int many), some (.int hh), none, none, none], [.int hh, .ref 65, .int many], h)) rfl ⟨trivial, trivial, trivial, trivial, trivial, trivial, trivial, trivial, trivial⟩ ?_
          refine cl hX 172 2 [.ref 65, .int hh] [.int many] rfl rfl rfl rfl ?_
          refine c_isFree hx0 (hx1 b1) (fun f3 => ?_) (fun f3 => ?_)
          ·
            show X (60, [some (.ref 65), some (.int m), some (.int (left ||| 0)), some (.int many), some (.int hh), none, none, none], [.int 1, .int many], h)
            refine go hX 7 (gs := [True, True, True, True, True, True, True]) (z' := (22, [some (.ref 65), some (.int m), some (.int (left ||| 0)), some (.int (many + 0)), some (.int (hh + 1)), none, none, none], [], h)) rfl ⟨trivial, trivial, trivial, trivial, trivial, trivial, trivial, trivial⟩ ?_
            exact ih0 (k + 1) _ _ _ (by omega) (by rw [hk]; exact nI_1 k) (by have := lt b1; omega) (fun j hj hj2 => by rw [or_0]; exact z0 j (by omega) hj2) (by rw [or_0, i_p0]; exact pm) (by rw [i_p0]; omega)
          ·
            show X (60, [some (.ref 65), some (.int m), some (.int (left ||| 0)), some (.int many), some (.int hh), none, none, none], [.int 0, .int many], h)
            refine go hX 6 (gs := [True, True, True, True, True, True]) (z' := (22, [some (.ref 65), some (.int m), some (.int (left ||| 0)), some (.int (many + 1)), some (.int (hh + 1)), none, none, none], [], h)) rfl ⟨trivial, trivial, trivial, trivial, trivial, trivial, trivial⟩ ?_
            exact absurd f2 f3
        ·
          show X (40, [some (.ref 65), some (.int m), some (.int left), some (.int many), some (.int hh), none, none, none], [.int 0, .int left], h)
          refine go hX 9 (gs := [True, True, True, True, True, True, True, True, True]) (z' := (57, [some (.ref 65), some (.int m), some (.int (left ||| (1 <<< (hh &&& 31)))), some (.int many), some (.int hh), none, none, none], [.int hh, .ref 65, .int many], h)) rfl ⟨trivial, trivial, trivial, trivial, trivial, trivial, trivial, trivial, trivial, trivial⟩ ?_
          refine cl hX 172 2 [.ref 65, .int hh] [.int many] rfl rfl rfl rfl ?_
          refine c_isFree hx0 (hx1 b1) (fun f4 => ?_) (fun f4 => ?_)
          ·
            show X (60, [some (.ref 65), some (.int m), some (.int (left ||| (1 <<< (hh &&& 31)))), some (.int many), some (.int hh), none, none, none], [.int 1, .int many], h)
            refine go hX 7 (gs := [True, True, True, True, True, True, True]) (z' := (22, [some (.ref 65), some (.int m), some (.int (left ||| (1 <<< (hh &&& 31)))), some (.int (many + 0)), some (.int (hh + 1)), none, none, none], [], h)) rfl ⟨trivial, trivial, trivial, trivial, trivial, trivial, trivial, trivial⟩ ?_
            exact absurd f4 f2
          ·
            show X (60, [some (.ref 65), some (.int m), some (.int (left ||| (1 <<< (hh &&& 31)))), some (.int many), some (.int hh), none, none, none], [.int 0, .int many], h)
            refine go hX 6 (gs := [True, True, True, True, True, True]) (z' := (22, [some (.ref 65), some (.int m), some (.int (left ||| (1 <<< (hh &&& 31)))), some (.int (many + 1)), some (.int (hh + 1)), none, none, none], [], h)) rfl ⟨trivial, trivial, trivial, trivial, trivial, trivial, trivial⟩ ?_
            have bk := z0 k (Nat.le_refl _) (by omega)
            have po := pcn_or (x := left) (show k < 32 by omega) bk
            rw [← hk] at po
            exact ih0 (k + 1) _ _ _ (by omega) (by rw [hk]; exact nI_1 k) (by have := lt b1; omega) (fun j hj hj2 => by rw [Bt_or, hk, Bt_one k (by omega) j hj2, decide_eq_false (by omega), z0 j (by omega) hj2]; rfl) (by rw [po, i32p (B := 40) (by omega) (by omega)]; omega) (by rw [i32p (B := 40) (by omega) (by omega)]; omega)
  refine go hX 4 (gs := [True, True, True, True]) (z' := (6, [some (.ref 65), some (.int m), none, none, none, none, none, none], [.long 10, .long 1, .long (Int32.toInt64 m)], h)) rfl ⟨trivial, trivial, trivial, trivial, trivial⟩ ?_
  refine cl hX 159 3 [.long (Int32.toInt64 m), .long 1, .long 10] [] rfl rfl rfl rfl ?_
  refine c_isIn (fun b1 => ?_) (fun b1 => ?_)
  ·
    show X (9, [some (.ref 65), some (.int m), none, none, none, none, none, none], [.int 1], h)
    refine go hX 7 (gs := [True, True, True, True, True, True, True]) (z' := (22, [some (.ref 65), some (.int m), some (.int 0), some (.int 0), some (.int 0), none, none, none], [], h)) rfl ⟨trivial, trivial, trivial, trivial, trivial, trivial, trivial, trivial⟩ ?_
    exact key 32 0 0 0 0 rfl rfl (by omega) (fun j _ hj => Bt_0 j hj) (by rw [pcn_0]; rfl) (by rw [c0]; omega)
  ·
    show X (9, [some (.ref 65), some (.int m), none, none, none, none, none, none], [.int 0], h)
    refine go hX 2 (gs := [True, True]) (z' := (14, [some (.ref 65), some (.int m), none, none, none, none, none, none], [.int (-1000000001)], h)) rfl ⟨trivial, trivial, trivial⟩ ?_
    refine rt_ hX (G := True) (r := some (.int (-1000000001))) rfl trivial ?_
    exact kk _ _ ⟨fun _ _ _ => rfl, rfl⟩ sd0 sd1
noncomputable def rgS (rg : List Rg) : Bool := rg.all fun q => !(Nat.beq q.1 66) || decide (q.2 = (6, 1, 1, 0, 65535)) || ile 0 q.2.2.1 && (ile 7 q.2.1 || ile (q.2.1 + q.2.2.1 * (q.2.2.2.1 - 1)) 5)
set_option maxRecDepth 100000 in
theorem rgS_ok : rgS rgT = true := by decide +kernel
