/-! By hand (contracts printed by wip/se/m36.py). -/
theorem lp_hIn {d : Nat} {Q : Option Value → Hp → Prop} {X : Cf → Prop} (hX : Clo (Call (d + 1)) cd178 (some .int) Q X) {h : Hp} {n : Nat} (n10 : n ≤ 10) (en : h.1 66 2 = nI n) {s : Int32} {V : Nat → Bool} (hV : ∀ k, k < n → (h.1 66 ((40 + (16 * (nI k))) + 8) = s ↔ V k = true)) (K : Q (some (.int (nI (pbC V n)))) h) {k : Nat} (hk : k ≤ n) : X (4, [some (.ref 65), some (.int s), some (.int (nI (pbC V k))), some (.int (nI k))], [], h) := by
  refine dn_ind (P := fun k => X (4, [some (.ref 65), some (.int s), some (.int (nI (pbC V k))), some (.int (nI k))], [], h)) (fun k hk ih => ?_) hk
  refine go hX 6 (gs := [True, ibd 2 3400, True, True, True, True]) (z' := (if (h.1 66 2) ≤ (nI k) then 45 else 14, [some (.ref 65), some (.int s), some (.int (nI (pbC V k))), some (.int (nI k))], [], h)) rfl ⟨trivial, ?_, trivial, trivial, trivial, trivial, trivial⟩ ?_
  · exact ⟨by decide, by decide⟩
  refine br (fun b1 => ?_) (fun b1 => ?_)
  ·
    refine go hX 1 (gs := [True]) (z' := (46, [some (.ref 65), some (.int s), some (.int (nI (pbC V k))), some (.int (nI k))], [.int (nI (pbC V k))], h)) rfl ⟨trivial, trivial⟩ ?_
    refine rt_ hX (G := True) (r := some (.int (nI (pbC V k)))) rfl trivial ?_
    have e : k = n := Nat.le_antisymm hk ((tx_le (by omega) (by omega)).mp (by rw [← en]; exact b1))
    subst e
    exact K
  ·
    have kx : k < n := Nat.lt_of_not_le (fun z => b1 (by rw [en]; exact (tx_le (by omega) (by omega)).mpr z))
    refine go hX 5 (gs := [True, True, True, True, True]) (z' := (21, [some (.ref 65), some (.int s), some (.int (nI (pbC V k))), some (.int (nI k))], [.int (nI k), .ref 65, .ref 66, .int (nI (pbC V k))], h)) rfl ⟨trivial, trivial, trivial, trivial, trivial, trivial⟩ ?_
    refine cl hX 164 2 [.ref 65, .int (nI k)] [.ref 66, .int (nI (pbC V k))] rfl rfl rfl rfl ?_
    refine c_handAtP ?_
    show X (24, [some (.ref 65), some (.int s), some (.int (nI (pbC V k))), some (.int (nI k))], [.int (40 + (16 * (nI k))), .ref 66, .int (nI (pbC V k))], h)
    refine go hX 5 (gs := [True, True, ibd ((40 + (16 * (nI k))) + 8) 3400, True, True]) (z' := (if (h.1 66 ((40 + (16 * (nI k))) + 8)) = s then 32 else 36, [some (.ref 65), some (.int s), some (.int (nI (pbC V k))), some (.int (nI k))], [.int (nI (pbC V k))], h)) rfl ⟨trivial, trivial, ?_, trivial, trivial, trivial⟩ ?_
    · rw [show (40 + (16 * (nI k))) + 8 = nI (40 + 8 + 16 * k) from ixH (f := 8) (by omega) (by decide)]; exact ibd_of (B := 3400) rfl (tx_0 _ (by omega)) ((tx_lt (b := 3400) (by omega) (by decide)).mpr (by omega))
    refine br (fun b2 => ?_) (fun b2 => ?_)
    ·
      refine go hX 6 (gs := [True, True, True, True, True, True]) (z' := (4, [some (.ref 65), some (.int s), some (.int ((nI (pbC V k)) + 1)), some (.int ((nI k) + 1))], [], h)) rfl ⟨trivial, trivial, trivial, trivial, trivial, trivial, trivial⟩ ?_
      rw [tx_1]
      rw [tx_1, ← pbC_1 ((hV k kx).mp b2)]
      exact ih (k + 1) (Nat.lt_succ_self k) (by omega)
    ·
      refine go hX 5 (gs := [True, True, True, True, True]) (z' := (4, [some (.ref 65), some (.int s), some (.int ((nI (pbC V k)) + 0)), some (.int ((nI k) + 1))], [], h)) rfl ⟨trivial, trivial, trivial, trivial, trivial, trivial⟩ ?_
      rw [tx_1]
      rw [Int32.add_zero, ← pbC_0 (fun z => b2 ((hV k kx).mpr z))]
      exact ih (k + 1) (Nat.lt_succ_self k) (by omega)
theorem c_hIn {d : Nat} {Q : Option Value → Hp → Prop} {h : Hp} {n : Nat} (n10 : n ≤ 10) (en : h.1 66 2 = nI n) {s : Int32} {V : Nat → Bool} (hV : ∀ k, k < n → (h.1 66 ((40 + (16 * (nI k))) + 8) = s ↔ V k = true)) (K : Q (some (.int (nI (pbC V n)))) h) : Call (d + 2) 178 [.ref 65, .int s] h Q := by
  refine call_of (rfl : psM[178]? = some _) rfl rfl (rcvV rfl) (fun X hX => ?_)
  show X (0, [some (.ref 65), some (.int s), none, none], [], h)
  refine go hX 4 (gs := [True, True, True, True]) (z' := (4, [some (.ref 65), some (.int s), some (.int 0), some (.int 0)], [], h)) rfl ⟨trivial, trivial, trivial, trivial, trivial⟩ ?_
  exact lp_hIn hX n10 en hV K (Nat.zero_le n)
theorem c_hasA5 {d : Nat} {Q : Option Value → Hp → Prop} {h : Hp} {n : Nat} {s : Int32} {W : Nat → Bool} (n10 : n ≤ 10) (en : h.1 4 2 = nI n) (hW : ∀ k, k < n → (h.1 5 ((nI k * 14) + 8) = s ↔ W k = true)) (kB : ¬ (0 ≤ s ∧ s < h.1 2 2) → Q (some (.int (-1000000001))) h) (k1 : (0 ≤ s ∧ s < h.1 2 2) → Q (some (.int (nI (pcB (chB_ W n))))) h) : Call (d + 3) 108 [.ref 0, .int s, .int 5] h Q := by
  refine call_of (rfl : psM[108]? = some _) rfl rfl (rcvV rfl) (fun X hX => ?_)
  show X (0, [some (.ref 0), some (.int s), some (.int 5)], [], h)
  refine go hX 4 (gs := [True, True, True, True]) (z' := (8, [some (.ref 0), some (.int s), some (.int 5)], [.int s, .ref 2], h)) rfl ⟨trivial, trivial, trivial, trivial, trivial⟩ ?_
  refine cl hX 93 2 [.ref 2, .int s] [] rfl rfl rfl rfl ?_
  refine c_holdsP (fun hP => ?_) (fun hP => ?_)
  ·
    show X (11, [some (.ref 0), some (.int s), some (.int 5)], [.int 1], h)
    refine go hX 4 (gs := [True, True, True, True]) (z' := (18, [some (.ref 0), some (.int s), some (.int 5)], [.int 10, .int 0, .int 5], h)) rfl ⟨trivial, trivial, trivial, trivial, trivial⟩ ?_
    refine cl hX 156 3 [.int 5, .int 0, .int 10] [] rfl rfl rfl rfl ?_
    refine c_within (fun bw => ?_) (fun bw => ?_)
    ·
      show X (21, [some (.ref 0), some (.int s), some (.int 5)], [.int 1], h)
      refine go hX 6 (gs := [True, True, True, True, True, True]) (z' := (73, [some (.ref 0), some (.int s), some (.int 5)], [.int s, .ref 1], h)) rfl ⟨trivial, trivial, trivial, trivial, trivial, trivial, trivial⟩ ?_
      refine cl hX 67 2 [.ref 1, .int s] [] rfl rfl rfl rfl ?_
      refine c_membersOf n10 en hW ?_
      show X (76, [some (.ref 0), some (.int s), some (.int 5)], [.int (nI (chB_ W n))], h)
      refine cl hX 265 1 [.int (nI (chB_ W n))] [] rfl rfl rfl rfl ?_
      refine c_bitC ?_
      rw [pcB_eq _ (chB_lt n10)]
      show X (79, [some (.ref 0), some (.int s), some (.int 5)], [.int (nI (pcB (chB_ W n)))], h)
      refine rt_ hX (G := True) (r := some (.int (nI (pcB (chB_ W n))))) rfl trivial ?_
      exact k1 hP
    ·
      show X (21, [some (.ref 0), some (.int s), some (.int 5)], [.int 0], h)
      refine go hX 2 (gs := [True, True]) (z' := (26, [some (.ref 0), some (.int s), some (.int 5)], [.int (-1000000001)], h)) rfl ⟨trivial, trivial, trivial⟩ ?_
      refine rt_ hX (G := True) (r := some (.int (-1000000001))) rfl trivial ?_
      exact absurd (by decide) bw
  ·
    show X (11, [some (.ref 0), some (.int s), some (.int 5)], [.int 0], h)
    refine go hX 2 (gs := [True, True]) (z' := (26, [some (.ref 0), some (.int s), some (.int 5)], [.int (-1000000001)], h)) rfl ⟨trivial, trivial, trivial⟩ ?_
    refine rt_ hX (G := True) (r := some (.int (-1000000001))) rfl trivial ?_
    exact kB hP
theorem c_hasB5 {d : Nat} {Q : Option Value → Hp → Prop} {h : Hp} {n : Nat} {s : Int32} {V : Nat → Bool} (n10 : n ≤ 10) (en : h.1 66 2 = nI n) (hV : ∀ k, k < n → (h.1 66 ((40 + (16 * (nI k))) + 8) = s ↔ V k = true)) (kB : ¬ (0 ≤ s ∧ s ≤ h.1 66 1 - 1) → Q (some (.int (-1000000001))) h) (k1 : (0 ≤ s ∧ s ≤ h.1 66 1 - 1) → Q (some (.int (nI (pbC V n)))) h) : Call (d + 3) 180 [.ref 65, .int s, .int 5] h Q := by
  refine call_of (rfl : psM[180]? = some _) rfl rfl (rcvV rfl) (fun X hX => ?_)
  show X (0, [some (.ref 65), some (.int s), some (.int 5)], [], h)
  refine go hX 2 (gs := [True, True]) (z' := (2, [some (.ref 65), some (.int s), some (.int 5)], [.int s, .ref 65], h)) rfl ⟨trivial, trivial, trivial⟩ ?_
  refine cl hX 168 2 [.ref 65, .int s] [] rfl rfl rfl rfl ?_
  refine c_isShopP (fun hP => ?_) (fun hP => ?_)
  ·
    show X (5, [some (.ref 65), some (.int s), some (.int 5)], [.int 1], h)
    refine go hX 5 (gs := [True, True, True, True, True]) (z' := (14, [some (.ref 65), some (.int s), some (.int 5)], [.long 10, .long 0, .long (Int32.toInt64 5)], h)) rfl ⟨trivial, trivial, trivial, trivial, trivial, trivial⟩ ?_
    refine cl hX 159 3 [.long (Int32.toInt64 5), .long 0, .long 10] [] rfl rfl rfl rfl ?_
    refine c_isInP (fun bw => ?_) (fun bw => ?_)
    ·
      show X (17, [some (.ref 65), some (.int s), some (.int 5)], [.int 1], h)
      refine go hX 9 (gs := [True, True, True, True, True, True, True, True, True]) (z' := (56, [some (.ref 65), some (.int s), some (.int 5)], [.int s, .ref 65], h)) rfl ⟨trivial, trivial, trivial, trivial, trivial, trivial, trivial, trivial, trivial, trivial⟩ ?_
      refine cl hX 178 2 [.ref 65, .int s] [] rfl rfl rfl rfl ?_
      refine c_hIn n10 en hV ?_
      show X (59, [some (.ref 65), some (.int s), some (.int 5)], [.int (nI (pbC V n))], h)
      refine go hX 1 (gs := [True]) (z' := (74, [some (.ref 65), some (.int s), some (.int 5)], [.int (nI (pbC V n))], h)) rfl ⟨trivial, trivial⟩ ?_
      refine rt_ hX (G := True) (r := some (.int (nI (pbC V n)))) rfl trivial ?_
      exact k1 hP
    ·
      show X (17, [some (.ref 65), some (.int s), some (.int 5)], [.int 0], h)
      refine go hX 2 (gs := [True, True]) (z' := (22, [some (.ref 65), some (.int s), some (.int 5)], [.int (-1000000001)], h)) rfl ⟨trivial, trivial, trivial⟩ ?_
      refine rt_ hX (G := True) (r := some (.int (-1000000001))) rfl trivial ?_
      exact absurd (by decide) bw
  ·
    show X (5, [some (.ref 65), some (.int s), some (.int 5)], [.int 0], h)
    refine go hX 2 (gs := [True, True]) (z' := (22, [some (.ref 65), some (.int s), some (.int 5)], [.int (-1000000001)], h)) rfl ⟨trivial, trivial, trivial⟩ ?_
    refine rt_ hX (G := True) (r := some (.int (-1000000001))) rfl trivial ?_
    exact kB hP
/-! By hand: has. -/
theorem pbC_cg {a b : Nat → Bool} : ∀ {n : Nat}, (∀ k, k < n → a k = b k) → pbC a n = pbC b n
  | 0, _ => rfl
  | n + 1, h => by
    show pbC a n + (if a n = true then 1 else 0) = pbC b n + (if b n = true then 1 else 0)
    rw [pbC_cg (n := n) (fun k hk => h k (by omega)), h n (by omega)]
theorem pcB_chB {W : Nat → Bool} {n : Nat} (h : n ≤ 10) : pcB (chB_ W n) = pbC W n := by
  rw [← pbC_r h]
  exact List.countP_congr (fun j hj => by rw [chB_bit])
/-- so many hands are in a shop -/
theorem has_5 {d : Nat} {h : Hp} {n nS : Nat} {s : Int32} (n10 : n ≤ 10) (s3 : nS ≤ 3) (en : h.1 4 2 = nI n) (en2 : h.1 66 2 = nI n) (es : h.1 2 2 = nI nS) (es2 : h.1 66 1 = nI nS) (R240 : RLO h 240 0 0) : ∃ r : Int32, CRun (d + 3) 108 [.ref 0, .int s, .int 5] h (some (.int r)) h ∧ CRun (d + 3) 180 [.ref 65, .int s, .int 5] h (some (.int r)) h := by
  have k0 : (0 : Int32).toInt = 0 := rfl
  have decP := hold_dec (f := 0) (g := 0) (Nat.le_trans s3 (by decide)) es es2 s
  obtain ⟨W, hWd⟩ : ∃ W : Nat → Bool, W = fun k => decide (h.1 5 ((nI k * 14) + 8) = s) := ⟨_, rfl⟩
  obtain ⟨V, hVd⟩ : ∃ V : Nat → Bool, V = fun k => decide (h.1 66 ((40 + (16 * nI k)) + 8) = s) := ⟨_, rfl⟩
  have hW : ∀ k, k < n → (h.1 5 ((nI k * 14) + 8) = s ↔ W k = true) := fun k _ => by rw [hWd]; exact decide_eq_true_iff.symm
  have hV : ∀ k, k < n → (h.1 66 ((40 + (16 * nI k)) + 8) = s ↔ V k = true) := fun k _ => by rw [hVd]; exact decide_eq_true_iff.symm
  by_cases hP : 0 ≤ s ∧ s < h.1 2 2
  · have s0 : 0 ≤ s.toInt := by have := hP.1; rw [Int32.le_iff_toInt_le, k0] at this; exact this
    have wv : ∀ k, k < n → W k = V k := fun k hk => by
      have q := rowN (o1 := 5) (o2 := 66) (b1 := 8) (b2 := 48) (s1 := 14) (s2 := 16) (n := 10) R240 (Int.le_refl 0) rfl (by decide) (by decide) (show k < 10 by omega)
      have e : (W k = true) ↔ (V k = true) := by
        rw [← hW k hk, ← hV k hk, show (nI k * 14) + 8 = nI (8 + 14 * k) from ixA (f := 8) (by omega) (by decide), ixH8, ← Int32.toInt_inj, ← Int32.toInt_inj]
        omega
      exact Bool.eq_iff_iff.mpr e
    refine ⟨nI (pbC V n), fun Q q => c_hasA5 n10 en hW (fun z => absurd hP z) (fun _ => ?_), fun Q q => c_hasB5 n10 en2 hV (fun z => absurd (decP.mp hP) z) (fun _ => q)⟩
    rw [pcB_chB n10, pbC_cg wv]
    exact q
  · exact ⟨-1000000001, fun Q q => c_hasA5 n10 en hW (fun _ => q) (fun z => absurd z hP), fun Q q => c_hasB5 n10 en2 hV (fun _ => q) (fun z => absurd (decP.mpr z) hP)⟩
set_option maxHeartbeats 4000000 in
set_option maxRecDepth 100000 in
theorem okP47 : PmOK rgT pm47 := by
  intro d hd ρ as bs h hlen hin hb hc hf hR
  have hd : 4 ≤ d := hd
  have hlen : as.length = 3 := hlen
  generalize hL : as ++ bs = L at hin
  have hin0 := hin
  obtain ⟨v0, s0, rfl, hin⟩ := hin
  rw [if_pos rfl] at hin
  obtain ⟨rfl, -, hin⟩ := hin
  obtain ⟨v1, s1, rfl, hin⟩ := hin
  rw [if_neg (by decide), if_pos rfl] at hin
  obtain ⟨g0, ⟨a0, rfl, e0⟩, hin⟩ := hin
  obtain ⟨v2, s2, rfl, hin⟩ := hin
  rw [if_neg (by decide), if_pos rfl] at hin
  obtain ⟨g1, ⟨a1, rfl, e1⟩, hin⟩ := hin
  obtain ⟨v3, s3, rfl, hin⟩ := hin
  rw [if_pos rfl] at hin
  obtain ⟨rfl, -, hin⟩ := hin
  obtain ⟨v4, s4, rfl, hin⟩ := hin
  rw [if_neg (by decide), if_pos rfl] at hin
  obtain ⟨g2, ⟨b2, rfl, e2⟩, hin⟩ := hin
  obtain ⟨v5, s5, rfl, hin⟩ := hin
  rw [if_neg (by decide), if_pos rfl] at hin
  obtain ⟨g3, ⟨b3, rfl, e3⟩, hin⟩ := hin
  cases hin
  obtain ⟨rfl, rfl⟩ := List.append_inj (show as ++ bs = [Value.ref 0, .int a0, .int a1] ++ [Value.ref 65, .int b2, .int b3] from hL) hlen
  have f0 : (0 : Int) ≤ 0 + (1 * ρ 4 + (-1 * ρ 5 + 0)) := hf _ (List.mem_of_getElem? (i := 0) rfl)
  have f1 : (0 : Int) ≤ 0 + (-1 * ρ 4 + (1 * ρ 5 + 0)) := hf _ (List.mem_of_getElem? (i := 1) rfl)
  have f2 : (0 : Int) ≤ 0 + (1 * ρ 6 + (-1 * ρ 7 + 0)) := hf _ (List.mem_of_getElem? (i := 2) rfl)
  have f3 : (0 : Int) ≤ 0 + (-1 * ρ 6 + (1 * ρ 7 + 0)) := hf _ (List.mem_of_getElem? (i := 3) rfl)
  have f4 : (0 : Int) ≤ 0 + (1 * ρ 8 + (-1 * ρ 9 + 0)) := hf _ (List.mem_of_getElem? (i := 4) rfl)
  have f5 : (0 : Int) ≤ 0 + (-1 * ρ 8 + (1 * ρ 9 + 0)) := hf _ (List.mem_of_getElem? (i := 5) rfl)
  have f6 : (0 : Int) ≤ 0 + (1 * ρ 0 + (-1 * ρ 2 + 0)) := hf _ (List.mem_of_getElem? (i := 6) rfl)
  have f7 : (0 : Int) ≤ 0 + (-1 * ρ 0 + (1 * ρ 2 + 0)) := hf _ (List.mem_of_getElem? (i := 7) rfl)
  have f8 : (0 : Int) ≤ 0 + (1 * ρ 1 + (-1 * ρ 3 + 0)) := hf _ (List.mem_of_getElem? (i := 8) rfl)
  have f9 : (0 : Int) ≤ 0 + (-1 * ρ 1 + (1 * ρ 3 + 0)) := hf _ (List.mem_of_getElem? (i := 9) rfl)
  have e0 : ρ 0 = a0.toInt := e0
  have e2 : ρ 2 = b2.toInt := e2
  have e1 : ρ 1 = a1.toInt := e1
  have e3 : ρ 3 = b3.toInt := e3
  obtain rfl : a0 = b2 := Int32.toInt_inj.mp (by omega)
  obtain rfl : a1 = b3 := Int32.toInt_inj.mp (by omega)
  have g0 : (-2147483648 : Int) ≤ ρ 0 ∧ ρ 0 ≤ 2147483647 := g0
  have g1 : (-2147483648 : Int) ≤ ρ 1 ∧ ρ 1 ≤ 2147483647 := g1
  have g2 : (-2147483648 : Int) ≤ ρ 2 ∧ ρ 2 ≤ 2147483647 := g2
  have g3 : (-2147483648 : Int) ≤ ρ 3 ∧ ρ 3 ≤ 2147483647 := g3
  have r4 : (0 : Int) ≤ ρ 4 ∧ ρ 4 ≤ 3 := hb (4, 0, 3) (List.mem_of_getElem? (i := 0) rfl)
  have c4 : ρ 4 = (h.1 2 2).toInt := hc_i (hc (0, 2, (2, []), leX 4) (List.mem_of_getElem? (i := 0) rfl)) rfl
  have r5 : (0 : Int) ≤ ρ 5 ∧ ρ 5 ≤ 3 := hb (5, 0, 3) (List.mem_of_getElem? (i := 1) rfl)
  have c5 : ρ 5 = (h.1 66 1).toInt := hc_i (hc (0, 66, (1, []), leX 5) (List.mem_of_getElem? (i := 1) rfl)) rfl
  have r6 : (0 : Int) ≤ ρ 6 ∧ ρ 6 ≤ 10 := hb (6, 0, 10) (List.mem_of_getElem? (i := 2) rfl)
  have c6 : ρ 6 = (h.1 4 2).toInt := hc_i (hc (0, 4, (2, []), leX 6) (List.mem_of_getElem? (i := 2) rfl)) rfl
  have r7 : (0 : Int) ≤ ρ 7 ∧ ρ 7 ≤ 10 := hb (7, 0, 10) (List.mem_of_getElem? (i := 3) rfl)
  have c7 : ρ 7 = (h.1 66 2).toInt := hc_i (hc (0, 66, (2, []), leX 7) (List.mem_of_getElem? (i := 3) rfl)) rfl
  have r8 : (0 : Int) ≤ ρ 8 ∧ ρ 8 ≤ 30 := hb (8, 0, 30) (List.mem_of_getElem? (i := 4) rfl)
  have c8 : ρ 8 = (h.1 6 2).toInt := hc_i (hc (0, 6, (2, []), leX 8) (List.mem_of_getElem? (i := 4) rfl)) rfl
  have r9 : (0 : Int) ≤ ρ 9 ∧ ρ 9 ≤ 30 := hb (9, 0, 30) (List.mem_of_getElem? (i := 5) rfl)
  have c9 : ρ 9 = (h.1 66 3).toInt := hc_i (hc (0, 66, (3, []), leX 9) (List.mem_of_getElem? (i := 5) rfl)) rfl
  have r10 : (0 : Int) ≤ ρ 10 ∧ ρ 10 ≤ 0 := hb (10, 0, 0) (List.mem_of_getElem? (i := 6) rfl)
  have c10 : KC h 9 0 0 (ρ 10) := kc_at (hc (9, 0, (0, []), leX 10) (List.mem_of_getElem? (i := 6) rfl))
  have r11 : (0 : Int) ≤ ρ 11 ∧ ρ 11 ≤ 0 := hb (11, 0, 0) (List.mem_of_getElem? (i := 7) rfl)
  have c11 : KC h 9 16 0 (ρ 11) := kc_at (hc (9, 16, (0, []), leX 11) (List.mem_of_getElem? (i := 7) rfl))
  have r12 : (0 : Int) ≤ ρ 12 ∧ ρ 12 ≤ 0 := hb (12, 0, 0) (List.mem_of_getElem? (i := 8) rfl)
  have c12 : KC h 9 32 0 (ρ 12) := kc_at (hc (9, 32, (0, []), leX 12) (List.mem_of_getElem? (i := 8) rfl))
  have r13 : (0 : Int) ≤ ρ 13 ∧ ρ 13 ≤ 0 := hb (13, 0, 0) (List.mem_of_getElem? (i := 9) rfl)
  have c13 : KC h 9 48 0 (ρ 13) := kc_at (hc (9, 48, (0, []), leX 13) (List.mem_of_getElem? (i := 9) rfl))
  have r14 : (0 : Int) ≤ ρ 14 ∧ ρ 14 ≤ 0 := hb (14, 0, 0) (List.mem_of_getElem? (i := 10) rfl)
  have c14 : KC h 9 64 0 (ρ 14) := kc_at (hc (9, 64, (0, []), leX 14) (List.mem_of_getElem? (i := 10) rfl))
  have r15 : (0 : Int) ≤ ρ 15 ∧ ρ 15 ≤ 0 := hb (15, 0, 0) (List.mem_of_getElem? (i := 11) rfl)
  have c15 : KC h 9 80 0 (ρ 15) := kc_at (hc (9, 80, (0, []), leX 15) (List.mem_of_getElem? (i := 11) rfl))
  have r16 : (0 : Int) ≤ ρ 16 ∧ ρ 16 ≤ 0 := hb (16, 0, 0) (List.mem_of_getElem? (i := 12) rfl)
  have c16 : KC h 9 96 0 (ρ 16) := kc_at (hc (9, 96, (0, []), leX 16) (List.mem_of_getElem? (i := 12) rfl))
  have r17 : (0 : Int) ≤ ρ 17 ∧ ρ 17 ≤ 0 := hb (17, 0, 0) (List.mem_of_getElem? (i := 13) rfl)
  have c17 : KC h 9 240 0 (ρ 17) := kc_at (hc (9, 240, (0, []), leX 17) (List.mem_of_getElem? (i := 13) rfl))
  have r18 : (0 : Int) ≤ ρ 18 ∧ ρ 18 ≤ 0 := hb (18, 0, 0) (List.mem_of_getElem? (i := 14) rfl)
  have c18 : KC h 9 320 0 (ρ 18) := kc_at (hc (9, 320, (0, []), leX 18) (List.mem_of_getElem? (i := 14) rfl))
  have r19 : (0 : Int) ≤ ρ 19 ∧ ρ 19 ≤ 0 := hb (19, 0, 0) (List.mem_of_getElem? (i := 15) rfl)
  have c19 : KC h 9 336 0 (ρ 19) := kc_at (hc (9, 336, (0, []), leX 19) (List.mem_of_getElem? (i := 15) rfl))
  have r20 : (0 : Int) ≤ ρ 20 ∧ ρ 20 ≤ 0 := hb (20, 0, 0) (List.mem_of_getElem? (i := 16) rfl)
  have c20 : KC h 9 384 0 (ρ 20) := kc_at (hc (9, 384, (0, []), leX 20) (List.mem_of_getElem? (i := 16) rfl))
  have M0 := hand_M (rg := rgT) (s := pm47.2.2.1) (h := h) (ρ := ρ) (by decide +kernel) (by decide +kernel) hin0 hb hc hf hR
  clear M0
  have fin : ∀ {r : Int32} {hA hB : Hp}, CRun d 108 [.ref 0, .int a0, .int a1] h (some (.int r)) hA → CRun d 180 [.ref 65, .int a0, .int a1] h (some (.int r)) hB → Frm [] h (mxH true hA hB) → ∃ rA hA rB hB, CRun d 108 [.ref 0, .int a0, .int a1] h rA hA ∧ CRun d 180 [.ref 65, .int a0, .int a1] h rB hB ∧ hA.2.2 = h.2.2 ∧ hB.2.2 = h.2.2 ∧ (∀ v, rA = some v → vS true v) ∧ (∀ v, rB = some v → vS false v) ∧ PmPost rgT pm47.2.2.1 pm47.2.2.2 ρ h rA rB (mxH true hA hB) := fun {r hA hB} cA cB W => by
    refine pm_mk (p := pm47) cA cB (List.forall_mem_cons.mpr ⟨fun _ => rfl, List.forall_mem_cons.mpr ⟨trivial, List.forall_mem_cons.mpr ⟨trivial, fun _ h => absurd h List.not_mem_nil⟩⟩⟩) (List.forall_mem_cons.mpr ⟨fun _ => rfl, List.forall_mem_cons.mpr ⟨trivial, List.forall_mem_cons.mpr ⟨trivial, fun _ h => absurd h List.not_mem_nil⟩⟩⟩) ?_
    have W : Frm pm47.2.2.1.2.2.2.2.2.1 h (mxH true hA hB) := W
    refine ⟨rgV_sp (by decide +kernel) W hR, W, _, List.mem_of_getElem? (i := 0) rfl, updS ρ 21 r.toInt, upd_ag, ?_, ⟨r, rfl, ?_⟩, ⟨r, rfl, ?_⟩, fun c hc => absurd hc List.not_mem_nil, fun f hf => absurd hf List.not_mem_nil⟩
    · refine List.forall_mem_cons.mpr ⟨?_, fun _ h => absurd h List.not_mem_nil⟩
      show (-2147483648 : Int) ≤ updS ρ 21 r.toInt 21 ∧ updS ρ 21 r.toInt 21 ≤ 2147483647
      rw [updS_at]
      exact i32b r
    · show leV _ (leX 21) = _
      rw [leV_X, updS_at]
    · show leV _ (leX 21) = _
      rw [leV_X, updS_at]
  by_cases q4 : a1.toInt ≤ 4
  ·
    obtain ⟨rA, hA, rB, hB, cA, cB, -, -, -, -, -, FR, oe, hoe, ρ2, ag2, bd2, rtA, rtB, -, -⟩ := okP45 d (by show 3 ≤ _; omega) (fun k => ([ρ 0, ρ 1, ρ 2, ρ 3, ρ 4, ρ 5, ρ 6, ρ 7, ρ 8, ρ 9, ρ 10, ρ 11, ρ 12, ρ 13, ρ 14, ρ 15, ρ 16, ρ 17, ρ 18, ρ 19, ρ 20] : List Int).getD k 0) [.ref 0, .int a0, .int a1] [.ref 65, .int a0, .int a1] h rfl ⟨_, _, rfl, by rw [if_pos rfl]; exact ⟨rfl, by decide, ⟨_, _, rfl, by rw [if_neg (by decide), if_pos rfl]; exact ⟨by show ((-2147483648) : Int) ≤ ρ 0 ∧ ρ 0 ≤ 2147483647; omega, ⟨_, rfl, e0⟩, ⟨_, _, rfl, by rw [if_neg (by decide), if_pos rfl]; exact ⟨by show ((-2147483648) : Int) ≤ ρ 1 ∧ ρ 1 ≤ 4; omega, ⟨_, rfl, e1⟩, ⟨_, _, rfl, by rw [if_pos rfl]; exact ⟨rfl, by decide, ⟨_, _, rfl, by rw [if_neg (by decide), if_pos rfl]; exact ⟨by show ((-2147483648) : Int) ≤ ρ 2 ∧ ρ 2 ≤ 2147483647; omega, ⟨_, rfl, e2⟩, ⟨_, _, rfl, by rw [if_neg (by decide), if_pos rfl]; exact ⟨by show ((-2147483648) : Int) ≤ ρ 3 ∧ ρ 3 ≤ 4; omega, ⟨_, rfl, e3⟩, rfl⟩⟩⟩⟩⟩⟩⟩⟩⟩⟩⟩⟩ (List.forall_mem_cons.mpr ⟨r4, List.forall_mem_cons.mpr ⟨r5, List.forall_mem_cons.mpr ⟨r6, List.forall_mem_cons.mpr ⟨r7, List.forall_mem_cons.mpr ⟨r8, List.forall_mem_cons.mpr ⟨r9, List.forall_mem_cons.mpr ⟨r10, List.forall_mem_cons.mpr ⟨r11, List.forall_mem_cons.mpr ⟨r12, List.forall_mem_cons.mpr ⟨r13, List.forall_mem_cons.mpr ⟨r14, List.forall_mem_cons.mpr ⟨r15, List.forall_mem_cons.mpr ⟨r16, List.forall_mem_cons.mpr ⟨r17, List.forall_mem_cons.mpr ⟨r18, List.forall_mem_cons.mpr ⟨r19, List.forall_mem_cons.mpr ⟨r20, fun _ h => absurd h List.not_mem_nil⟩⟩⟩⟩⟩⟩⟩⟩⟩⟩⟩⟩⟩⟩⟩⟩⟩) (List.forall_mem_cons.mpr ⟨⟨2, leV_C _ 2, by show leV _ (leX 4) = _; rw [leV_X]; exact c4⟩, List.forall_mem_cons.mpr ⟨⟨1, leV_C _ 1, by show leV _ (leX 5) = _; rw [leV_X]; exact c5⟩, List.forall_mem_cons.mpr ⟨⟨2, leV_C _ 2, by show leV _ (leX 6) = _; rw [leV_X]; exact c6⟩, List.forall_mem_cons.mpr ⟨⟨2, leV_C _ 2, by show leV _ (leX 7) = _; rw [leV_X]; exact c7⟩, List.forall_mem_cons.mpr ⟨⟨2, leV_C _ 2, by show leV _ (leX 8) = _; rw [leV_X]; exact c8⟩, List.forall_mem_cons.mpr ⟨⟨3, leV_C _ 3, by show leV _ (leX 9) = _; rw [leV_X]; exact c9⟩, List.forall_mem_cons.mpr ⟨by show KC h 9 0 (leV _ (leC 0)) (leV _ (leX 10)); rw [leV_C, leV_X]; exact c10, List.forall_mem_cons.mpr ⟨by show KC h 9 16 (leV _ (leC 0)) (leV _ (leX 11)); rw [leV_C, leV_X]; exact c11, List.forall_mem_cons.mpr ⟨by show KC h 9 32 (leV _ (leC 0)) (leV _ (leX 12)); rw [leV_C, leV_X]; exact c12, List.forall_mem_cons.mpr ⟨by show KC h 9 48 (leV _ (leC 0)) (leV _ (leX 13)); rw [leV_C, leV_X]; exact c13, List.forall_mem_cons.mpr ⟨by show KC h 9 64 (leV _ (leC 0)) (leV _ (leX 14)); rw [leV_C, leV_X]; exact c14, List.forall_mem_cons.mpr ⟨by show KC h 9 80 (leV _ (leC 0)) (leV _ (leX 15)); rw [leV_C, leV_X]; exact c15, List.forall_mem_cons.mpr ⟨by show KC h 9 96 (leV _ (leC 0)) (leV _ (leX 16)); rw [leV_C, leV_X]; exact c16, List.forall_mem_cons.mpr ⟨by show KC h 9 240 (leV _ (leC 0)) (leV _ (leX 17)); rw [leV_C, leV_X]; exact c17, List.forall_mem_cons.mpr ⟨by show KC h 9 320 (leV _ (leC 0)) (leV _ (leX 18)); rw [leV_C, leV_X]; exact c18, List.forall_mem_cons.mpr ⟨by show KC h 9 336 (leV _ (leC 0)) (leV _ (leX 19)); rw [leV_C, leV_X]; exact c19, List.forall_mem_cons.mpr ⟨by show KC h 9 384 (leV _ (leC 0)) (leV _ (leX 20)); rw [leV_C, leV_X]; exact c20, fun _ h => absurd h List.not_mem_nil⟩⟩⟩⟩⟩⟩⟩⟩⟩⟩⟩⟩⟩⟩⟩⟩⟩) (List.forall_mem_cons.mpr ⟨f0, List.forall_mem_cons.mpr ⟨f1, List.forall_mem_cons.mpr ⟨f2, List.forall_mem_cons.mpr ⟨f3, List.forall_mem_cons.mpr ⟨f4, List.forall_mem_cons.mpr ⟨f5, List.forall_mem_cons.mpr ⟨f6, List.forall_mem_cons.mpr ⟨f7, List.forall_mem_cons.mpr ⟨f8, List.forall_mem_cons.mpr ⟨f9, fun _ h => absurd h List.not_mem_nil⟩⟩⟩⟩⟩⟩⟩⟩⟩⟩) hR
    obtain rfl := List.mem_singleton.mp hoe
    obtain ⟨x, rfl, ex⟩ := rtA
    obtain ⟨y, rfl, ey⟩ := rtB
    have ex : (0 : Int) + (1 * ρ2 21 + 0) = x.toInt := ex
    have ey : (0 : Int) + (1 * ρ2 21 + 0) = y.toInt := ey
    have exy : x = y := Int32.toInt_inj.mp (by omega)
    subst exy
    exact fin cA cB FR
  by_cases q6 : 6 ≤ a1.toInt
  ·
    obtain ⟨rA, hA, rB, hB, cA, cB, -, -, -, -, -, FR, oe, hoe, ρ2, ag2, bd2, rtA, rtB, -, -⟩ := okP46 d (by show 4 ≤ _; omega) (fun k => ([ρ 0, ρ 1, ρ 2, ρ 3, ρ 4, ρ 5, ρ 6, ρ 7, ρ 8, ρ 9, ρ 10, ρ 11, ρ 12, ρ 13, ρ 14, ρ 15, ρ 16, ρ 17, ρ 18, ρ 19, ρ 20] : List Int).getD k 0) [.ref 0, .int a0, .int a1] [.ref 65, .int a0, .int a1] h rfl ⟨_, _, rfl, by rw [if_pos rfl]; exact ⟨rfl, by decide, ⟨_, _, rfl, by rw [if_neg (by decide), if_pos rfl]; exact ⟨by show ((-2147483648) : Int) ≤ ρ 0 ∧ ρ 0 ≤ 2147483647; omega, ⟨_, rfl, e0⟩, ⟨_, _, rfl, by rw [if_neg (by decide), if_pos rfl]; exact ⟨by show (6 : Int) ≤ ρ 1 ∧ ρ 1 ≤ 2147483647; omega, ⟨_, rfl, e1⟩, ⟨_, _, rfl, by rw [if_pos rfl]; exact ⟨rfl, by decide, ⟨_, _, rfl, by rw [if_neg (by decide), if_pos rfl]; exact ⟨by show ((-2147483648) : Int) ≤ ρ 2 ∧ ρ 2 ≤ 2147483647; omega, ⟨_, rfl, e2⟩, ⟨_, _, rfl, by rw [if_neg (by decide), if_pos rfl]; exact ⟨by show (6 : Int) ≤ ρ 3 ∧ ρ 3 ≤ 2147483647; omega, ⟨_, rfl, e3⟩, rfl⟩⟩⟩⟩⟩⟩⟩⟩⟩⟩⟩⟩ (List.forall_mem_cons.mpr ⟨r4, List.forall_mem_cons.mpr ⟨r5, List.forall_mem_cons.mpr ⟨r6, List.forall_mem_cons.mpr ⟨r7, List.forall_mem_cons.mpr ⟨r8, List.forall_mem_cons.mpr ⟨r9, List.forall_mem_cons.mpr ⟨r10, List.forall_mem_cons.mpr ⟨r11, List.forall_mem_cons.mpr ⟨r12, List.forall_mem_cons.mpr ⟨r13, List.forall_mem_cons.mpr ⟨r14, List.forall_mem_cons.mpr ⟨r15, List.forall_mem_cons.mpr ⟨r16, List.forall_mem_cons.mpr ⟨r17, List.forall_mem_cons.mpr ⟨r18, List.forall_mem_cons.mpr ⟨r19, List.forall_mem_cons.mpr ⟨r20, fun _ h => absurd h List.not_mem_nil⟩⟩⟩⟩⟩⟩⟩⟩⟩⟩⟩⟩⟩⟩⟩⟩⟩) (List.forall_mem_cons.mpr ⟨⟨2, leV_C _ 2, by show leV _ (leX 4) = _; rw [leV_X]; exact c4⟩, List.forall_mem_cons.mpr ⟨⟨1, leV_C _ 1, by show leV _ (leX 5) = _; rw [leV_X]; exact c5⟩, List.forall_mem_cons.mpr ⟨⟨2, leV_C _ 2, by show leV _ (leX 6) = _; rw [leV_X]; exact c6⟩, List.forall_mem_cons.mpr ⟨⟨2, leV_C _ 2, by show leV _ (leX 7) = _; rw [leV_X]; exact c7⟩, List.forall_mem_cons.mpr ⟨⟨2, leV_C _ 2, by show leV _ (leX 8) = _; rw [leV_X]; exact c8⟩, List.forall_mem_cons.mpr ⟨⟨3, leV_C _ 3, by show leV _ (leX 9) = _; rw [leV_X]; exact c9⟩, List.forall_mem_cons.mpr ⟨by show KC h 9 0 (leV _ (leC 0)) (leV _ (leX 10)); rw [leV_C, leV_X]; exact c10, List.forall_mem_cons.mpr ⟨by show KC h 9 16 (leV _ (leC 0)) (leV _ (leX 11)); rw [leV_C, leV_X]; exact c11, List.forall_mem_cons.mpr ⟨by show KC h 9 32 (leV _ (leC 0)) (leV _ (leX 12)); rw [leV_C, leV_X]; exact c12, List.forall_mem_cons.mpr ⟨by show KC h 9 48 (leV _ (leC 0)) (leV _ (leX 13)); rw [leV_C, leV_X]; exact c13, List.forall_mem_cons.mpr ⟨by show KC h 9 64 (leV _ (leC 0)) (leV _ (leX 14)); rw [leV_C, leV_X]; exact c14, List.forall_mem_cons.mpr ⟨by show KC h 9 80 (leV _ (leC 0)) (leV _ (leX 15)); rw [leV_C, leV_X]; exact c15, List.forall_mem_cons.mpr ⟨by show KC h 9 96 (leV _ (leC 0)) (leV _ (leX 16)); rw [leV_C, leV_X]; exact c16, List.forall_mem_cons.mpr ⟨by show KC h 9 240 (leV _ (leC 0)) (leV _ (leX 17)); rw [leV_C, leV_X]; exact c17, List.forall_mem_cons.mpr ⟨by show KC h 9 320 (leV _ (leC 0)) (leV _ (leX 18)); rw [leV_C, leV_X]; exact c18, List.forall_mem_cons.mpr ⟨by show KC h 9 336 (leV _ (leC 0)) (leV _ (leX 19)); rw [leV_C, leV_X]; exact c19, List.forall_mem_cons.mpr ⟨by show KC h 9 384 (leV _ (leC 0)) (leV _ (leX 20)); rw [leV_C, leV_X]; exact c20, fun _ h => absurd h List.not_mem_nil⟩⟩⟩⟩⟩⟩⟩⟩⟩⟩⟩⟩⟩⟩⟩⟩⟩) (List.forall_mem_cons.mpr ⟨f0, List.forall_mem_cons.mpr ⟨f1, List.forall_mem_cons.mpr ⟨f2, List.forall_mem_cons.mpr ⟨f3, List.forall_mem_cons.mpr ⟨f4, List.forall_mem_cons.mpr ⟨f5, List.forall_mem_cons.mpr ⟨f6, List.forall_mem_cons.mpr ⟨f7, List.forall_mem_cons.mpr ⟨f8, List.forall_mem_cons.mpr ⟨f9, fun _ h => absurd h List.not_mem_nil⟩⟩⟩⟩⟩⟩⟩⟩⟩⟩) hR
    obtain rfl := List.mem_singleton.mp hoe
    obtain ⟨x, rfl, ex⟩ := rtA
    obtain ⟨y, rfl, ey⟩ := rtB
    have ex : (0 : Int) + (1 * ρ2 21 + 0) = x.toInt := ex
    have ey : (0 : Int) + (1 * ρ2 21 + 0) = y.toInt := ey
    have exy : x = y := Int32.toInt_inj.mp (by omega)
    subst exy
    exact fin cA cB FR
  have k5 : (5 : Int32).toInt = 5 := rfl
  obtain rfl : a1 = 5 := Int32.toInt_inj.mp (by omega)
  obtain ⟨n, hn⟩ : ∃ n : Nat, (n : Int) = ρ 6 := ⟨(ρ 6).toNat, Int.toNat_of_nonneg r6.1⟩
  obtain ⟨nS, hnS⟩ : ∃ n : Nat, (n : Int) = ρ 4 := ⟨(ρ 4).toNat, Int.toNat_of_nonneg r4.1⟩
  have R240 : RLO h 240 0 0 := by have q := c17; rw [show ρ 17 = 0 from Int.le_antisymm r17.2 r17.1] at q; exact q
  obtain ⟨d', rfl⟩ : ∃ d', d = d' + 3 := ⟨d - 3, by omega⟩
  obtain ⟨r, cA, cB⟩ := has_5 (d := d') (s := a0) (cnt_le (m := 10) hn r6.2) (cnt_le (m := 3) hnS r4.2) (cnt_n hn c6) (cnt_n (hn.trans (eqI f2 f3)) c7) (cnt_n hnS c4) (cnt_n (hnS.trans (eqI f0 f1)) c5) R240
  exact fin cA cB (by rw [mx_self]; exact Frm.rf)

