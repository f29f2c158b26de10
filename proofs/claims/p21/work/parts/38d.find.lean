/-! Sorted numbers of those who are able: the class reckons the least sums ahead. -/
noncomputable def posI (S : Nat → Int) (v : Int) : Nat → Nat
  | 0 => 0
  | p + 1 => if v < S p then posI S v p else p + 1
theorem posI_le {S : Nat → Int} {v : Int} : ∀ {n : Nat}, posI S v n ≤ n
  | 0 => Nat.le_refl 0
  | n + 1 => by
    have := posI_le (S := S) (v := v) (n := n)
    unfold posI
    split <;> omega
theorem posI_hi {S : Nat → Int} {v : Int} : ∀ {n : Nat} (i : Nat), posI S v n ≤ i → i < n → v < S i
  | 0, i, _, h => absurd h (Nat.not_lt_zero i)
  | n + 1, i, h, hi => by
    unfold posI at h
    split at h
    · rename_i q
      by_cases e : i = n
      · subst e
        exact q
      · exact posI_hi i h (by omega)
    · omega
theorem posI_lo {S : Nat → Int} {v : Int} : ∀ {n : Nat}, 0 < posI S v n → S (posI S v n - 1) ≤ v
  | 0, h => absurd h (Nat.lt_irrefl 0)
  | n + 1, h => by
    unfold posI at h ⊢
    split
    · rename_i q
      rw [if_pos q] at h
      exact posI_lo h
    · rename_i q
      exact Int.not_lt.mp q
theorem posI_in {S : Nat → Int} {v : Int} {n : Nat} (hs : ∀ i j, i < j → j < n → S i ≤ S j) : InP S n (posI S v n) v := by
  have l := posI_le (S := S) (v := v) (n := n)
  refine ⟨l, fun i hi => ?_, posI_hi⟩
  have := posI_lo (S := S) (v := v) (n := n) (by omega)
  by_cases e : i = posI S v n - 1
  · rw [e]; exact this
  · have := hs i (posI S v n - 1) (by omega) (by omega)
    omega
/-- behind the last so many of n: their sorted numbers, how many -/
noncomputable def srt (T : Nat → Int) (ch : Nat → Bool) (n : Nat) : Nat → (Nat → Int) × Nat
  | 0 => (fun _ => 0, 0)
  | m + 1 => if ch (n - 1 - m) = true then (insP (srt T ch n m).1 (posI (srt T ch n m).1 (T (n - 1 - m)) (srt T ch n m).2) (T (n - 1 - m)), (srt T ch n m).2 + 1) else srt T ch n m
theorem srt_le {T : Nat → Int} {ch : Nat → Bool} {n : Nat} : ∀ {m : Nat}, (srt T ch n m).2 ≤ m
  | 0 => Nat.le_refl 0
  | m + 1 => by
    have := srt_le (T := T) (ch := ch) (n := n) (m := m)
    unfold srt
    split
    · show (srt T ch n m).2 + 1 ≤ m + 1
      omega
    · omega
theorem srt_srt {T : Nat → Int} {ch : Nat → Bool} {n : Nat} : ∀ {m : Nat}, ∀ i j, i < j → j < (srt T ch n m).2 → (srt T ch n m).1 i ≤ (srt T ch n m).1 j
  | 0, i, j, _, h => absurd h (Nat.not_lt_zero j)
  | m + 1, i, j, hij, h => by
    have ih := srt_srt (T := T) (ch := ch) (n := n) (m := m)
    unfold srt at h ⊢
    split at h
    · rename_i q
      rw [if_pos q]
      exact insP_srt (posI_in ih) ih i j hij h
    · rename_i q
      rw [if_neg q]
      exact ih i j hij h
theorem srt_b {T : Nat → Int} {ch : Nat → Bool} {n : Nat} (hT : ∀ i, 0 ≤ T i ∧ T i ≤ 20000) : ∀ {m : Nat} (i : Nat), 0 ≤ (srt T ch n m).1 i ∧ (srt T ch n m).1 i ≤ 20000
  | 0, i => ⟨Int.le_refl 0, by show (0 : Int) ≤ 20000; decide⟩
  | m + 1, i => by
    have ih := srt_b (T := T) (ch := ch) (n := n) hT (m := m)
    unfold srt
    split
    · show 0 ≤ insP _ _ _ i ∧ insP _ _ _ i ≤ 20000
      unfold insP
      split
      · exact ih i
      · split
        · exact hT _
        · exact ih _
    · exact ih i
theorem pre_b {S : Nat → Int} (hS : ∀ i, 0 ≤ S i ∧ S i ≤ 20000) : ∀ {m : Nat}, 0 ≤ pre S m ∧ pre S m ≤ 20000 * m
  | 0 => ⟨Int.le_refl 0, by show (0 : Int) ≤ _; omega⟩
  | m + 1 => by
    have ih := pre_b hS (m := m)
    have := hS m
    show 0 ≤ pre S m + S m ∧ pre S m + S m ≤ 20000 * ((m + 1 : Nat) : Int)
    omega
theorem srt_LTO {n : Nat} {T : Nat → Int} {ch : Nat → Bool} : LTO n T (fun i => ch i = true) (fun x => (srt T ch n (n - x)).2) (fun x m => pre (srt T ch n (n - x)).1 m) := by
  have st : ∀ x, x < n → srt T ch n (n - x) = if ch x = true then (insP (srt T ch n (n - (x + 1))).1 (posI (srt T ch n (n - (x + 1))).1 (T x) (srt T ch n (n - (x + 1))).2) (T x), (srt T ch n (n - (x + 1))).2 + 1) else srt T ch n (n - (x + 1)) := fun x hx => by
    obtain ⟨m, hm⟩ : ∃ m, n - x = m + 1 := ⟨n - x - 1, by omega⟩
    have h1 : n - (x + 1) = m := by omega
    have h2 : n - 1 - m = x := by omega
    rw [hm, h1]
    show (if ch (n - 1 - m) = true then _ else _) = _
    rw [h2]
  refine ⟨?_, fun x hx hc => ?_, fun x hx hc => ?_, ?_, fun x hx hc m hm => ?_, fun x hx m hm => ?_⟩
  · dsimp only [Bst.c_mk, Bst.s_mk, Bst.g_mk, Fp.n_mk, Fp.T_mk, Fp.C_mk, Fp.W_mk, Fp.B_mk, Fp.ab_mk, Fp.ls_mk]
    rw [Nat.sub_self]
    rfl
  · dsimp only [Bst.c_mk, Bst.s_mk, Bst.g_mk, Fp.n_mk, Fp.T_mk, Fp.C_mk, Fp.W_mk, Fp.B_mk, Fp.ab_mk, Fp.ls_mk]
    rw [st x hx, if_pos hc]
  · dsimp only [Bst.c_mk, Bst.s_mk, Bst.g_mk, Fp.n_mk, Fp.T_mk, Fp.C_mk, Fp.W_mk, Fp.B_mk, Fp.ab_mk, Fp.ls_mk]
    rw [st x hx, if_neg hc]
  · rfl
  · dsimp only [Bst.c_mk, Bst.s_mk, Bst.g_mk, Fp.n_mk, Fp.T_mk, Fp.C_mk, Fp.W_mk, Fp.B_mk, Fp.ab_mk, Fp.ls_mk] at hm ⊢
    rw [st x hx, if_pos hc]
    exact insP_A (posI_in srt_srt)
  · dsimp only [Bst.c_mk, Bst.s_mk, Bst.g_mk, Fp.n_mk, Fp.T_mk, Fp.C_mk, Fp.W_mk, Fp.B_mk, Fp.ab_mk, Fp.ls_mk] at hm ⊢
    rw [st x hx]
    split
    · exact insP_B (posI_in srt_srt) hm
    · exact Int.le_refl _
/-- may work there, as the class asks -/
noncomputable def mwA (h : Hp) (x k : Int32) : Prop := ¬ h.1 5 ((x * 14) + 11) = 1 ∧ h.1 5 ((x * 14) + 0) ≤ h.1 3 ((k * 8) + 1) ∧ h.1 3 ((k * 8) + 2) ≤ h.1 5 ((x * 14) + 1) ∧ ¬ h.1 5 ((x * 14) + 9) = h.1 1 5 ∧ h.1 3 ((k * 8) + 4) = 0
/-- SHOPS as bits -/
noncomputable def chB_ (W : Nat → Bool) : Nat → Nat
  | 0 => 0
  | k + 1 => if W k = true then chB_ W k ||| 2 ^ k else chB_ W k
theorem chB_1 {W : Nat → Bool} {k : Nat} (h : W k = true) : chB_ W (k + 1) = chB_ W k ||| 2 ^ k := if_pos h
theorem chB_0 {W : Nat → Bool} {k : Nat} (h : ¬ W k = true) : chB_ W (k + 1) = chB_ W k := if_neg h
theorem chB_p {W : Nat → Bool} : ∀ {k : Nat}, chB_ W k < 2 ^ k
  | 0 => by show (0 : Nat) < 2 ^ 0; decide
  | k + 1 => by
    have ih := chB_p (W := W) (k := k)
    unfold chB_
    have h2 : 2 ^ k < 2 ^ (k + 1) := Nat.pow_lt_pow_right (by decide) (Nat.lt_succ_self k)
    split
    · exact Nat.or_lt_two_pow (Nat.lt_trans ih h2) h2
    · exact Nat.lt_trans ih h2
theorem chB_lt {W : Nat → Bool} {k : Nat} (hk : k ≤ 10) : chB_ W k < 1024 := Nat.lt_of_lt_of_le chB_p (p10 hk)
theorem chB_bit {W : Nat → Bool} {i : Nat} : ∀ {k : Nat}, (chB_ W k).testBit i = (decide (i < k) && W i)
  | 0 => by
    show (0 : Nat).testBit i = _
    rw [Nat.zero_testBit, decide_eq_false (Nat.not_lt_zero i)]
    rfl
  | k + 1 => by
    have ih := chB_bit (W := W) (i := i) (k := k)
    unfold chB_
    by_cases e : k = i
    · subst e
      rw [decide_eq_true (Nat.lt_succ_self k), Bool.true_and]
      split
      · rename_i q
        rw [Nat.testBit_or, Nat.testBit_two_pow, decide_eq_true rfl, Bool.or_true, q]
      · rename_i q
        rw [ih, decide_eq_false (Nat.lt_irrefl k), Bool.false_and, (Bool.not_eq_true _).mp q]
    · have d : decide (i < k + 1) = decide (i < k) := by
        by_cases q : i < k
        · rw [decide_eq_true q, decide_eq_true (by omega)]
        · rw [decide_eq_false q, decide_eq_false (by omega)]
      rw [d, ← ih]
      split
      · rw [Nat.testBit_or, Nat.testBit_two_pow, decide_eq_false e, Bool.or_false]
      · rfl
/-- sorted numbers are written alone -/
noncomputable def fr52 (h h' : Hp) : Prop := (∀ o (j : Int32), o ≠ 52 → h'.1 o j = h.1 o j) ∧ h'.2 = h.2
theorem fr52_rf {h : Hp} : fr52 h h := ⟨fun _ _ _ => rfl, rfl⟩
theorem fr52.st {h h1 : Hp} (f : fr52 h h1) {o : Nat} {j v : Int32} (ho : o = 52) : fr52 h (hI h1 o j v) := by
  subst ho
  exact ⟨fun a k q => (hI_ne q).trans (f.1 a k q), f.2⟩
noncomputable abbrev SrtI (n : Nat) (v : Int32) (S : Nat → Int) (h0 : Hp) (p : Nat) (h : Hp) : Prop := (fr52 h0 h) ∧ (∀ i, i < p → (h.1 52 (nI i)).toInt = S i) ∧ (∀ i, p < i → i ≤ n → (h.1 52 (nI i)).toInt = S (i - 1)) ∧ (posI S v.toInt n = posI S v.toInt p)
theorem SrtI.fr {n : Nat} {v : Int32} {S : Nat → Int} {h0 : Hp} {p : Nat} {h : Hp} (self_ : SrtI n v S h0 p h) : fr52 h0 h := self_.1
theorem SrtI.lo {n : Nat} {v : Int32} {S : Nat → Int} {h0 : Hp} {p : Nat} {h : Hp} (self_ : SrtI n v S h0 p h) : ∀ i, i < p → (h.1 52 (nI i)).toInt = S i := self_.2.1
theorem SrtI.hi {n : Nat} {v : Int32} {S : Nat → Int} {h0 : Hp} {p : Nat} {h : Hp} (self_ : SrtI n v S h0 p h) : ∀ i, p < i → i ≤ n → (h.1 52 (nI i)).toInt = S (i - 1) := self_.2.2.1
theorem SrtI.po {n : Nat} {v : Int32} {S : Nat → Int} {h0 : Hp} {p : Nat} {h : Hp} (self_ : SrtI n v S h0 p h) : posI S v.toInt n = posI S v.toInt p := self_.2.2.2
theorem SrtI.le {n : Nat} {v : Int32} {S : Nat → Int} {h0 : Hp} {p : Nat} {h : Hp} (I : SrtI n v S h0 (p + 1) h) (hp : p ≤ n) (q : h.1 52 (nI p) ≤ v) : ¬ v.toInt < S p := by
  rw [Int32.le_iff_toInt_le, I.lo p (Nat.lt_succ_self p)] at q
  omega
theorem SrtI.stp {n : Nat} {v : Int32} {S : Nat → Int} {h0 : Hp} {p : Nat} {h : Hp} (I : SrtI n v S h0 (p + 1) h) (hn : n ≤ 10) (hp : p + 1 ≤ n) (q : v < h.1 52 (nI p)) : SrtI n v S h0 p (hI h 52 (nI (p + 1)) (h.1 52 (nI p))) := by
  rw [Int32.lt_iff_toInt_lt, I.lo p (Nat.lt_succ_self p)] at q
  refine ⟨I.fr.st rfl, fun i hi => ?_, fun i h1 h2 => ?_, ?_⟩
  · rw [hI_j (fun z => by have := (nIle_eq (by omega) (by omega)).mp z; omega)]
    exact I.lo i (by omega)
  · by_cases e : i = p + 1
    · subst e
      rw [hI_eq]
      exact I.lo p (Nat.lt_succ_self p)
    · rw [hI_j (fun z => e ((nIle_eq (by omega) (by omega)).mp z))]
      exact I.hi i (by omega) h2
  · rw [I.po]
    show (if v.toInt < S p then posI S v.toInt p else p + 1) = _
    rw [if_pos q]
theorem posI_0 {S : Nat → Int} {v : Int} {n : Nat} (h : posI S v n = posI S v 0) : posI S v n = 0 := h
theorem posI_s {S : Nat → Int} {v : Int} {n p : Nat} (h : posI S v n = posI S v (p + 1)) (q : ¬ v < S p) : posI S v n = p + 1 := by
  rw [h]
  exact if_neg q
theorem SrtI.fin {n : Nat} {v : Int32} {S : Nat → Int} {h0 : Hp} {p : Nat} {h : Hp} (I : SrtI n v S h0 p h) (hn : n ≤ 10) (hp : p ≤ n) (e : posI S v.toInt n = p) : ∀ i, i ≤ n → ((hI h 52 (nI p) v).1 52 (nI i)).toInt = insP S (posI S v.toInt n) v.toInt i := by
  intro i hi
  rw [e]
  unfold insP
  by_cases q : i = p
  · subst q
    rw [hI_eq, if_neg (Nat.lt_irrefl i), if_pos rfl]
  · rw [hI_j (fun z => q ((nIle_eq (by omega) (by omega)).mp z))]
    by_cases l : i < p
    · rw [if_pos l]
      exact I.lo i l
    · rw [if_neg l, if_neg q]
      exact I.hi i (by omega) hi
theorem c_getH0 {d : Nat} {Q : Option Value → Hp → Prop} {h : Hp} {x : Int32} (x0 : 0 ≤ x) (x1 : x < h.1 4 2) (xm : h.1 4 2 ≤ 10) (k : Q (some (.int (h.1 5 ((x * 14) + 0)))) h) : Call (d + 1) 94 [.ref 4, .int x, .int 0] h Q := by
  refine call_of (rfl : psM[94]? = some _) rfl rfl (rcvV rfl) (fun X hX => ?_)
  show X (0, [some (.ref 4), some (.int x), some (.int 0)], [], h)
  refine go hX 2 (gs := [True, True]) (z' := (if x < 0 then 24 else 4, [some (.ref 4), some (.int x), some (.int 0)], [], h)) rfl ⟨trivial, trivial, trivial⟩ ?_
  refine br (fun b1 => ?_) (fun b1 => ?_)
  ·
    refine go hX 1 (gs := [True]) (z' := (25, [some (.ref 4), some (.int x), some (.int 0)], [.int 0], h)) rfl ⟨trivial, trivial⟩ ?_
    refine rt_ hX (G := True) (r := some (.int 0)) rfl trivial ?_
    exfalso; grind
  ·
    refine go hX 4 (gs := [True, True, True, True]) (z' := (if (h.1 4 2) ≤ x then 24 else 12, [some (.ref 4), some (.int x), some (.int 0)], [], h)) rfl ⟨trivial, trivial, trivial, trivial, trivial⟩ ?_
    refine br (fun b2 => ?_) (fun b2 => ?_)
    ·
      refine go hX 1 (gs := [True]) (z' := (25, [some (.ref 4), some (.int x), some (.int 0)], [.int 0], h)) rfl ⟨trivial, trivial⟩ ?_
      refine rt_ hX (G := True) (r := some (.int 0)) rfl trivial ?_
      exfalso; grind
    ·
      refine go hX 15 (gs := [ibd ((x * 14) + 0) 140, True, True, True, True, True, True, True, True, True, True, True, True, True, True]) (z' := (39, [some (.ref 4), some (.int x), some (.int 0)], [.int (h.1 5 ((x * 14) + 0))], h)) rfl ⟨?_, trivial, trivial, trivial, trivial, trivial, trivial, trivial, trivial, trivial, trivial, trivial, trivial, trivial, trivial, trivial⟩ ?_
      · exact ibd_of (B := 140) rfl (by grind) (by grind)
      refine rt_ hX (G := True) (r := some (.int (h.1 5 ((x * 14) + 0)))) rfl trivial ?_
      exact k
theorem c_getH1 {d : Nat} {Q : Option Value → Hp → Prop} {h : Hp} {x : Int32} (x0 : 0 ≤ x) (x1 : x < h.1 4 2) (xm : h.1 4 2 ≤ 10) (k : Q (some (.int (h.1 5 ((x * 14) + 1)))) h) : Call (d + 1) 94 [.ref 4, .int x, .int 1] h Q := by
  refine call_of (rfl : psM[94]? = some _) rfl rfl (rcvV rfl) (fun X hX => ?_)
  show X (0, [some (.ref 4), some (.int x), some (.int 1)], [], h)
  refine go hX 2 (gs := [True, True]) (z' := (if x < 0 then 24 else 4, [some (.ref 4), some (.int x), some (.int 1)], [], h)) rfl ⟨trivial, trivial, trivial⟩ ?_
  refine br (fun b1 => ?_) (fun b1 => ?_)
  ·
    refine go hX 1 (gs := [True]) (z' := (25, [some (.ref 4), some (.int x), some (.int 1)], [.int 0], h)) rfl ⟨trivial, trivial⟩ ?_
    refine rt_ hX (G := True) (r := some (.int 0)) rfl trivial ?_
    exfalso; grind
  ·
    refine go hX 4 (gs := [True, True, True, True]) (z' := (if (h.1 4 2) ≤ x then 24 else 12, [some (.ref 4), some (.int x), some (.int 1)], [], h)) rfl ⟨trivial, trivial, trivial, trivial, trivial⟩ ?_
    refine br (fun b2 => ?_) (fun b2 => ?_)
    ·
      refine go hX 1 (gs := [True]) (z' := (25, [some (.ref 4), some (.int x), some (.int 1)], [.int 0], h)) rfl ⟨trivial, trivial⟩ ?_
      refine rt_ hX (G := True) (r := some (.int 0)) rfl trivial ?_
      exfalso; grind
    ·
      refine go hX 15 (gs := [ibd ((x * 14) + 1) 140, True, True, True, True, True, True, True, True, True, True, True, True, True, True]) (z' := (39, [some (.ref 4), some (.int x), some (.int 1)], [.int (h.1 5 ((x * 14) + 1))], h)) rfl ⟨?_, trivial, trivial, trivial, trivial, trivial, trivial, trivial, trivial, trivial, trivial, trivial, trivial, trivial, trivial, trivial⟩ ?_
      · exact ibd_of (B := 140) rfl (by grind) (by grind)
      refine rt_ hX (G := True) (r := some (.int (h.1 5 ((x * 14) + 1)))) rfl trivial ?_
      exact k
theorem c_getH6 {d : Nat} {Q : Option Value → Hp → Prop} {h : Hp} {x : Int32} (x0 : 0 ≤ x) (x1 : x < h.1 4 2) (xm : h.1 4 2 ≤ 10) (k : Q (some (.int (h.1 5 ((x * 14) + 6)))) h) : Call (d + 1) 94 [.ref 4, .int x, .int 6] h Q := by
  refine call_of (rfl : psM[94]? = some _) rfl rfl (rcvV rfl) (fun X hX => ?_)
  show X (0, [some (.ref 4), some (.int x), some (.int 6)], [], h)
  refine go hX 2 (gs := [True, True]) (z' := (if x < 0 then 24 else 4, [some (.ref 4), some (.int x), some (.int 6)], [], h)) rfl ⟨trivial, trivial, trivial⟩ ?_
  refine br (fun b1 => ?_) (fun b1 => ?_)
  ·
    refine go hX 1 (gs := [True]) (z' := (25, [some (.ref 4), some (.int x), some (.int 6)], [.int 0], h)) rfl ⟨trivial, trivial⟩ ?_
    refine rt_ hX (G := True) (r := some (.int 0)) rfl trivial ?_
    exfalso; grind
  ·
    refine go hX 4 (gs := [True, True, True, True]) (z' := (if (h.1 4 2) ≤ x then 24 else 12, [some (.ref 4), some (.int x), some (.int 6)], [], h)) rfl ⟨trivial, trivial, trivial, trivial, trivial⟩ ?_
    refine br (fun b2 => ?_) (fun b2 => ?_)
    ·
      refine go hX 1 (gs := [True]) (z' := (25, [some (.ref 4), some (.int x), some (.int 6)], [.int 0], h)) rfl ⟨trivial, trivial⟩ ?_
      refine rt_ hX (G := True) (r := some (.int 0)) rfl trivial ?_
      exfalso; grind
    ·
      refine go hX 15 (gs := [ibd ((x * 14) + 6) 140, True, True, True, True, True, True, True, True, True, True, True, True, True, True]) (z' := (39, [some (.ref 4), some (.int x), some (.int 6)], [.int (h.1 5 ((x * 14) + 6))], h)) rfl ⟨?_, trivial, trivial, trivial, trivial, trivial, trivial, trivial, trivial, trivial, trivial, trivial, trivial, trivial, trivial, trivial⟩ ?_
      · exact ibd_of (B := 140) rfl (by grind) (by grind)
      refine rt_ hX (G := True) (r := some (.int (h.1 5 ((x * 14) + 6)))) rfl trivial ?_
      exact k
theorem c_getH9 {d : Nat} {Q : Option Value → Hp → Prop} {h : Hp} {x : Int32} (x0 : 0 ≤ x) (x1 : x < h.1 4 2) (xm : h.1 4 2 ≤ 10) (k : Q (some (.int (h.1 5 ((x * 14) + 9)))) h) : Call (d + 1) 94 [.ref 4, .int x, .int 9] h Q := by
  refine call_of (rfl : psM[94]? = some _) rfl rfl (rcvV rfl) (fun X hX => ?_)
  show X (0, [some (.ref 4), some (.int x), some (.int 9)], [], h)
  refine go hX 2 (gs := [True, True]) (z' := (if x < 0 then 24 else 4, [some (.ref 4), some (.int x), some (.int 9)], [], h)) rfl ⟨trivial, trivial, trivial⟩ ?_
  refine br (fun b1 => ?_) (fun b1 => ?_)
  ·
    refine go hX 1 (gs := [True]) (z' := (25, [some (.ref 4), some (.int x), some (.int 9)], [.int 0], h)) rfl ⟨trivial, trivial⟩ ?_
    refine rt_ hX (G := True) (r := some (.int 0)) rfl trivial ?_
    exfalso; grind
  ·
    refine go hX 4 (gs := [True, True, True, True]) (z' := (if (h.1 4 2) ≤ x then 24 else 12, [some (.ref 4), some (.int x), some (.int 9)], [], h)) rfl ⟨trivial, trivial, trivial, trivial, trivial⟩ ?_
    refine br (fun b2 => ?_) (fun b2 => ?_)
    ·
      refine go hX 1 (gs := [True]) (z' := (25, [some (.ref 4), some (.int x), some (.int 9)], [.int 0], h)) rfl ⟨trivial, trivial⟩ ?_
      refine rt_ hX (G := True) (r := some (.int 0)) rfl trivial ?_
      exfalso; grind
    ·
      refine go hX 15 (gs := [ibd ((x * 14) + 9) 140, True, True, True, True, True, True, True, True, True, True, True, True, True, True]) (z' := (39, [some (.ref 4), some (.int x), some (.int 9)], [.int (h.1 5 ((x * 14) + 9))], h)) rfl ⟨?_, trivial, trivial, trivial, trivial, trivial, trivial, trivial, trivial, trivial, trivial, trivial, trivial, trivial, trivial, trivial⟩ ?_
      · exact ibd_of (B := 140) rfl (by grind) (by grind)
      refine rt_ hX (G := True) (r := some (.int (h.1 5 ((x * 14) + 9)))) rfl trivial ?_
      exact k
theorem c_getH11 {d : Nat} {Q : Option Value → Hp → Prop} {h : Hp} {x : Int32} (x0 : 0 ≤ x) (x1 : x < h.1 4 2) (xm : h.1 4 2 ≤ 10) (k : Q (some (.int (h.1 5 ((x * 14) + 11)))) h) : Call (d + 1) 94 [.ref 4, .int x, .int 11] h Q := by
  refine call_of (rfl : psM[94]? = some _) rfl rfl (rcvV rfl) (fun X hX => ?_)
  show X (0, [some (.ref 4), some (.int x), some (.int 11)], [], h)
  refine go hX 2 (gs := [True, True]) (z' := (if x < 0 then 24 else 4, [some (.ref 4), some (.int x), some (.int 11)], [], h)) rfl ⟨trivial, trivial, trivial⟩ ?_
  refine br (fun b1 => ?_) (fun b1 => ?_)
  ·
    refine go hX 1 (gs := [True]) (z' := (25, [some (.ref 4), some (.int x), some (.int 11)], [.int 0], h)) rfl ⟨trivial, trivial⟩ ?_
    refine rt_ hX (G := True) (r := some (.int 0)) rfl trivial ?_
    exfalso; grind
  ·
    refine go hX 4 (gs := [True, True, True, True]) (z' := (if (h.1 4 2) ≤ x then 24 else 12, [some (.ref 4), some (.int x), some (.int 11)], [], h)) rfl ⟨trivial, trivial, trivial, trivial, trivial⟩ ?_
    refine br (fun b2 => ?_) (fun b2 => ?_)
    ·
      refine go hX 1 (gs := [True]) (z' := (25, [some (.ref 4), some (.int x), some (.int 11)], [.int 0], h)) rfl ⟨trivial, trivial⟩ ?_
      refine rt_ hX (G := True) (r := some (.int 0)) rfl trivial ?_
      exfalso; grind
    ·
      refine go hX 15 (gs := [ibd ((x * 14) + 11) 140, True, True, True, True, True, True, True, True, True, True, True, True, True, True]) (z' := (39, [some (.ref 4), some (.int x), some (.int 11)], [.int (h.1 5 ((x * 14) + 11))], h)) rfl ⟨?_, trivial, trivial, trivial, trivial, trivial, trivial, trivial, trivial, trivial, trivial, trivial, trivial, trivial, trivial, trivial⟩ ?_
      · exact ibd_of (B := 140) rfl (by grind) (by grind)
      refine rt_ hX (G := True) (r := some (.int (h.1 5 ((x * 14) + 11)))) rfl trivial ?_
      exact k
theorem c_getH12 {d : Nat} {Q : Option Value → Hp → Prop} {h : Hp} {x : Int32} (x0 : 0 ≤ x) (x1 : x < h.1 4 2) (xm : h.1 4 2 ≤ 10) (k : Q (some (.int (h.1 5 ((x * 14) + 12)))) h) : Call (d + 1) 94 [.ref 4, .int x, .int 12] h Q := by
  refine call_of (rfl : psM[94]? = some _) rfl rfl (rcvV rfl) (fun X hX => ?_)
  show X (0, [some (.ref 4), some (.int x), some (.int 12)], [], h)
  refine go hX 2 (gs := [True, True]) (z' := (if x < 0 then 24 else 4, [some (.ref 4), some (.int x), some (.int 12)], [], h)) rfl ⟨trivial, trivial, trivial⟩ ?_
  refine br (fun b1 => ?_) (fun b1 => ?_)
  ·
    refine go hX 1 (gs := [True]) (z' := (25, [some (.ref 4), some (.int x), some (.int 12)], [.int 0], h)) rfl ⟨trivial, trivial⟩ ?_
    refine rt_ hX (G := True) (r := some (.int 0)) rfl trivial ?_
    exfalso; grind
  ·
    refine go hX 4 (gs := [True, True, True, True]) (z' := (if (h.1 4 2) ≤ x then 24 else 12, [some (.ref 4), some (.int x), some (.int 12)], [], h)) rfl ⟨trivial, trivial, trivial, trivial, trivial⟩ ?_
    refine br (fun b2 => ?_) (fun b2 => ?_)
    ·
      refine go hX 1 (gs := [True]) (z' := (25, [some (.ref 4), some (.int x), some (.int 12)], [.int 0], h)) rfl ⟨trivial, trivial⟩ ?_
      refine rt_ hX (G := True) (r := some (.int 0)) rfl trivial ?_
      exfalso; grind
    ·
      refine go hX 15 (gs := [ibd ((x * 14) + 12) 140, True, True, True, True, True, True, True, True, True, True, True, True, True, True]) (z' := (39, [some (.ref 4), some (.int x), some (.int 12)], [.int (h.1 5 ((x * 14) + 12))], h)) rfl ⟨?_, trivial, trivial, trivial, trivial, trivial, trivial, trivial, trivial, trivial, trivial, trivial, trivial, trivial, trivial, trivial⟩ ?_
      · exact ibd_of (B := 140) rfl (by grind) (by grind)
      refine rt_ hX (G := True) (r := some (.int (h.1 5 ((x * 14) + 12)))) rfl trivial ?_
      exact k
theorem c_getS0 {d : Nat} {Q : Option Value → Hp → Prop} {h : Hp} {x : Int32} (x0 : 0 ≤ x) (x1 : x < h.1 2 2) (xm : h.1 2 2 ≤ 3) (k : Q (some (.int (h.1 3 ((x * 8) + 0)))) h) : Call (d + 1) 94 [.ref 2, .int x, .int 0] h Q := by
  refine call_of (rfl : psM[94]? = some _) rfl rfl (rcvV rfl) (fun X hX => ?_)
  show X (0, [some (.ref 2), some (.int x), some (.int 0)], [], h)
  refine go hX 2 (gs := [True, True]) (z' := (if x < 0 then 24 else 4, [some (.ref 2), some (.int x), some (.int 0)], [], h)) rfl ⟨trivial, trivial, trivial⟩ ?_
  refine br (fun b1 => ?_) (fun b1 => ?_)
  ·
    refine go hX 1 (gs := [True]) (z' := (25, [some (.ref 2), some (.int x), some (.int 0)], [.int 0], h)) rfl ⟨trivial, trivial⟩ ?_
    refine rt_ hX (G := True) (r := some (.int 0)) rfl trivial ?_
    exfalso; grind
  ·
    refine go hX 4 (gs := [True, True, True, True]) (z' := (if (h.1 2 2) ≤ x then 24 else 12, [some (.ref 2), some (.int x), some (.int 0)], [], h)) rfl ⟨trivial, trivial, trivial, trivial, trivial⟩ ?_
    refine br (fun b2 => ?_) (fun b2 => ?_)
    ·
      refine go hX 1 (gs := [True]) (z' := (25, [some (.ref 2), some (.int x), some (.int 0)], [.int 0], h)) rfl ⟨trivial, trivial⟩ ?_
      refine rt_ hX (G := True) (r := some (.int 0)) rfl trivial ?_
      exfalso; grind
    ·
      refine go hX 15 (gs := [ibd ((x * 8) + 0) 24, True, True, True, True, True, True, True, True, True, True, True, True, True, True]) (z' := (39, [some (.ref 2), some (.int x), some (.int 0)], [.int (h.1 3 ((x * 8) + 0))], h)) rfl ⟨?_, trivial, trivial, trivial, trivial, trivial, trivial, trivial, trivial, trivial, trivial, trivial, trivial, trivial, trivial, trivial⟩ ?_
      · exact ibd_of (B := 24) rfl (by grind) (by grind)
      refine rt_ hX (G := True) (r := some (.int (h.1 3 ((x * 8) + 0)))) rfl trivial ?_
      exact k
theorem c_getS1 {d : Nat} {Q : Option Value → Hp → Prop} {h : Hp} {x : Int32} (x0 : 0 ≤ x) (x1 : x < h.1 2 2) (xm : h.1 2 2 ≤ 3) (k : Q (some (.int (h.1 3 ((x * 8) + 1)))) h) : Call (d + 1) 94 [.ref 2, .int x, .int 1] h Q := by
  refine call_of (rfl : psM[94]? = some _) rfl rfl (rcvV rfl) (fun X hX => ?_)
  show X (0, [some (.ref 2), some (.int x), some (.int 1)], [], h)
  refine go hX 2 (gs := [True, True]) (z' := (if x < 0 then 24 else 4, [some (.ref 2), some (.int x), some (.int 1)], [], h)) rfl ⟨trivial, trivial, trivial⟩ ?_
  refine br (fun b1 => ?_) (fun b1 => ?_)
  ·
    refine go hX 1 (gs := [True]) (z' := (25, [some (.ref 2), some (.int x), some (.int 1)], [.int 0], h)) rfl ⟨trivial, trivial⟩ ?_
    refine rt_ hX (G := True) (r := some (.int 0)) rfl trivial ?_
    exfalso; grind
  ·
    refine go hX 4 (gs := [True, True, True, True]) (z' := (if (h.1 2 2) ≤ x then 24 else 12, [some (.ref 2), some (.int x), some (.int 1)], [], h)) rfl ⟨trivial, trivial, trivial, trivial, trivial⟩ ?_
    refine br (fun b2 => ?_) (fun b2 => ?_)
    ·
      refine go hX 1 (gs := [True]) (z' := (25, [some (.ref 2), some (.int x), some (.int 1)], [.int 0], h)) rfl ⟨trivial, trivial⟩ ?_
      refine rt_ hX (G := True) (r := some (.int 0)) rfl trivial ?_
      exfalso; grind
    ·
      refine go hX 15 (gs := [ibd ((x * 8) + 1) 24, True, True, True, True, True, True, True, True, True, True, True, True, True, True]) (z' := (39, [some (.ref 2), some (.int x), some (.int 1)], [.int (h.1 3 ((x * 8) + 1))], h)) rfl ⟨?_, trivial, trivial, trivial, trivial, trivial, trivial, trivial, trivial, trivial, trivial, trivial, trivial, trivial, trivial, trivial⟩ ?_
      · exact ibd_of (B := 24) rfl (by grind) (by grind)
      refine rt_ hX (G := True) (r := some (.int (h.1 3 ((x * 8) + 1)))) rfl trivial ?_
      exact k
theorem c_getS2 {d : Nat} {Q : Option Value → Hp → Prop} {h : Hp} {x : Int32} (x0 : 0 ≤ x) (x1 : x < h.1 2 2) (xm : h.1 2 2 ≤ 3) (k : Q (some (.int (h.1 3 ((x * 8) + 2)))) h) : Call (d + 1) 94 [.ref 2, .int x, .int 2] h Q := by
  refine call_of (rfl : psM[94]? = some _) rfl rfl (rcvV rfl) (fun X hX => ?_)
  show X (0, [some (.ref 2), some (.int x), some (.int 2)], [], h)
  refine go hX 2 (gs := [True, True]) (z' := (if x < 0 then 24 else 4, [some (.ref 2), some (.int x), some (.int 2)], [], h)) rfl ⟨trivial, trivial, trivial⟩ ?_
  refine br (fun b1 => ?_) (fun b1 => ?_)
  ·
    refine go hX 1 (gs := [True]) (z' := (25, [some (.ref 2), some (.int x), some (.int 2)], [.int 0], h)) rfl ⟨trivial, trivial⟩ ?_
    refine rt_ hX (G := True) (r := some (.int 0)) rfl trivial ?_
    exfalso; grind
  ·
    refine go hX 4 (gs := [True, True, True, True]) (z' := (if (h.1 2 2) ≤ x then 24 else 12, [some (.ref 2), some (.int x), some (.int 2)], [], h)) rfl ⟨trivial, trivial, trivial, trivial, trivial⟩ ?_
    refine br (fun b2 => ?_) (fun b2 => ?_)
    ·
      refine go hX 1 (gs := [True]) (z' := (25, [some (.ref 2), some (.int x), some (.int 2)], [.int 0], h)) rfl ⟨trivial, trivial⟩ ?_
      refine rt_ hX (G := True) (r := some (.int 0)) rfl trivial ?_
      exfalso; grind
    ·
      refine go hX 15 (gs := [ibd ((x * 8) + 2) 24, True, True, True, True, True, True, True, True, True, True, True, True, True, True]) (z' := (39, [some (.ref 2), some (.int x), some (.int 2)], [.int (h.1 3 ((x * 8) + 2))], h)) rfl ⟨?_, trivial, trivial, trivial, trivial, trivial, trivial, trivial, trivial, trivial, trivial, trivial, trivial, trivial, trivial, trivial⟩ ?_
      · exact ibd_of (B := 24) rfl (by grind) (by grind)
      refine rt_ hX (G := True) (r := some (.int (h.1 3 ((x * 8) + 2)))) rfl trivial ?_
      exact k
theorem c_getS4 {d : Nat} {Q : Option Value → Hp → Prop} {h : Hp} {x : Int32} (x0 : 0 ≤ x) (x1 : x < h.1 2 2) (xm : h.1 2 2 ≤ 3) (k : Q (some (.int (h.1 3 ((x * 8) + 4)))) h) : Call (d + 1) 94 [.ref 2, .int x, .int 4] h Q := by
  refine call_of (rfl : psM[94]? = some _) rfl rfl (rcvV rfl) (fun X hX => ?_)
  show X (0, [some (.ref 2), some (.int x), some (.int 4)], [], h)
  refine go hX 2 (gs := [True, True]) (z' := (if x < 0 then 24 else 4, [some (.ref 2), some (.int x), some (.int 4)], [], h)) rfl ⟨trivial, trivial, trivial⟩ ?_
  refine br (fun b1 => ?_) (fun b1 => ?_)
  ·
    refine go hX 1 (gs := [True]) (z' := (25, [some (.ref 2), some (.int x), some (.int 4)], [.int 0], h)) rfl ⟨trivial, trivial⟩ ?_
    refine rt_ hX (G := True) (r := some (.int 0)) rfl trivial ?_
    exfalso; grind
  ·
    refine go hX 4 (gs := [True, True, True, True]) (z' := (if (h.1 2 2) ≤ x then 24 else 12, [some (.ref 2), some (.int x), some (.int 4)], [], h)) rfl ⟨trivial, trivial, trivial, trivial, trivial⟩ ?_
    refine br (fun b2 => ?_) (fun b2 => ?_)
    ·
      refine go hX 1 (gs := [True]) (z' := (25, [some (.ref 2), some (.int x), some (.int 4)], [.int 0], h)) rfl ⟨trivial, trivial⟩ ?_
      refine rt_ hX (G := True) (r := some (.int 0)) rfl trivial ?_
      exfalso; grind
    ·
      refine go hX 15 (gs := [ibd ((x * 8) + 4) 24, True, True, True, True, True, True, True, True, True, True, True, True, True, True]) (z' := (39, [some (.ref 2), some (.int x), some (.int 4)], [.int (h.1 3 ((x * 8) + 4))], h)) rfl ⟨?_, trivial, trivial, trivial, trivial, trivial, trivial, trivial, trivial, trivial, trivial, trivial, trivial, trivial, trivial, trivial⟩ ?_
      · exact ibd_of (B := 24) rfl (by grind) (by grind)
      refine rt_ hX (G := True) (r := some (.int (h.1 3 ((x * 8) + 4)))) rfl trivial ?_
      exact k
theorem c_getSo {d : Nat} {Q : Option Value → Hp → Prop} {h : Hp} {x : Int32} (xm : h.1 2 2 ≤ 3) (k1 : 0 ≤ x ∧ x < h.1 2 2 → Q (some (.int (h.1 3 ((x * 8) + 0)))) h) (k0 : ¬ (0 ≤ x ∧ x < h.1 2 2) → Q (some (.int 0)) h) : Call (d + 1) 94 [.ref 2, .int x, .int 0] h Q := by
  refine call_of (rfl : psM[94]? = some _) rfl rfl (rcvV rfl) (fun X hX => ?_)
  show X (0, [some (.ref 2), some (.int x), some (.int 0)], [], h)
  refine go hX 2 (gs := [True, True]) (z' := (if x < 0 then 24 else 4, [some (.ref 2), some (.int x), some (.int 0)], [], h)) rfl ⟨trivial, trivial, trivial⟩ ?_
  refine br (fun b1 => ?_) (fun b1 => ?_)
  ·
    refine go hX 1 (gs := [True]) (z' := (25, [some (.ref 2), some (.int x), some (.int 0)], [.int 0], h)) rfl ⟨trivial, trivial⟩ ?_
    refine rt_ hX (G := True) (r := some (.int 0)) rfl trivial ?_
    exact k0 (by grind)
  ·
    refine go hX 4 (gs := [True, True, True, True]) (z' := (if (h.1 2 2) ≤ x then 24 else 12, [some (.ref 2), some (.int x), some (.int 0)], [], h)) rfl ⟨trivial, trivial, trivial, trivial, trivial⟩ ?_
    refine br (fun b2 => ?_) (fun b2 => ?_)
    ·
      refine go hX 1 (gs := [True]) (z' := (25, [some (.ref 2), some (.int x), some (.int 0)], [.int 0], h)) rfl ⟨trivial, trivial⟩ ?_
      refine rt_ hX (G := True) (r := some (.int 0)) rfl trivial ?_
      exact k0 (by grind)
    ·
      refine go hX 15 (gs := [ibd ((x * 8) + 0) 24, True, True, True, True, True, True, True, True, True, True, True, True, True, True]) (z' := (39, [some (.ref 2), some (.int x), some (.int 0)], [.int (h.1 3 ((x * 8) + 0))], h)) rfl ⟨?_, trivial, trivial, trivial, trivial, trivial, trivial, trivial, trivial, trivial, trivial, trivial, trivial, trivial, trivial, trivial⟩ ?_
      · exact ibd_of (B := 24) rfl (by grind) (by grind)
      refine rt_ hX (G := True) (r := some (.int (h.1 3 ((x * 8) + 0)))) rfl trivial ?_
      exact k1 (by grind)
theorem c_isFrA {d : Nat} {Q : Option Value → Hp → Prop} {h : Hp} {x : Int32} (x0 : 0 ≤ x) (x1 : x < h.1 4 2) (xm : h.1 4 2 ≤ 10) (k1 : h.1 5 ((x * 14) + 11) = 1 → Q (some (.int 1)) h) (k0 : ¬ h.1 5 ((x * 14) + 11) = 1 → Q (some (.int 0)) h) : Call (d + 2) 62 [.ref 1, .int x] h Q := by
  refine call_of (rfl : psM[62]? = some _) rfl rfl (rcvV rfl) (fun X hX => ?_)
  show X (0, [some (.ref 1), some (.int x)], [], h)
  refine go hX 4 (gs := [True, True, True, True]) (z' := (7, [some (.ref 1), some (.int x)], [.int 11, .int x, .ref 4], h)) rfl ⟨trivial, trivial, trivial, trivial, trivial⟩ ?_
  refine cl hX 94 3 [.ref 4, .int x, .int 11] [] rfl rfl rfl rfl ?_
  refine c_getH11 x0 x1 xm ?_
  show X (10, [some (.ref 1), some (.int x)], [.int (h.1 5 ((x * 14) + 11))], h)
  refine go hX 2 (gs := [True, True]) (z' := (if (h.1 5 ((x * 14) + 11)) = 1 then 14 else 18, [some (.ref 1), some (.int x)], [], h)) rfl ⟨trivial, trivial, trivial⟩ ?_
  refine br (fun b1 => ?_) (fun b1 => ?_)
  ·
    refine go hX 2 (gs := [True, True]) (z' := (19, [some (.ref 1), some (.int x)], [.int 1], h)) rfl ⟨trivial, trivial, trivial⟩ ?_
    refine rt_ hX (G := isB 1) (r := some (.int 1)) rfl isB1 ?_
    exact k1 (by assumption)
  ·
    refine go hX 1 (gs := [True]) (z' := (19, [some (.ref 1), some (.int x)], [.int 0], h)) rfl ⟨trivial, trivial⟩ ?_
    refine rt_ hX (G := isB 0) (r := some (.int 0)) rfl isB0 ?_
    exact k0 (by assumption)
theorem c_mayA {d : Nat} {Q : Option Value → Hp → Prop} {h : Hp} {x k : Int32} (x0 : 0 ≤ x) (x1 : x < h.1 4 2) (xm : h.1 4 2 ≤ 10) (y0 : 0 ≤ k) (y1 : k < h.1 2 2) (ym : h.1 2 2 ≤ 3) (k1 : mwA h x k → Q (some (.int 1)) h) (k0 : ¬ mwA h x k → Q (some (.int 0)) h) : Call (d + 3) 66 [.ref 1, .int x, .int k] h Q := by
  refine call_of (rfl : psM[66]? = some _) rfl rfl (rcvV rfl) (fun X hX => ?_)
  show X (0, [some (.ref 1), some (.int x), some (.int k)], [], h)
  refine go hX 2 (gs := [True, True]) (z' := (2, [some (.ref 1), some (.int x), some (.int k)], [.int x, .ref 1], h)) rfl ⟨trivial, trivial, trivial⟩ ?_
  refine cl hX 62 2 [.ref 1, .int x] [] rfl rfl rfl rfl ?_
  refine c_isFrA x0 x1 xm (fun b1 => ?_) (fun b1 => ?_)
  ·
    show X (5, [some (.ref 1), some (.int x), some (.int k)], [.int 1], h)
    refine go hX 2 (gs := [True, True]) (z' := (84, [some (.ref 1), some (.int x), some (.int k)], [.int 0], h)) rfl ⟨trivial, trivial, trivial⟩ ?_
    refine rt_ hX (G := isB 0) (r := some (.int 0)) rfl isB0 ?_
    exact k0 (by unfold mwA; grind)
  ·
    show X (5, [some (.ref 1), some (.int x), some (.int k)], [.int 0], h)
    refine go hX 5 (gs := [True, True, True, True, True]) (z' := (14, [some (.ref 1), some (.int x), some (.int k)], [.int 0, .int x, .ref 4], h)) rfl ⟨trivial, trivial, trivial, trivial, trivial, trivial⟩ ?_
    refine cl hX 94 3 [.ref 4, .int x, .int 0] [] rfl rfl rfl rfl ?_
    refine c_getH0 x0 x1 xm ?_
    show X (17, [some (.ref 1), some (.int x), some (.int k)], [.int (h.1 5 ((x * 14) + 0))], h)
    refine go hX 4 (gs := [True, True, True, True]) (z' := (23, [some (.ref 1), some (.int x), some (.int k)], [.int 1, .int k, .ref 2, .int (h.1 5 ((x * 14) + 0))], h)) rfl ⟨trivial, trivial, trivial, trivial, trivial⟩ ?_
    refine cl hX 94 3 [.ref 2, .int k, .int 1] [.int (h.1 5 ((x * 14) + 0))] rfl rfl rfl rfl ?_
    refine c_getS1 y0 y1 ym ?_
    show X (26, [some (.ref 1), some (.int x), some (.int k)], [.int (h.1 3 ((k * 8) + 1)), .int (h.1 5 ((x * 14) + 0))], h)
    refine go hX 1 (gs := [True]) (z' := (if (h.1 3 ((k * 8) + 1)) < (h.1 5 ((x * 14) + 0)) then 83 else 29, [some (.ref 1), some (.int x), some (.int k)], [], h)) rfl ⟨trivial, trivial⟩ ?_
    refine br (fun b2 => ?_) (fun b2 => ?_)
    ·
      refine go hX 1 (gs := [True]) (z' := (84, [some (.ref 1), some (.int x), some (.int k)], [.int 0], h)) rfl ⟨trivial, trivial⟩ ?_
      refine rt_ hX (G := isB 0) (r := some (.int 0)) rfl isB0 ?_
      exact k0 (by unfold mwA; grind)
    ·
      refine go hX 4 (gs := [True, True, True, True]) (z' := (35, [some (.ref 1), some (.int x), some (.int k)], [.int 1, .int x, .ref 4], h)) rfl ⟨trivial, trivial, trivial, trivial, trivial⟩ ?_
      refine cl hX 94 3 [.ref 4, .int x, .int 1] [] rfl rfl rfl rfl ?_
      refine c_getH1 x0 x1 xm ?_
      show X (38, [some (.ref 1), some (.int x), some (.int k)], [.int (h.1 5 ((x * 14) + 1))], h)
      refine go hX 4 (gs := [True, True, True, True]) (z' := (44, [some (.ref 1), some (.int x), some (.int k)], [.int 2, .int k, .ref 2, .int (h.1 5 ((x * 14) + 1))], h)) rfl ⟨trivial, trivial, trivial, trivial, trivial⟩ ?_
      refine cl hX 94 3 [.ref 2, .int k, .int 2] [.int (h.1 5 ((x * 14) + 1))] rfl rfl rfl rfl ?_
      refine c_getS2 y0 y1 ym ?_
      show X (47, [some (.ref 1), some (.int x), some (.int k)], [.int (h.1 3 ((k * 8) + 2)), .int (h.1 5 ((x * 14) + 1))], h)
      refine go hX 1 (gs := [True]) (z' := (if (h.1 5 ((x * 14) + 1)) < (h.1 3 ((k * 8) + 2)) then 83 else 50, [some (.ref 1), some (.int x), some (.int k)], [], h)) rfl ⟨trivial, trivial⟩ ?_
      refine br (fun b3 => ?_) (fun b3 => ?_)
      ·
        refine go hX 1 (gs := [True]) (z' := (84, [some (.ref 1), some (.int x), some (.int k)], [.int 0], h)) rfl ⟨trivial, trivial⟩ ?_
        refine rt_ hX (G := isB 0) (r := some (.int 0)) rfl isB0 ?_
        exact k0 (by unfold mwA; grind)
      ·
        refine go hX 4 (gs := [True, True, True, True]) (z' := (57, [some (.ref 1), some (.int x), some (.int k)], [.int 9, .int x, .ref 4], h)) rfl ⟨trivial, trivial, trivial, trivial, trivial⟩ ?_
        refine cl hX 94 3 [.ref 4, .int x, .int 9] [] rfl rfl rfl rfl ?_
        refine c_getH9 x0 x1 xm ?_
        show X (60, [some (.ref 1), some (.int x), some (.int k)], [.int (h.1 5 ((x * 14) + 9))], h)
        refine go hX 3 (gs := [True, True, True]) (z' := (if (h.1 5 ((x * 14) + 9)) = (h.1 1 5) then 83 else 67, [some (.ref 1), some (.int x), some (.int k)], [], h)) rfl ⟨trivial, trivial, trivial, trivial⟩ ?_
        refine br (fun b4 => ?_) (fun b4 => ?_)
        ·
          refine go hX 1 (gs := [True]) (z' := (84, [some (.ref 1), some (.int x), some (.int k)], [.int 0], h)) rfl ⟨trivial, trivial⟩ ?_
          refine rt_ hX (G := isB 0) (r := some (.int 0)) rfl isB0 ?_
          exact k0 (by unfold mwA; grind)
        ·
          refine go hX 4 (gs := [True, True, True, True]) (z' := (73, [some (.ref 1), some (.int x), some (.int k)], [.int 4, .int k, .ref 2], h)) rfl ⟨trivial, trivial, trivial, trivial, trivial⟩ ?_
          refine cl hX 94 3 [.ref 2, .int k, .int 4] [] rfl rfl rfl rfl ?_
          refine c_getS4 y0 y1 ym ?_
          show X (76, [some (.ref 1), some (.int x), some (.int k)], [.int (h.1 3 ((k * 8) + 4))], h)
          refine go hX 1 (gs := [True]) (z' := (if (h.1 3 ((k * 8) + 4)) = 0 then 79 else 83, [some (.ref 1), some (.int x), some (.int k)], [], h)) rfl ⟨trivial, trivial⟩ ?_
          refine br (fun b5 => ?_) (fun b5 => ?_)
          ·
            refine go hX 2 (gs := [True, True]) (z' := (84, [some (.ref 1), some (.int x), some (.int k)], [.int 1], h)) rfl ⟨trivial, trivial, trivial⟩ ?_
            refine rt_ hX (G := isB 1) (r := some (.int 1)) rfl isB1 ?_
            exact k1 (by unfold mwA; grind)
          ·
            refine go hX 1 (gs := [True]) (z' := (84, [some (.ref 1), some (.int x), some (.int k)], [.int 0], h)) rfl ⟨trivial, trivial⟩ ?_
            refine rt_ hX (G := isB 0) (r := some (.int 0)) rfl isB0 ?_
            exact k0 (by unfold mwA; grind)
theorem c_rows2 {d : Nat} {Q : Option Value → Hp → Prop} {h : Hp} (k : Q (some (.int (h.1 2 2))) h) : Call (d + 1) 91 [.ref 2] h Q := by
  refine call_of (rfl : psM[91]? = some _) rfl rfl (rcvV rfl) (fun X hX => ?_)
  show X (0, [some (.ref 2)], [], h)
  refine go hX 2 (gs := [True, True]) (z' := (4, [some (.ref 2)], [.int (h.1 2 2)], h)) rfl ⟨trivial, trivial, trivial⟩ ?_
  refine rt_ hX (G := True) (r := some (.int (h.1 2 2))) rfl trivial ?_
  exact k
theorem c_rows4 {d : Nat} {Q : Option Value → Hp → Prop} {h : Hp} (k : Q (some (.int (h.1 4 2))) h) : Call (d + 1) 91 [.ref 4] h Q := by
  refine call_of (rfl : psM[91]? = some _) rfl rfl (rcvV rfl) (fun X hX => ?_)
  show X (0, [some (.ref 4)], [], h)
  refine go hX 2 (gs := [True, True]) (z' := (4, [some (.ref 4)], [.int (h.1 4 2)], h)) rfl ⟨trivial, trivial, trivial⟩ ?_
  refine rt_ hX (G := True) (r := some (.int (h.1 4 2))) rfl trivial ?_
  exact k
theorem lp_cho {d : Nat} {Q : Option Value → Hp → Prop} {X : Cf → Prop} (hX : Clo (Call (d + 3)) cd9 (some .int) Q X) {h : Hp} {x nS : Nat} (s3 : nS ≤ 3) (es : h.1 2 2 = nI nS) (x0 : 0 ≤ nI x) (x1 : nI x < h.1 4 2) (xm : h.1 4 2 ≤ 10) (ym : h.1 2 2 ≤ 3) {W : Nat → Bool} (hW : ∀ k, k < nS → (mwA h (nI x) (nI k) ↔ W k = true)) (K : Q (some (.int (nI (chB_ W nS)))) h) {k : Nat} (hk : k ≤ nS) : X (4, [some (.ref 1), some (.int (nI x)), some (.int (nI (chB_ W k))), some (.int (nI k))], [], h) := by
  refine dn_ind (P := fun k => X (4, [some (.ref 1), some (.int (nI x)), some (.int (nI (chB_ W k))), some (.int (nI k))], [], h)) (fun k hk ih => ?_) hk
  refine go hX 3 (gs := [True, True, True]) (z' := (9, [some (.ref 1), some (.int (nI x)), some (.int (nI (chB_ W k))), some (.int (nI k))], [.ref 2, .int (nI k)], h)) rfl ⟨trivial, trivial, trivial, trivial⟩ ?_
  refine cl hX 91 1 [.ref 2] [.int (nI k)] rfl rfl rfl rfl ?_
  refine c_rows2 ?_
  show X (12, [some (.ref 1), some (.int (nI x)), some (.int (nI (chB_ W k))), some (.int (nI k))], [.int (h.1 2 2), .int (nI k)], h)
  refine go hX 1 (gs := [True]) (z' := (if (h.1 2 2) ≤ (nI k) then 40 else 15, [some (.ref 1), some (.int (nI x)), some (.int (nI (chB_ W k))), some (.int (nI k))], [], h)) rfl ⟨trivial, trivial⟩ ?_
  refine br (fun b1 => ?_) (fun b1 => ?_)
  ·
    refine go hX 1 (gs := [True]) (z' := (41, [some (.ref 1), some (.int (nI x)), some (.int (nI (chB_ W k))), some (.int (nI k))], [.int (nI (chB_ W k))], h)) rfl ⟨trivial, trivial⟩ ?_
    refine rt_ hX (G := True) (r := some (.int (nI (chB_ W k)))) rfl trivial ?_
    have e : k = nS := Nat.le_antisymm hk ((tx_le (by omega) (by omega)).mp (by rw [← es]; exact b1))
    subst e
    exact K
  ·
    have kx : k < nS := Nat.lt_of_not_le (fun z => b1 (by rw [es]; exact (tx_le (by omega) (by omega)).mpr z))
    refine go hX 4 (gs := [True, True, True, True]) (z' := (19, [some (.ref 1), some (.int (nI x)), some (.int (nI (chB_ W k))), some (.int (nI k))], [.int (nI k), .int (nI x), .ref 1, .int (nI (chB_ W k))], h)) rfl ⟨trivial, trivial, trivial, trivial, trivial⟩ ?_
    refine cl hX 66 3 [.ref 1, .int (nI x), .int (nI k)] [.int (nI (chB_ W k))] rfl rfl rfl rfl ?_
    refine c_mayA x0 x1 xm (tx_0 k (by omega)) (by rw [es]; exact (tx_lt (by omega) (by omega)).mpr kx) ym (fun b2 => ?_) (fun b2 => ?_)
    ·
      show X (22, [some (.ref 1), some (.int (nI x)), some (.int (nI (chB_ W k))), some (.int (nI k))], [.int 1, .int (nI (chB_ W k))], h)
      refine go hX 9 (gs := [True, True, True, True, True, True, True, True, True]) (z' := (4, [some (.ref 1), some (.int (nI x)), some (.int ((nI (chB_ W k)) ||| (1 <<< ((nI k) &&& 31)))), some (.int ((nI k) + 1))], [], h)) rfl ⟨trivial, trivial, trivial, trivial, trivial, trivial, trivial, trivial, trivial, trivial⟩ ?_
      rw [tx_1]
      rw [show (nI (chB_ W k) ||| (1 <<< (nI k &&& 31))) = nI (chB_ W (k + 1)) by rw [chB_1 ((hW k kx).mp b2)]; exact (mbS _ (chB_lt (by omega)) k (by omega)).1]
      exact ih (k + 1) (Nat.lt_succ_self k) (by omega)
    ·
      show X (22, [some (.ref 1), some (.int (nI x)), some (.int (nI (chB_ W k))), some (.int (nI k))], [.int 0, .int (nI (chB_ W k))], h)
      refine go hX 6 (gs := [True, True, True, True, True, True]) (z' := (4, [some (.ref 1), some (.int (nI x)), some (.int ((nI (chB_ W k)) ||| 0)), some (.int ((nI k) + 1))], [], h)) rfl ⟨trivial, trivial, trivial, trivial, trivial, trivial, trivial⟩ ?_
      rw [tx_1]
      rw [show nI (chB_ W k) ||| 0 = nI (chB_ W (k + 1)) by rw [chB_0 (fun z => b2 ((hW k kx).mpr z)), Int32.or_zero]]
      exact ih (k + 1) (Nat.lt_succ_self k) (by omega)
theorem c_choices {d : Nat} {Q : Option Value → Hp → Prop} {h : Hp} {x nS : Nat} (s3 : nS ≤ 3) (es : h.1 2 2 = nI nS) (x0 : 0 ≤ nI x) (x1 : nI x < h.1 4 2) (xm : h.1 4 2 ≤ 10) (ym : h.1 2 2 ≤ 3) {W : Nat → Bool} (hW : ∀ k, k < nS → (mwA h (nI x) (nI k) ↔ W k = true)) (K : Q (some (.int (nI (chB_ W nS)))) h) : Call (d + 4) 9 [.ref 1, .int (nI x)] h Q := by
  refine call_of (rfl : psM[9]? = some _) rfl rfl (rcvS rfl) (fun X hX => ?_)
  show X (0, [some (.ref 1), some (.int (nI x)), none, none], [], h)
  refine go hX 4 (gs := [True, True, True, True]) (z' := (4, [some (.ref 1), some (.int (nI x)), some (.int 0), some (.int 0)], [], h)) rfl ⟨trivial, trivial, trivial, trivial, trivial⟩ ?_
  exact lp_cho hX s3 es x0 x1 xm ym hW K (Nat.zero_le nS)
theorem lp_sort {d : Nat} {Q : Option Value → Hp → Prop} {X : Cf → Prop} (hX : Clo (Call d) cd11 none Q X) {n : Nat} (hn : n ≤ 10) {v : Int32} {S : Nat → Int} {h0 : Hp} (K : ∀ h, fr52 h0 h → (∀ i, i ≤ n → (h.1 52 (nI i)).toInt = insP S (posI S v.toInt n) v.toInt i) → Q none h) : ∀ (p : Nat), p ≤ n → ∀ h, SrtI n v S h0 p h → X (16, [some (.ref 42), some (.int v), some (.int (nI n)), some (.int (nI p))], [], h) := by
  intro p
  induction p using Nat.strongRecOn with
  | ind p ih0 =>
  intro hp h I
  cases p with
  | zero =>
    show X (16, [some (.ref 42), some (.int v), some (.int (nI n)), some (.int 0)], [], h)
    refine go hX 7 (gs := [ibd 0 11, True, True, True, True, True, True]) (z' := (59, [some (.ref 42), some (.int v), some (.int (nI n)), some (.int 0)], [], (hI h 52 0 v))) rfl ⟨?_, trivial, trivial, trivial, trivial, trivial, trivial, trivial⟩ ?_
    · exact ⟨by decide, by decide⟩
    refine rt_ hX (G := True) (r := none) rfl trivial ?_
    exact K _ (I.fr.st rfl) (I.fin hn hp (posI_0 I.po))
  | succ p =>
    have ih := ih0
    have e1 : nI (p + 1) - 1 = nI p := by
      show nI (p + 1) - nI 1 = _
      rw [nI_sb (by omega) (by omega)]
      rfl
    have e2 : nI (p + 1) + (-1) = nI p := by rw [show nI (p + 1) + (-1) = nI (p + 1) - 1 from (Int32.sub_eq_add_neg _ _).symm, e1]
    refine go hX 2 (gs := [True, True]) (z' := (if (nI (p + 1)) ≤ 0 then 52 else 20, [some (.ref 42), some (.int v), some (.int (nI n)), some (.int (nI (p + 1)))], [], h)) rfl ⟨trivial, trivial, trivial⟩ ?_
    refine br (fun b1 => ?_) (fun b1 => ?_)
    ·
      refine go hX 5 (gs := [ibd (nI (p + 1)) 11, True, True, True, True]) (z' := (59, [some (.ref 42), some (.int v), some (.int (nI n)), some (.int (nI (p + 1)))], [], (hI h 52 (nI (p + 1)) v))) rfl ⟨?_, trivial, trivial, trivial, trivial, trivial⟩ ?_
      · exact ibd_of (B := 11) rfl (tx_0 _ (by omega)) ((tx_lt (b := 11) (by omega) (by decide)).mpr (by omega))
      refine rt_ hX (G := True) (r := none) rfl trivial ?_
      exact absurd ((tx_le (b := 0) (by omega) (by decide)).mp b1) (by omega)
    ·
      refine go hX 8 (gs := [True, True, ibd ((nI (p + 1)) - 1) 11, True, True, True, True, True]) (z' := (if (h.1 52 ((nI (p + 1)) - 1)) ≤ v then 52 else 32, [some (.ref 42), some (.int v), some (.int (nI n)), some (.int (nI (p + 1)))], [], h)) rfl ⟨trivial, trivial, ?_, trivial, trivial, trivial, trivial, trivial, trivial⟩ ?_
      · rw [e1]; exact ibd_of (B := 11) rfl (tx_0 _ (by omega)) ((tx_lt (b := 11) (by omega) (by decide)).mpr (by omega))
      refine br (fun b2 => ?_) (fun b2 => ?_)
      ·
        refine go hX 5 (gs := [ibd (nI (p + 1)) 11, True, True, True, True]) (z' := (59, [some (.ref 42), some (.int v), some (.int (nI n)), some (.int (nI (p + 1)))], [], (hI h 52 (nI (p + 1)) v))) rfl ⟨?_, trivial, trivial, trivial, trivial, trivial⟩ ?_
        · exact ibd_of (B := 11) rfl (tx_0 _ (by omega)) ((tx_lt (b := 11) (by omega) (by decide)).mpr (by omega))
        refine rt_ hX (G := True) (r := none) rfl trivial ?_
        exact K _ (I.fr.st rfl) (I.fin hn hp (posI_s I.po (I.le (by omega) (by rw [← e1]; exact b2))))
      ·
        refine go hX 12 (gs := [True, True, ibd (nI (p + 1)) 11, ibd ((nI (p + 1)) - 1) 11, True, True, True, True, True, True, True, True]) (z' := (16, [some (.ref 42), some (.int v), some (.int (nI n)), some (.int ((nI (p + 1)) + (-1)))], [], (hI h 52 (nI (p + 1)) (h.1 52 ((nI (p + 1)) - 1))))) rfl ⟨trivial, trivial, ?_, ?_, trivial, trivial, trivial, trivial, trivial, trivial, trivial, trivial, trivial⟩ ?_
        · exact ibd_of (B := 11) rfl (tx_0 _ (by omega)) ((tx_lt (b := 11) (by omega) (by decide)).mpr (by omega))
        · rw [e1]; exact ibd_of (B := 11) rfl (tx_0 _ (by omega)) ((tx_lt (b := 11) (by omega) (by decide)).mpr (by omega))
        rw [e1, e2]
        exact ih _ (Nat.lt_succ_self p) (by omega) _ (I.stp hn (by omega) (by rw [← e1]; exact Int32.not_le.mp b2))
theorem c_sortIn {d : Nat} {Q : Option Value → Hp → Prop} {h : Hp} {n : Nat} (hn : n ≤ 10) {v : Int32} {S : Nat → Int} (hS : ∀ i, i < n → (h.1 52 (nI i)).toInt = S i) (K : ∀ h', fr52 h h' → (∀ i, i ≤ n → (h'.1 52 (nI i)).toInt = insP S (posI S v.toInt n) v.toInt i) → Q none h') : Call (d + 1) 11 [.ref 42, .int v, .int (nI n)] h Q := by
  refine call_of (rfl : psM[11]? = some _) rfl rfl (rcvV rfl) (fun X hX => ?_)
  show X (0, [some (.ref 42), some (.int v), some (.int (nI n)), none], [], h)
  refine go hX 2 (gs := [True, True]) (z' := (if (nI n) < 0 then 13 else 4, [some (.ref 42), some (.int v), some (.int (nI n)), none], [], h)) rfl ⟨trivial, trivial, trivial⟩ ?_
  refine br (fun b1 => ?_) (fun b1 => ?_)
  ·
    refine rt_ hX (G := True) (r := none) rfl trivial ?_
    exfalso; exact absurd (tx_0 n (by omega)) (Int32.not_le.mpr b1)
  ·
    refine go hX 5 (gs := [True, True, True, True, True]) (z' := (if (nI n) < (nI 11) then 14 else 13, [some (.ref 42), some (.int v), some (.int (nI n)), none], [], h)) rfl ⟨trivial, trivial, trivial, trivial, trivial, trivial⟩ ?_
    refine br (fun b2 => ?_) (fun b2 => ?_)
    ·
      refine go hX 2 (gs := [True, True]) (z' := (16, [some (.ref 42), some (.int v), some (.int (nI n)), some (.int (nI n))], [], h)) rfl ⟨trivial, trivial, trivial⟩ ?_
      exact lp_sort hX hn K n (Nat.le_refl n) h ⟨fr52_rf, hS, fun i a b => by omega, rfl⟩
    ·
      refine rt_ hX (G := True) (r := none) rfl trivial ?_
      exfalso; exact b2 ((tx_lt (b := 11) (by omega) (by decide)).mpr (by omega))
/-- what is able, and the least sums, are reckoned from the last one on -/
noncomputable def xI (y : Nat) : Int32 := if y = 0 then -1 else nI (y - 1)
theorem xI_m {y : Nat} (hy : y ≤ 4000) : nI y + (-1) = xI y ∧ nI y - 1 = xI y := by
  have e : nI y - 1 = xI y := by
    unfold xI
    split
    · rename_i q
      subst q
      rfl
    · show nI y - nI 1 = _
      rw [nI_sb (by omega) hy]
  exact ⟨by rw [← e]; exact (Int32.sub_eq_add_neg _ _).symm, e⟩
theorem ix11 {y j : Nat} : nI y * 11 + nI j = nI (y * 11 + j) := by
  show nI y * nI 11 + nI j = _
  rw [show nI y * nI 11 = nI (y * 11) from (Int32.ofNat_mul y 11).symm, nI_add]
noncomputable abbrev InI (h1 : Hp) (S : Nat → Int) (y j : Nat) (h : Hp) : Prop := (∀ o (i : Int32), o ≠ 51 → h.1 o i = h1.1 o i) ∧ (h.2 = h1.2) ∧ (∀ i, (i < y * 11 ∨ (y + 1) * 11 ≤ i) → i < 4000 → h.1 51 (nI i) = h1.1 51 (nI i)) ∧ (∀ m, m < j → (h.1 51 (nI (y * 11 + m))).toInt = pre S m)
theorem InI.fr {h1 : Hp} {S : Nat → Int} {y j : Nat} {h : Hp} (self_ : InI h1 S y j h) : ∀ o (i : Int32), o ≠ 51 → h.1 o i = h1.1 o i := self_.1
theorem InI.f2 {h1 : Hp} {S : Nat → Int} {y j : Nat} {h : Hp} (self_ : InI h1 S y j h) : h.2 = h1.2 := self_.2.1
theorem InI.ot {h1 : Hp} {S : Nat → Int} {y j : Nat} {h : Hp} (self_ : InI h1 S y j h) : ∀ i, (i < y * 11 ∨ (y + 1) * 11 ≤ i) → i < 4000 → h.1 51 (nI i) = h1.1 51 (nI i) := self_.2.2.1
theorem InI.ls {h1 : Hp} {S : Nat → Int} {y j : Nat} {h : Hp} (self_ : InI h1 S y j h) : ∀ m, m < j → (h.1 51 (nI (y * 11 + m))).toInt = pre S m := self_.2.2.2
theorem InI.stp {h1 : Hp} {S : Nat → Int} {y j : Nat} {h : Hp} (I : InI h1 S y j h) (hy : y < 10) (hj : j ≤ 10) {s : Int32} (hs : s.toInt = pre S j) : InI h1 S y (j + 1) (hI h 51 (nI (y * 11 + j)) s) := by
  refine ⟨fun o i ho => (hI_ne ho).trans (I.fr o i ho), I.f2, fun i hi h4 => ?_, fun m hm => ?_⟩
  · rw [hI_j (fun z => by have := (nIle_eq (by omega) (by omega)).mp z; omega)]
    exact I.ot i hi h4
  · by_cases e : m = j
    · subst e
      rw [hI_eq]
      exact hs
    · rw [hI_j (fun z => by have := (nIle_eq (by omega) (by omega)).mp z; omega)]
      exact I.ls m (by omega)
noncomputable abbrev OuI (h0 : Hp) (T : Nat → Int) (ch : Nat → Bool) (n y : Nat) (h : Hp) : Prop := (∀ o (i : Int32), o ≠ 50 → o ≠ 51 → o ≠ 52 → h.1 o i = h0.1 o i) ∧ (h.2 = h0.2) ∧ (∀ i, y ≤ i → i ≤ n → h.1 50 (nI i) = nI (srt T ch n (n - i)).2) ∧ (∀ i m, y ≤ i → i ≤ n → m ≤ (srt T ch n (n - i)).2 → (h.1 51 (nI (i * 11 + m))).toInt = pre (srt T ch n (n - i)).1 m) ∧ (∀ i, i < (srt T ch n (n - y)).2 → (h.1 52 (nI i)).toInt = (srt T ch n (n - y)).1 i)
theorem OuI.fr {h0 : Hp} {T : Nat → Int} {ch : Nat → Bool} {n y : Nat} {h : Hp} (self_ : OuI h0 T ch n y h) : ∀ o (i : Int32), o ≠ 50 → o ≠ 51 → o ≠ 52 → h.1 o i = h0.1 o i := self_.1
theorem OuI.f2 {h0 : Hp} {T : Nat → Int} {ch : Nat → Bool} {n y : Nat} {h : Hp} (self_ : OuI h0 T ch n y h) : h.2 = h0.2 := self_.2.1
theorem OuI.ab {h0 : Hp} {T : Nat → Int} {ch : Nat → Bool} {n y : Nat} {h : Hp} (self_ : OuI h0 T ch n y h) : ∀ i, y ≤ i → i ≤ n → h.1 50 (nI i) = nI (srt T ch n (n - i)).2 := self_.2.2.1
theorem OuI.ls {h0 : Hp} {T : Nat → Int} {ch : Nat → Bool} {n y : Nat} {h : Hp} (self_ : OuI h0 T ch n y h) : ∀ i m, y ≤ i → i ≤ n → m ≤ (srt T ch n (n - i)).2 → (h.1 51 (nI (i * 11 + m))).toInt = pre (srt T ch n (n - i)).1 m := self_.2.2.2.1
theorem OuI.so {h0 : Hp} {T : Nat → Int} {ch : Nat → Bool} {n y : Nat} {h : Hp} (self_ : OuI h0 T ch n y h) : ∀ i, i < (srt T ch n (n - y)).2 → (h.1 52 (nI i)).toInt = (srt T ch n (n - y)).1 i := self_.2.2.2.2
theorem srt_up {T : Nat → Int} {ch : Nat → Bool} {n y : Nat} (hy : y < n) : srt T ch n (n - y) = if ch y = true then (insP (srt T ch n (n - (y + 1))).1 (posI (srt T ch n (n - (y + 1))).1 (T y) (srt T ch n (n - (y + 1))).2) (T y), (srt T ch n (n - (y + 1))).2 + 1) else srt T ch n (n - (y + 1)) := by
  obtain ⟨m, hm⟩ : ∃ m, n - y = m + 1 := ⟨n - y - 1, by omega⟩
  have h1 : n - (y + 1) = m := by omega
  have h2 : n - 1 - m = y := by omega
  rw [hm, h1]
  show (if ch (n - 1 - m) = true then _ else _) = _
  rw [h2]
/-- one more of them is reckoned -/
theorem OuI.stp {h0 h h1 h2 : Hp} {T : Nat → Int} {ch : Nat → Bool} {n y : Nat} (O : OuI h0 T ch n (y + 1) h) (hn : n ≤ 10) (hy : y < n) (f1 : fr52 h h1) (so : ∀ i, i < (srt T ch n (n - y)).2 → (h1.1 52 (nI i)).toInt = (srt T ch n (n - y)).1 i) (I : InI (hI h1 50 (nI y) (nI (srt T ch n (n - y)).2)) (srt T ch n (n - y)).1 y ((srt T ch n (n - y)).2 + 1) h2) : OuI h0 T ch n y h2 := by
  have le : ∀ i, (srt T ch n (n - i)).2 ≤ n - i := fun i => srt_le
  refine ⟨fun o i a b c => ?_, I.f2.trans (f1.2.trans O.f2), fun i hi hin => ?_, fun i m hi hin hm => ?_, fun i hi => ?_⟩
  · rw [I.fr o i b, hI_ne a, f1.1 o i c]
    exact O.fr o i a b c
  · rw [I.fr 50 _ (by decide)]
    by_cases e : i = y
    · subst e
      rw [hI_eq]
    · rw [hI_j (fun z => e ((nIle_eq (by omega) (by omega)).mp z)), f1.1 50 _ (by decide)]
      exact O.ab i (by omega) hin
  · by_cases e : i = y
    · subst e
      exact I.ls m (by omega)
    · have := le i
      rw [I.ot _ (by omega) (by omega), hI_ne (by decide), f1.1 51 _ (by decide)]
      exact O.ls i m (by omega) hin hm
  · rw [I.fr 52 _ (by decide), hI_ne (by decide)]
    exact so i hi
theorem sum_stp {S : Nat → Int} (hS : ∀ i, 0 ≤ S i ∧ S i ≤ 20000) {j : Nat} {s v : Int32} (hs : s.toInt = pre S j) (hv : v.toInt = S j) (hj : j ≤ 20) : (s + v).toInt = pre S (j + 1) := by
  have := pre_b hS (m := j)
  have := hS j
  rw [Int32.toInt_add, hs, hv, b32 (by omega) (by omega)]
  rfl
/-! The class's filling: what is read of the state, then all ways. -/
theorem OuI.st {h : Hp} {T : Nat → Int} {ch : Nat → Bool} {n : Nat} (hn : n ≤ 10) : OuI h T ch n n (hI (hI h 50 (nI n) 0) 51 (nI (n * 11 + 0)) 0) := by
  have z : (srt T ch n (n - n)).2 = 0 := by rw [Nat.sub_self]; rfl
  refine ⟨fun o i a b c => by rw [hI_ne b, hI_ne a], rfl, fun i h1 h2 => ?_, fun i m h1 h2 hm => ?_, fun i hi => by rw [z] at hi; omega⟩
  · have e : i = n := by omega
    subst e
    rw [hI_ne (by decide), hI_eq, z]
    rfl
  · have e : i = n := by omega
    subst e
    rw [z] at hm
    have e : m = 0 := by omega
    subst e
    rw [hI_eq]
    rfl
noncomputable def roA (h : Hp) (k : Int32) : Int32 := if 0 ≤ k ∧ k < h.1 2 2 then h.1 3 ((k * 8) + 0) else 0
noncomputable def chW (W : Nat → Nat → Bool) (i : Nat) : Bool := W i 0 || (W i 1 || W i 2)
noncomputable def mkF (n : Nat) (T C : Nat → Int) (W : Nat → Nat → Bool) (B : Nat → Nat) : Fp := ⟨n, T, C, W, B, fun x => (srt T (chW W) n (n - x)).2, fun x m => pre (srt T (chW W) n (n - x)).1 m⟩
/-- the class's state, as the filling reads it -/
noncomputable abbrev FnA (n nS : Nat) (T C : Nat → Int) (W : Nat → Nat → Bool) (B : Nat → Nat) (h : Hp) : Prop := (n ≤ 10) ∧ (nS ≤ 3) ∧ (h.1 4 2 = nI n) ∧ (h.1 2 2 = nI nS) ∧ (∀ i k, i < n → k < nS → (mwA h (nI i) (nI k) ↔ W i k = true)) ∧ (∀ i k, nS ≤ k → W i k = false) ∧ (∀ k, k < 3 → (roA h (nI k)).toInt = C k ∧ 0 ≤ C k ∧ C k ≤ 5) ∧ (∀ i, i < n → (h.1 5 ((nI i * 14) + 6)).toInt = T i) ∧ (∀ i, 0 ≤ T i ∧ T i ≤ 20000) ∧ (∀ i, i < n → h.1 5 ((nI i * 14) + 12) = nI (B i) ∧ B i < 1024)
theorem FnA.n10 {n nS : Nat} {T C : Nat → Int} {W : Nat → Nat → Bool} {B : Nat → Nat} {h : Hp} (self_ : FnA n nS T C W B h) : n ≤ 10 := self_.1
theorem FnA.s3 {n nS : Nat} {T C : Nat → Int} {W : Nat → Nat → Bool} {B : Nat → Nat} {h : Hp} (self_ : FnA n nS T C W B h) : nS ≤ 3 := self_.2.1
theorem FnA.en {n nS : Nat} {T C : Nat → Int} {W : Nat → Nat → Bool} {B : Nat → Nat} {h : Hp} (self_ : FnA n nS T C W B h) : h.1 4 2 = nI n := self_.2.2.1
theorem FnA.es {n nS : Nat} {T C : Nat → Int} {W : Nat → Nat → Bool} {B : Nat → Nat} {h : Hp} (self_ : FnA n nS T C W B h) : h.1 2 2 = nI nS := self_.2.2.2.1
theorem FnA.wi {n nS : Nat} {T C : Nat → Int} {W : Nat → Nat → Bool} {B : Nat → Nat} {h : Hp} (self_ : FnA n nS T C W B h) : ∀ i k, i < n → k < nS → (mwA h (nI i) (nI k) ↔ W i k = true) := self_.2.2.2.2.1
theorem FnA.W0 {n nS : Nat} {T C : Nat → Int} {W : Nat → Nat → Bool} {B : Nat → Nat} {h : Hp} (self_ : FnA n nS T C W B h) : ∀ i k, nS ≤ k → W i k = false := self_.2.2.2.2.2.1
theorem FnA.ro {n nS : Nat} {T C : Nat → Int} {W : Nat → Nat → Bool} {B : Nat → Nat} {h : Hp} (self_ : FnA n nS T C W B h) : ∀ k, k < 3 → (roA h (nI k)).toInt = C k ∧ 0 ≤ C k ∧ C k ≤ 5 := self_.2.2.2.2.2.2.1
theorem FnA.tu {n nS : Nat} {T C : Nat → Int} {W : Nat → Nat → Bool} {B : Nat → Nat} {h : Hp} (self_ : FnA n nS T C W B h) : ∀ i, i < n → (h.1 5 ((nI i * 14) + 6)).toInt = T i := self_.2.2.2.2.2.2.2.1
theorem FnA.T0 {n nS : Nat} {T C : Nat → Int} {W : Nat → Nat → Bool} {B : Nat → Nat} {h : Hp} (self_ : FnA n nS T C W B h) : ∀ i, 0 ≤ T i ∧ T i ≤ 20000 := self_.2.2.2.2.2.2.2.2.1
theorem FnA.br {n nS : Nat} {T C : Nat → Int} {W : Nat → Nat → Bool} {B : Nat → Nat} {h : Hp} (self_ : FnA n nS T C W B h) : ∀ i, i < n → h.1 5 ((nI i * 14) + 12) = nI (B i) ∧ B i < 1024 := self_.2.2.2.2.2.2.2.2.2
/-- rows that are read -/
noncomputable abbrev RdI (n nS : Nat) (W : Nat → Nat → Bool) (H h0 : Hp) (j : Nat) (h : Hp) : Prop := (∀ o (i : Int32), o ≠ 43 → o ≠ 44 → o ≠ 45 → h.1 o i = H.1 o i) ∧ (h.2 = H.2) ∧ (∀ i, i < j → h.1 43 (nI i) = nI (chB_ (W i) nS)) ∧ (∀ i, i < j → h.1 44 (nI i) = h0.1 5 ((nI i * 14) + 12)) ∧ (∀ i, i < j → h.1 45 (nI i) = h0.1 5 ((nI i * 14) + 6))
theorem RdI.fr {n nS : Nat} {W : Nat → Nat → Bool} {H h0 : Hp} {j : Nat} {h : Hp} (self_ : RdI n nS W H h0 j h) : ∀ o (i : Int32), o ≠ 43 → o ≠ 44 → o ≠ 45 → h.1 o i = H.1 o i := self_.1
theorem RdI.f2 {n nS : Nat} {W : Nat → Nat → Bool} {H h0 : Hp} {j : Nat} {h : Hp} (self_ : RdI n nS W H h0 j h) : h.2 = H.2 := self_.2.1
theorem RdI.ch {n nS : Nat} {W : Nat → Nat → Bool} {H h0 : Hp} {j : Nat} {h : Hp} (self_ : RdI n nS W H h0 j h) : ∀ i, i < j → h.1 43 (nI i) = nI (chB_ (W i) nS) := self_.2.2.1
theorem RdI.br {n nS : Nat} {W : Nat → Nat → Bool} {H h0 : Hp} {j : Nat} {h : Hp} (self_ : RdI n nS W H h0 j h) : ∀ i, i < j → h.1 44 (nI i) = h0.1 5 ((nI i * 14) + 12) := self_.2.2.2.1
theorem RdI.tu {n nS : Nat} {W : Nat → Nat → Bool} {H h0 : Hp} {j : Nat} {h : Hp} (self_ : RdI n nS W H h0 j h) : ∀ i, i < j → h.1 45 (nI i) = h0.1 5 ((nI i * 14) + 6) := self_.2.2.2.2
theorem RdI.stp {n nS : Nat} {W : Nat → Nat → Bool} {H h0 : Hp} {j : Nat} {h : Hp} (I : RdI n nS W H h0 j h) (hj : j < 10) : RdI n nS W H h0 (j + 1) (hI (hI (hI h 43 (nI j) (nI (chB_ (W j) nS))) 44 (nI j) (h0.1 5 ((nI j * 14) + 12))) 45 (nI j) (h0.1 5 ((nI j * 14) + 6))) := by
  have ne : ∀ i, i < j + 1 → i ≠ j → nI i ≠ nI j := fun i hi q z => q ((nIle_eq (by omega) (by omega)).mp z)
  refine ⟨fun o i a b c => by rw [hI_ne c, hI_ne b, hI_ne a]; exact I.fr o i a b c, I.f2, fun i hi => ?_, fun i hi => ?_, fun i hi => ?_⟩
  · rw [hI_ne (by decide), hI_ne (by decide)]
    by_cases q : i = j
    · subst q; rw [hI_eq]
    · rw [hI_j (ne i hi q)]; exact I.ch i (by omega)
  · rw [hI_ne (by decide)]
    by_cases q : i = j
    · subst q; rw [hI_eq]
    · rw [hI_j (ne i hi q), hI_ne (by decide)]; exact I.br i (by omega)
  · by_cases q : i = j
    · subst q; rw [hI_eq]
    · rw [hI_j (ne i hi q), hI_ne (by decide), hI_ne (by decide)]; exact I.tu i (by omega)
/-- what the filling writes -/
noncomputable def frC (h h' : Hp) : Prop := (∀ o (j : Int32), ¬ (42 ≤ o ∧ o ≤ 52) → h'.1 o j = h.1 o j) ∧ h'.2 = h.2
theorem chW_iff {W : Nat → Nat → Bool} {i : Nat} : chW W i = true ↔ ∃ k, k < 3 ∧ W i k = true := by
  unfold chW
  rw [Bool.or_eq_true, Bool.or_eq_true]
  constructor
  · rintro (q | q | q)
    · exact ⟨0, by decide, q⟩
    · exact ⟨1, by decide, q⟩
    · exact ⟨2, by decide, q⟩
  · rintro ⟨k, hk, q⟩
    have : k = 0 ∨ k = 1 ∨ k = 2 := by omega
    rcases this with rfl | rfl | rfl
    · exact Or.inl q
    · exact Or.inr (Or.inl q)
    · exact Or.inr (Or.inr q)
theorem chB_ch {W : Nat → Nat → Bool} {nS i : Nat} (s3 : nS ≤ 3) (W0 : ∀ i k, nS ≤ k → W i k = false) : ¬ nI (chB_ (W i) nS) = 0 ↔ chW W i = true := by
  rw [chW_iff]
  have lt : chB_ (W i) nS < 1024 := chB_lt (by omega)
  have e0 : nI (chB_ (W i) nS) = 0 ↔ chB_ (W i) nS = 0 := nIle_eq (b := 0) (by omega) (by decide)
  rw [e0]
  constructor
  · intro h
    refine Classical.byContradiction (fun n => h ?_)
    apply Nat.eq_of_testBit_eq
    intro k
    rw [chB_bit, Nat.zero_testBit]
    by_cases hk : k < nS
    · rw [decide_eq_true hk, Bool.true_and]
      exact (Bool.not_eq_true _).mp (fun q => n ⟨k, by omega, q⟩)
    · rw [decide_eq_false hk, Bool.false_and]
  · rintro ⟨k, hk, q⟩ z
    have hk2 : k < nS := Nat.lt_of_not_le (fun y => by rw [W0 i k y] at q; cases q)
    have := chB_bit (W := W i) (i := k) (k := nS)
    rw [z, Nat.zero_testBit, decide_eq_true hk2, q] at this
    cases this
theorem LTO.cg {n : Nat} {T : Nat → Int} {ch ch' : Nat → Prop} {ab : Nat → Nat} {ls : Nat → Nat → Int} (L : LTO n T ch ab ls) (e : ∀ i, ch' i ↔ ch i) : LTO n T ch' ab ls := ⟨L.a0, fun h hn hc => L.a1 h hn ((e h).mp hc), fun h hn hc => L.a2 h hn (fun z => hc ((e h).mpr z)), L.l0, fun h hn hc => L.l1 h hn ((e h).mp hc), L.l2⟩
theorem min10 {n : Nat} (hn : n ≤ 10) : (if nI n < 10 then nI n else 10) = nI n := by
  by_cases q : n = 10
  · subst q
    rfl
  · exact if_pos ((tx_lt (b := 10) (by omega) (by decide)).mpr (by omega))
theorem FnA.cg {n nS : Nat} {T C : Nat → Int} {W : Nat → Nat → Bool} {B : Nat → Nat} {h h' : Hp} (S : FnA n nS T C W B h) (e : ∀ o (i : Int32), o < 42 → h'.1 o i = h.1 o i) : FnA n nS T C W B h' := by
  have er : ∀ k, roA h' k = roA h k := fun k => by
    unfold roA
    rw [e 2 _ (by decide), e 3 _ (by decide)]
  refine ⟨S.n10, S.s3, (e 4 _ (by decide)).trans S.en, (e 2 _ (by decide)).trans S.es, fun i k hi hk => ?_, S.W0, fun k hk => by rw [er]; exact S.ro k hk, fun i hi => by rw [e 5 _ (by decide)]; exact S.tu i hi, S.T0, fun i hi => by rw [e 5 _ (by decide)]; exact S.br i hi⟩
  have := S.wi i k hi hk
  unfold mwA at this ⊢
  rw [e 5 _ (by decide), e 5 _ (by decide), e 3 _ (by decide), e 3 _ (by decide), e 5 _ (by decide), e 5 _ (by decide), e 1 _ (by decide), e 3 _ (by decide)]
  exact this
/-- behind all reading and reckoning: nobody has a place yet -/
theorem find_st {n nS : Nat} {T C : Nat → Int} {W : Nat → Nat → Bool} {B : Nat → Nat} {h0 H h1 h2 : Hp} (S : FnA n nS T C W B h0) (e10 : H.1 42 10 = nI n) (er : ∀ k, k < 3 → H.1 46 (nI k) = roA h0 (nI k) ∧ H.1 47 (nI k) = 0) (I : RdI n nS W H h0 n h1) (O : OuI h1 T (chW W) n 0 h2) : ClS (mkF n T C W B) (hI (hI h2 42 11 (-1)) 42 12 0) ∧ ClD (mkF n T C W B) (hI (hI h2 42 11 (-1)) 42 12 0) (fun _ => 3) 0 ⟨-1, 0, fun _ => 3⟩ := by
  have n10 := S.n10
  have s3 := S.s3
  have eO : ∀ o (i : Int32), o ≠ 42 → (hI (hI h2 42 11 (-1)) 42 12 0).1 o i = h2.1 o i := fun o i a => by rw [hI_ne a, hI_ne a]
  have e2 : ∀ o (i : Int32), o ≠ 50 → o ≠ 51 → o ≠ 52 → o ≠ 43 → o ≠ 44 → o ≠ 45 → h2.1 o i = H.1 o i := fun o i a b c a' b' c' => (O.fr o i a b c).trans (I.fr o i a' b' c')
  refine ⟨⟨n10, ?_, fun i hi => ?_, fun i hi => ?_, fun i hi => ?_, fun i hi => ?_, fun i m hi hm => ?_⟩, ⟨fun k hk => ?_, fun k hk => ?_, fun i hi => absurd hi (Nat.not_lt_zero i), ⟨?_, ?_, ?_⟩, ⟨?_, ?_, ?_⟩, fun z => ?_⟩⟩
  · rw [hI_j (by decide), hI_j (by decide), e2 42 10 (by decide) (by decide) (by decide) (by decide) (by decide) (by decide)]
    exact e10
  · have hi : i < n := hi
    refine ⟨chB_ (W i) nS, Nat.lt_of_lt_of_le chB_p (Nat.pow_le_pow_right (n := 2) (by decide) s3), ?_, fun k hk => ?_⟩
    · rw [eO 43 _ (by decide), O.fr 43 _ (by decide) (by decide) (by decide)]
      exact I.ch i hi
    · rw [chB_bit]
      by_cases q : k < nS
      · rw [decide_eq_true q, Bool.true_and]
        rfl
      · rw [decide_eq_false q, Bool.false_and]
        exact (S.W0 i k (by omega)).symm
  · have hi : i < n := hi
    rw [eO 44 _ (by decide), O.fr 44 _ (by decide) (by decide) (by decide), I.br i hi]
    exact S.br i hi
  · have hi : i < n := hi
    rw [eO 45 _ (by decide), O.fr 45 _ (by decide) (by decide) (by decide), I.tu i hi]
    exact ⟨S.tu i hi, S.T0 i⟩
  · have hi : i ≤ n := hi
    rw [eO 50 _ (by decide)]
    exact ⟨O.ab i (Nat.zero_le i) hi, Nat.le_trans srt_le (by omega)⟩
  · have hi : i ≤ n := hi
    have hm : m ≤ (srt T (chW W) n (n - i)).2 := hm
    have l : (srt T (chW W) n (n - i)).2 ≤ n - i := srt_le
    have b := pre_b (srt_b (ch := chW W) (n := n) S.T0 (m := n - i)) (m := m)
    rw [eO 51 _ (by decide)]
    refine ⟨O.ls i m (Nat.zero_le i) hi hm, b.1, ?_⟩
    show pre _ _ ≤ 200000
    omega
  · rw [eO 46 _ (by decide), e2 46 _ (by decide) (by decide) (by decide) (by decide) (by decide) (by decide), (er k hk).1]
    obtain ⟨a, b, c⟩ := S.ro k hk
    have z : rmK (mkF n T C W B).C (fun _ => 3) 0 k = C k := by
      show C k - ((0 : Nat) : Int) = C k
      omega
    rw [z]
    exact ⟨a, b, c⟩
  · rw [eO 47 _ (by decide), e2 47 _ (by decide) (by decide) (by decide) (by decide) (by decide) (by decide), (er k hk).2]
    rfl
  · rw [hI_j (by decide), hI_eq]
    rfl
  · show (-1 : Int) ≤ -1; decide
  · show (-1 : Int) ≤ 10; decide
  · rw [hI_eq]
    rfl
  · show (0 : Int) ≤ 0; decide
  · show (0 : Int) ≤ 200000; decide
  · exact absurd (show (0 : Int) ≤ -1 from z) (by decide)
theorem frC_all {n nS : Nat} {T : Nat → Int} {W : Nat → Nat → Bool} {h H h1 h2 h3 : Hp} (f : frC h H) (I : RdI n nS W H h n h1) (O : OuI h1 T (chW W) n 0 h2) (f3 : frF (hI (hI h2 42 11 (-1)) 42 12 0) h3) : frC h h3 := by
  refine ⟨fun o j q => ?_, f3.2.trans (O.f2.trans (I.f2.trans f.2))⟩
  rw [f3.1 o j (by omega), hI_ne (by omega), hI_ne (by omega), O.fr o j (by omega) (by omega) (by omega), I.fr o j (by omega) (by omega) (by omega)]
  exact f.1 o j q
theorem lp_in {d : Nat} {Q : Option Value → Hp → Prop} {X : Cf → Prop} (hX : Clo (Call d) cd10 none Q X) {y k : Nat} (hy : y < 10) (hk : k ≤ 10) {S : Nat → Int} (hS : ∀ i, 0 ≤ S i ∧ S i ≤ 20000) {h1 : Hp} (so : ∀ i, i < k → (h1.1 52 (nI i)).toInt = S i) (K : ∀ h (sI : Int32), InI h1 S y (k + 1) h → X (116, [some (.ref 42), some (.int (nI k)), some (.int (nI y)), some (.int sI), some (.int (nI (k + 1)))], [], h)) {j : Nat} (hj : j ≤ k + 1) : ∀ (h : Hp) (sI : Int32), (j ≤ k → sI.toInt = pre S j) → InI h1 S y j h → X (71, [some (.ref 42), some (.int (nI k)), some (.int (nI y)), some (.int sI), some (.int (nI j))], [], h) := by
  refine dn_ind (P := fun j => ∀ (h : Hp) (sI : Int32), (j ≤ k → sI.toInt = pre S j) → InI h1 S y j h → X (71, [some (.ref 42), some (.int (nI k)), some (.int (nI y)), some (.int sI), some (.int (nI j))], [], h)) (fun j hj ih h sI hs I => ?_) hj
  refine go hX 3 (gs := [True, True, True]) (z' := (if (nI k) < (nI j) then 116 else 77, [some (.ref 42), some (.int (nI k)), some (.int (nI y)), some (.int sI), some (.int (nI j))], [], h)) rfl ⟨trivial, trivial, trivial, trivial⟩ ?_
  refine br (fun b1 => ?_) (fun b1 => ?_)
  ·
    have e : j = k + 1 := by
      have := (tx_lt (by omega) (by omega)).mp b1
      omega
    subst e
    exact K h sI I
  ·
    have jk : j ≤ k := Nat.not_lt.mp (fun z => b1 ((tx_lt (by omega) (by omega)).mpr z))
    refine go hX 5 (gs := [True, True, True, True, True]) (z' := (if (nI 11) ≤ (nI j) then 116 else 87, [some (.ref 42), some (.int (nI k)), some (.int (nI y)), some (.int sI), some (.int (nI j))], [], h)) rfl ⟨trivial, trivial, trivial, trivial, trivial, trivial⟩ ?_
    refine br (fun b2 => ?_) (fun b2 => ?_)
    ·
      exact absurd ((tx_le (a := 11) (by decide) (by omega)).mp b2) (by omega)
    ·
      refine go hX 18 (gs := [True, True, True, True, ibd (nI j) 11, True, True, True, True, ibd (((nI y) * 11) + (nI j)) 121, True, True, True, True, True, True, True, True]) (z' := (71, [some (.ref 42), some (.int (nI k)), some (.int (nI y)), some (.int (sI + (h.1 52 (nI j)))), some (.int ((nI j) + 1))], [], (hI h 51 (((nI y) * 11) + (nI j)) sI))) rfl ⟨trivial, trivial, trivial, trivial, ?_, trivial, trivial, trivial, trivial, ?_, trivial, trivial, trivial, trivial, trivial, trivial, trivial, trivial, trivial⟩ ?_
      · exact ibd_of (B := 11) rfl (tx_0 _ (by omega)) ((tx_lt (b := 11) (by omega) (by decide)).mpr (by omega))
      · rw [ix11]; exact ibd_of (B := 121) rfl (tx_0 _ (by omega)) ((tx_lt (b := 121) (by omega) (by decide)).mpr (by omega))
      rw [tx_1, ix11]
      exact ih (j + 1) (Nat.lt_succ_self j) (by omega) _ _ (fun q => sum_stp hS (hs (by omega)) (by rw [I.fr 52 _ (by decide)]; exact so j (by omega)) (by omega)) (I.stp hy (by omega) (hs (by omega)))
theorem lp_out {d : Nat} {Q : Option Value → Hp → Prop} {X : Cf → Prop} (hX : Clo (Call (d + 1)) cd10 none Q X) {n : Nat} (hn : n ≤ 10) {T : Nat → Int} (hT : ∀ i, 0 ≤ T i ∧ T i ≤ 20000) {ch : Nat → Bool} {h0 : Hp} (hch : ∀ i, i < n → (¬ h0.1 43 (nI i) = 0 ↔ ch i = true)) (htu : ∀ i, i < n → (h0.1 45 (nI i)).toInt = T i) (K : ∀ h, OuI h0 T ch n 0 h → Q none h) : ∀ (y : Nat), y ≤ n → ∀ (h : Hp) (l3 l4 : Option Value), (l3 = none ∧ l4 = none ∨ ∃ a b, l3 = some (.int a) ∧ l4 = some (.int b)) → OuI h0 T ch n y h → X (32, [some (.ref 42), some (.int (nI (srt T ch n (n - y)).2)), some (.int (xI y)), l3, l4], [], h) := by
  intro y
  induction y with
  | zero =>
    intro _ h l3 l4 hl O
    show X (32, [some (.ref 42), some (.int (nI (srt T ch n (n - 0)).2)), some (.int (-1)), l3, l4], [], h)
    rcases hl with ⟨rfl, rfl⟩ | ⟨a3, a4, rfl, rfl⟩
    ·
      refine go hX 2 (gs := [True, True]) (z' := (122, [some (.ref 42), some (.int (nI (srt T ch n (n - 0)).2)), some (.int (-1)), none, none], [], h)) rfl ⟨trivial, trivial, trivial⟩ ?_
      refine rt_ hX (G := True) (r := none) rfl trivial ?_
      exact K h O
    ·
      refine go hX 2 (gs := [True, True]) (z' := (122, [some (.ref 42), some (.int (nI (srt T ch n (n - 0)).2)), some (.int (-1)), some (.int a3), some (.int a4)], [], h)) rfl ⟨trivial, trivial, trivial⟩ ?_
      refine rt_ hX (G := True) (r := none) rfl trivial ?_
      exact K h O
  | succ y ih =>
    intro hy1 h l3 l4 hl O
    have hy : y < n := hy1
    have hch : ∀ i, i < n → (¬ h.1 43 (nI i) = 0 ↔ ch i = true) := fun i hi => by rw [O.fr 43 _ (by decide) (by decide) (by decide)]; exact hch i hi
    have sl : (srt T ch n (n - (y + 1))).2 ≤ n - (y + 1) := srt_le
    show X (32, [some (.ref 42), some (.int (nI (srt T ch n (n - (y + 1))).2)), some (.int (nI y)), l3, l4], [], h)
    rcases hl with ⟨rfl, rfl⟩ | ⟨a3, a4, rfl, rfl⟩
    ·
      refine go hX 2 (gs := [True, True]) (z' := (if (nI y) < 0 then 122 else 36, [some (.ref 42), some (.int (nI (srt T ch n (n - (y + 1))).2)), some (.int (nI y)), none, none], [], h)) rfl ⟨trivial, trivial, trivial⟩ ?_
      refine br (fun b1 => ?_) (fun b1 => ?_)
      ·
        refine rt_ hX (G := True) (r := none) rfl trivial ?_
        exact absurd (tx_0 y (by omega)) (Int32.not_le.mpr b1)
      ·
        refine go hX 5 (gs := [True, ibd (nI y) 10, True, True, True]) (z' := (if (h.1 43 (nI y)) = 0 then 59 else 45, [some (.ref 42), some (.int (nI (srt T ch n (n - (y + 1))).2)), some (.int (nI y)), none, none], [], h)) rfl ⟨trivial, ?_, trivial, trivial, trivial, trivial⟩ ?_
        · exact ibd_of (B := 10) rfl (tx_0 _ (by omega)) ((tx_lt (b := 10) (by omega) (by decide)).mpr (by omega))
        refine br (fun b2 => ?_) (fun b2 => ?_)
        ·
          refine go hX 9 (gs := [True, True, True, True, ibd (nI y) 11, True, True, True, True]) (z' := (71, [some (.ref 42), some (.int (nI (srt T ch n (n - (y + 1))).2)), some (.int (nI y)), some (.int 0), some (.int 0)], [], (hI h 50 (nI y) (nI (srt T ch n (n - (y + 1))).2)))) rfl ⟨trivial, trivial, trivial, trivial, ?_, trivial, trivial, trivial, trivial, trivial⟩ ?_
          · exact ibd_of (B := 11) rfl (tx_0 _ (by omega)) ((tx_lt (b := 11) (by omega) (by decide)).mpr (by omega))
          have eS : srt T ch n (n - y) = srt T ch n (n - (y + 1)) := by rw [srt_up hy, if_neg (fun z => (hch y hy).mpr z b2)]
          rw [← eS]
          have so : ∀ i, i < (srt T ch n (n - y)).2 → (h.1 52 (nI i)).toInt = (srt T ch n (n - y)).1 i := by rw [eS]; exact O.so
          have k10 : (srt T ch n (n - y)).2 ≤ 10 := Nat.le_trans srt_le (by omega)
          refine lp_in (h1 := hI h 50 (nI y) (nI (srt T ch n (n - y)).2)) hX (by omega) k10 (srt_b hT) (fun i hi => by rw [hI_ne (by decide)]; exact so i hi) (fun h2 sI I => ?_) (Nat.zero_le _) _ 0 (fun _ => rfl) ⟨fun _ _ _ => rfl, rfl, fun _ _ _ => rfl, fun m hm => absurd hm (Nat.not_lt_zero m)⟩
          have O2 := O.stp hn hy fr52_rf so I
          refine go hX 2 (gs := [True, True]) (z' := (32, [some (.ref 42), some (.int (nI (srt T ch n (n - y)).2)), some (.int ((nI y) + (-1))), some (.int sI), some (.int (nI ((srt T ch n (n - y)).2 + 1)))], [], h2)) rfl ⟨trivial, trivial, trivial⟩ ?_
          rw [(xI_m (by omega)).1]
          exact ih (by omega) h2 _ _ (Or.inr ⟨_, _, rfl, rfl⟩) O2
        ·
          refine go hX 6 (gs := [True, ibd (nI y) 10, True, True, True, True]) (z' := (53, [some (.ref 42), some (.int (nI (srt T ch n (n - (y + 1))).2)), some (.int (nI y)), none, none], [.int (nI (srt T ch n (n - (y + 1))).2), .int (h.1 45 (nI y)), .ref 42], h)) rfl ⟨trivial, ?_, trivial, trivial, trivial, trivial, trivial⟩ ?_
          · exact ibd_of (B := 10) rfl (tx_0 _ (by omega)) ((tx_lt (b := 10) (by omega) (by decide)).mpr (by omega))
          refine cl hX 11 3 [.ref 42, .int (h.1 45 (nI y)), .int (nI (srt T ch n (n - (y + 1))).2)] [] rfl rfl rfl rfl ?_
          refine c_sortIn (n := (srt T ch n (n - (y + 1))).2) (S := (srt T ch n (n - (y + 1))).1) (by omega) O.so (fun h1 f1 q1 => ?_)
          show X (56, [some (.ref 42), some (.int (nI (srt T ch n (n - (y + 1))).2)), some (.int (nI y)), none, none], [], h1)
          refine go hX 10 (gs := [True, True, True, True, ibd (nI y) 11, True, True, True, True, True]) (z' := (71, [some (.ref 42), some (.int ((nI (srt T ch n (n - (y + 1))).2) + 1)), some (.int (nI y)), some (.int 0), some (.int 0)], [], (hI h1 50 (nI y) ((nI (srt T ch n (n - (y + 1))).2) + 1)))) rfl ⟨trivial, trivial, trivial, trivial, ?_, trivial, trivial, trivial, trivial, trivial, trivial⟩ ?_
          · exact ibd_of (B := 11) rfl (tx_0 _ (by omega)) ((tx_lt (b := 11) (by omega) (by decide)).mpr (by omega))
          rw [tx_1]
          have eS : srt T ch n (n - y) = (insP (srt T ch n (n - (y + 1))).1 (posI (srt T ch n (n - (y + 1))).1 (T y) (srt T ch n (n - (y + 1))).2) (T y), (srt T ch n (n - (y + 1))).2 + 1) := by rw [srt_up hy, if_pos ((hch y hy).mp b2)]
          have ek : (srt T ch n (n - (y + 1))).2 + 1 = (srt T ch n (n - y)).2 := by rw [eS]
          rw [ek]
          have so : ∀ i, i < (srt T ch n (n - y)).2 → (h1.1 52 (nI i)).toInt = (srt T ch n (n - y)).1 i := fun i hi => by
            have := q1 i (by rw [← ek] at hi; omega)
            rw [eS]
            rw [O.fr 45 _ (by decide) (by decide) (by decide), htu y hy] at this
            exact this
          have k10 : (srt T ch n (n - y)).2 ≤ 10 := Nat.le_trans srt_le (by omega)
          refine lp_in (h1 := hI h1 50 (nI y) (nI (srt T ch n (n - y)).2)) hX (by omega) k10 (srt_b hT) (fun i hi => by rw [hI_ne (by decide)]; exact so i hi) (fun h2 sI I => ?_) (Nat.zero_le _) _ 0 (fun _ => rfl) ⟨fun _ _ _ => rfl, rfl, fun _ _ _ => rfl, fun m hm => absurd hm (Nat.not_lt_zero m)⟩
          have O2 := O.stp hn hy f1 so I
          refine go hX 2 (gs := [True, True]) (z' := (32, [some (.ref 42), some (.int (nI (srt T ch n (n - y)).2)), some (.int ((nI y) + (-1))), some (.int sI), some (.int (nI ((srt T ch n (n - y)).2 + 1)))], [], h2)) rfl ⟨trivial, trivial, trivial⟩ ?_
          rw [(xI_m (by omega)).1]
          exact ih (by omega) h2 _ _ (Or.inr ⟨_, _, rfl, rfl⟩) O2
    ·
      refine go hX 2 (gs := [True, True]) (z' := (if (nI y) < 0 then 122 else 36, [some (.ref 42), some (.int (nI (srt T ch n (n - (y + 1))).2)), some (.int (nI y)), some (.int a3), some (.int a4)], [], h)) rfl ⟨trivial, trivial, trivial⟩ ?_
      refine br (fun b1 => ?_) (fun b1 => ?_)
      ·
        refine rt_ hX (G := True) (r := none) rfl trivial ?_
        exact absurd (tx_0 y (by omega)) (Int32.not_le.mpr b1)
      ·
        refine go hX 5 (gs := [True, ibd (nI y) 10, True, True, True]) (z' := (if (h.1 43 (nI y)) = 0 then 59 else 45, [some (.ref 42), some (.int (nI (srt T ch n (n - (y + 1))).2)), some (.int (nI y)), some (.int a3), some (.int a4)], [], h)) rfl ⟨trivial, ?_, trivial, trivial, trivial, trivial⟩ ?_
        · exact ibd_of (B := 10) rfl (tx_0 _ (by omega)) ((tx_lt (b := 10) (by omega) (by decide)).mpr (by omega))
        refine br (fun b2 => ?_) (fun b2 => ?_)
        ·
          refine go hX 9 (gs := [True, True, True, True, ibd (nI y) 11, True, True, True, True]) (z' := (71, [some (.ref 42), some (.int (nI (srt T ch n (n - (y + 1))).2)), some (.int (nI y)), some (.int 0), some (.int 0)], [], (hI h 50 (nI y) (nI (srt T ch n (n - (y + 1))).2)))) rfl ⟨trivial, trivial, trivial, trivial, ?_, trivial, trivial, trivial, trivial, trivial⟩ ?_
          · exact ibd_of (B := 11) rfl (tx_0 _ (by omega)) ((tx_lt (b := 11) (by omega) (by decide)).mpr (by omega))
          have eS : srt T ch n (n - y) = srt T ch n (n - (y + 1)) := by rw [srt_up hy, if_neg (fun z => (hch y hy).mpr z b2)]
          rw [← eS]
          have so : ∀ i, i < (srt T ch n (n - y)).2 → (h.1 52 (nI i)).toInt = (srt T ch n (n - y)).1 i := by rw [eS]; exact O.so
          have k10 : (srt T ch n (n - y)).2 ≤ 10 := Nat.le_trans srt_le (by omega)
          refine lp_in (h1 := hI h 50 (nI y) (nI (srt T ch n (n - y)).2)) hX (by omega) k10 (srt_b hT) (fun i hi => by rw [hI_ne (by decide)]; exact so i hi) (fun h2 sI I => ?_) (Nat.zero_le _) _ 0 (fun _ => rfl) ⟨fun _ _ _ => rfl, rfl, fun _ _ _ => rfl, fun m hm => absurd hm (Nat.not_lt_zero m)⟩
          have O2 := O.stp hn hy fr52_rf so I
          refine go hX 2 (gs := [True, True]) (z' := (32, [some (.ref 42), some (.int (nI (srt T ch n (n - y)).2)), some (.int ((nI y) + (-1))), some (.int sI), some (.int (nI ((srt T ch n (n - y)).2 + 1)))], [], h2)) rfl ⟨trivial, trivial, trivial⟩ ?_
          rw [(xI_m (by omega)).1]
          exact ih (by omega) h2 _ _ (Or.inr ⟨_, _, rfl, rfl⟩) O2
        ·
          refine go hX 6 (gs := [True, ibd (nI y) 10, True, True, True, True]) (z' := (53, [some (.ref 42), some (.int (nI (srt T ch n (n - (y + 1))).2)), some (.int (nI y)), some (.int a3), some (.int a4)], [.int (nI (srt T ch n (n - (y + 1))).2), .int (h.1 45 (nI y)), .ref 42], h)) rfl ⟨trivial, ?_, trivial, trivial, trivial, trivial, trivial⟩ ?_
          · exact ibd_of (B := 10) rfl (tx_0 _ (by omega)) ((tx_lt (b := 10) (by omega) (by decide)).mpr (by omega))
          refine cl hX 11 3 [.ref 42, .int (h.1 45 (nI y)), .int (nI (srt T ch n (n - (y + 1))).2)] [] rfl rfl rfl rfl ?_
          refine c_sortIn (n := (srt T ch n (n - (y + 1))).2) (S := (srt T ch n (n - (y + 1))).1) (by omega) O.so (fun h1 f1 q1 => ?_)
          show X (56, [some (.ref 42), some (.int (nI (srt T ch n (n - (y + 1))).2)), some (.int (nI y)), some (.int a3), some (.int a4)], [], h1)
          refine go hX 10 (gs := [True, True, True, True, ibd (nI y) 11, True, True, True, True, True]) (z' := (71, [some (.ref 42), some (.int ((nI (srt T ch n (n - (y + 1))).2) + 1)), some (.int (nI y)), some (.int 0), some (.int 0)], [], (hI h1 50 (nI y) ((nI (srt T ch n (n - (y + 1))).2) + 1)))) rfl ⟨trivial, trivial, trivial, trivial, ?_, trivial, trivial, trivial, trivial, trivial, trivial⟩ ?_
          · exact ibd_of (B := 11) rfl (tx_0 _ (by omega)) ((tx_lt (b := 11) (by omega) (by decide)).mpr (by omega))
          rw [tx_1]
          have eS : srt T ch n (n - y) = (insP (srt T ch n (n - (y + 1))).1 (posI (srt T ch n (n - (y + 1))).1 (T y) (srt T ch n (n - (y + 1))).2) (T y), (srt T ch n (n - (y + 1))).2 + 1) := by rw [srt_up hy, if_pos ((hch y hy).mp b2)]
          have ek : (srt T ch n (n - (y + 1))).2 + 1 = (srt T ch n (n - y)).2 := by rw [eS]
          rw [ek]
          have so : ∀ i, i < (srt T ch n (n - y)).2 → (h1.1 52 (nI i)).toInt = (srt T ch n (n - y)).1 i := fun i hi => by
            have := q1 i (by rw [← ek] at hi; omega)
            rw [eS]
            rw [O.fr 45 _ (by decide) (by decide) (by decide), htu y hy] at this
            exact this
          have k10 : (srt T ch n (n - y)).2 ≤ 10 := Nat.le_trans srt_le (by omega)
          refine lp_in (h1 := hI h1 50 (nI y) (nI (srt T ch n (n - y)).2)) hX (by omega) k10 (srt_b hT) (fun i hi => by rw [hI_ne (by decide)]; exact so i hi) (fun h2 sI I => ?_) (Nat.zero_le _) _ 0 (fun _ => rfl) ⟨fun _ _ _ => rfl, rfl, fun _ _ _ => rfl, fun m hm => absurd hm (Nat.not_lt_zero m)⟩
          have O2 := O.stp hn hy f1 so I
          refine go hX 2 (gs := [True, True]) (z' := (32, [some (.ref 42), some (.int (nI (srt T ch n (n - y)).2)), some (.int ((nI y) + (-1))), some (.int sI), some (.int (nI ((srt T ch n (n - y)).2 + 1)))], [], h2)) rfl ⟨trivial, trivial, trivial⟩ ?_
          rw [(xI_m (by omega)).1]
          exact ih (by omega) h2 _ _ (Or.inr ⟨_, _, rfl, rfl⟩) O2
theorem c_least {d : Nat} {Q : Option Value → Hp → Prop} {h : Hp} {n : Nat} (hn : n ≤ 10) (e10 : h.1 42 10 = nI n) {T : Nat → Int} (hT : ∀ i, 0 ≤ T i ∧ T i ≤ 20000) {ch : Nat → Bool} (hch : ∀ i, i < n → (¬ h.1 43 (nI i) = 0 ↔ ch i = true)) (htu : ∀ i, i < n → (h.1 45 (nI i)).toInt = T i) (K : ∀ h', OuI h T ch n 0 h' → Q none h') : Call (d + 2) 10 [.ref 42] h Q := by
  refine call_of (rfl : psM[10]? = some _) rfl rfl (rcvV rfl) (fun X hX => ?_)
  show X (0, [some (.ref 42), none, none, none, none], [], h)
  refine go hX 21 (gs := [True, True, True, True, True, ibd ((h.1 42 10) * 11) 121, True, True, True, True, True, True, True, ibd (h.1 42 10) 11, True, True, True, True, True, True, True]) (z' := (32, [some (.ref 42), some (.int 0), some (.int ((h.1 42 10) - 1)), none, none], [], (hI (hI h 50 (h.1 42 10) 0) 51 ((h.1 42 10) * 11) 0))) rfl ⟨trivial, trivial, trivial, trivial, trivial, ?_, trivial, trivial, trivial, trivial, trivial, trivial, trivial, ?_, trivial, trivial, trivial, trivial, trivial, trivial, trivial, trivial⟩ ?_
  · rw [e10, show nI n * 11 = nI (n * 11 + 0) from (Int32.ofNat_mul n 11).symm]; exact ibd_of (B := 121) rfl (tx_0 _ (by omega)) ((tx_lt (b := 121) (by omega) (by decide)).mpr (by omega))
  · rw [e10]; exact ibd_of (B := 11) rfl (tx_0 _ (by omega)) ((tx_lt (b := 11) (by omega) (by decide)).mpr (by omega))
  have z : nI (srt T ch n (n - n)).2 = 0 := by rw [Nat.sub_self]; rfl
  have P := lp_out hX hn hT hch htu K n (Nat.le_refl n) _ none none (Or.inl ⟨rfl, rfl⟩) (OuI.st hn)
  rw [z] at P
  have ei : nI n * 11 = nI (n * 11 + 0) := (Int32.ofNat_mul n 11).symm
  rw [e10, (xI_m (by omega)).2, ei]
  exact P
theorem c_getRo {d : Nat} {Q : Option Value → Hp → Prop} {h : Hp} {x : Int32} (xm : h.1 2 2 ≤ 3) (k : Q (some (.int (roA h x))) h) : Call (d + 1) 94 [.ref 2, .int x, .int 0] h Q := by
  refine call_of (rfl : psM[94]? = some _) rfl rfl (rcvV rfl) (fun X hX => ?_)
  show X (0, [some (.ref 2), some (.int x), some (.int 0)], [], h)
  refine go hX 2 (gs := [True, True]) (z' := (if x < 0 then 24 else 4, [some (.ref 2), some (.int x), some (.int 0)], [], h)) rfl ⟨trivial, trivial, trivial⟩ ?_
  refine br (fun b1 => ?_) (fun b1 => ?_)
  ·
    refine go hX 1 (gs := [True]) (z' := (25, [some (.ref 2), some (.int x), some (.int 0)], [.int 0], h)) rfl ⟨trivial, trivial⟩ ?_
    refine rt_ hX (G := True) (r := some (.int 0)) rfl trivial ?_
    rw [show roA h x = _ from if_neg (by grind)] at k; exact k
  ·
    refine go hX 4 (gs := [True, True, True, True]) (z' := (if (h.1 2 2) ≤ x then 24 else 12, [some (.ref 2), some (.int x), some (.int 0)], [], h)) rfl ⟨trivial, trivial, trivial, trivial, trivial⟩ ?_
    refine br (fun b2 => ?_) (fun b2 => ?_)
    ·
      refine go hX 1 (gs := [True]) (z' := (25, [some (.ref 2), some (.int x), some (.int 0)], [.int 0], h)) rfl ⟨trivial, trivial⟩ ?_
      refine rt_ hX (G := True) (r := some (.int 0)) rfl trivial ?_
      rw [show roA h x = _ from if_neg (by grind)] at k; exact k
    ·
      refine go hX 15 (gs := [ibd ((x * 8) + 0) 24, True, True, True, True, True, True, True, True, True, True, True, True, True, True]) (z' := (39, [some (.ref 2), some (.int x), some (.int 0)], [.int (h.1 3 ((x * 8) + 0))], h)) rfl ⟨?_, trivial, trivial, trivial, trivial, trivial, trivial, trivial, trivial, trivial, trivial, trivial, trivial, trivial, trivial, trivial⟩ ?_
      · exact ibd_of (B := 24) rfl (by grind) (by grind)
      refine rt_ hX (G := True) (r := some (.int (h.1 3 ((x * 8) + 0)))) rfl trivial ?_
      rw [show roA h x = _ from if_pos (by grind)] at k; exact k
theorem lp_rd {d : Nat} {Q : Option Value → Hp → Prop} {X : Cf → Prop} (hX : Clo (Call (d + 4)) cd8 none Q X) {n nS : Nat} {T C : Nat → Int} {W : Nat → Nat → Bool} {B : Nat → Nat} {h0 H : Hp} (S : FnA n nS T C W B h0) (eH : ∀ o (i : Int32), o < 42 → H.1 o i = h0.1 o i) (H10 : H.1 42 10 = nI n) (K : ∀ h, RdI n nS W H h0 n h → X (110, [some (.ref 42), some (.ref 1), some (.int (nI n))], [], h)) {j : Nat} (hj : j ≤ n) : ∀ h, RdI n nS W H h0 j h → X (53, [some (.ref 42), some (.ref 1), some (.int (nI j))], [], h) := by
  have n10 := S.n10
  refine dn_ind (P := fun j => ∀ h, RdI n nS W H h0 j h → X (53, [some (.ref 42), some (.ref 1), some (.int (nI j))], [], h)) (fun j hj ih h I => ?_) hj
  have e42 : ∀ o (i : Int32), o < 42 → h.1 o i = h0.1 o i := fun o i ho => (I.fr o i (by omega) (by omega) (by omega)).trans (eH o i ho)
  have S1 := S.cg e42
  have e5 : ∀ i, h.1 5 i = h0.1 5 i := fun i => e42 5 i (by decide)
  have e10 : h.1 42 10 = nI n := (I.fr 42 10 (by decide) (by decide) (by decide)).trans H10
  have xm : h.1 4 2 ≤ 10 := by rw [S1.en]; exact (tx_le (b := 10) (by omega) (by decide)).mpr n10
  have ym : h.1 2 2 ≤ 3 := by rw [S1.es]; exact (tx_le (b := 3) (by have := S1.s3; omega) (by decide)).mpr S1.s3
  refine go hX 4 (gs := [True, True, True, True]) (z' := (if (h.1 42 10) ≤ (nI j) then 110 else 61, [some (.ref 42), some (.ref 1), some (.int (nI j))], [], h)) rfl ⟨trivial, trivial, trivial, trivial, trivial⟩ ?_
  refine br (fun b1 => ?_) (fun b1 => ?_)
  ·
    have e : j = n := Nat.le_antisymm hj ((tx_le (by omega) (by omega)).mp (by rw [← e10]; exact b1))
    subst e
    exact K h I
  ·
    have jn : j < n := Nat.lt_of_not_le (fun q => b1 (by rw [e10]; exact (tx_le (by omega) (by omega)).mpr q))
    have x0 : (0 : Int32) ≤ nI j := tx_0 j (by omega)
    have x1 : nI j < h.1 4 2 := by rw [S1.en]; exact (tx_lt (by omega) (by omega)).mpr jn
    refine go hX 5 (gs := [True, True, True, True, True]) (z' := (68, [some (.ref 42), some (.ref 1), some (.int (nI j))], [.int (nI j), .ref 1, .int (nI j), .ref 43], h)) rfl ⟨trivial, trivial, trivial, trivial, trivial, trivial⟩ ?_
    refine cl hX 9 2 [.ref 1, .int (nI j)] [.int (nI j), .ref 43] rfl rfl rfl rfl ?_
    refine c_choices (d := d) S1.s3 S1.es x0 x1 xm ym (fun k hk => S1.wi j k jn hk) ?_
    show X (71, [some (.ref 42), some (.ref 1), some (.int (nI j))], [.int (nI (chB_ (W j) nS)), .int (nI j), .ref 43], h)
    refine go hX 8 (gs := [True, True, True, True, True, True, True, ibd (nI j) 10]) (z' := (84, [some (.ref 42), some (.ref 1), some (.int (nI j))], [.int 12, .int (nI j), .ref 4, .int (nI j), .ref 44], (hI h 43 (nI j) (nI (chB_ (W j) nS))))) rfl ⟨trivial, trivial, trivial, trivial, trivial, trivial, trivial, ?_, trivial⟩ ?_
    · exact ibd_of (B := 10) rfl (tx_0 j (by omega)) ((tx_lt (b := 10) (by omega) (by decide)).mpr (by omega))
    refine cl hX 94 3 [.ref 4, .int (nI j), .int 12] [.int (nI j), .ref 44] rfl rfl rfl rfl ?_
    refine c_getH12 x0 x1 xm ?_
    show X (87, [some (.ref 42), some (.ref 1), some (.int (nI j))], [.int ((hI h 43 (nI j) (nI (chB_ (W j) nS))).1 5 (((nI j) * 14) + 12)), .int (nI j), .ref 44], (hI h 43 (nI j) (nI (chB_ (W j) nS))))
    refine go hX 8 (gs := [True, True, True, True, True, True, True, ibd (nI j) 10]) (z' := (100, [some (.ref 42), some (.ref 1), some (.int (nI j))], [.int 6, .int (nI j), .ref 4, .int (nI j), .ref 45], (hI (hI h 43 (nI j) (nI (chB_ (W j) nS))) 44 (nI j) ((hI h 43 (nI j) (nI (chB_ (W j) nS))).1 5 (((nI j) * 14) + 12))))) rfl ⟨trivial, trivial, trivial, trivial, trivial, trivial, trivial, ?_, trivial⟩ ?_
    · exact ibd_of (B := 10) rfl (tx_0 j (by omega)) ((tx_lt (b := 10) (by omega) (by decide)).mpr (by omega))
    refine cl hX 94 3 [.ref 4, .int (nI j), .int 6] [.int (nI j), .ref 45] rfl rfl rfl rfl ?_
    refine c_getH6 x0 x1 xm ?_
    show X (103, [some (.ref 42), some (.ref 1), some (.int (nI j))], [.int ((hI (hI h 43 (nI j) (nI (chB_ (W j) nS))) 44 (nI j) ((hI h 43 (nI j) (nI (chB_ (W j) nS))).1 5 (((nI j) * 14) + 12))).1 5 (((nI j) * 14) + 6)), .int (nI j), .ref 45], (hI (hI h 43 (nI j) (nI (chB_ (W j) nS))) 44 (nI j) ((hI h 43 (nI j) (nI (chB_ (W j) nS))).1 5 (((nI j) * 14) + 12))))
    refine go hX 3 (gs := [True, True, ibd (nI j) 10]) (z' := (53, [some (.ref 42), some (.ref 1), some (.int ((nI j) + 1))], [], (hI (hI (hI h 43 (nI j) (nI (chB_ (W j) nS))) 44 (nI j) ((hI h 43 (nI j) (nI (chB_ (W j) nS))).1 5 (((nI j) * 14) + 12))) 45 (nI j) ((hI (hI h 43 (nI j) (nI (chB_ (W j) nS))) 44 (nI j) ((hI h 43 (nI j) (nI (chB_ (W j) nS))).1 5 (((nI j) * 14) + 12))).1 5 (((nI j) * 14) + 6))))) rfl ⟨trivial, trivial, ?_, trivial⟩ ?_
    · exact ibd_of (B := 10) rfl (tx_0 j (by omega)) ((tx_lt (b := 10) (by omega) (by decide)).mpr (by omega))
    simp only [Bst.c_mk, Bst.s_mk, Bst.g_mk, Fp.n_mk, Fp.T_mk, Fp.C_mk, Fp.W_mk, Fp.B_mk, Fp.ab_mk, Fp.ls_mk, hI_ne (show (5 : Nat) ≠ 43 by decide), hI_ne (show (5 : Nat) ≠ 44 by decide), e5, tx_1]
    exact ih (j + 1) (Nat.lt_succ_self j) (by omega) _ (I.stp (by omega))
theorem c_find {d : Nat} {Q : Option Value → Hp → Prop} {n nS : Nat} {T C : Nat → Int} {W : Nat → Nat → Bool} {B : Nat → Nat} {h : Hp} (S : FnA n nS T C W B h) (K : ∀ h', frC h h' → h'.1 42 10 = nI n → ClD (mkF n T C W B) h' (fun _ => 3) 0 (srch T (okFi (mkF n T C W B)) n 0 (fun _ => 3) 0 0 ⟨-1, 0, fun _ => 3⟩) → Q none h') : Call (d + 2 * n + 7) 8 [.ref 42, .ref 1] h Q := by
  have ym : h.1 2 2 ≤ 3 := by rw [S.es]; exact (tx_le (b := 3) (by have := S.s3; omega) (by decide)).mpr S.s3
  refine call_of (rfl : psM[8]? = some _) rfl rfl (rcvV rfl) (fun X hX => ?_)
  show X (0, [some (.ref 42), some (.ref 1), none], [], h)
  refine go hX 4 (gs := [True, True, True, True]) (z' := (7, [some (.ref 42), some (.ref 1), none], [.ref 4, .int 10, .ref 42], h)) rfl ⟨trivial, trivial, trivial, trivial, trivial⟩ ?_
  refine cl hX 91 1 [.ref 4] [.int 10, .ref 42] rfl rfl rfl rfl ?_
  refine c_rows4 ?_
  show X (10, [some (.ref 42), some (.ref 1), none], [.int (h.1 4 2), .int 10, .ref 42], h)
  refine go hX 14 (gs := [True, True, True, True, True, True, True, True, True, True, True, True, True, True]) (z' := (34, [some (.ref 42), some (.ref 1), some (.int 0)], [.int 0, .int 0, .ref 2, .int 0, .ref 46], (hI h 42 10 (if (h.1 4 2) < 10 then (h.1 4 2) else 10)))) rfl ⟨trivial, trivial, trivial, trivial, trivial, trivial, trivial, trivial, trivial, trivial, trivial, trivial, trivial, trivial, trivial⟩ ?_
  refine cl hX 94 3 [.ref 2, .int 0, .int 0] [.int 0, .ref 46] rfl rfl rfl rfl ?_
  refine c_getRo (by exact ym) ?_
  show X (37, [some (.ref 42), some (.ref 1), some (.int 0)], [.int (roA h 0), .int 0, .ref 46], (hI h 42 10 (if (h.1 4 2) < 10 then (h.1 4 2) else 10)))
  refine go hX 18 (gs := [True, True, True, True, True, True, True, True, True, True, True, True, ibd 0 3, True, True, True, True, ibd 0 3]) (z' := (34, [some (.ref 42), some (.ref 1), some (.int 1)], [.int 0, .int 1, .ref 2, .int 1, .ref 46], (hI (hI (hI h 42 10 (if (h.1 4 2) < 10 then (h.1 4 2) else 10)) 46 0 (roA h 0)) 47 0 0))) rfl ⟨trivial, trivial, trivial, trivial, trivial, trivial, trivial, trivial, trivial, trivial, trivial, trivial, ?_, trivial, trivial, trivial, trivial, ?_, trivial⟩ ?_
  · exact ⟨by decide, by decide⟩
  · exact ⟨by decide, by decide⟩
  refine cl hX 94 3 [.ref 2, .int 1, .int 0] [.int 1, .ref 46] rfl rfl rfl rfl ?_
  refine c_getRo (by exact ym) ?_
  show X (37, [some (.ref 42), some (.ref 1), some (.int 1)], [.int (roA h 1), .int 1, .ref 46], (hI (hI (hI h 42 10 (if (h.1 4 2) < 10 then (h.1 4 2) else 10)) 46 0 (roA h 0)) 47 0 0))
  refine go hX 18 (gs := [True, True, True, True, True, True, True, True, True, True, True, True, ibd 1 3, True, True, True, True, ibd 1 3]) (z' := (34, [some (.ref 42), some (.ref 1), some (.int 2)], [.int 0, .int 2, .ref 2, .int 2, .ref 46], (hI (hI (hI (hI (hI h 42 10 (if (h.1 4 2) < 10 then (h.1 4 2) else 10)) 46 0 (roA h 0)) 47 0 0) 46 1 (roA h 1)) 47 1 0))) rfl ⟨trivial, trivial, trivial, trivial, trivial, trivial, trivial, trivial, trivial, trivial, trivial, trivial, ?_, trivial, trivial, trivial, trivial, ?_, trivial⟩ ?_
  · exact ⟨by decide, by decide⟩
  · exact ⟨by decide, by decide⟩
  refine cl hX 94 3 [.ref 2, .int 2, .int 0] [.int 2, .ref 46] rfl rfl rfl rfl ?_
  refine c_getRo (by exact ym) ?_
  show X (37, [some (.ref 42), some (.ref 1), some (.int 2)], [.int (roA h 2), .int 2, .ref 46], (hI (hI (hI (hI (hI h 42 10 (if (h.1 4 2) < 10 then (h.1 4 2) else 10)) 46 0 (roA h 0)) 47 0 0) 46 1 (roA h 1)) 47 1 0))
  refine go hX 13 (gs := [True, True, True, True, True, True, True, ibd 2 3, True, True, True, True, ibd 2 3]) (z' := (53, [some (.ref 42), some (.ref 1), some (.int 0)], [], (hI (hI (hI (hI (hI (hI (hI h 42 10 (if (h.1 4 2) < 10 then (h.1 4 2) else 10)) 46 0 (roA h 0)) 47 0 0) 46 1 (roA h 1)) 47 1 0) 46 2 (roA h 2)) 47 2 0))) rfl ⟨trivial, trivial, trivial, trivial, trivial, trivial, trivial, ?_, trivial, trivial, trivial, trivial, ?_, trivial⟩ ?_
  · exact ⟨by decide, by decide⟩
  · exact ⟨by decide, by decide⟩
  rw [S.en, min10 S.n10]
  generalize hH : (hI (hI (hI (hI (hI (hI (hI h 42 10 (nI n)) 46 0 (roA h 0)) 47 0 0) 46 1 (roA h 1)) 47 1 0) 46 2 (roA h 2)) 47 2 0) = H
  have eH : ∀ o (i : Int32), o < 42 → H.1 o i = h.1 o i := fun o i ho => by rw [← hH, hI_ne (by omega), hI_ne (by omega), hI_ne (by omega), hI_ne (by omega), hI_ne (by omega), hI_ne (by omega), hI_ne (by omega)]
  have H10 : H.1 42 10 = nI n := by rw [← hH]; rfl
  have er : ∀ k, k < 3 → H.1 46 (nI k) = roA h (nI k) ∧ H.1 47 (nI k) = 0 := fun k hk => by
    have : k = 0 ∨ k = 1 ∨ k = 2 := by omega
    rw [← hH]
    rcases this with rfl | rfl | rfl
    · exact ⟨rfl, rfl⟩
    · exact ⟨rfl, rfl⟩
    · exact ⟨rfl, rfl⟩
  have fH : frC h H := ⟨fun o j q => by rw [← hH, hI_ne (by omega), hI_ne (by omega), hI_ne (by omega), hI_ne (by omega), hI_ne (by omega), hI_ne (by omega), hI_ne (by omega)], by rw [← hH]; rfl⟩
  refine lp_rd (d := d + 2 * n + 2) hX S eH H10 (fun h1 I => ?_) (Nat.zero_le n) H ⟨fun _ _ _ _ _ => rfl, rfl, fun i hi => absurd hi (Nat.not_lt_zero i), fun i hi => absurd hi (Nat.not_lt_zero i), fun i hi => absurd hi (Nat.not_lt_zero i)⟩
  refine go hX 1 (gs := [True]) (z' := (111, [some (.ref 42), some (.ref 1), some (.int (nI n))], [.ref 42], h1)) rfl ⟨trivial, trivial⟩ ?_
  refine cl hX 10 1 [.ref 42] [] rfl rfl rfl rfl ?_
  refine c_least (d := d + 2 * n + 4) S.n10 ((I.fr 42 10 (by decide) (by decide) (by decide)).trans H10) S.T0 (ch := chW W) (fun i hi => by rw [I.ch i hi]; exact chB_ch S.s3 S.W0) (fun i hi => by rw [I.tu i hi]; exact S.tu i hi) (fun h2 O => ?_)
  show X (114, [some (.ref 42), some (.ref 1), some (.int (nI n))], [], h2)
  refine go hX 10 (gs := [True, True, True, True, True, True, True, True, True, True]) (z' := (128, [some (.ref 42), some (.ref 1), some (.int (nI n))], [.int 0, .int 0, .int 0, .ref 42], (hI (hI h2 42 11 (-1)) 42 12 0))) rfl ⟨trivial, trivial, trivial, trivial, trivial, trivial, trivial, trivial, trivial, trivial, trivial⟩ ?_
  refine cl hX 12 4 [.ref 42, .int 0, .int 0, .int 0] [] rfl rfl rfl rfl ?_
  obtain ⟨CS, CD⟩ := find_st S H10 er I O
  have PL : PlC (mkF n T C W B) n (d + 4 + 2 * n + 2) := @c_place (mkF n T C W B) (srt_LTO.cg (fun i => chW_iff.symm)) n (d + 4)
  rw [show d + 4 + 2 * n + 2 = d + 2 * n + 6 by omega] at PL
  refine PL (x := 0) (Nat.zero_add n) CS CD (cI := 0) (sI := 0) (c := 0) (s := 0) rfl rfl (Int.le_refl 0) (by omega) (Int.le_refl 0) (by omega) (fun h3 f3 D3 => ?_)
  have kq := K h3 (frC_all fH I O f3) ((f3.1 42 10 (by decide)).trans (by rw [hI_j (by decide), hI_j (by decide), O.fr 42 10 (by decide) (by decide) (by decide), I.fr 42 10 (by decide) (by decide) (by decide)]; exact H10)) D3
  show X (131, [some (.ref 42), some (.ref 1), some (.int (nI n))], [], h3)
  refine rt_ hX (G := True) (r := none) rfl trivial ?_
  exact kq
