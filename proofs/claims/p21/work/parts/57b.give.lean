/-! By hand (contracts printed by wip/se/m27.py). -/
theorem c_leastG {d : Nat} {Q : Option Value → Hp → Prop} {h : Hp} {a b : Int32} (k : Q (some (.int (if a < b then a else b))) h) : Call (d + 1) 161 [.int a, .int b] h Q := by
  refine call_of (rfl : psM[161]? = some _) rfl rfl (rcvS rfl) (fun X hX => ?_)
  show X (0, [some (.int a), some (.int b)], [], h)
  refine go hX 3 (gs := [True, True, True]) (z' := (if b ≤ a then 9 else 5, [some (.int a), some (.int b)], [], h)) rfl ⟨trivial, trivial, trivial, trivial⟩ ?_
  refine br (fun b1 => ?_) (fun b1 => ?_)
  ·
    refine go hX 1 (gs := [True]) (z' := (10, [some (.int a), some (.int b)], [.int b], h)) rfl ⟨trivial, trivial⟩ ?_
    refine rt_ hX (G := True) (r := some (.int b)) rfl trivial ?_
    rw [if_neg (by grind)] at k; exact k
  ·
    refine go hX 2 (gs := [True, True]) (z' := (10, [some (.int a), some (.int b)], [.int a], h)) rfl ⟨trivial, trivial, trivial⟩ ?_
    refine rt_ hX (G := True) (r := some (.int a)) rfl trivial ?_
    rw [if_pos (by grind)] at k; exact k
theorem c_giveA0 {d : Nat} {Q : Option Value → Hp → Prop} {h : Hp} {t a b c : Int32} (e0 : t = -1000000005) (ct : ∀ Q : Option Value → Hp → Prop, Q (some (.int t)) h → Call (d + 3) 83 [.ref 1, .int 5] h Q) (k : Q (some (.int 0)) h) : Call (d + 4) 48 [.ref 34, .ref 1, .int 5, .int a, .int b, .int c] h Q := by
  refine call_of (rfl : psM[48]? = some _) rfl rfl (rcvV rfl) (fun X hX => ?_)
  show X (0, [some (.ref 34), some (.ref 1), some (.int 5), some (.int a), some (.int b), some (.int c), none], [], h)
  refine go hX 2 (gs := [True, True]) (z' := (2, [some (.ref 34), some (.ref 1), some (.int 5), some (.int a), some (.int b), some (.int c), none], [.int 5, .ref 1], h)) rfl ⟨trivial, trivial, trivial⟩ ?_
  refine cl hX 83 2 [.ref 1, .int 5] [] rfl rfl rfl rfl ?_
  refine ct _ ?_
  show X (5, [some (.ref 34), some (.ref 1), some (.int 5), some (.int a), some (.int b), some (.int c), none], [.int t], h)
  refine go hX 4 (gs := [True, True, True, True]) (z' := (if t = (-1000000005) then 14 else 24, [some (.ref 34), some (.ref 1), some (.int 5), some (.int a), some (.int b), some (.int c), some (.int t)], [], h)) rfl ⟨trivial, trivial, trivial, trivial, trivial⟩ ?_
  refine br (fun b1 => ?_) (fun b1 => ?_)
  ·
    refine go hX 3 (gs := [True, True, True]) (z' := (23, [some (.ref 34), some (.ref 1), some (.int 5), some (.int a), some (.int b), some (.int c), some (.int t)], [.int 0], h)) rfl ⟨trivial, trivial, trivial, trivial⟩ ?_
    refine rt_ hX (G := True) (r := some (.int 0)) rfl trivial ?_
    exact k
  ·
    refine go hX 9 (gs := [True, True, True, True, True, True, True, True, True]) (z' := (40, [some (.ref 34), some (.ref 1), some (.int 5), some (.int a), some (.int b), some (.int c), some (.int t)], [.int c, .int b, .int a, .int t, .ref 8, .ref 34, .int 9999, .int 0], h)) rfl ⟨trivial, trivial, trivial, trivial, trivial, trivial, trivial, trivial, trivial, trivial⟩ ?_
    refine cl hX 49 6 [.ref 34, .ref 8, .int t, .int a, .int b, .int c] [.int 9999, .int 0] rfl rfl rfl rfl ?_
    exact absurd e0 b1
theorem c_giveA1 {d : Nat} {Q : Option Value → Hp → Prop} {h : Hp} {t a b c : Int32} {st : Nat → Int} {n : Nat} (e0 : ¬ t = -1000000005) (ct : ∀ Q : Option Value → Hp → Prop, Q (some (.int t)) h → Call (d + 3) 83 [.ref 1, .int 5] h Q) (cw : ∀ {Q : Option Value → Hp → Prop}, (∀ h1 r, frV h h1 → evS a b c st n = [r] → Q (some (.int r)) h1) → Call (d + 3) 49 [.ref 34, .ref 8, .int t, .int a, .int b, .int c] h Q) (k : ∀ h1 r, frV h h1 → evS a b c st n = [r] → Q (some (.int (if 0 < (if r < 9999 then r else 9999) then (if r < 9999 then r else 9999) else 0))) h1) : Call (d + 4) 48 [.ref 34, .ref 1, .int 5, .int a, .int b, .int c] h Q := by
  refine call_of (rfl : psM[48]? = some _) rfl rfl (rcvV rfl) (fun X hX => ?_)
  show X (0, [some (.ref 34), some (.ref 1), some (.int 5), some (.int a), some (.int b), some (.int c), none], [], h)
  refine go hX 2 (gs := [True, True]) (z' := (2, [some (.ref 34), some (.ref 1), some (.int 5), some (.int a), some (.int b), some (.int c), none], [.int 5, .ref 1], h)) rfl ⟨trivial, trivial, trivial⟩ ?_
  refine cl hX 83 2 [.ref 1, .int 5] [] rfl rfl rfl rfl ?_
  refine ct _ ?_
  show X (5, [some (.ref 34), some (.ref 1), some (.int 5), some (.int a), some (.int b), some (.int c), none], [.int t], h)
  refine go hX 4 (gs := [True, True, True, True]) (z' := (if t = (-1000000005) then 14 else 24, [some (.ref 34), some (.ref 1), some (.int 5), some (.int a), some (.int b), some (.int c), some (.int t)], [], h)) rfl ⟨trivial, trivial, trivial, trivial, trivial⟩ ?_
  refine br (fun b1 => ?_) (fun b1 => ?_)
  ·
    refine go hX 3 (gs := [True, True, True]) (z' := (23, [some (.ref 34), some (.ref 1), some (.int 5), some (.int a), some (.int b), some (.int c), some (.int t)], [.int 0], h)) rfl ⟨trivial, trivial, trivial, trivial⟩ ?_
    refine rt_ hX (G := True) (r := some (.int 0)) rfl trivial ?_
    exact absurd b1 e0
  ·
    refine go hX 9 (gs := [True, True, True, True, True, True, True, True, True]) (z' := (40, [some (.ref 34), some (.ref 1), some (.int 5), some (.int a), some (.int b), some (.int c), some (.int t)], [.int c, .int b, .int a, .int t, .ref 8, .ref 34, .int 9999, .int 0], h)) rfl ⟨trivial, trivial, trivial, trivial, trivial, trivial, trivial, trivial, trivial, trivial⟩ ?_
    refine cl hX 49 6 [.ref 34, .ref 8, .int t, .int a, .int b, .int c] [.int 9999, .int 0] rfl rfl rfl rfl ?_
    refine cw (fun h1 r f1 e1 => ?_)
    show X (43, [some (.ref 34), some (.ref 1), some (.int 5), some (.int a), some (.int b), some (.int c), some (.int t)], [.int r, .int 9999, .int 0], h1)
    refine go hX 2 (gs := [True, True]) (z' := (49, [some (.ref 34), some (.ref 1), some (.int 5), some (.int a), some (.int b), some (.int c), some (.int t)], [.int (if 0 < (if r < 9999 then r else 9999) then (if r < 9999 then r else 9999) else 0)], h1)) rfl ⟨trivial, trivial, trivial⟩ ?_
    refine rt_ hX (G := True) (r := some (.int (if 0 < (if r < 9999 then r else 9999) then (if r < 9999 then r else 9999) else 0))) rfl trivial ?_
    exact k h1 r f1 e1
theorem c_giveB0 {d : Nat} {Q : Option Value → Hp → Prop} {h : Hp} {t a b c : Int32} (e0 : ¬ 0 ≤ t) (ct : ∀ Q : Option Value → Hp → Prop, Q (some (.int t)) (hI (hI h 79 119 a) 79 107 b) → Call (d + 3) 227 [.ref 65, .int 5] (hI (hI h 79 119 a) 79 107 b) Q) (k : Q (some (.int 0)) (hI (hI h 79 119 a) 79 107 b)) : Call (d + 4) 231 [.ref 65, .int 5, .int a, .int b, .int c] h Q := by
  refine call_of (rfl : psM[231]? = some _) rfl rfl (rcvV rfl) (fun X hX => ?_)
  show X (0, [some (.ref 65), some (.int 5), some (.int a), some (.int b), some (.int c), none, none], [], h)
  refine go hX 34 (gs := [True, True, True, True, True, True, True, True, True, True, ibd 107 128, True, True, True, True, True, True, True, True, True, ibd 119 128, True, True, True, True, True, True, True, True, True, True, True, True, True]) (z' := (97, [some (.ref 65), some (.int 5), some (.int a), some (.int b), some (.int c), none, none], [.int 5, .ref 65], (hI (hI h 79 119 a) 79 107 b))) rfl ⟨trivial, trivial, trivial, trivial, trivial, trivial, trivial, trivial, trivial, trivial, ?_, trivial, trivial, trivial, trivial, trivial, trivial, trivial, trivial, trivial, ?_, trivial, trivial, trivial, trivial, trivial, trivial, trivial, trivial, trivial, trivial, trivial, trivial, trivial, trivial⟩ ?_
  · exact ⟨by decide, by decide⟩
  · exact ⟨by decide, by decide⟩
  refine cl hX 227 2 [.ref 65, .int 5] [] rfl rfl rfl rfl ?_
  refine ct _ ?_
  show X (100, [some (.ref 65), some (.int 5), some (.int a), some (.int b), some (.int c), none, none], [.int t], (hI (hI h 79 119 a) 79 107 b))
  refine go hX 3 (gs := [True, True, True]) (z' := (if 0 ≤ t then 119 else 107, [some (.ref 65), some (.int 5), some (.int a), some (.int b), some (.int c), some (.int t), none], [], (hI (hI h 79 119 a) 79 107 b))) rfl ⟨trivial, trivial, trivial, trivial⟩ ?_
  refine br (fun b1 => ?_) (fun b1 => ?_)
  ·
    refine go hX 2 (gs := [True, True]) (z' := (122, [some (.ref 65), some (.int 5), some (.int a), some (.int b), some (.int c), some (.int t), none], [.int t, .ref 65], (hI (hI h 79 119 a) 79 107 b))) rfl ⟨trivial, trivial, trivial⟩ ?_
    refine cl hX 230 2 [.ref 65, .int t] [] rfl rfl rfl rfl ?_
    exact absurd b1 e0
  ·
    refine go hX 9 (gs := [True, True, True, True, True, True, True, True, True]) (z' := (141, [some (.ref 65), some (.int 5), some (.int a), some (.int b), some (.int c), some (.int t), some (.int 0)], [.int 9999, .int 0], (hI (hI h 79 119 a) 79 107 b))) rfl ⟨trivial, trivial, trivial, trivial, trivial, trivial, trivial, trivial, trivial, trivial⟩ ?_
    refine cl hX 161 2 [.int 0, .int 9999] [] rfl rfl rfl rfl ?_
    refine c_leastG ?_
    show X (144, [some (.ref 65), some (.int 5), some (.int a), some (.int b), some (.int c), some (.int t), some (.int 0)], [.int (if 0 < 9999 then 0 else 9999)], (hI (hI h 79 119 a) 79 107 b))
    refine rt_ hX (G := True) (r := some (.int (if 0 < 9999 then 0 else 9999))) rfl trivial ?_
    exact k
theorem c_giveB1 {d : Nat} {Q : Option Value → Hp → Prop} {h : Hp} {t a b c : Int32} {st : Nat → Int} {n : Nat} (e0 : 0 ≤ t) (ct : ∀ Q : Option Value → Hp → Prop, Q (some (.int t)) (hI (hI h 79 119 a) 79 107 b) → Call (d + 3) 227 [.ref 65, .int 5] (hI (hI h 79 119 a) 79 107 b) Q) (cw : ∀ {Q : Option Value → Hp → Prop}, (∀ h1 r, fr80' (hI (hI h 79 119 a) 79 107 b) h1 → evS a b c st n = [r] → Q (some (.int r)) h1) → Call (d + 3) 230 [.ref 65, .int t] (hI (hI h 79 119 a) 79 107 b) Q) (k0 : ∀ h1 r, fr80' (hI (hI h 79 119 a) 79 107 b) h1 → evS a b c st n = [r] → ¬ 0 ≤ r → Q (some (.int 0)) h1) (k1 : ∀ h1 r, fr80' (hI (hI h 79 119 a) 79 107 b) h1 → evS a b c st n = [r] → 0 ≤ r → Q (some (.int (if r < 9999 then r else 9999))) h1) : Call (d + 4) 231 [.ref 65, .int 5, .int a, .int b, .int c] h Q := by
  refine call_of (rfl : psM[231]? = some _) rfl rfl (rcvV rfl) (fun X hX => ?_)
  show X (0, [some (.ref 65), some (.int 5), some (.int a), some (.int b), some (.int c), none, none], [], h)
  refine go hX 34 (gs := [True, True, True, True, True, True, True, True, True, True, ibd 107 128, True, True, True, True, True, True, True, True, True, ibd 119 128, True, True, True, True, True, True, True, True, True, True, True, True, True]) (z' := (97, [some (.ref 65), some (.int 5), some (.int a), some (.int b), some (.int c), none, none], [.int 5, .ref 65], (hI (hI h 79 119 a) 79 107 b))) rfl ⟨trivial, trivial, trivial, trivial, trivial, trivial, trivial, trivial, trivial, trivial, ?_, trivial, trivial, trivial, trivial, trivial, trivial, trivial, trivial, trivial, ?_, trivial, trivial, trivial, trivial, trivial, trivial, trivial, trivial, trivial, trivial, trivial, trivial, trivial, trivial⟩ ?_
  · exact ⟨by decide, by decide⟩
  · exact ⟨by decide, by decide⟩
  refine cl hX 227 2 [.ref 65, .int 5] [] rfl rfl rfl rfl ?_
  refine ct _ ?_
  show X (100, [some (.ref 65), some (.int 5), some (.int a), some (.int b), some (.int c), none, none], [.int t], (hI (hI h 79 119 a) 79 107 b))
  refine go hX 3 (gs := [True, True, True]) (z' := (if 0 ≤ t then 119 else 107, [some (.ref 65), some (.int 5), some (.int a), some (.int b), some (.int c), some (.int t), none], [], (hI (hI h 79 119 a) 79 107 b))) rfl ⟨trivial, trivial, trivial, trivial⟩ ?_
  refine br (fun b1 => ?_) (fun b1 => ?_)
  ·
    refine go hX 2 (gs := [True, True]) (z' := (122, [some (.ref 65), some (.int 5), some (.int a), some (.int b), some (.int c), some (.int t), none], [.int t, .ref 65], (hI (hI h 79 119 a) 79 107 b))) rfl ⟨trivial, trivial, trivial⟩ ?_
    refine cl hX 230 2 [.ref 65, .int t] [] rfl rfl rfl rfl ?_
    refine cw (fun h1 r f1 e1 => ?_)
    show X (125, [some (.ref 65), some (.int 5), some (.int a), some (.int b), some (.int c), some (.int t), none], [.int r], h1)
    refine go hX 3 (gs := [True, True, True]) (z' := (if 0 ≤ r then 136 else 132, [some (.ref 65), some (.int 5), some (.int a), some (.int b), some (.int c), some (.int t), some (.int r)], [], h1)) rfl ⟨trivial, trivial, trivial, trivial⟩ ?_
    refine br (fun b2 => ?_) (fun b2 => ?_)
    ·
      refine go hX 2 (gs := [True, True]) (z' := (141, [some (.ref 65), some (.int 5), some (.int a), some (.int b), some (.int c), some (.int t), some (.int r)], [.int 9999, .int r], h1)) rfl ⟨trivial, trivial, trivial⟩ ?_
      refine cl hX 161 2 [.int r, .int 9999] [] rfl rfl rfl rfl ?_
      refine c_leastG ?_
      show X (144, [some (.ref 65), some (.int 5), some (.int a), some (.int b), some (.int c), some (.int t), some (.int r)], [.int (if r < 9999 then r else 9999)], h1)
      refine rt_ hX (G := True) (r := some (.int (if r < 9999 then r else 9999))) rfl trivial ?_
      exact k1 h1 r f1 e1 b2
    ·
      refine go hX 2 (gs := [True, True]) (z' := (144, [some (.ref 65), some (.int 5), some (.int a), some (.int b), some (.int c), some (.int t), some (.int r)], [.int 0], h1)) rfl ⟨trivial, trivial, trivial⟩ ?_
      refine rt_ hX (G := True) (r := some (.int 0)) rfl trivial ?_
      exact k0 h1 r f1 e1 b2
  ·
    refine go hX 9 (gs := [True, True, True, True, True, True, True, True, True]) (z' := (141, [some (.ref 65), some (.int 5), some (.int a), some (.int b), some (.int c), some (.int t), some (.int 0)], [.int 9999, .int 0], (hI (hI h 79 119 a) 79 107 b))) rfl ⟨trivial, trivial, trivial, trivial, trivial, trivial, trivial, trivial, trivial, trivial⟩ ?_
    refine cl hX 161 2 [.int 0, .int 9999] [] rfl rfl rfl rfl ?_
    refine c_leastG ?_
    show X (144, [some (.ref 65), some (.int 5), some (.int a), some (.int b), some (.int c), some (.int t), some (.int 0)], [.int (if 0 < 9999 then 0 else 9999)], (hI (hI h 79 119 a) 79 107 b))
    refine rt_ hX (G := True) (r := some (.int (if 0 < 9999 then 0 else 9999))) rfl trivial ?_
    exact absurd e0 b1
/-! By hand: the class's give and the reference's ruleOf. -/
theorem KC_fr {k o : Nat} {x y : Int} {vs : List Wr} {h h' : Hp} (hk : 4 ≤ k) (g : vs.all (fun w => (Nat.beq w.1 1 && !(Nat.beq k 9)) || gkp k o w.2.1 w.2.2.1 w.2.2.2) = true) (W : Frm vs h h') (w : KC h k o x y) : KC h' k o x y := by
  have key := kpL_sp (ρ := fun _ => 0) (n := 0) (D := ([], [])) (vs := vs) (kc := [(k, o, leC x, leC y)]) (h := h) (h' := h') ⟨fun q hq => absurd hq List.not_mem_nil, fun q hq => absurd hq List.not_mem_nil⟩ (fun c hc => by
    obtain rfl := List.mem_singleton.mp hc
    refine ⟨leS_C, leS_C, ?_⟩
    show KC h k o (leV _ (leC x)) (leV _ (leC y))
    rw [leV_C, leV_C]
    exact w) W (k, o, leC x, leC y) (by
    rw [kpL_O]
    refine List.mem_filter.mpr ⟨List.mem_singleton.mpr rfl, ?_⟩
    rw [List.all_eq_true] at g ⊢
    intro v hv
    have g := g v hv
    simp only [kpW, Bool.or_eq_true, Bool.and_eq_true] at g ⊢
    exact Or.inl (Or.inr ⟨Nat.ble_eq_true_of_le hk, g⟩))
  have key : KC h' k o (leV (fun _ => 0) (leC x)) (leV (fun _ => 0) (leC y)) := key.2.2
  rw [leV_C, leV_C] at key
  exact key
theorem nmT_nmL : ∀ key : Nat, key ≤ 5 → (nmL (key : Int)).length = (nmT key).length ∧ ∀ k, k < (nmT key).length → (nmL (key : Int)).getD k 0 = ((nmT key).getD k 0 : Int) := by decide
theorem stV_of {key : Nat} {s : Int} {x v : Int32} (hk : key ≤ 5) (h : stW (key : Int) s x.toInt v.toInt) : stV key s x v := by
  have c0 : (0 : Int32).toInt = 0 := rfl
  have c1 : (1 : Int32).toInt = 1 := rfl
  have c2 : (2 : Int32).toInt = 2 := rfl
  have c33 : (33 : Int32).toInt = 33 := rfl
  obtain ⟨l, n⟩ := nmT_nmL key hk
  rcases h with ⟨h1, h2, h3, h4⟩ | ⟨h1, k, hk1, h2, h3⟩ | ⟨h1, h2, h3⟩
  · exact Or.inl ⟨Int32.toInt_inj.mp (h1.trans c0.symm), h2, h3, h4⟩
  · refine Or.inr (Or.inl ⟨Int32.toInt_inj.mp (h1.trans c1.symm), k, by omega, h2, ?_⟩)
    have b := (nmT_b key hk k (by omega)).2
    have e := n k (by omega)
    apply Int32.toInt_inj.mp
    rw [nI_i (by omega), h3, e]
  · refine Or.inr (Or.inr ⟨Int32.toInt_inj.mp (h1.trans c2.symm), h2, ?_⟩)
    rcases h3 with h3 | h3 | h3 | h3 | h3 | h3 | h3 | h3 | h3 | h3
    · exact Or.inl (Int32.toInt_inj.mp (h3.trans c33.symm))
    all_goals (refine Or.inr ?_; unfold isSg; omega)
theorem ix100 {T i : Nat} (hT : T < 12) (hi : i < 100) : nI T * 100 + nI i = nI (100 * T + i) := by
  show nI T * nI 100 + nI i = _
  rw [show nI T * nI 100 = nI (T * 100) from (Int32.ofNat_mul T 100).symm, nI_add, Nat.mul_comm]
theorem ix603 : ∀ T : Nat, T < 12 → ∀ i : Nat, i < 4 → ((600 : Int32) + (200 * nI T)) + nI i = nI (600 + 200 * T + i) := by decide +kernel
set_option maxRecDepth 100000 in
theorem ix604 : ∀ T : Nat, T < 12 → ∀ k : Nat, k < 96 → (((600 : Int32) + (200 * nI T)) + 4) + (2 * nI k) = nI (604 + 200 * T + 2 * k) := by decide +kernel
set_option maxRecDepth 100000 in
theorem ix605 : ∀ T : Nat, T < 12 → ∀ k : Nat, k < 96 → ((((600 : Int32) + (200 * nI T)) + 4) + (2 * nI k)) + 1 = nI (604 + 200 * T + 2 * k + 1) := by decide +kernel
/-- steps that the reference can work out are such steps -/
theorem WfS_of {F : Int → Int} {key : Nat} {st : Nat → Int} {n : Nat} {a : Int} (hk : key ≤ 5) (hn : n ≤ 96) (w : WFP F a n 1) (hs : ∀ k, k < n → stW (key : Int) (st k) (F (a + 2 * (k : Int))) (F (a + 2 * (k : Int) + 1))) : WfS st n := by
  obtain ⟨-, dp, d0, dn, H⟩ := w
  have nl : ∀ key : Nat, key ≤ 5 → (nmL (key : Int)).length ≤ 3 := by decide
  have nl := nl key hk
  have ok : ∀ k, k < n → (0 ≤ st k ∧ st k < 10000) ∨ (10000 ≤ st k ∧ st k ≤ 10002) ∨ st k = 20033 ∨ isSg (st k - 20000) := fun k hk => by
    rcases hs k hk with ⟨h1, h2, h3, h4⟩ | ⟨h1, j, hj, h2, h3⟩ | ⟨h1, h2, h3⟩
    · exact Or.inl ⟨h3, h4⟩
    · exact Or.inr (Or.inl (by omega))
    · refine Or.inr (Or.inr ?_)
      unfold isSg
      omega
  have len : ∀ (a' b' c' : Int32) k, k ≤ n → ((evS a' b' c' st k).length : Int) = dp k ∧ (k < n → (st k = 20033 → 1 ≤ (evS a' b' c' st k).length) ∧ (isSg (st k - 20000) → 2 ≤ (evS a' b' c' st k).length)) := by
    intro a' b' c' k
    induction k with
    | zero =>
      intro _
      refine ⟨by rw [show ((0 : Nat) : Int) = 0 from rfl, d0]; rfl, fun h0 => ?_⟩
      obtain ⟨q1, q2, q3⟩ := H 0 (by omega) (by omega)
      have z := hs 0 h0
      rw [show ((0 : Nat) : Int) = 0 from rfl] at z
      rcases z with ⟨h1, h2, h3, h4⟩ | ⟨h1, j, hj, h2, h3⟩ | ⟨h1, h2, h3⟩
      · exact ⟨fun q => by omega, fun q => by unfold isSg at q; omega⟩
      · exact ⟨fun q => by omega, fun q => by unfold isSg at q; omega⟩
      · obtain ⟨q4, q5⟩ := q3 h1
        by_cases q : F (a + 2 * 0 + 1) = 33
        · have := q4 q
          omega
        · have := q5 q
          omega
    | succ k ih =>
      intro hk1
      obtain ⟨l, p⟩ := ih (by omega)
      obtain ⟨p1, p2⟩ := p (by omega)
      obtain ⟨q1, q2, q3⟩ := H k (by omega) (by omega)
      have l1 : ((evS a' b' c' st (k + 1)).length : Int) = dp ((k : Int) + 1) := by
        rcases hs k (by omega) with ⟨h1, h2, h3, h4⟩ | ⟨h1, j, hj, h2, h3⟩ | ⟨h1, h2, h3⟩
        · rw [evS_num h4, (q2 (by omega)).1]
          simp only [List.length_cons]
          omega
        · rw [evS_nam (by omega) (by omega), (q2 (by omega)).1]
          simp only [List.length_cons]
          omega
        · obtain ⟨q4, q5⟩ := q3 h1
          by_cases q : F (a + 2 * (k : Int) + 1) = 33
          · obtain ⟨x, S, hS⟩ := len1 (p1 (by omega))
            rw [evS_not (by omega) hS, (q4 q).2, ← l, hS]
            rfl
          · have sg : isSg (st k - 20000) := by unfold isSg; omega
            obtain ⟨y, x, S, hS⟩ := len2 (p2 sg)
            rw [evS_two sg hS, (q5 q).2, ← l, hS]
            simp only [List.length_cons]
            omega
      refine ⟨by rw [l1]; congr 1, fun hk2 => ?_⟩
      obtain ⟨q1', q2', q3'⟩ := H ((k + 1 : Nat) : Int) (by omega) (by omega)
      have l2 : ((evS a' b' c' st (k + 1)).length : Int) = dp ((k + 1 : Nat) : Int) := by rw [l1]; congr 1
      rcases hs (k + 1) hk2 with ⟨h1, h2, h3, h4⟩ | ⟨h1, j, hj, h2, h3⟩ | ⟨h1, h2, h3⟩
      · exact ⟨fun q => by omega, fun q => by unfold isSg at q; omega⟩
      · exact ⟨fun q => by omega, fun q => by unfold isSg at q; omega⟩
      · obtain ⟨q4, q5⟩ := q3' h1
        by_cases q : F (a + 2 * ((k + 1 : Nat) : Int) + 1) = 33
        · have := (q4 q).1
          exact ⟨fun _ => by omega, fun q => by unfold isSg at q; omega⟩
        · have := (q5 q).1
          exact ⟨fun _ => by omega, fun _ => by omega⟩
  refine ⟨hn, ok, fun a' b' c' k hk => (len a' b' c' k (by omega)).2 hk, fun a' b' c' => ?_⟩
  have := (len a' b' c' n (Nat.le_refl n)).1
  omega
theorem okP10 : PmOK rgT pm10 := by
  intro d hd ρ as bs h hlen hin hb hc hf hR
  have hd : 4 ≤ d := hd
  have hlen : as.length = 6 := hlen
  generalize hL : as ++ bs = L at hin
  have hin0 := hin
  obtain ⟨v0, s0, rfl, hin⟩ := hin
  rw [if_pos rfl] at hin
  obtain ⟨rfl, -, hin⟩ := hin
  obtain ⟨v1, s1, rfl, hin⟩ := hin
  rw [if_pos rfl] at hin
  obtain ⟨rfl, -, hin⟩ := hin
  obtain ⟨v2, s2, rfl, hin⟩ := hin
  rw [if_neg (by decide), if_pos rfl] at hin
  obtain ⟨g0, ⟨a0, rfl, e0⟩, hin⟩ := hin
  obtain ⟨v3, s3, rfl, hin⟩ := hin
  rw [if_neg (by decide), if_pos rfl] at hin
  obtain ⟨g1, ⟨a1, rfl, e1⟩, hin⟩ := hin
  obtain ⟨v4, s4, rfl, hin⟩ := hin
  rw [if_neg (by decide), if_pos rfl] at hin
  obtain ⟨g2, ⟨a2, rfl, e2⟩, hin⟩ := hin
  obtain ⟨v5, s5, rfl, hin⟩ := hin
  rw [if_neg (by decide), if_pos rfl] at hin
  obtain ⟨g3, ⟨a3, rfl, e3⟩, hin⟩ := hin
  obtain ⟨v6, s6, rfl, hin⟩ := hin
  rw [if_pos rfl] at hin
  obtain ⟨rfl, -, hin⟩ := hin
  obtain ⟨v7, s7, rfl, hin⟩ := hin
  rw [if_neg (by decide), if_pos rfl] at hin
  obtain ⟨g4, ⟨b4, rfl, e4⟩, hin⟩ := hin
  obtain ⟨v8, s8, rfl, hin⟩ := hin
  rw [if_neg (by decide), if_pos rfl] at hin
  obtain ⟨g5, ⟨b5, rfl, e5⟩, hin⟩ := hin
  obtain ⟨v9, s9, rfl, hin⟩ := hin
  rw [if_neg (by decide), if_pos rfl] at hin
  obtain ⟨g6, ⟨b6, rfl, e6⟩, hin⟩ := hin
  obtain ⟨v10, s10, rfl, hin⟩ := hin
  rw [if_neg (by decide), if_pos rfl] at hin
  obtain ⟨g7, ⟨b7, rfl, e7⟩, hin⟩ := hin
  cases hin
  obtain ⟨rfl, rfl⟩ := List.append_inj (show as ++ bs = [Value.ref 34, Value.ref 1, .int a0, .int a1, .int a2, .int a3] ++ [Value.ref 65, .int b4, .int b5, .int b6, .int b7] from hL) hlen
  have f0 : (0 : Int) ≤ 0 + (1 * ρ 0 + (-1 * ρ 4 + 0)) := hf _ (List.mem_of_getElem? (i := 0) rfl)
  have f1 : (0 : Int) ≤ 0 + (-1 * ρ 0 + (1 * ρ 4 + 0)) := hf _ (List.mem_of_getElem? (i := 1) rfl)
  have f2 : (0 : Int) ≤ 0 + (1 * ρ 1 + (-1 * ρ 5 + 0)) := hf _ (List.mem_of_getElem? (i := 2) rfl)
  have f3 : (0 : Int) ≤ 0 + (-1 * ρ 1 + (1 * ρ 5 + 0)) := hf _ (List.mem_of_getElem? (i := 3) rfl)
  have f4 : (0 : Int) ≤ 0 + (1 * ρ 2 + (-1 * ρ 6 + 0)) := hf _ (List.mem_of_getElem? (i := 4) rfl)
  have f5 : (0 : Int) ≤ 0 + (-1 * ρ 2 + (1 * ρ 6 + 0)) := hf _ (List.mem_of_getElem? (i := 5) rfl)
  have f6 : (0 : Int) ≤ 0 + (1 * ρ 3 + (-1 * ρ 7 + 0)) := hf _ (List.mem_of_getElem? (i := 6) rfl)
  have f7 : (0 : Int) ≤ 0 + (-1 * ρ 3 + (1 * ρ 7 + 0)) := hf _ (List.mem_of_getElem? (i := 7) rfl)
  have f8 : (0 : Int) ≤ 0 + (1 * ρ 8 + (-1 * ρ 9 + 0)) := hf _ (List.mem_of_getElem? (i := 8) rfl)
  have f9 : (0 : Int) ≤ 0 + (-1 * ρ 8 + (1 * ρ 9 + 0)) := hf _ (List.mem_of_getElem? (i := 9) rfl)
  have f10 : (0 : Int) ≤ 0 + (1 * ρ 10 + (-1 * ρ 11 + 0)) := hf _ (List.mem_of_getElem? (i := 10) rfl)
  have f11 : (0 : Int) ≤ 0 + (-1 * ρ 10 + (1 * ρ 11 + 0)) := hf _ (List.mem_of_getElem? (i := 11) rfl)
  have f12 : (0 : Int) ≤ 0 + (1 * ρ 8 + (-1 * ρ 15 + 0)) := hf _ (List.mem_of_getElem? (i := 12) rfl)
  have f13 : (0 : Int) ≤ 0 + (-1 * ρ 8 + (1 * ρ 15 + 0)) := hf _ (List.mem_of_getElem? (i := 13) rfl)
  have e0 : ρ 0 = a0.toInt := e0
  have e4 : ρ 4 = b4.toInt := e4
  have e1 : ρ 1 = a1.toInt := e1
  have e5 : ρ 5 = b5.toInt := e5
  have e2 : ρ 2 = a2.toInt := e2
  have e6 : ρ 6 = b6.toInt := e6
  have e3 : ρ 3 = a3.toInt := e3
  have e7 : ρ 7 = b7.toInt := e7
  obtain rfl : a0 = b4 := Int32.toInt_inj.mp (by omega)
  obtain rfl : a1 = b5 := Int32.toInt_inj.mp (by omega)
  obtain rfl : a2 = b6 := Int32.toInt_inj.mp (by omega)
  obtain rfl : a3 = b7 := Int32.toInt_inj.mp (by omega)
  have g0 : (5 : Int) ≤ ρ 0 ∧ ρ 0 ≤ 5 := g0
  have g1 : (-2147483648 : Int) ≤ ρ 1 ∧ ρ 1 ≤ 2147483647 := g1
  have g2 : (-2147483648 : Int) ≤ ρ 2 ∧ ρ 2 ≤ 2147483647 := g2
  have g3 : (-2147483648 : Int) ≤ ρ 3 ∧ ρ 3 ≤ 2147483647 := g3
  have g4 : (5 : Int) ≤ ρ 4 ∧ ρ 4 ≤ 5 := g4
  have g5 : (-2147483648 : Int) ≤ ρ 5 ∧ ρ 5 ≤ 2147483647 := g5
  have g6 : (-2147483648 : Int) ≤ ρ 6 ∧ ρ 6 ≤ 2147483647 := g6
  have g7 : (-2147483648 : Int) ≤ ρ 7 ∧ ρ 7 ≤ 2147483647 := g7
  have r8 : (0 : Int) ≤ ρ 8 ∧ ρ 8 ≤ 12 := hb (8, 0, 12) (List.mem_of_getElem? (i := 0) rfl)
  have c8 : ρ 8 = (h.1 8 2).toInt := hc_i (hc (0, 8, (2, []), leX 8) (List.mem_of_getElem? (i := 0) rfl)) rfl
  have r9 : (0 : Int) ≤ ρ 9 ∧ ρ 9 ≤ 12 := hb (9, 0, 12) (List.mem_of_getElem? (i := 1) rfl)
  have c9 : ρ 9 = (h.1 66 4).toInt := hc_i (hc (0, 66, (4, []), leX 9) (List.mem_of_getElem? (i := 1) rfl)) rfl
  have r10 : (0 : Int) ≤ ρ 10 ∧ ρ 10 ≤ 999 := hb (10, 0, 999) (List.mem_of_getElem? (i := 2) rfl)
  have c10 : ρ 10 = (h.1 1 5).toInt := hc_i (hc (0, 1, (5, []), leX 10) (List.mem_of_getElem? (i := 2) rfl)) rfl
  have r11 : (0 : Int) ≤ ρ 11 ∧ ρ 11 ≤ 999 := hb (11, 0, 999) (List.mem_of_getElem? (i := 3) rfl)
  have c11 : ρ 11 = (h.1 66 0).toInt := hc_i (hc (0, 66, (0, []), leX 11) (List.mem_of_getElem? (i := 3) rfl)) rfl
  have r12 : (0 : Int) ≤ ρ 12 ∧ ρ 12 ≤ 0 := hb (12, 0, 0) (List.mem_of_getElem? (i := 4) rfl)
  have c12 : KC h 5 66 0 (ρ 12) := kc_at (hc (5, 66, (0, []), leX 12) (List.mem_of_getElem? (i := 4) rfl))
  have r13 : (0 : Int) ≤ ρ 13 ∧ ρ 13 ≤ 0 := hb (13, 0, 0) (List.mem_of_getElem? (i := 5) rfl)
  have c13 : KC h 9 448 0 (ρ 13) := kc_at (hc (9, 448, (0, []), leX 13) (List.mem_of_getElem? (i := 5) rfl))
  have r14 : (0 : Int) ≤ ρ 14 ∧ ρ 14 ≤ 0 := hb (14, 0, 0) (List.mem_of_getElem? (i := 6) rfl)
  have c14 : KC h 9 464 0 (ρ 14) := kc_at (hc (9, 464, (0, []), leX 14) (List.mem_of_getElem? (i := 6) rfl))
  have r15 : (0 : Int) ≤ ρ 15 ∧ ρ 15 ≤ 12 := hb (15, 0, 12) (List.mem_of_getElem? (i := 7) rfl)
  have c15 : KC h 15 0 0 (ρ 15) := kc_at (hc (15, 0, (0, []), leX 15) (List.mem_of_getElem? (i := 7) rfl))
  have M0 := hand_M (rg := rgT) (s := pm10.2.2.1) (h := h) (ρ := ρ) (by decide +kernel) (by decide +kernel) hin0 hb hc hf hR
  obtain ⟨d', rfl⟩ : ∃ d', d = d' + 4 := ⟨d - 4, by omega⟩
  obtain rfl : a0 = 5 := Int32.toInt_inj.mp (by rw [← e0]; show ρ 0 = 5; omega)
  have ssA : sS true [Value.ref 34, .ref 1, .int 5, .int a1, .int a2, .int a3] := List.forall_mem_cons.mpr ⟨fun _ => rfl, List.forall_mem_cons.mpr ⟨fun _ => rfl, List.forall_mem_cons.mpr ⟨trivial, List.forall_mem_cons.mpr ⟨trivial, List.forall_mem_cons.mpr ⟨trivial, List.forall_mem_cons.mpr ⟨trivial, fun _ h => absurd h List.not_mem_nil⟩⟩⟩⟩⟩⟩
  have ssB : sS false [Value.ref 65, .int 5, .int a1, .int a2, .int a3] := List.forall_mem_cons.mpr ⟨fun _ => rfl, List.forall_mem_cons.mpr ⟨trivial, List.forall_mem_cons.mpr ⟨trivial, List.forall_mem_cons.mpr ⟨trivial, List.forall_mem_cons.mpr ⟨trivial, fun _ h => absurd h List.not_mem_nil⟩⟩⟩⟩⟩
  have ssC : sS true [Value.ref 1, .int 5] := List.forall_mem_cons.mpr ⟨fun _ => rfl, List.forall_mem_cons.mpr ⟨trivial, fun _ h => absurd h List.not_mem_nil⟩⟩
  have ssD : sS false [Value.ref 65, .int 5] := List.forall_mem_cons.mpr ⟨fun _ => rfl, List.forall_mem_cons.mpr ⟨trivial, fun _ h => absurd h List.not_mem_nil⟩⟩
  -- the text in force, once the names are known
  obtain ⟨w, hw⟩ : ∃ w : Hp, w = hI (hI h 79 119 a1) 79 107 a2 := ⟨_, rfl⟩
  have fw : ∀ o (j : Int32), o ≠ 79 → w.1 o j = h.1 o j := fun o j q => by rw [hw, hI_ne q, hI_ne q]
  have Fw : Frm [(0, 79, 103, 119)] h w := by
    rw [hw]
    refine ⟨fun o j q => ?_, fun o j q => rfl, rfl⟩
    by_cases e : o = 79
    · subst e
      rw [hI_jn (fun z => q ⟨_, List.mem_singleton.mpr rfl, rfl, rfl, by rw [z]; decide, by rw [z]; decide⟩), hI_jn (fun z => q ⟨_, List.mem_singleton.mpr rfl, rfl, rfl, by rw [z]; decide, by rw [z]; decide⟩)]
    · rw [hI_ne e, hI_ne e]
  have Rw : ∀ q ∈ rgT, RgO w q := rgV_sp (vs := [(0, 79, 103, 119)]) (by decide +kernel) Fw hR
  obtain ⟨ρ1, hρ1⟩ : ∃ ρ1 : Nat → Int, ρ1 = fun k => if k < 2 then 5 else if k < 4 then ρ 8 else if k < 6 then ρ 10 else 0 := ⟨_, rfl⟩
  have p0 : ρ1 0 = 5 := by rw [hρ1]; rfl
  have p1 : ρ1 1 = 5 := by rw [hρ1]; rfl
  have p2 : ρ1 2 = ρ 8 := by rw [hρ1]; rfl
  have p3 : ρ1 3 = ρ 8 := by rw [hρ1]; rfl
  have p4 : ρ1 4 = ρ 10 := by rw [hρ1]; rfl
  have p5 : ρ1 5 = ρ 10 := by rw [hρ1]; rfl
  have p6 : ρ1 6 = 0 := by rw [hρ1]; rfl
  have p7 : ρ1 7 = 0 := by rw [hρ1]; rfl
  have kci : ∀ (o : Nat) (i : Int32) (k : Nat), o ≠ 79 → ρ1 k = (h.1 o i).toInt → kcV ρ1 w (0, o, (i.toInt, []), leX k) := fun o i k q e => ⟨i, leV_C _ _, by show leV ρ1 (leX k) = _; rw [leV_X, fw o i q]; exact e⟩
  have kcr : ∀ (r k : Nat), [(0, 79, 103, 119)].all (fun (w : Wr) => (Nat.beq w.1 1 && !(Nat.beq 9 9)) || gkp 9 r w.2.1 w.2.2.1 w.2.2.2) = true → ρ1 k = 0 → KC h 9 r 0 0 → kcV ρ1 w (9, r, (0, []), leX k) := fun r k g e q => by
    show KC w 9 r (leV ρ1 (leC 0)) (leV ρ1 (leX k))
    rw [leV_C, leV_X, e]
    exact KC_fr (by decide) g Fw q
  rw [show ρ 13 = 0 by omega] at c13
  rw [show ρ 14 = 0 by omega] at c14
  obtain ⟨rA, hA, rB, hB, kA, kB, -, -, -, -, -, FF, oe, hoe, ρ2, ag2, bd2, rt2, rt2', kc2, fc2⟩ := okP0 (d' + 3) (by show 2 ≤ d' + 3; omega) ρ1 [.ref 1, .int 5] [.ref 65, .int 5] w rfl ⟨_, _, rfl, by
    rw [if_pos rfl]
    refine ⟨rfl, by decide, _, _, rfl, ?_⟩
    rw [if_neg (by decide), if_pos rfl]
    refine ⟨by omega, ⟨5, rfl, p0⟩, _, _, rfl, ?_⟩
    rw [if_pos rfl]
    refine ⟨rfl, by decide, _, _, rfl, ?_⟩
    rw [if_neg (by decide), if_pos rfl]
    exact ⟨by show (0 : Int) ≤ ρ1 1 ∧ ρ1 1 ≤ 5; omega, ⟨5, rfl, p1⟩, rfl⟩⟩ (List.forall_mem_cons.mpr ⟨by show (0 : Int) ≤ ρ1 2 ∧ ρ1 2 ≤ 12; omega, List.forall_mem_cons.mpr ⟨by show (0 : Int) ≤ ρ1 3 ∧ ρ1 3 ≤ 12; omega, List.forall_mem_cons.mpr ⟨by show (0 : Int) ≤ ρ1 4 ∧ ρ1 4 ≤ 1999; omega, List.forall_mem_cons.mpr ⟨by show (0 : Int) ≤ ρ1 5 ∧ ρ1 5 ≤ 1999; omega, List.forall_mem_cons.mpr ⟨by show (0 : Int) ≤ ρ1 6 ∧ ρ1 6 ≤ 0; omega, List.forall_mem_cons.mpr ⟨by show (0 : Int) ≤ ρ1 7 ∧ ρ1 7 ≤ 0; omega, fun _ h => absurd h List.not_mem_nil⟩⟩⟩⟩⟩⟩) (List.forall_mem_cons.mpr ⟨kci 8 2 2 (by decide) (by omega), List.forall_mem_cons.mpr ⟨kci 66 4 3 (by decide) (by omega), List.forall_mem_cons.mpr ⟨kci 1 5 4 (by decide) (by omega), List.forall_mem_cons.mpr ⟨kci 66 0 5 (by decide) (by omega), List.forall_mem_cons.mpr ⟨kcr 448 6 (by decide +kernel) p6 c13, List.forall_mem_cons.mpr ⟨kcr 464 7 (by decide +kernel) p7 c14, fun _ h => absurd h List.not_mem_nil⟩⟩⟩⟩⟩⟩) (List.forall_mem_cons.mpr ⟨by show (0 : Int) ≤ 0 + (1 * ρ1 2 + (-1 * ρ1 3 + 0)); omega, List.forall_mem_cons.mpr ⟨by show (0 : Int) ≤ 0 + (-1 * ρ1 2 + (1 * ρ1 3 + 0)); omega, List.forall_mem_cons.mpr ⟨by show (0 : Int) ≤ 0 + (1 * ρ1 4 + (-1 * ρ1 5 + 0)); omega, List.forall_mem_cons.mpr ⟨by show (0 : Int) ≤ 0 + (-1 * ρ1 4 + (1 * ρ1 5 + 0)); omega, List.forall_mem_cons.mpr ⟨by show (0 : Int) ≤ 0 + (1 * ρ1 0 + (-1 * ρ1 1 + 0)); omega, List.forall_mem_cons.mpr ⟨by show (0 : Int) ≤ 0 + (-1 * ρ1 0 + (1 * ρ1 1 + 0)); omega, fun _ h => absurd h List.not_mem_nil⟩⟩⟩⟩⟩⟩) Rw
  have oA := (kA.off (s := true) ssC).1
  have oB := (kB.off (s := false) ssD).1
  have i0 : ∀ k o j, ¬ inW pm0.2.2.1.2.2.2.2.2.1 k o j := fun k o j ⟨w, hw, _⟩ => absurd hw List.not_mem_nil
  have qA : hA = w := mx_ext (fun r j => by
    by_cases e : sd r = true
    · rw [← FF.1 r j (i0 _ _ _), mx_at e]
    · rw [oA, mx_off e]) (fun r j => by
    by_cases e : sd r = true
    · rw [← FF.2.1 r j (i0 _ _ _), mx_atL e]
    · rw [oA, mx_offL e]) (kA.off (s := true) ssC).2.1
  have qB : hB = w := mx_ext (fun r j => by
    by_cases e : sd r = true
    · rw [oB, mx_off (by rw [e]; decide)]
    · rw [← FF.1 r j (i0 _ _ _), mx_off e]) (fun r j => by
    by_cases e : sd r = true
    · rw [oB, mx_offL (by rw [e]; decide)]
    · rw [← FF.2.1 r j (i0 _ _ _), mx_offL e]) (kB.off (s := false) ssD).2.1
  subst qA
  have kA2 := kA.mx (s := true) (K := h) ssC
  have ew : mxH true hA h = h := mx_ext (fun r j => by
    by_cases e : sd r = true
    · rw [mx_at e]
      exact fw r j (fun z => by rw [z] at e; exact absurd e (by decide))
    · exact mx_off e) (fun r j => by
    by_cases e : sd r = true
    · rw [mx_atL e, hw]; rfl
    · exact mx_offL e) (by show hA.2.2 = h.2.2; rw [hw]; rfl)
  rw [ew] at kA2
  subst qB
  have RR : ∀ {H : Hp}, Frm pm10.2.2.1.2.2.2.2.2.1 h H → ∀ q ∈ rgT, RgO H q := fun W => rgV_sp (by decide +kernel) W hR
  have post : ∀ {H : Hp} {r : Int32}, Frm pm10.2.2.1.2.2.2.2.2.1 h H → 0 ≤ r.toInt → r.toInt ≤ 9999 → PmPost rgT pm10.2.2.1 pm10.2.2.2 ρ h (some (.int r)) (some (.int r)) H := fun {H r} W r0 r1 => by
    refine ⟨RR W, W, _, List.mem_of_getElem? (i := 0) rfl, updS ρ 16 r.toInt, upd_ag, ?_, ⟨r, rfl, ?_⟩, ⟨r, rfl, ?_⟩, fun c hc => absurd hc List.not_mem_nil, fun f hf => absurd hf List.not_mem_nil⟩
    · refine List.forall_mem_cons.mpr ⟨?_, fun _ h => absurd h List.not_mem_nil⟩
      show (0 : Int) ≤ updS ρ 16 r.toInt 16 ∧ updS ρ 16 r.toInt 16 ≤ 9999
      rw [updS_at]
      exact ⟨r0, r1⟩
    · show leV _ (leX 16) = _
      rw [leV_X, updS_at]
    · show leV _ (leX 16) = _
      rw [leV_X, updS_at]
  have k9 : (9999 : Int32).toInt = 9999 := rfl
  have k0 : (0 : Int32).toInt = 0 := rfl
  have ins2 : ∀ {r : Int32}, Call (d' + 4) 48 [.ref 34, .ref 1, .int 5, .int a1, .int a2, .int a3] h (fun r' h' => r' = some (.int r) ∧ frV h h') → Call (d' + 4) 231 [.ref 65, .int 5, .int a1, .int a2, .int a3] h (fun r' h' => r' = some (.int r) ∧ True) → 0 ≤ r.toInt → r.toInt ≤ 9999 → ∃ rA hA rB hB, CRun (d' + 4) 48 [.ref 34, .ref 1, .int 5, .int a1, .int a2, .int a3] h rA hA ∧ CRun (d' + 4) 231 [.ref 65, .int 5, .int a1, .int a2, .int a3] h rB hB ∧ hA.2.2 = h.2.2 ∧ hB.2.2 = h.2.2 ∧ (∀ v, rA = some v → vS true v) ∧ (∀ v, rB = some v → vS false v) ∧ PmPost rgT pm10.2.2.1 pm10.2.2.2 ρ h rA rB (mxH true hA hB) := fun {r} kA kB r0 r1 => by
    have SA := okGA (d' + 4) (by show 4 ≤ _; omega) (fun k => ρ ([0, 1, 2, 3].getD k 0)) [.ref 34, .ref 1, .int 5, .int a1, .int a2, .int a3] h ⟨_, _, rfl, by rw [if_pos rfl]; exact ⟨rfl, by decide, ⟨_, _, rfl, by rw [if_pos rfl]; exact ⟨rfl, by decide, ⟨_, _, rfl, by rw [if_neg (by decide), if_pos rfl]; exact ⟨by show ((-2147483648) : Int) ≤ ρ 0 ∧ ρ 0 ≤ 2147483647; omega, ⟨_, rfl, e0⟩, ⟨_, _, rfl, by rw [if_neg (by decide), if_pos rfl]; exact ⟨by show ((-2147483648) : Int) ≤ ρ 1 ∧ ρ 1 ≤ 2147483647; omega, ⟨_, rfl, e1⟩, ⟨_, _, rfl, by rw [if_neg (by decide), if_pos rfl]; exact ⟨by show ((-2147483648) : Int) ≤ ρ 2 ∧ ρ 2 ≤ 2147483647; omega, ⟨_, rfl, e2⟩, ⟨_, _, rfl, by rw [if_neg (by decide), if_pos rfl]; exact ⟨by show ((-2147483648) : Int) ≤ ρ 3 ∧ ρ 3 ≤ 2147483647; omega, ⟨_, rfl, e3⟩, rfl⟩⟩⟩⟩⟩⟩⟩⟩⟩⟩⟩⟩ (fun _ h => absurd h List.not_mem_nil) (fun _ h => absurd h List.not_mem_nil) (fun _ h => absurd h List.not_mem_nil) hR
    have SB := okGB (d' + 4) (by show 4 ≤ _; omega) (fun k => ρ ([4, 5, 6, 7, 9, 12].getD k 0)) [.ref 65, .int 5, .int a1, .int a2, .int a3] h ⟨_, _, rfl, by rw [if_pos rfl]; exact ⟨rfl, by decide, ⟨_, _, rfl, by rw [if_neg (by decide), if_pos rfl]; exact ⟨by show ((-2147483648) : Int) ≤ ρ 4 ∧ ρ 4 ≤ 2147483647; omega, ⟨_, rfl, e4⟩, ⟨_, _, rfl, by rw [if_neg (by decide), if_pos rfl]; exact ⟨by show ((-2147483648) : Int) ≤ ρ 5 ∧ ρ 5 ≤ 2147483647; omega, ⟨_, rfl, e5⟩, ⟨_, _, rfl, by rw [if_neg (by decide), if_pos rfl]; exact ⟨by show ((-2147483648) : Int) ≤ ρ 6 ∧ ρ 6 ≤ 2147483647; omega, ⟨_, rfl, e6⟩, ⟨_, _, rfl, by rw [if_neg (by decide), if_pos rfl]; exact ⟨by show ((-2147483648) : Int) ≤ ρ 7 ∧ ρ 7 ≤ 2147483647; omega, ⟨_, rfl, e7⟩, rfl⟩⟩⟩⟩⟩⟩⟩⟩⟩⟩ (List.forall_mem_cons.mpr ⟨by show (0 : Int) ≤ ρ 9 ∧ ρ 9 ≤ 12; omega, List.forall_mem_cons.mpr ⟨by show (0 : Int) ≤ ρ 12 ∧ ρ 12 ≤ 0; omega, fun _ h => absurd h List.not_mem_nil⟩⟩) (List.forall_mem_cons.mpr ⟨⟨4, leV_C _ 4, by show leV _ (leX 4) = _; rw [leV_X]; exact c9⟩, List.forall_mem_cons.mpr ⟨by show KC h 5 66 (leV _ (leC 0)) (leV _ (leX 5)); rw [leV_C, leV_X]; exact c12, fun _ h => absurd h List.not_mem_nil⟩⟩) (fun _ h => absurd h List.not_mem_nil) hR
    obtain ⟨rA, hA, ⟨⟨rfl, fA⟩, gA, wA, -⟩, cA⟩ := (kA.and SA).det
    obtain ⟨rB, hB, ⟨⟨rfl, fB⟩, gB, wB, -⟩, cB⟩ := (kB.and SB).det
    exact pm_mk (p := pm10) cA cB ssA ssB (post (Frm.mx wA wB (by decide +kernel) (by decide +kernel)) r0 r1)
  have ag2 : ∀ k, k < 8 → ρ2 k = ρ1 k := ag2
  rcases List.mem_cons.mp hoe with rfl | hoe
  · -- no text is in force
    obtain ⟨x, rfl, ex⟩ := rt2
    obtain ⟨y, rfl, ey⟩ := rt2'
    have ex : (-1000000005 : Int) + 0 = x.toInt := ex
    have ey : (-1 : Int) + 0 = y.toInt := ey
    have cN : (-1000000005 : Int32).toInt = -1000000005 := rfl
    obtain rfl : x = -1000000005 := Int32.toInt_inj.mp (by omega)
    refine ins2 (r := 0) (c_giveA0 rfl (fun Q q => kA2 Q q) ⟨rfl, frV_rf⟩) (c_giveB0 (t := y) (by rw [ge0I]; omega) (fun Q q => ?_) ⟨rfl, trivial⟩) (by decide) (by decide)
    rw [← hw] at q ⊢
    exact kB Q q
  rcases List.mem_cons.mp hoe with rfl | hoe
  · obtain ⟨x, rfl, ex⟩ := rt2
    obtain ⟨y, rfl, ey⟩ := rt2'
    have ex : (0 : Int) + (1 * ρ2 8 + 0) = x.toInt := ex
    have ey : (0 : Int) + (1 * ρ2 8 + 0) = y.toInt := ey
    obtain rfl : y = x := Int32.toInt_inj.mp (by omega)
    have b8 : (0 : Int) ≤ ρ2 8 ∧ ρ2 8 ≤ 11 := bd2 (8, 0, 11) (List.mem_of_getElem? (i := 0) rfl)
    have f8 : (0 : Int) ≤ -1 + (1 * ρ2 2 + (-1 * ρ2 8 + 0)) := fc2 _ (List.mem_of_getElem? (i := 0) rfl)
    obtain ⟨j, k1, k2⟩ := kc2 (0, 9, (0, [(8, 100)]), (0, [(0, 1)])) (List.mem_of_getElem? (i := 0) rfl)
    have k1 : (0 : Int) + (100 * ρ2 8 + 0) = j.toInt := k1
    have k2 : (0 : Int) + (1 * ρ2 0 + 0) = (hB.1 9 j).toInt := k2
    rw [ag2 2 (by decide), p2] at f8
    rw [ag2 0 (by decide), p0, fw 9 j (by decide)] at k2
    obtain ⟨T, hT, rfl⟩ : ∃ T : Nat, (T : Int) = y.toInt ∧ y = nI T := ⟨y.toInt.toNat, by omega, i_nI (by omega)⟩
    obtain ⟨tx, htx⟩ : ∃ tx : Nat, (tx : Int) = ρ 8 := ⟨(ρ 8).toNat, by omega⟩
    have etx : h.1 8 2 = nI tx := by rw [i_nI (v := h.1 8 2) (by omega)]; congr 1; omega
    obtain ⟨-, WX⟩ := c12
    have ex66 : (h.1 66 4).toInt = tx := by omega
    obtain ⟨s1, s2, s3, s4, s5, s6⟩ : _ ∧ _ ∧ _ ∧ _ ∧ _ ∧ _ := (show SMO h 0 (ρ 15) from c15) T (by omega) (by omega) (by omega)
    obtain ⟨w1, w2⟩ := WX T (by omega) (by omega) (by omega)
    have v9 : ∀ i : Nat, i < 100 → rlV h 0 (smC 0) (100 * (T : Int) + i) = (h.1 9 ((nI T * 100) + nI i)).toInt := fun i hi => by
      show (h.1 9 (Int32.ofInt (100 * (T : Int) + i))).toInt = _
      rw [ix100 (by omega) hi, ← nI_ofI (by omega)]
      congr 3
    have v66 : ∀ i : Nat, i < 200 → rlV h 0 (bgR 0) (600 + 200 * (T : Int) + i) = (h.1 66 (nI (600 + 200 * T + i))).toInt := fun i hi => by
      show (h.1 66 (Int32.ofInt (600 + 200 * (T : Int) + i))).toInt = _
      rw [← nI_ofI (by omega)]
      congr 3
    have key5 : rlV h 0 (smC 0) (100 * (T : Int)) = 5 := by
      show (h.1 9 (Int32.ofInt (100 * (T : Int)))).toInt = _
      rw [show Int32.ofInt (100 * (T : Int)) = j from Int32.toInt_inj.mp (by rw [i32of (by omega) (by omega)]; omega)]
      omega
    rw [key5] at s6
    have e3 := v9 3 (by decide)
    rw [show (100 * (T : Int) + ((3 : Nat) : Int)) = 100 * (T : Int) + 3 from rfl] at e3
    rw [e3] at s3 s4 s5 s6
    obtain ⟨n, hn⟩ : ∃ n : Nat, (n : Int) = (h.1 9 ((nI T * 100) + nI 3)).toInt := ⟨(h.1 9 ((nI T * 100) + nI 3)).toInt.toNat, by omega⟩
    have n96 : n ≤ 96 := by omega
    have en : h.1 9 ((nI T * 100) + 3) = nI n := by
      have := i_nI (v := h.1 9 ((nI T * 100) + nI 3)) (by omega)
      rw [show (3 : Int32) = nI 3 from rfl, this]
      congr 1
      omega
    obtain ⟨st, hst⟩ : ∃ st : Nat → Int, st = fun k => (h.1 9 ((nI T * 100) + nI (4 + k))).toInt := ⟨_, rfl⟩
    have e603 : Fz h 66 (603 + 200 * (T : Int)) = n := by
      have := v66 3 (by decide)
      have e : Fz h 66 (603 + 200 * (T : Int)) = rlV h 0 (bgR 0) (603 + 200 * (T : Int)) := rfl
      rw [e, s5, ← hn]
    have sw : ∀ k, k < n → stW ((5 : Nat) : Int) (st k) (Fz h 66 (604 + 200 * (T : Int) + 2 * (k : Int))) (Fz h 66 (604 + 200 * (T : Int) + 2 * (k : Int) + 1)) := fun k hk => by
      have q := s6 k (by omega) (by omega)
      have e1 : rlV h 0 (smC 0) (100 * (T : Int) + 4 + (k : Int)) = st k := by
        rw [hst]
        show _ = (h.1 9 ((nI T * 100) + nI (4 + k))).toInt
        rw [show 100 * (T : Int) + 4 + (k : Int) = 100 * (T : Int) + ((4 + k : Nat) : Int) by omega]
        exact v9 (4 + k) (by omega)
      rw [e1] at q
      have e2 : rlV h 0 (bgR 0) (605 + 200 * (T : Int) + 2 * (k : Int)) = Fz h 66 (604 + 200 * (T : Int) + 2 * (k : Int) + 1) := by
        rw [show 605 + 200 * (T : Int) + 2 * (k : Int) = 604 + 200 * (T : Int) + 2 * (k : Int) + 1 by omega]
        rfl
      rw [e2] at q
      exact q
    rw [e603] at w1 w2
    have W := WfS_of (key := 5) (by decide) n96 w2 sw
    have hA9 : ∀ k, k < n → st k = (h.1 9 ((nI T * 100) + nI (4 + k))).toInt := fun k _ => by rw [hst]
    have hB79 : NmV 5 hB a1 a2 a3 := fun k hk => by
      have hk : k < 2 := hk
      have : k = 0 ∨ k = 1 := by omega
      rw [hw]
      rcases this with rfl | rfl
      · rw [if_pos rfl]
        show (hI (hI h 79 119 a1) 79 107 a2).1 79 119 = _
        rw [hI_jn (by decide), hI_eq]
      · rw [if_neg (by decide), if_pos rfl]
        show (hI (hI h 79 119 a1) 79 107 a2).1 79 107 = _
        rw [hI_eq]
    obtain ⟨r, hr⟩ := List.length_eq_one_iff.mp (W.one a1 a2 a3)
    have i603 : ((600 : Int32) + (200 * nI T)) + 3 = nI (600 + 200 * T + 3) := ix603 T (by omega) 3 (by decide)
    have cA := c_giveA1 (d := d') (h := h) (t := nI T) (a := a1) (b := a2) (c := a3) (st := st) (n := n) (Q := fun r' h' => r' = some (.int (if 0 < (if r < 9999 then r else 9999) then (if r < 9999 then r else 9999) else 0)) ∧ frV h h') (fun q => by
      have := congrArg Int32.toInt q
      have cN : (-1000000005 : Int32).toInt = -1000000005 := rfl
      rw [nI_i (by omega)] at this
      omega) (fun Q q => kA2 Q q) (fun {Q} q => c_workOut W (t := T) (tx := tx) (by omega) (by omega) etx en hA9 (fun h' r f e => q h' r f e)) (fun h1 r1 f e => by
        obtain rfl : r = r1 := by rw [hr] at e; exact (List.cons.inj e).1
        exact ⟨rfl, f⟩)
    have kB' : ∀ Q : Option Value → Hp → Prop, Q (some (.int (nI T))) hB → Call (d' + 3) 227 [.ref 65, .int 5] hB Q := fun Q q => kB Q q
    have kW : ∀ {Q : Option Value → Hp → Prop}, (∀ h1 r, fr80' hB h1 → evS a1 a2 a3 st n = [r] → Q (some (.int r)) h1) → Call (d' + 3) 230 [.ref 65, .int (nI T)] hB Q := fun {Q} q => c_workedV (d := d' + 1) (key := 5) W (by omega) (by decide) (by
      rw [i603, fw 66 _ (by decide)]
      apply Int32.toInt_inj.mp
      have e6 := v66 3 (by decide)
      rw [show 600 + 200 * (T : Int) + ((3 : Nat) : Int) = 603 + 200 * (T : Int) by omega] at e6
      rw [← e6, nI_i (by omega)]
      exact e603) (fun k hk => by
      have q := sw k hk
      have z := stV_of (key := 5) (s := st k) (x := h.1 66 (((600 + (200 * (nI T))) + 4) + (2 * (nI k)))) (v := h.1 66 ((((600 + (200 * (nI T))) + 4) + (2 * (nI k))) + 1)) (by decide) (by
        rw [ix605 T (by omega) k (by omega), ix604 T (by omega) k (by omega)]
        have e1 : Fz h 66 (604 + 200 * (T : Int) + 2 * (k : Int)) = (h.1 66 (nI (604 + 200 * T + 2 * k))).toInt := by
          show (h.1 66 (Int32.ofInt _)).toInt = _
          rw [← nI_ofI (by omega)]
          congr 3
        have e2 : Fz h 66 (604 + 200 * (T : Int) + 2 * (k : Int) + 1) = (h.1 66 (nI (604 + 200 * T + 2 * k + 1))).toInt := by
          show (h.1 66 (Int32.ofInt _)).toInt = _
          rw [← nI_ofI (by omega)]
          congr 3
        rw [← e1, ← e2]
        exact q)
      rw [fw 66 _ (by decide), fw 66 _ (by decide)]
      exact z) hB79 (fun h' r f e => q h' r f e)
    rw [hw] at kB' kW
    have c0I : ∀ x : Int32, (0 ≤ x ↔ 0 ≤ x.toInt) := fun x => ge0I
    have l9 : (r < 9999 ↔ r.toInt < 9999) := by rw [Int32.lt_iff_toInt_lt, k9]
    have vmin : (if r < 9999 then r else (9999 : Int32)).toInt = if r.toInt < 9999 then r.toInt else 9999 := by
      by_cases q : r < 9999
      · rw [if_pos q, if_pos (l9.mp q)]
      · rw [if_neg q, if_neg (fun z => q (l9.mpr z))]; rfl
    by_cases r0 : 0 ≤ r
    · have cB := c_giveB1 (d := d') (h := h) (t := nI T) (a := a1) (b := a2) (c := a3) (st := st) (n := n) (Q := fun r' h' => r' = some (.int (if r < 9999 then r else 9999)) ∧ True) (by rw [ge0I, nI_i (by omega)]; omega) kB' kW (fun h1 r1 f e q => by
          obtain rfl : r = r1 := by rw [hr] at e; exact (List.cons.inj e).1
          exact absurd r0 q) (fun h1 r1 f e q => by
          obtain rfl : r = r1 := by rw [hr] at e; exact (List.cons.inj e).1
          exact ⟨rfl, trivial⟩)
      have r0' := (c0I r).mp r0
      have em : (if 0 < (if r < 9999 then r else 9999) then (if r < 9999 then r else (9999 : Int32)) else 0) = (if r < 9999 then r else 9999) := by
        by_cases q : (0 : Int32) < (if r < 9999 then r else 9999)
        · rw [if_pos q]
        · rw [if_neg q]
          rw [Int32.lt_iff_toInt_lt, vmin, k0] at q
          apply Int32.toInt_inj.mp
          rw [vmin, k0]
          split at q <;> (split <;> omega)
      rw [em] at cA
      refine ins2 cA cB ?_ ?_
      · rw [vmin]; split <;> omega
      · rw [vmin]; split <;> omega
    · have cB := c_giveB1 (d := d') (h := h) (t := nI T) (a := a1) (b := a2) (c := a3) (st := st) (n := n) (Q := fun r' h' => r' = some (.int 0) ∧ True) (by rw [ge0I, nI_i (by omega)]; omega) kB' kW (fun h1 r1 f e q => ⟨rfl, trivial⟩) (fun h1 r1 f e q => by
          obtain rfl : r = r1 := by rw [hr] at e; exact (List.cons.inj e).1
          exact absurd q r0)
      have r0' : r.toInt < 0 := by
        have : ¬ 0 ≤ r.toInt := fun z => r0 ((c0I r).mpr z)
        omega
      have em : (if 0 < (if r < 9999 then r else 9999) then (if r < 9999 then r else (9999 : Int32)) else 0) = 0 := by
        rw [if_neg]
        rw [Int32.lt_iff_toInt_lt, vmin, k0]
        split <;> omega
      rw [em] at cA
      exact ins2 cA cB (by decide) (by decide)
  cases hoe

