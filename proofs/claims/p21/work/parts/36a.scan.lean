/-! Words and signs of THE TAPE: where rows of letters, digits, blanks end. -/
noncomputable def cB (b : Int32) : Bool := decide (b = 32)
noncomputable def cL (b : Int32) : Bool := decide (97 ≤ b ∧ b ≤ 122)
noncomputable def cD (b : Int32) : Bool := decide (48 ≤ b ∧ b ≤ 57)
noncomputable def skF (c : Int32 → Bool) (f : Int32 → Int32) (n : Nat) : Nat → Nat → Nat
  | 0, p => p
  | k + 1, p => if p < n ∧ c (f (nI p)) = true then skF c f n k (p + 1) else p
noncomputable def sk (c : Int32 → Bool) (f : Int32 → Int32) (n p : Nat) : Nat := skF c f n (n - p) p
section SK
variable {c : Int32 → Bool} {f : Int32 → Int32} {n p : Nat}
theorem sk_end (h : n ≤ p) : sk c f n p = p := by
  unfold sk
  rw [show n - p = 0 by omega]
  rfl
theorem sk_no (h : c (f (nI p)) = false) : sk c f n p = p := by
  unfold sk
  cases n - p with
  | zero => rfl
  | succ k => show (if _ then _ else _) = _; rw [if_neg (fun q => by rw [h] at q; exact absurd q.2 (by decide))]
theorem sk_go (h : p < n) (hc : c (f (nI p)) = true) : sk c f n p = sk c f n (p + 1) := by
  unfold sk
  rw [show n - p = (n - (p + 1)) + 1 by omega]
  show (if _ then _ else _) = _
  rw [if_pos ⟨h, hc⟩]
theorem skF_b : ∀ {k p : Nat}, p + k ≤ n → p ≤ skF c f n k p ∧ skF c f n k p ≤ n
  | 0, p, h => ⟨Nat.le_refl _, by show p ≤ n; omega⟩
  | k + 1, p, h => by
    show p ≤ (if _ then _ else _) ∧ (if _ then _ else _) ≤ n
    split
    · have := skF_b (k := k) (p := p + 1) (by omega)
      omega
    · omega
theorem sk_b (h : p ≤ n) : p ≤ sk c f n p ∧ sk c f n p ≤ n := skF_b (by omega)
end SK
theorem tx_le {a b : Nat} (ha : a ≤ 4000) (hb : b ≤ 4000) : nI a ≤ nI b ↔ a ≤ b := by
  rw [Int32.le_iff_toInt_le, nI_i (by omega), nI_i (by omega)]
  omega
theorem tx_1 (k : Nat) : nI k + 1 = nI (k + 1) := nI_add k 1
theorem tx_0 (k : Nat) (h : k ≤ 4000) : 0 ≤ nI k := by
  rw [ge0I, nI_i (by omega)]
  omega
theorem tx_hh {h : Hp} {o : Nat} {j v w : Int32} : hI (hI h o j v) o j w = hI h o j w := by
  refine Prod.ext (funext fun a => funext fun b => ?_) rfl
  show (if a = o ∧ b = j then w else if a = o ∧ b = j then v else h.1 a b) = if a = o ∧ b = j then w else h.1 a b
  split <;> rfl
/-- two places, written one way round or the other -/
theorem tx_sw {h : Hp} {o a : Nat} {j k v w : Int32} (n : ¬ (o = a ∧ j = k)) : hI (hI h o j v) a k w = hI (hI h a k w) o j v := by
  refine Prod.ext (funext fun x => funext fun y => ?_) rfl
  show (if x = a ∧ y = k then w else if x = o ∧ y = j then v else h.1 x y) = if x = o ∧ y = j then v else if x = a ∧ y = k then w else h.1 x y
  by_cases h1 : x = a ∧ y = k
  · rw [if_pos h1, if_neg (fun h2 => n ⟨h2.1.symm.trans h1.1, h2.2.symm.trans h1.2⟩), if_pos h1]
  · rw [if_neg h1, if_neg h1]
/-- THE TAPE holds so many bytes -/
noncomputable abbrev TP (h : Hp) (n : Nat) : Prop := (n ≤ 96) ∧ (h.1 53 1 = nI n)
theorem TP.hn {h : Hp} {n : Nat} (self_ : TP h n) : n ≤ 96 := self_.1
theorem TP.en {h : Hp} {n : Nat} (self_ : TP h n) : h.1 53 1 = nI n := self_.2
theorem TP.sm {h : Hp} {n : Nat} (t : TP h n) : h.1 53 1 ≤ 96 := by
  rw [t.en]
  exact (tx_le (b := 96) (by have := t.hn; omega) (by omega)).mpr t.hn
theorem TP.lt {h : Hp} {n p : Nat} (t : TP h n) (hp : p ≤ n) (b : ¬ h.1 53 1 ≤ nI p) : p < n := by
  have := t.hn
  rw [t.en, tx_le (by omega) (by omega)] at b
  omega
theorem TP.ge {h : Hp} {n p : Nat} (t : TP h n) (hp : p ≤ n) (b : h.1 53 1 ≤ nI p) : n ≤ p := by
  have := t.hn
  rwa [t.en, tx_le (by omega) (by omega)] at b
theorem TP.ins {h : Hp} {n p : Nat} (t : TP h n) (hp : p < n) : 0 ≤ nI p ∧ nI p < h.1 53 1 := by
  have := t.hn
  refine ⟨tx_0 p (by omega), ?_⟩
  rw [t.en, Int32.lt_iff_toInt_lt, nI_i (by omega), nI_i (by omega)]
  omega
theorem TP.w {h : Hp} {n : Nat} {o : Nat} {j v : Int32} (t : TP h n) (ho : o ≠ 53) : TP (hI h o j v) n := ⟨t.hn, (hI_ne (fun e => ho e.symm)).trans t.en⟩
theorem tx_54 {h : Hp} {o : Nat} {j v : Int32} (ho : o ≠ 54) : (hI h o j v).1 54 = h.1 54 := funext fun b => hI_ne (fun e => ho e.symm)
/-- a word or sign: what it is (0 the end, 1 letters, 2 digits, 3 a sign, 4 a word right behind one), from, up to, digits' or sign's value -/
noncomputable abbrev Tok : Type := Int32 × Nat × Nat × Int32
noncomputable def Tok.ty (self_ : Tok) : Int32 := self_.1
theorem Tok.ty_mk (ty_ : Int32) (st_ : Nat) (nx_ : Nat) (val_ : Int32) : Tok.ty (ty_, st_, nx_, val_) = ty_ := rfl
noncomputable def Tok.st (self_ : Tok) : Nat := self_.2.1
theorem Tok.st_mk (ty_ : Int32) (st_ : Nat) (nx_ : Nat) (val_ : Int32) : Tok.st (ty_, st_, nx_, val_) = st_ := rfl
noncomputable def Tok.nx (self_ : Tok) : Nat := self_.2.2.1
theorem Tok.nx_mk (ty_ : Int32) (st_ : Nat) (nx_ : Nat) (val_ : Int32) : Tok.nx (ty_, st_, nx_, val_) = nx_ := rfl
noncomputable def Tok.val (self_ : Tok) : Int32 := self_.2.2.2
theorem Tok.val_mk (ty_ : Int32) (st_ : Nat) (nx_ : Nat) (val_ : Int32) : Tok.val (ty_, st_, nx_, val_) = val_ := rfl
/-- the value of digits, one more each time -/
noncomputable def dvF (g : Nat → Int32 → Int32 → Int32) (f : Int32 → Int32) (n : Nat) : Nat → Nat → Int32 → Int32
  | 0, _, v => v
  | k + 1, p, v => if p < n ∧ cD (f (nI p)) = true then dvF g f n k (p + 1) (g p v (f (nI p))) else v
noncomputable def dv (g : Nat → Int32 → Int32 → Int32) (f : Int32 → Int32) (n p : Nat) (v : Int32) : Int32 := dvF g f n (n - p) p v
noncomputable def gA (_ : Nat) (v b : Int32) : Int32 := if v * 10 + b - 48 < 9999 then v * 10 + b - 48 else 9999
section DV
variable {g : Nat → Int32 → Int32 → Int32} {f : Int32 → Int32} {n p : Nat} {v : Int32}
theorem dv_end (h : n ≤ p) : dv g f n p v = v := by
  unfold dv
  rw [show n - p = 0 by omega]
  rfl
theorem dv_no (h : cD (f (nI p)) = false) : dv g f n p v = v := by
  unfold dv
  cases n - p with
  | zero => rfl
  | succ k => show (if _ then _ else _) = _; rw [if_neg (fun q => by rw [h] at q; exact absurd q.2 (by decide))]
theorem dv_go (h : p < n) (hc : cD (f (nI p)) = true) : dv g f n p v = dv g f n (p + 1) (g p v (f (nI p))) := by
  unfold dv
  rw [show n - p = (n - (p + 1)) + 1 by omega]
  show (if _ then _ else _) = _
  rw [if_pos ⟨h, hc⟩]
end DV
/-- the word or sign that comes behind one -/
noncomputable def tokS (f : Int32 → Int32) (n : Nat) (beh : Prop) [Decidable beh] (p s : Nat) : Tok :=
  if s < n then (if cL (f (nI s)) = true then ⟨if beh ∧ s = p then 4 else 1, s, sk cL f n s, 0⟩ else if cD (f (nI s)) = true then ⟨if beh ∧ s = p then 4 else 2, s, sk cD f n s, dv gA f n s 0⟩ else ⟨3, s, s + 1, f (nI s)⟩) else ⟨0, s, s, 0⟩
noncomputable def tokN (f : Int32 → Int32) (n : Nat) (t : Tok) : Tok := tokS f n (t.ty = 1 ∨ t.ty = 2) t.nx (sk cB f n t.nx)
/-- the class's reader stands at it -/
noncomputable def TkA (h : Hp) (t : Tok) : Prop := h.1 55 5 = nI t.st ∧ h.1 55 6 = nI t.nx ∧ h.1 55 7 = t.ty ∧ (t.ty = 2 ∨ t.ty = 3 → h.1 55 8 = t.val)
/-- but where it stands all is as it was -/
noncomputable def frT (h h' : Hp) : Prop := (∀ o (j : Int32), ¬ (o = 55 ∧ (j = 5 ∨ j = 6 ∨ j = 7 ∨ j = 8)) → h'.1 o j = h.1 o j) ∧ h'.2 = h.2
theorem frT_rf {h : Hp} : frT h h := ⟨fun _ _ _ => rfl, rfl⟩
theorem frT.st {h h1 : Hp} {j v : Int32} (f : frT h h1) (hj : j = 5 ∨ j = 6 ∨ j = 7 ∨ j = 8) : frT h (hI h1 55 j v) := by
  refine ⟨fun o k hn => ?_, f.2⟩
  show (if o = 55 ∧ k = j then v else h1.1 o k) = _
  rw [if_neg (fun (q : o = 55 ∧ k = j) => hn ⟨q.1, by rw [q.2]; exact hj⟩)]
  exact f.1 o k hn
/-- bytes are not below 0 -/
noncomputable def NB (h : Hp) (n : Nat) : Prop := ∀ p, p < n → 0 ≤ h.1 54 (nI p)
theorem tx_id {h : Hp} {o : Nat} {j v : Int32} (e : h.1 o j = v) : hI h o j v = h := by
  refine Prod.ext (funext fun a => funext fun b => ?_) rfl
  show (if a = o ∧ b = j then v else h.1 a b) = h.1 a b
  split
  · rename_i q
    rw [q.1, q.2, e]
  · rfl
theorem tx_c1 {h : Hp} {a b c : Int32} : hI (hI (hI h 55 6 a) 55 5 b) 55 7 c = hI (hI (hI h 55 5 b) 55 7 c) 55 6 a := by
  rw [tx_sw (o := 55) (j := 6) (by decide), tx_sw (o := 55) (j := 6) (by decide)]
theorem nIle_eq {a b : Nat} (ha : a ≤ 4000) (hb : b ≤ 4000) : nI a = nI b ↔ a = b := ⟨fun e => by
  have := congrArg Int32.toInt e
  rw [nI_i (by omega), nI_i (by omega)] at this
  omega, fun e => by rw [e]⟩
theorem tokS_end {f : Int32 → Int32} {n p s : Nat} {beh : Prop} [Decidable beh] (h : ¬ s < n) : tokS f n beh p s = ⟨0, s, s, 0⟩ := if_neg h
theorem tokS_let {f : Int32 → Int32} {n p s : Nat} {beh : Prop} [Decidable beh] (h : s < n) (hl : 97 ≤ f (nI s) ∧ f (nI s) ≤ 122) : tokS f n beh p s = ⟨if beh ∧ s = p then 4 else 1, s, sk cL f n s, 0⟩ := by
  unfold tokS
  rw [if_pos h, if_pos (show cL (f (nI s)) = true from decide_eq_true hl)]
theorem tokS_dig {f : Int32 → Int32} {n p s : Nat} {beh : Prop} [Decidable beh] (h : s < n) (hl : ¬ (97 ≤ f (nI s) ∧ f (nI s) ≤ 122)) (hd : 48 ≤ f (nI s) ∧ f (nI s) ≤ 57) : tokS f n beh p s = ⟨if beh ∧ s = p then 4 else 2, s, sk cD f n s, dv gA f n s 0⟩ := by
  unfold tokS
  rw [if_pos h, if_neg (by rw [cL, decide_eq_true_eq]; exact hl), if_pos (show cD (f (nI s)) = true from decide_eq_true hd)]
theorem tokS_sig {f : Int32 → Int32} {n p s : Nat} {beh : Prop} [Decidable beh] (h : s < n) (hl : ¬ (97 ≤ f (nI s) ∧ f (nI s) ≤ 122)) (hd : ¬ (48 ≤ f (nI s) ∧ f (nI s) ≤ 57)) : tokS f n beh p s = ⟨3, s, s + 1, f (nI s)⟩ := by
  unfold tokS
  rw [if_pos h, if_neg (by rw [cL, decide_eq_true_eq]; exact hl), if_neg (by rw [cD, decide_eq_true_eq]; exact hd)]
theorem TP.out {h : Hp} {n s : Nat} (t : TP h n) (hs : s ≤ n) (b : ¬ s < n) : ¬ (0 ≤ nI s ∧ nI s < h.1 53 1) := fun q => by
  have := t.hn
  have q := q.2
  rw [t.en, Int32.lt_iff_toInt_lt, nI_i (by omega), nI_i (by omega)] at q
  omega
theorem tx_two {P : Prop} (c : Prop) [Decidable c] (a : c → P) (b : ¬ c → P) : P := if h : c then a h else b h
theorem ty_n0 : ¬ ((0 : Int32) = 2 ∨ (0 : Int32) = 3) := by decide
theorem ty_n1 : ¬ ((1 : Int32) = 2 ∨ (1 : Int32) = 3) := by decide
theorem ty_n4 : ¬ ((4 : Int32) = 2 ∨ (4 : Int32) = 3) := by decide
theorem c_size {d : Nat} {Q : Option Value → Hp → Prop} {h : Hp} (k : Q (some (.int (h.1 53 1))) h) : Call (d + 1) 100 [.ref 53] h Q := by
  refine call_of (rfl : psM[100]? = some _) rfl rfl (rcvV rfl) (fun X hX => ?_)
  show X (0, [some (.ref 53)], [], h)
  refine go hX 2 (gs := [True, True]) (z' := (4, [some (.ref 53)], [.int (h.1 53 1)], h)) rfl ⟨trivial, trivial, trivial⟩ ?_
  refine rt_ hX (G := True) (r := some (.int (h.1 53 1))) rfl trivial ?_
  exact k
theorem c_atI {d : Nat} {Q : Option Value → Hp → Prop} {h : Hp} {p : Int32} (sm : h.1 53 1 ≤ 96) (pi : 0 ≤ p ∧ p < h.1 53 1) (k : Q (some (.int (h.1 54 p))) h) : Call (d + 1) 104 [.ref 53, .int p] h Q := by
  have e96 : nI 96 = 96 := rfl
  refine call_of (rfl : psM[104]? = some _) rfl rfl (rcvV rfl) (fun X hX => ?_)
  show X (0, [some (.ref 53), some (.int p)], [], h)
  refine go hX 2 (gs := [True, True]) (z' := (if p < 0 then 30 else 4, [some (.ref 53), some (.int p)], [], h)) rfl ⟨trivial, trivial, trivial⟩ ?_
  refine br (fun b1 => ?_) (fun b1 => ?_)
  ·
    refine go hX 1 (gs := [True]) (z' := (31, [some (.ref 53), some (.int p)], [.int (-1)], h)) rfl ⟨trivial, trivial⟩ ?_
    refine rt_ hX (G := True) (r := some (.int (-1))) rfl trivial ?_
    exfalso; grind
  ·
    refine go hX 4 (gs := [True, True, True, True]) (z' := (if (h.1 53 1) ≤ p then 30 else 12, [some (.ref 53), some (.int p)], [], h)) rfl ⟨trivial, trivial, trivial, trivial, trivial⟩ ?_
    refine br (fun b2 => ?_) (fun b2 => ?_)
    ·
      refine go hX 1 (gs := [True]) (z' := (31, [some (.ref 53), some (.int p)], [.int (-1)], h)) rfl ⟨trivial, trivial⟩ ?_
      refine rt_ hX (G := True) (r := some (.int (-1))) rfl trivial ?_
      exfalso; grind
    ·
      refine go hX 5 (gs := [True, True, True, True, True]) (z' := (if (nI 96) ≤ p then 30 else 21, [some (.ref 53), some (.int p)], [], h)) rfl ⟨trivial, trivial, trivial, trivial, trivial, trivial⟩ ?_
      refine br (fun b3 => ?_) (fun b3 => ?_)
      ·
        refine go hX 1 (gs := [True]) (z' := (31, [some (.ref 53), some (.int p)], [.int (-1)], h)) rfl ⟨trivial, trivial⟩ ?_
        refine rt_ hX (G := True) (r := some (.int (-1))) rfl trivial ?_
        exfalso; grind
      ·
        refine go hX 5 (gs := [True, ibd p 96, True, True, True]) (z' := (31, [some (.ref 53), some (.int p)], [.int (h.1 54 p)], h)) rfl ⟨trivial, ?_, trivial, trivial, trivial, trivial⟩ ?_
        · exact ibd_of (B := 96) rfl (by grind) (by grind)
        refine rt_ hX (G := True) (r := some (.int (h.1 54 p))) rfl trivial ?_
        exact k
theorem c_atO {d : Nat} {Q : Option Value → Hp → Prop} {h : Hp} {p : Int32} (pi : ¬ (0 ≤ p ∧ p < h.1 53 1)) (k : Q (some (.int (-1))) h) : Call (d + 1) 104 [.ref 53, .int p] h Q := by
  have e96 : nI 96 = 96 := rfl
  refine call_of (rfl : psM[104]? = some _) rfl rfl (rcvV rfl) (fun X hX => ?_)
  show X (0, [some (.ref 53), some (.int p)], [], h)
  refine go hX 2 (gs := [True, True]) (z' := (if p < 0 then 30 else 4, [some (.ref 53), some (.int p)], [], h)) rfl ⟨trivial, trivial, trivial⟩ ?_
  refine br (fun b1 => ?_) (fun b1 => ?_)
  ·
    refine go hX 1 (gs := [True]) (z' := (31, [some (.ref 53), some (.int p)], [.int (-1)], h)) rfl ⟨trivial, trivial⟩ ?_
    refine rt_ hX (G := True) (r := some (.int (-1))) rfl trivial ?_
    exact k
  ·
    refine go hX 4 (gs := [True, True, True, True]) (z' := (if (h.1 53 1) ≤ p then 30 else 12, [some (.ref 53), some (.int p)], [], h)) rfl ⟨trivial, trivial, trivial, trivial, trivial⟩ ?_
    refine br (fun b2 => ?_) (fun b2 => ?_)
    ·
      refine go hX 1 (gs := [True]) (z' := (31, [some (.ref 53), some (.int p)], [.int (-1)], h)) rfl ⟨trivial, trivial⟩ ?_
      refine rt_ hX (G := True) (r := some (.int (-1))) rfl trivial ?_
      exact k
    ·
      refine go hX 5 (gs := [True, True, True, True, True]) (z' := (if (nI 96) ≤ p then 30 else 21, [some (.ref 53), some (.int p)], [], h)) rfl ⟨trivial, trivial, trivial, trivial, trivial, trivial⟩ ?_
      refine br (fun b3 => ?_) (fun b3 => ?_)
      ·
        refine go hX 1 (gs := [True]) (z' := (31, [some (.ref 53), some (.int p)], [.int (-1)], h)) rfl ⟨trivial, trivial⟩ ?_
        refine rt_ hX (G := True) (r := some (.int (-1))) rfl trivial ?_
        exact k
      ·
        refine go hX 5 (gs := [True, ibd p 96, True, True, True]) (z' := (31, [some (.ref 53), some (.int p)], [.int (h.1 54 p)], h)) rfl ⟨trivial, ?_, trivial, trivial, trivial, trivial⟩ ?_
        · exfalso; grind
        refine rt_ hX (G := True) (r := some (.int (h.1 54 p))) rfl trivial ?_
        exfalso; grind
theorem c_isLetter {d : Nat} {Q : Option Value → Hp → Prop} {h : Hp} {b : Int32} (k1 : 97 ≤ b ∧ b ≤ 122 → Q (some (.int 1)) h) (k0 : ¬ (97 ≤ b ∧ b ≤ 122) → Q (some (.int 0)) h) : Call (d + 1) 33 [.int b] h Q := by
  refine call_of (rfl : psM[33]? = some _) rfl rfl (rcvS rfl) (fun X hX => ?_)
  show X (0, [some (.int b)], [], h)
  refine go hX 3 (gs := [True, True, True]) (z' := (if b < 97 then 16 else 6, [some (.int b)], [], h)) rfl ⟨trivial, trivial, trivial, trivial⟩ ?_
  refine br (fun b1 => ?_) (fun b1 => ?_)
  ·
    refine go hX 1 (gs := [True]) (z' := (17, [some (.int b)], [.int 0], h)) rfl ⟨trivial, trivial⟩ ?_
    refine rt_ hX (G := isB 0) (r := some (.int 0)) rfl isB0 ?_
    exact k0 (by grind)
  ·
    refine go hX 3 (gs := [True, True, True]) (z' := (if 122 < b then 16 else 12, [some (.int b)], [], h)) rfl ⟨trivial, trivial, trivial, trivial⟩ ?_
    refine br (fun b2 => ?_) (fun b2 => ?_)
    ·
      refine go hX 1 (gs := [True]) (z' := (17, [some (.int b)], [.int 0], h)) rfl ⟨trivial, trivial⟩ ?_
      refine rt_ hX (G := isB 0) (r := some (.int 0)) rfl isB0 ?_
      exact k0 (by grind)
    ·
      refine go hX 2 (gs := [True, True]) (z' := (17, [some (.int b)], [.int 1], h)) rfl ⟨trivial, trivial, trivial⟩ ?_
      refine rt_ hX (G := isB 1) (r := some (.int 1)) rfl isB1 ?_
      exact k1 (by grind)
theorem c_isDigit {d : Nat} {Q : Option Value → Hp → Prop} {h : Hp} {b : Int32} (k1 : 48 ≤ b ∧ b ≤ 57 → Q (some (.int 1)) h) (k0 : ¬ (48 ≤ b ∧ b ≤ 57) → Q (some (.int 0)) h) : Call (d + 1) 34 [.int b] h Q := by
  refine call_of (rfl : psM[34]? = some _) rfl rfl (rcvS rfl) (fun X hX => ?_)
  show X (0, [some (.int b)], [], h)
  refine go hX 3 (gs := [True, True, True]) (z' := (if b < 48 then 16 else 6, [some (.int b)], [], h)) rfl ⟨trivial, trivial, trivial, trivial⟩ ?_
  refine br (fun b1 => ?_) (fun b1 => ?_)
  ·
    refine go hX 1 (gs := [True]) (z' := (17, [some (.int b)], [.int 0], h)) rfl ⟨trivial, trivial⟩ ?_
    refine rt_ hX (G := isB 0) (r := some (.int 0)) rfl isB0 ?_
    exact k0 (by grind)
  ·
    refine go hX 3 (gs := [True, True, True]) (z' := (if 57 < b then 16 else 12, [some (.int b)], [], h)) rfl ⟨trivial, trivial, trivial, trivial⟩ ?_
    refine br (fun b2 => ?_) (fun b2 => ?_)
    ·
      refine go hX 1 (gs := [True]) (z' := (17, [some (.int b)], [.int 0], h)) rfl ⟨trivial, trivial⟩ ?_
      refine rt_ hX (G := isB 0) (r := some (.int 0)) rfl isB0 ?_
      exact k0 (by grind)
    ·
      refine go hX 2 (gs := [True, True]) (z' := (17, [some (.int b)], [.int 1], h)) rfl ⟨trivial, trivial, trivial⟩ ?_
      refine rt_ hX (G := isB 1) (r := some (.int 1)) rfl isB1 ?_
      exact k1 (by grind)
theorem c_skipL {d : Nat} {Q : Option Value → Hp → Prop} {h : Hp} {n : Nat} (t : TP h n) {p : Nat} (hp : p ≤ n) (kk : Q none (hI h 55 6 (nI (sk cL (h.1 54) n p)))) : Call (d + 2) 31 [.ref 55] (hI h 55 6 (nI p)) Q := by
  refine call_of (rfl : psM[31]? = some _) rfl rfl (rcvV rfl) (fun X hX => ?_)
  show X (0, [some (.ref 55)], [], (hI h 55 6 (nI p)))
  generalize ht : n - p = m
  induction m generalizing p with
  | zero =>
    refine go hX 4 (gs := [True, True, True, True]) (z' := (8, [some (.ref 55)], [.ref 53, .int (nI p)], (hI h 55 6 (nI p)))) rfl ⟨trivial, trivial, trivial, trivial, trivial⟩ ?_
    refine cl hX 100 1 [.ref 53] [.int (nI p)] rfl rfl rfl rfl ?_
    refine c_size ?_
    show X (11, [some (.ref 55)], [.int (h.1 53 1), .int (nI p)], (hI h 55 6 (nI p)))
    refine go hX 1 (gs := [True]) (z' := (if (h.1 53 1) ≤ (nI p) then 44 else 14, [some (.ref 55)], [], (hI h 55 6 (nI p)))) rfl ⟨trivial, trivial⟩ ?_
    refine br (fun b1 => ?_) (fun b1 => ?_)
    ·
      refine rt_ hX (G := True) (r := none) rfl trivial ?_
      rw [sk_end (t.ge hp b1)] at kk; exact kk
    ·
      refine go hX 4 (gs := [True, True, True, True]) (z' := (22, [some (.ref 55)], [.int (nI p), .ref 53], (hI h 55 6 (nI p)))) rfl ⟨trivial, trivial, trivial, trivial, trivial⟩ ?_
      refine cl hX 104 2 [.ref 53, .int (nI p)] [] rfl rfl rfl rfl ?_
      refine c_atI t.sm (t.ins (t.lt hp b1)) ?_
      show X (25, [some (.ref 55)], [.int (h.1 54 (nI p))], (hI h 55 6 (nI p)))
      refine cl hX 33 1 [.int (h.1 54 (nI p))] [] rfl rfl rfl rfl ?_
      refine c_isLetter (fun b2 => ?_) (fun b2 => ?_)
      ·
        show X (28, [some (.ref 55)], [.int 1], (hI h 55 6 (nI p)))
        refine go hX 8 (gs := [True, True, True, True, True, True, True, True]) (z' := (0, [some (.ref 55)], [], (hI (hI h 55 6 (nI p)) 55 6 ((nI p) + 1)))) rfl ⟨trivial, trivial, trivial, trivial, trivial, trivial, trivial, trivial, trivial⟩ ?_
        exact absurd (t.lt hp b1) (by omega)
      ·
        show X (28, [some (.ref 55)], [.int 0], (hI h 55 6 (nI p)))
        refine go hX 1 (gs := [True]) (z' := (44, [some (.ref 55)], [], (hI h 55 6 (nI p)))) rfl ⟨trivial, trivial⟩ ?_
        refine rt_ hX (G := True) (r := none) rfl trivial ?_
        rw [sk_no (decide_eq_false b2)] at kk; exact kk
  | succ m ih =>
    refine go hX 4 (gs := [True, True, True, True]) (z' := (8, [some (.ref 55)], [.ref 53, .int (nI p)], (hI h 55 6 (nI p)))) rfl ⟨trivial, trivial, trivial, trivial, trivial⟩ ?_
    refine cl hX 100 1 [.ref 53] [.int (nI p)] rfl rfl rfl rfl ?_
    refine c_size ?_
    show X (11, [some (.ref 55)], [.int (h.1 53 1), .int (nI p)], (hI h 55 6 (nI p)))
    refine go hX 1 (gs := [True]) (z' := (if (h.1 53 1) ≤ (nI p) then 44 else 14, [some (.ref 55)], [], (hI h 55 6 (nI p)))) rfl ⟨trivial, trivial⟩ ?_
    refine br (fun b1 => ?_) (fun b1 => ?_)
    ·
      refine rt_ hX (G := True) (r := none) rfl trivial ?_
      rw [sk_end (t.ge hp b1)] at kk; exact kk
    ·
      refine go hX 4 (gs := [True, True, True, True]) (z' := (22, [some (.ref 55)], [.int (nI p), .ref 53], (hI h 55 6 (nI p)))) rfl ⟨trivial, trivial, trivial, trivial, trivial⟩ ?_
      refine cl hX 104 2 [.ref 53, .int (nI p)] [] rfl rfl rfl rfl ?_
      refine c_atI t.sm (t.ins (t.lt hp b1)) ?_
      show X (25, [some (.ref 55)], [.int (h.1 54 (nI p))], (hI h 55 6 (nI p)))
      refine cl hX 33 1 [.int (h.1 54 (nI p))] [] rfl rfl rfl rfl ?_
      refine c_isLetter (fun b2 => ?_) (fun b2 => ?_)
      ·
        show X (28, [some (.ref 55)], [.int 1], (hI h 55 6 (nI p)))
        refine go hX 8 (gs := [True, True, True, True, True, True, True, True]) (z' := (0, [some (.ref 55)], [], (hI (hI h 55 6 (nI p)) 55 6 ((nI p) + 1)))) rfl ⟨trivial, trivial, trivial, trivial, trivial, trivial, trivial, trivial, trivial⟩ ?_
        rw [tx_hh, tx_1]
        exact ih (by have := t.lt hp b1; omega) (by rw [← sk_go (t.lt hp b1) (decide_eq_true b2)]; exact kk) (by have := t.lt hp b1; omega)
      ·
        show X (28, [some (.ref 55)], [.int 0], (hI h 55 6 (nI p)))
        refine go hX 1 (gs := [True]) (z' := (44, [some (.ref 55)], [], (hI h 55 6 (nI p)))) rfl ⟨trivial, trivial⟩ ?_
        refine rt_ hX (G := True) (r := none) rfl trivial ?_
        rw [sk_no (decide_eq_false b2)] at kk; exact kk
theorem tx_c2 {h : Hp} {a b v w : Int32} : hI (hI (hI (hI h 55 8 v) 55 6 a) 55 8 w) 55 6 b = hI (hI h 55 8 w) 55 6 b := by
  rw [tx_sw (o := 55) (j := 6) (by decide), tx_hh, tx_hh]
theorem c_digits {d : Nat} {Q : Option Value → Hp → Prop} {h : Hp} {n : Nat} (t : TP h n) {p : Nat} (hp : p ≤ n) (kk : Q none (hI (hI h 55 8 (dv gA (h.1 54) n p 0)) 55 6 (nI (sk cD (h.1 54) n p)))) : Call (d + 2) 32 [.ref 55] (hI h 55 6 (nI p)) Q := by
  refine call_of (rfl : psM[32]? = some _) rfl rfl (rcvV rfl) (fun X hX => ?_)
  show X (0, [some (.ref 55)], [], (hI h 55 6 (nI p)))
  refine go hX 3 (gs := [True, True, True]) (z' := (5, [some (.ref 55)], [], hI (hI h 55 6 (nI p)) 55 8 0)) rfl ⟨trivial, trivial, trivial, trivial⟩ ?_
  rw [tx_sw (o := 55) (j := 6) (by decide)]
  have key : ∀ (m : Nat) (v : Int32) {p : Nat}, p ≤ n → Q none (hI (hI h 55 8 (dv gA (h.1 54) n p v)) 55 6 (nI (sk cD (h.1 54) n p))) → n - p = m → X (5, [some (.ref 55)], [], hI (hI h 55 8 v) 55 6 (nI p)) := by
    clear kk hp p
    intro m
    induction m with
    | zero =>
      intro v p hp kk ht
      refine go hX 4 (gs := [True, True, True, True]) (z' := (13, [some (.ref 55)], [.ref 53, .int (nI p)], (hI (hI h 55 8 v) 55 6 (nI p)))) rfl ⟨trivial, trivial, trivial, trivial, trivial⟩ ?_
      refine cl hX 100 1 [.ref 53] [.int (nI p)] rfl rfl rfl rfl ?_
      refine c_size ?_
      show X (16, [some (.ref 55)], [.int (h.1 53 1), .int (nI p)], (hI (hI h 55 8 v) 55 6 (nI p)))
      refine go hX 1 (gs := [True]) (z' := (if (h.1 53 1) ≤ (nI p) then 81 else 19, [some (.ref 55)], [], (hI (hI h 55 8 v) 55 6 (nI p)))) rfl ⟨trivial, trivial⟩ ?_
      refine br (fun b1 => ?_) (fun b1 => ?_)
      ·
        refine rt_ hX (G := True) (r := none) rfl trivial ?_
        rw [sk_end (t.ge hp b1), dv_end (t.ge hp b1)] at kk; exact kk
      ·
        refine go hX 4 (gs := [True, True, True, True]) (z' := (27, [some (.ref 55)], [.int (nI p), .ref 53], (hI (hI h 55 8 v) 55 6 (nI p)))) rfl ⟨trivial, trivial, trivial, trivial, trivial⟩ ?_
        refine cl hX 104 2 [.ref 53, .int (nI p)] [] rfl rfl rfl rfl ?_
        refine c_atI t.sm (t.ins (t.lt hp b1)) ?_
        show X (30, [some (.ref 55)], [.int (h.1 54 (nI p))], (hI (hI h 55 8 v) 55 6 (nI p)))
        refine cl hX 34 1 [.int (h.1 54 (nI p))] [] rfl rfl rfl rfl ?_
        refine c_isDigit (fun b2 => ?_) (fun b2 => ?_)
        ·
          show X (33, [some (.ref 55)], [.int 1], (hI (hI h 55 8 v) 55 6 (nI p)))
          refine go hX 11 (gs := [True, True, True, True, True, True, True, True, True, True, True]) (z' := (55, [some (.ref 55)], [.int (nI p), .ref 53, .int (v * 10), .int 9999, .ref 55], (hI (hI h 55 8 v) 55 6 (nI p)))) rfl ⟨trivial, trivial, trivial, trivial, trivial, trivial, trivial, trivial, trivial, trivial, trivial, trivial⟩ ?_
          refine cl hX 104 2 [.ref 53, .int (nI p)] [.int (v * 10), .int 9999, .ref 55] rfl rfl rfl rfl ?_
          refine c_atI t.sm (t.ins (t.lt hp b1)) ?_
          show X (58, [some (.ref 55)], [.int (h.1 54 (nI p)), .int (v * 10), .int 9999, .ref 55], (hI (hI h 55 8 v) 55 6 (nI p)))
          refine go hX 12 (gs := [True, True, True, True, True, True, True, True, True, True, True, True]) (z' := (5, [some (.ref 55)], [], (hI (hI (hI (hI h 55 8 v) 55 6 (nI p)) 55 8 (if (((v * 10) + (h.1 54 (nI p))) - 48) < 9999 then (((v * 10) + (h.1 54 (nI p))) - 48) else 9999)) 55 6 ((nI p) + 1)))) rfl ⟨trivial, trivial, trivial, trivial, trivial, trivial, trivial, trivial, trivial, trivial, trivial, trivial, trivial⟩ ?_
          exact absurd (t.lt hp b1) (by omega)
        ·
          show X (33, [some (.ref 55)], [.int 0], (hI (hI h 55 8 v) 55 6 (nI p)))
          refine go hX 1 (gs := [True]) (z' := (81, [some (.ref 55)], [], (hI (hI h 55 8 v) 55 6 (nI p)))) rfl ⟨trivial, trivial⟩ ?_
          refine rt_ hX (G := True) (r := none) rfl trivial ?_
          rw [sk_no (decide_eq_false b2), dv_no (decide_eq_false b2)] at kk; exact kk
    | succ m ih =>
      intro v p hp kk ht
      refine go hX 4 (gs := [True, True, True, True]) (z' := (13, [some (.ref 55)], [.ref 53, .int (nI p)], (hI (hI h 55 8 v) 55 6 (nI p)))) rfl ⟨trivial, trivial, trivial, trivial, trivial⟩ ?_
      refine cl hX 100 1 [.ref 53] [.int (nI p)] rfl rfl rfl rfl ?_
      refine c_size ?_
      show X (16, [some (.ref 55)], [.int (h.1 53 1), .int (nI p)], (hI (hI h 55 8 v) 55 6 (nI p)))
      refine go hX 1 (gs := [True]) (z' := (if (h.1 53 1) ≤ (nI p) then 81 else 19, [some (.ref 55)], [], (hI (hI h 55 8 v) 55 6 (nI p)))) rfl ⟨trivial, trivial⟩ ?_
      refine br (fun b1 => ?_) (fun b1 => ?_)
      ·
        refine rt_ hX (G := True) (r := none) rfl trivial ?_
        rw [sk_end (t.ge hp b1), dv_end (t.ge hp b1)] at kk; exact kk
      ·
        refine go hX 4 (gs := [True, True, True, True]) (z' := (27, [some (.ref 55)], [.int (nI p), .ref 53], (hI (hI h 55 8 v) 55 6 (nI p)))) rfl ⟨trivial, trivial, trivial, trivial, trivial⟩ ?_
        refine cl hX 104 2 [.ref 53, .int (nI p)] [] rfl rfl rfl rfl ?_
        refine c_atI t.sm (t.ins (t.lt hp b1)) ?_
        show X (30, [some (.ref 55)], [.int (h.1 54 (nI p))], (hI (hI h 55 8 v) 55 6 (nI p)))
        refine cl hX 34 1 [.int (h.1 54 (nI p))] [] rfl rfl rfl rfl ?_
        refine c_isDigit (fun b2 => ?_) (fun b2 => ?_)
        ·
          show X (33, [some (.ref 55)], [.int 1], (hI (hI h 55 8 v) 55 6 (nI p)))
          refine go hX 11 (gs := [True, True, True, True, True, True, True, True, True, True, True]) (z' := (55, [some (.ref 55)], [.int (nI p), .ref 53, .int (v * 10), .int 9999, .ref 55], (hI (hI h 55 8 v) 55 6 (nI p)))) rfl ⟨trivial, trivial, trivial, trivial, trivial, trivial, trivial, trivial, trivial, trivial, trivial, trivial⟩ ?_
          refine cl hX 104 2 [.ref 53, .int (nI p)] [.int (v * 10), .int 9999, .ref 55] rfl rfl rfl rfl ?_
          refine c_atI t.sm (t.ins (t.lt hp b1)) ?_
          show X (58, [some (.ref 55)], [.int (h.1 54 (nI p)), .int (v * 10), .int 9999, .ref 55], (hI (hI h 55 8 v) 55 6 (nI p)))
          refine go hX 12 (gs := [True, True, True, True, True, True, True, True, True, True, True, True]) (z' := (5, [some (.ref 55)], [], (hI (hI (hI (hI h 55 8 v) 55 6 (nI p)) 55 8 (if (((v * 10) + (h.1 54 (nI p))) - 48) < 9999 then (((v * 10) + (h.1 54 (nI p))) - 48) else 9999)) 55 6 ((nI p) + 1)))) rfl ⟨trivial, trivial, trivial, trivial, trivial, trivial, trivial, trivial, trivial, trivial, trivial, trivial, trivial⟩ ?_
          rw [tx_c2, tx_1]
          exact ih _ (by have := t.lt hp b1; omega) (by rw [sk_go (t.lt hp b1) (decide_eq_true b2), dv_go (t.lt hp b1) (decide_eq_true b2)] at kk; exact kk) (by have := t.lt hp b1; omega)
        ·
          show X (33, [some (.ref 55)], [.int 0], (hI (hI h 55 8 v) 55 6 (nI p)))
          refine go hX 1 (gs := [True]) (z' := (81, [some (.ref 55)], [], (hI (hI h 55 8 v) 55 6 (nI p)))) rfl ⟨trivial, trivial⟩ ?_
          refine rt_ hX (G := True) (r := none) rfl trivial ?_
          rw [sk_no (decide_eq_false b2), dv_no (decide_eq_false b2)] at kk; exact kk
  exact key _ 0 hp kk rfl
theorem goOn_bl {d : Nat} {Q : Option Value → Hp → Prop} {X : Cf → Prop} (hX : Clo (Call (d + 2)) cd30 none Q X) {h : Hp} {n : Nat} (t : TP h n) {bh q : Int32} {p : Nat} (hp : p ≤ n) (kx : X (70, [some (.ref 55), some (.int bh), some (.int q), none], [], hI h 55 6 (nI (sk cB (h.1 54) n p)))) : X (27, [some (.ref 55), some (.int bh), some (.int q), none], [], hI h 55 6 (nI p)) := by
  generalize ht : n - p = m
  induction m generalizing p with
  | zero =>
    refine go hX 4 (gs := [True, True, True, True]) (z' := (35, [some (.ref 55), some (.int bh), some (.int q), none], [.ref 53, .int (nI p)], (hI h 55 6 (nI p)))) rfl ⟨trivial, trivial, trivial, trivial, trivial⟩ ?_
    refine cl hX 100 1 [.ref 53] [.int (nI p)] rfl rfl rfl rfl ?_
    refine c_size ?_
    show X (38, [some (.ref 55), some (.int bh), some (.int q), none], [.int (h.1 53 1), .int (nI p)], (hI h 55 6 (nI p)))
    refine go hX 1 (gs := [True]) (z' := (if (h.1 53 1) ≤ (nI p) then 70 else 41, [some (.ref 55), some (.int bh), some (.int q), none], [], (hI h 55 6 (nI p)))) rfl ⟨trivial, trivial⟩ ?_
    refine br (fun b1 => ?_) (fun b1 => ?_)
    ·
      rw [sk_end (t.ge hp b1)] at kx; exact kx
    ·
      refine go hX 4 (gs := [True, True, True, True]) (z' := (49, [some (.ref 55), some (.int bh), some (.int q), none], [.int (nI p), .ref 53], (hI h 55 6 (nI p)))) rfl ⟨trivial, trivial, trivial, trivial, trivial⟩ ?_
      refine cl hX 104 2 [.ref 53, .int (nI p)] [] rfl rfl rfl rfl ?_
      refine c_atI t.sm (t.ins (t.lt hp b1)) ?_
      show X (52, [some (.ref 55), some (.int bh), some (.int q), none], [.int (h.1 54 (nI p))], (hI h 55 6 (nI p)))
      refine go hX 2 (gs := [True, True]) (z' := (if (h.1 54 (nI p)) = 32 then 57 else 70, [some (.ref 55), some (.int bh), some (.int q), none], [], (hI h 55 6 (nI p)))) rfl ⟨trivial, trivial, trivial⟩ ?_
      refine br (fun b2 => ?_) (fun b2 => ?_)
      ·
        refine go hX 7 (gs := [True, True, True, True, True, True, True]) (z' := (27, [some (.ref 55), some (.int bh), some (.int q), none], [], (hI (hI h 55 6 (nI p)) 55 6 ((nI p) + 1)))) rfl ⟨trivial, trivial, trivial, trivial, trivial, trivial, trivial, trivial⟩ ?_
        exact absurd (t.lt hp b1) (by omega)
      ·
        rw [sk_no (decide_eq_false b2)] at kx; exact kx
  | succ m ih =>
    refine go hX 4 (gs := [True, True, True, True]) (z' := (35, [some (.ref 55), some (.int bh), some (.int q), none], [.ref 53, .int (nI p)], (hI h 55 6 (nI p)))) rfl ⟨trivial, trivial, trivial, trivial, trivial⟩ ?_
    refine cl hX 100 1 [.ref 53] [.int (nI p)] rfl rfl rfl rfl ?_
    refine c_size ?_
    show X (38, [some (.ref 55), some (.int bh), some (.int q), none], [.int (h.1 53 1), .int (nI p)], (hI h 55 6 (nI p)))
    refine go hX 1 (gs := [True]) (z' := (if (h.1 53 1) ≤ (nI p) then 70 else 41, [some (.ref 55), some (.int bh), some (.int q), none], [], (hI h 55 6 (nI p)))) rfl ⟨trivial, trivial⟩ ?_
    refine br (fun b1 => ?_) (fun b1 => ?_)
    ·
      rw [sk_end (t.ge hp b1)] at kx; exact kx
    ·
      refine go hX 4 (gs := [True, True, True, True]) (z' := (49, [some (.ref 55), some (.int bh), some (.int q), none], [.int (nI p), .ref 53], (hI h 55 6 (nI p)))) rfl ⟨trivial, trivial, trivial, trivial, trivial⟩ ?_
      refine cl hX 104 2 [.ref 53, .int (nI p)] [] rfl rfl rfl rfl ?_
      refine c_atI t.sm (t.ins (t.lt hp b1)) ?_
      show X (52, [some (.ref 55), some (.int bh), some (.int q), none], [.int (h.1 54 (nI p))], (hI h 55 6 (nI p)))
      refine go hX 2 (gs := [True, True]) (z' := (if (h.1 54 (nI p)) = 32 then 57 else 70, [some (.ref 55), some (.int bh), some (.int q), none], [], (hI h 55 6 (nI p)))) rfl ⟨trivial, trivial, trivial⟩ ?_
      refine br (fun b2 => ?_) (fun b2 => ?_)
      ·
        refine go hX 7 (gs := [True, True, True, True, True, True, True]) (z' := (27, [some (.ref 55), some (.int bh), some (.int q), none], [], (hI (hI h 55 6 (nI p)) 55 6 ((nI p) + 1)))) rfl ⟨trivial, trivial, trivial, trivial, trivial, trivial, trivial, trivial⟩ ?_
        rw [tx_hh, tx_1]
        exact ih (by have := t.lt hp b1; omega) (by rw [← sk_go (t.lt hp b1) (decide_eq_true b2)]; exact kx) (by have := t.lt hp b1; omega)
      ·
        rw [sk_no (decide_eq_false b2)] at kx; exact kx
theorem goOn_tl {d : Nat} {Q : Option Value → Hp → Prop} {X : Cf → Prop} (hX : Clo (Call (d + 2)) cd30 none Q X) {h : Hp} {n : Nat} (t : TP h n) (nb : NB h n) {bh : Int32} {beh : Prop} [Decidable beh] (hb : bh = 0 ↔ ¬ beh) {p s : Nat} (hp : p ≤ 4000) (hs : s ≤ n) (kk : ∀ h', frT h h' → TkA h' (tokS (h.1 54) n beh p s) → Q none h') : X (70, [some (.ref 55), some (.int bh), some (.int (nI p)), none], [], hI h 55 6 (nI s)) := by
  refine go hX 8 (gs := [True, True, True, True, True, True, True, True]) (z' := (86, [some (.ref 55), some (.int bh), some (.int (nI p)), none], [.int (nI s), .ref 53], (hI (hI h 55 6 (nI s)) 55 5 (nI s)))) rfl ⟨trivial, trivial, trivial, trivial, trivial, trivial, trivial, trivial, trivial⟩ ?_
  refine cl hX 104 2 [.ref 53, .int (nI s)] [] rfl rfl rfl rfl ?_
  refine tx_two (s < n) (fun s1 => c_atI t.sm (t.ins s1) ?_) (fun s1 => c_atO (t.out hs s1) ?_)
  ·
    show X (89, [some (.ref 55), some (.int bh), some (.int (nI p)), none], [.int (h.1 54 (nI s))], (hI (hI h 55 6 (nI s)) 55 5 (nI s)))
    refine go hX 3 (gs := [True, True, True]) (z' := (if 0 ≤ (h.1 54 (nI s)) then 102 else 94, [some (.ref 55), some (.int bh), some (.int (nI p)), some (.int (h.1 54 (nI s)))], [], (hI (hI h 55 6 (nI s)) 55 5 (nI s)))) rfl ⟨trivial, trivial, trivial, trivial⟩ ?_
    refine br (fun b2 => ?_) (fun b2 => ?_)
    ·
      refine go hX 1 (gs := [True]) (z' := (103, [some (.ref 55), some (.int bh), some (.int (nI p)), some (.int (h.1 54 (nI s)))], [.int (h.1 54 (nI s))], (hI (hI h 55 6 (nI s)) 55 5 (nI s)))) rfl ⟨trivial, trivial⟩ ?_
      refine cl hX 33 1 [.int (h.1 54 (nI s))] [] rfl rfl rfl rfl ?_
      refine c_isLetter (fun L3 => ?_) (fun L3 => ?_)
      ·
        show X (106, [some (.ref 55), some (.int bh), some (.int (nI p)), some (.int (h.1 54 (nI s)))], [.int 1], (hI (hI h 55 6 (nI s)) 55 5 (nI s)))
        refine go hX 5 (gs := [True, True, True, True, True]) (z' := (115, [some (.ref 55), some (.int bh), some (.int (nI p)), some (.int (h.1 54 (nI s)))], [.ref 55], (hI (hI (hI h 55 6 (nI s)) 55 5 (nI s)) 55 7 1))) rfl ⟨trivial, trivial, trivial, trivial, trivial, trivial⟩ ?_
        refine cl hX 31 1 [.ref 55] [] rfl rfl rfl rfl ?_
        rw [tx_c1]; refine c_skipL ((t.w (by decide)).w (by decide)) hs ?_; rw [tx_54 (by decide), tx_54 (by decide)]
        show X (118, [some (.ref 55), some (.int bh), some (.int (nI p)), some (.int (h.1 54 (nI s)))], [], (hI (hI (hI h 55 5 (nI s)) 55 7 1) 55 6 (nI (sk cL (h.1 54) n s))))
        refine go hX 3 (gs := [True, True, True]) (z' := (if bh = 0 then 193 else 164, [some (.ref 55), some (.int bh), some (.int (nI p)), some (.int (h.1 54 (nI s)))], [], (hI (hI (hI h 55 5 (nI s)) 55 7 1) 55 6 (nI (sk cL (h.1 54) n s))))) rfl ⟨trivial, trivial, trivial, trivial⟩ ?_
        refine br (fun b4 => ?_) (fun b4 => ?_)
        ·
          refine rt_ hX (G := True) (r := none) rfl trivial ?_
          refine kk _ (((frT_rf.st (by decide)).st (by decide)).st (by decide)) ?_
          rw [tokS_let s1 L3, if_neg (fun q => (hb.mp b4) q.1)]
          exact ⟨by simp [Tok.ty_mk, Tok.st_mk, Tok.nx_mk, Tok.val_mk, hI], by simp [Tok.ty_mk, Tok.st_mk, Tok.nx_mk, Tok.val_mk, hI], by simp [Tok.ty_mk, Tok.st_mk, Tok.nx_mk, Tok.val_mk, hI], fun q => absurd q ty_n1⟩
        ·
          refine go hX 4 (gs := [True, True, True, True]) (z' := (if (nI s) = (nI p) then 172 else 193, [some (.ref 55), some (.int bh), some (.int (nI p)), some (.int (h.1 54 (nI s)))], [], (hI (hI (hI h 55 5 (nI s)) 55 7 1) 55 6 (nI (sk cL (h.1 54) n s))))) rfl ⟨trivial, trivial, trivial, trivial, trivial⟩ ?_
          refine br (fun b5 => ?_) (fun b5 => ?_)
          ·
            refine go hX 7 (gs := [True, True, True, True, True, True, True]) (z' := (193, [some (.ref 55), some (.int bh), some (.int (nI p)), some (.int (h.1 54 (nI s)))], [], (hI (hI (hI (hI h 55 5 (nI s)) 55 7 1) 55 6 (nI (sk cL (h.1 54) n s))) 55 7 4))) rfl ⟨trivial, trivial, trivial, trivial, trivial, trivial, trivial, trivial⟩ ?_
            refine rt_ hX (G := True) (r := none) rfl trivial ?_
            refine kk _ ((((frT_rf.st (by decide)).st (by decide)).st (by decide)).st (by decide)) ?_
            rw [tokS_let s1 L3, if_pos ⟨Decidable.not_not.mp (fun q => b4 (hb.mpr q)), (nIle_eq (by have := t.hn; omega) hp).mp b5⟩]
            exact ⟨by simp [Tok.ty_mk, Tok.st_mk, Tok.nx_mk, Tok.val_mk, hI], by simp [Tok.ty_mk, Tok.st_mk, Tok.nx_mk, Tok.val_mk, hI], by simp [Tok.ty_mk, Tok.st_mk, Tok.nx_mk, Tok.val_mk, hI], fun q => absurd q ty_n4⟩
          ·
            refine rt_ hX (G := True) (r := none) rfl trivial ?_
            refine kk _ (((frT_rf.st (by decide)).st (by decide)).st (by decide)) ?_
            rw [tokS_let s1 L3, if_neg (fun q => b5 (by rw [q.2]))]
            exact ⟨by simp [Tok.ty_mk, Tok.st_mk, Tok.nx_mk, Tok.val_mk, hI], by simp [Tok.ty_mk, Tok.st_mk, Tok.nx_mk, Tok.val_mk, hI], by simp [Tok.ty_mk, Tok.st_mk, Tok.nx_mk, Tok.val_mk, hI], fun q => absurd q ty_n1⟩
      ·
        show X (106, [some (.ref 55), some (.int bh), some (.int (nI p)), some (.int (h.1 54 (nI s)))], [.int 0], (hI (hI h 55 6 (nI s)) 55 5 (nI s)))
        refine go hX 2 (gs := [True, True]) (z' := (122, [some (.ref 55), some (.int bh), some (.int (nI p)), some (.int (h.1 54 (nI s)))], [.int (h.1 54 (nI s))], (hI (hI h 55 6 (nI s)) 55 5 (nI s)))) rfl ⟨trivial, trivial, trivial⟩ ?_
        refine cl hX 34 1 [.int (h.1 54 (nI s))] [] rfl rfl rfl rfl ?_
        refine c_isDigit (fun D6 => ?_) (fun D6 => ?_)
        ·
          show X (125, [some (.ref 55), some (.int bh), some (.int (nI p)), some (.int (h.1 54 (nI s)))], [.int 1], (hI (hI h 55 6 (nI s)) 55 5 (nI s)))
          refine go hX 5 (gs := [True, True, True, True, True]) (z' := (134, [some (.ref 55), some (.int bh), some (.int (nI p)), some (.int (h.1 54 (nI s)))], [.ref 55], (hI (hI (hI h 55 6 (nI s)) 55 5 (nI s)) 55 7 2))) rfl ⟨trivial, trivial, trivial, trivial, trivial, trivial⟩ ?_
          refine cl hX 32 1 [.ref 55] [] rfl rfl rfl rfl ?_
          rw [tx_c1]; refine c_digits ((t.w (by decide)).w (by decide)) hs ?_; rw [tx_54 (by decide), tx_54 (by decide)]
          show X (137, [some (.ref 55), some (.int bh), some (.int (nI p)), some (.int (h.1 54 (nI s)))], [], (hI (hI (hI (hI h 55 5 (nI s)) 55 7 2) 55 8 (dv gA (h.1 54) n s 0)) 55 6 (nI (sk cD (h.1 54) n s))))
          refine go hX 3 (gs := [True, True, True]) (z' := (if bh = 0 then 193 else 164, [some (.ref 55), some (.int bh), some (.int (nI p)), some (.int (h.1 54 (nI s)))], [], (hI (hI (hI (hI h 55 5 (nI s)) 55 7 2) 55 8 (dv gA (h.1 54) n s 0)) 55 6 (nI (sk cD (h.1 54) n s))))) rfl ⟨trivial, trivial, trivial, trivial⟩ ?_
          refine br (fun b7 => ?_) (fun b7 => ?_)
          ·
            refine rt_ hX (G := True) (r := none) rfl trivial ?_
            refine kk _ ((((frT_rf.st (by decide)).st (by decide)).st (by decide)).st (by decide)) ?_
            rw [tokS_dig s1 L3 D6, if_neg (fun q => (hb.mp b7) q.1)]
            exact ⟨by simp [Tok.ty_mk, Tok.st_mk, Tok.nx_mk, Tok.val_mk, hI], by simp [Tok.ty_mk, Tok.st_mk, Tok.nx_mk, Tok.val_mk, hI], by simp [Tok.ty_mk, Tok.st_mk, Tok.nx_mk, Tok.val_mk, hI], fun q => by simp [Tok.ty_mk, Tok.st_mk, Tok.nx_mk, Tok.val_mk, hI]⟩
          ·
            refine go hX 4 (gs := [True, True, True, True]) (z' := (if (nI s) = (nI p) then 172 else 193, [some (.ref 55), some (.int bh), some (.int (nI p)), some (.int (h.1 54 (nI s)))], [], (hI (hI (hI (hI h 55 5 (nI s)) 55 7 2) 55 8 (dv gA (h.1 54) n s 0)) 55 6 (nI (sk cD (h.1 54) n s))))) rfl ⟨trivial, trivial, trivial, trivial, trivial⟩ ?_
            refine br (fun b8 => ?_) (fun b8 => ?_)
            ·
              refine go hX 11 (gs := [True, True, True, True, True, True, True, True, True, True, True]) (z' := (193, [some (.ref 55), some (.int bh), some (.int (nI p)), some (.int (h.1 54 (nI s)))], [], (hI (hI (hI (hI (hI h 55 5 (nI s)) 55 7 2) 55 8 (dv gA (h.1 54) n s 0)) 55 6 (nI (sk cD (h.1 54) n s))) 55 7 4))) rfl ⟨trivial, trivial, trivial, trivial, trivial, trivial, trivial, trivial, trivial, trivial, trivial, trivial⟩ ?_
              refine rt_ hX (G := True) (r := none) rfl trivial ?_
              refine kk _ (((((frT_rf.st (by decide)).st (by decide)).st (by decide)).st (by decide)).st (by decide)) ?_
              rw [tokS_dig s1 L3 D6, if_pos ⟨Decidable.not_not.mp (fun q => b7 (hb.mpr q)), (nIle_eq (by have := t.hn; omega) hp).mp b8⟩]
              exact ⟨by simp [Tok.ty_mk, Tok.st_mk, Tok.nx_mk, Tok.val_mk, hI], by simp [Tok.ty_mk, Tok.st_mk, Tok.nx_mk, Tok.val_mk, hI], by simp [Tok.ty_mk, Tok.st_mk, Tok.nx_mk, Tok.val_mk, hI], fun q => absurd q ty_n4⟩
            ·
              refine rt_ hX (G := True) (r := none) rfl trivial ?_
              refine kk _ ((((frT_rf.st (by decide)).st (by decide)).st (by decide)).st (by decide)) ?_
              rw [tokS_dig s1 L3 D6, if_neg (fun q => b8 (by rw [q.2]))]
              exact ⟨by simp [Tok.ty_mk, Tok.st_mk, Tok.nx_mk, Tok.val_mk, hI], by simp [Tok.ty_mk, Tok.st_mk, Tok.nx_mk, Tok.val_mk, hI], by simp [Tok.ty_mk, Tok.st_mk, Tok.nx_mk, Tok.val_mk, hI], fun q => by simp [Tok.ty_mk, Tok.st_mk, Tok.nx_mk, Tok.val_mk, hI]⟩
        ·
          show X (125, [some (.ref 55), some (.int bh), some (.int (nI p)), some (.int (h.1 54 (nI s)))], [.int 0], (hI (hI h 55 6 (nI s)) 55 5 (nI s)))
          refine go hX 15 (gs := [True, True, True, True, True, True, True, True, True, True, True, True, True, True, True]) (z' := (if bh = 0 then 193 else 164, [some (.ref 55), some (.int bh), some (.int (nI p)), some (.int (h.1 54 (nI s)))], [], (hI (hI (hI (hI (hI h 55 6 (nI s)) 55 5 (nI s)) 55 7 3) 55 8 (h.1 54 (nI s))) 55 6 ((nI s) + 1)))) rfl ⟨trivial, trivial, trivial, trivial, trivial, trivial, trivial, trivial, trivial, trivial, trivial, trivial, trivial, trivial, trivial, trivial⟩ ?_
          refine br (fun b9 => ?_) (fun b9 => ?_)
          ·
            refine rt_ hX (G := True) (r := none) rfl trivial ?_
            refine kk _ (((((frT_rf.st (by decide)).st (by decide)).st (by decide)).st (by decide)).st (by decide)) ?_
            rw [tokS_sig s1 L3 D6]
            exact ⟨by simp [Tok.ty_mk, Tok.st_mk, Tok.nx_mk, Tok.val_mk, hI], by dsimp only [Tok.ty_mk, Tok.st_mk, Tok.nx_mk, Tok.val_mk]; rw [← tx_1]; simp [Tok.ty_mk, Tok.st_mk, Tok.nx_mk, Tok.val_mk, hI], by simp [Tok.ty_mk, Tok.st_mk, Tok.nx_mk, Tok.val_mk, hI], fun _ => by simp [Tok.ty_mk, Tok.st_mk, Tok.nx_mk, Tok.val_mk, hI]⟩
          ·
            refine go hX 4 (gs := [True, True, True, True]) (z' := (if (nI s) = (nI p) then 172 else 193, [some (.ref 55), some (.int bh), some (.int (nI p)), some (.int (h.1 54 (nI s)))], [], (hI (hI (hI (hI (hI h 55 6 (nI s)) 55 5 (nI s)) 55 7 3) 55 8 (h.1 54 (nI s))) 55 6 ((nI s) + 1)))) rfl ⟨trivial, trivial, trivial, trivial, trivial⟩ ?_
            refine br (fun b10 => ?_) (fun b10 => ?_)
            ·
              refine go hX 8 (gs := [True, True, True, True, True, True, True, True]) (z' := (193, [some (.ref 55), some (.int bh), some (.int (nI p)), some (.int (h.1 54 (nI s)))], [], (hI (hI (hI (hI (hI h 55 6 (nI s)) 55 5 (nI s)) 55 7 3) 55 8 (h.1 54 (nI s))) 55 6 ((nI s) + 1)))) rfl ⟨trivial, trivial, trivial, trivial, trivial, trivial, trivial, trivial, trivial⟩ ?_
              refine rt_ hX (G := True) (r := none) rfl trivial ?_
              refine kk _ (((((frT_rf.st (by decide)).st (by decide)).st (by decide)).st (by decide)).st (by decide)) ?_
              rw [tokS_sig s1 L3 D6]
              exact ⟨by simp [Tok.ty_mk, Tok.st_mk, Tok.nx_mk, Tok.val_mk, hI], by dsimp only [Tok.ty_mk, Tok.st_mk, Tok.nx_mk, Tok.val_mk]; rw [← tx_1]; simp [Tok.ty_mk, Tok.st_mk, Tok.nx_mk, Tok.val_mk, hI], by simp [Tok.ty_mk, Tok.st_mk, Tok.nx_mk, Tok.val_mk, hI], fun _ => by simp [Tok.ty_mk, Tok.st_mk, Tok.nx_mk, Tok.val_mk, hI]⟩
            ·
              refine rt_ hX (G := True) (r := none) rfl trivial ?_
              refine kk _ (((((frT_rf.st (by decide)).st (by decide)).st (by decide)).st (by decide)).st (by decide)) ?_
              rw [tokS_sig s1 L3 D6]
              exact ⟨by simp [Tok.ty_mk, Tok.st_mk, Tok.nx_mk, Tok.val_mk, hI], by dsimp only [Tok.ty_mk, Tok.st_mk, Tok.nx_mk, Tok.val_mk]; rw [← tx_1]; simp [Tok.ty_mk, Tok.st_mk, Tok.nx_mk, Tok.val_mk, hI], by simp [Tok.ty_mk, Tok.st_mk, Tok.nx_mk, Tok.val_mk, hI], fun _ => by simp [Tok.ty_mk, Tok.st_mk, Tok.nx_mk, Tok.val_mk, hI]⟩
    ·
      refine go hX 6 (gs := [True, True, True, True, True, True]) (z' := (if bh = 0 then 193 else 164, [some (.ref 55), some (.int bh), some (.int (nI p)), some (.int (h.1 54 (nI s)))], [], (hI (hI (hI h 55 6 (nI s)) 55 5 (nI s)) 55 7 0))) rfl ⟨trivial, trivial, trivial, trivial, trivial, trivial, trivial⟩ ?_
      refine br (fun b11 => ?_) (fun b11 => ?_)
      ·
        refine rt_ hX (G := True) (r := none) rfl trivial ?_
        exact absurd (nb s s1) b2
      ·
        refine go hX 4 (gs := [True, True, True, True]) (z' := (if (nI s) = (nI p) then 172 else 193, [some (.ref 55), some (.int bh), some (.int (nI p)), some (.int (h.1 54 (nI s)))], [], (hI (hI (hI h 55 6 (nI s)) 55 5 (nI s)) 55 7 0))) rfl ⟨trivial, trivial, trivial, trivial, trivial⟩ ?_
        refine br (fun b12 => ?_) (fun b12 => ?_)
        ·
          refine go hX 8 (gs := [True, True, True, True, True, True, True, True]) (z' := (193, [some (.ref 55), some (.int bh), some (.int (nI p)), some (.int (h.1 54 (nI s)))], [], (hI (hI (hI h 55 6 (nI s)) 55 5 (nI s)) 55 7 0))) rfl ⟨trivial, trivial, trivial, trivial, trivial, trivial, trivial, trivial, trivial⟩ ?_
          refine rt_ hX (G := True) (r := none) rfl trivial ?_
          exact absurd (nb s s1) b2
        ·
          refine rt_ hX (G := True) (r := none) rfl trivial ?_
          exact absurd (nb s s1) b2
  ·
    show X (89, [some (.ref 55), some (.int bh), some (.int (nI p)), none], [.int (-1)], (hI (hI h 55 6 (nI s)) 55 5 (nI s)))
    refine go hX 9 (gs := [True, True, True, True, True, True, True, True, True]) (z' := (if bh = 0 then 193 else 164, [some (.ref 55), some (.int bh), some (.int (nI p)), some (.int (-1))], [], (hI (hI (hI h 55 6 (nI s)) 55 5 (nI s)) 55 7 0))) rfl ⟨trivial, trivial, trivial, trivial, trivial, trivial, trivial, trivial, trivial, trivial⟩ ?_
    refine br (fun b13 => ?_) (fun b13 => ?_)
    ·
      refine rt_ hX (G := True) (r := none) rfl trivial ?_
      refine kk _ (((frT_rf.st (by decide)).st (by decide)).st (by decide)) ?_
      rw [tokS_end s1]
      exact ⟨by simp [Tok.ty_mk, Tok.st_mk, Tok.nx_mk, Tok.val_mk, hI], by simp [Tok.ty_mk, Tok.st_mk, Tok.nx_mk, Tok.val_mk, hI], by simp [Tok.ty_mk, Tok.st_mk, Tok.nx_mk, Tok.val_mk, hI], fun q => absurd q ty_n0⟩
    ·
      refine go hX 4 (gs := [True, True, True, True]) (z' := (if (nI s) = (nI p) then 172 else 193, [some (.ref 55), some (.int bh), some (.int (nI p)), some (.int (-1))], [], (hI (hI (hI h 55 6 (nI s)) 55 5 (nI s)) 55 7 0))) rfl ⟨trivial, trivial, trivial, trivial, trivial⟩ ?_
      refine br (fun b14 => ?_) (fun b14 => ?_)
      ·
        refine go hX 8 (gs := [True, True, True, True, True, True, True, True]) (z' := (193, [some (.ref 55), some (.int bh), some (.int (nI p)), some (.int (-1))], [], (hI (hI (hI h 55 6 (nI s)) 55 5 (nI s)) 55 7 0))) rfl ⟨trivial, trivial, trivial, trivial, trivial, trivial, trivial, trivial, trivial⟩ ?_
        refine rt_ hX (G := True) (r := none) rfl trivial ?_
        refine kk _ (((frT_rf.st (by decide)).st (by decide)).st (by decide)) ?_
        rw [tokS_end s1]
        exact ⟨by simp [Tok.ty_mk, Tok.st_mk, Tok.nx_mk, Tok.val_mk, hI], by simp [Tok.ty_mk, Tok.st_mk, Tok.nx_mk, Tok.val_mk, hI], by simp [Tok.ty_mk, Tok.st_mk, Tok.nx_mk, Tok.val_mk, hI], fun q => absurd q ty_n0⟩
      ·
        refine rt_ hX (G := True) (r := none) rfl trivial ?_
        refine kk _ (((frT_rf.st (by decide)).st (by decide)).st (by decide)) ?_
        rw [tokS_end s1]
        exact ⟨by simp [Tok.ty_mk, Tok.st_mk, Tok.nx_mk, Tok.val_mk, hI], by simp [Tok.ty_mk, Tok.st_mk, Tok.nx_mk, Tok.val_mk, hI], by simp [Tok.ty_mk, Tok.st_mk, Tok.nx_mk, Tok.val_mk, hI], fun q => absurd q ty_n0⟩
theorem c_goOn {d : Nat} {Q : Option Value → Hp → Prop} {h : Hp} {n : Nat} (t : TP h n) (nb : NB h n) {k : Tok} (e6 : h.1 55 6 = nI k.nx) (e7 : h.1 55 7 = k.ty) (hx : k.nx ≤ n) (kk : ∀ h', frT h h' → TkA h' (tokN (h.1 54) n k) → Q none h') : Call (d + 3) 30 [.ref 55] h Q := by
  refine call_of (rfl : psM[30]? = some _) rfl rfl (rcvV rfl) (fun X hX => ?_)
  show X (0, [some (.ref 55), none, none, none], [], h)
  refine go hX 4 (gs := [True, True, True, True]) (z' := (if (h.1 55 7) = 1 then 16 else 8, [some (.ref 55), none, none, none], [], h)) rfl ⟨trivial, trivial, trivial, trivial, trivial⟩ ?_
  refine br (fun b1 => ?_) (fun b1 => ?_)
  ·
    refine go hX 6 (gs := [True, True, True, True, True, True]) (z' := (27, [some (.ref 55), some (.int 1), some (.int (h.1 55 6)), none], [], h)) rfl ⟨trivial, trivial, trivial, trivial, trivial, trivial, trivial⟩ ?_
    rw [e6]
    refine Eq.mp (congrArg (fun z => X (27, [some (.ref 55), some (.int 1), some (.int (nI k.nx)), none], [], z)) (tx_id e6)) ?_
    exact goOn_bl hX t hx (goOn_tl hX t nb (beh := k.ty = 1 ∨ k.ty = 2) ⟨fun q => absurd q (by decide), fun q => absurd (Or.inl (e7.symm.trans b1)) q⟩ (by have := t.hn; omega) (sk_b hx).2 kk)
  ·
    refine go hX 4 (gs := [True, True, True, True]) (z' := (if (h.1 55 7) = 2 then 16 else 20, [some (.ref 55), none, none, none], [], h)) rfl ⟨trivial, trivial, trivial, trivial, trivial⟩ ?_
    refine br (fun b2 => ?_) (fun b2 => ?_)
    ·
      refine go hX 6 (gs := [True, True, True, True, True, True]) (z' := (27, [some (.ref 55), some (.int 1), some (.int (h.1 55 6)), none], [], h)) rfl ⟨trivial, trivial, trivial, trivial, trivial, trivial, trivial⟩ ?_
      rw [e6]
      refine Eq.mp (congrArg (fun z => X (27, [some (.ref 55), some (.int 1), some (.int (nI k.nx)), none], [], z)) (tx_id e6)) ?_
      exact goOn_bl hX t hx (goOn_tl hX t nb (beh := k.ty = 1 ∨ k.ty = 2) ⟨fun q => absurd q (by decide), fun q => absurd (Or.inr (e7.symm.trans b2)) q⟩ (by have := t.hn; omega) (sk_b hx).2 kk)
    ·
      refine go hX 5 (gs := [True, True, True, True, True]) (z' := (27, [some (.ref 55), some (.int 0), some (.int (h.1 55 6)), none], [], h)) rfl ⟨trivial, trivial, trivial, trivial, trivial, trivial⟩ ?_
      rw [e6]
      refine Eq.mp (congrArg (fun z => X (27, [some (.ref 55), some (.int 0), some (.int (nI k.nx)), none], [], z)) (tx_id e6)) ?_
      exact goOn_bl hX t hx (goOn_tl hX t nb (beh := k.ty = 1 ∨ k.ty = 2) ⟨fun _ q => q.elim (fun q => b1 (e7.trans q)) (fun q => b2 (e7.trans q)), fun _ => rfl⟩ (by have := t.hn; omega) (sk_b hx).2 kk)
/-! The reference's words and signs. -/
noncomputable abbrev TPB (h : Hp) (n : Nat) : Prop := (n ≤ 96) ∧ (h.1 65 16 = nI n)
theorem TPB.hn {h : Hp} {n : Nat} (self_ : TPB h n) : n ≤ 96 := self_.1
theorem TPB.en {h : Hp} {n : Nat} (self_ : TPB h n) : h.1 65 16 = nI n := self_.2
theorem TPB.lt {h : Hp} {n p : Nat} (t : TPB h n) (hp : p ≤ n) (b : ¬ h.1 65 16 ≤ nI p) : p < n := by
  have := t.hn
  rw [t.en, tx_le (by omega) (by omega)] at b
  omega
theorem TPB.ge {h : Hp} {n p : Nat} (t : TPB h n) (hp : p ≤ n) (b : h.1 65 16 ≤ nI p) : n ≤ p := by
  have := t.hn
  rwa [t.en, tx_le (by omega) (by omega)] at b
theorem TPB.ib {h : Hp} {n p : Nat} (t : TPB h n) (hp : p < n) : ibd (nI p) 96 := by
  have := t.hn
  refine ⟨tx_0 p (by omega), ?_⟩
  rw [Int32.lt_iff_toInt_lt, nI_i (by omega), nI_i (by omega)]
  omega
theorem TPB.w {h : Hp} {n : Nat} {o : Nat} {j v : Int32} (t : TPB h n) (ho : ¬ (o = 65 ∧ j = 16)) : TPB (hI h o j v) n := ⟨t.hn, by
  show (if 65 = o ∧ (16 : Int32) = j then v else h.1 65 16) = _
  rw [if_neg (fun q => ho ⟨q.1.symm, q.2.symm⟩)]
  exact t.en⟩
theorem tx_78 {h : Hp} {o : Nat} {j v : Int32} (ho : o ≠ 78) : (hI h o j v).1 78 = h.1 78 := funext fun b => hI_ne (fun e => ho e.symm)
/-- digits behind the fourth count for nothing there -/
noncomputable def gB (s p : Nat) (v b : Int32) : Int32 := if nI p - nI s < 4 then 10 * v + b - 48 else v
theorem dvF_0 {g : Nat → Int32 → Int32 → Int32} {f : Int32 → Int32} {n p : Nat} {v : Int32} : dvF g f n 0 p v = v := rfl
theorem dvF_AB {f : Int32 → Int32} {n s : Nat} (hn : n ≤ 96) : ∀ (k p : Nat) (v : Int32), s ≤ p → p + k = n → skF cD f n k p ≤ s + 4 → 0 ≤ v.toInt → v.toInt < 10 ^ (p - s) → p ≤ s + 4 → dvF (gB s) f n k p v = dvF gA f n k p v := by
  intro k
  induction k with
  | zero => exact fun p v _ _ _ _ _ _ => (dvF_0 (g := gB s)).trans (dvF_0 (g := gA)).symm
  | succ k ih =>
    intro p v h1 h2 h3 h4 h5 h6
    unfold skF at h3
    show (if _ then _ else _) = (if _ then _ else _)
    split
    · rename_i hc
      rw [if_pos hc] at h3
      have b1 := (skF_b (c := cD) (f := f) (n := n) (k := k) (p := p + 1) (by omega)).1
      have hp : p - s < 4 := by omega
      have hb := of_decide_eq_true hc.2
      rw [Int32.le_iff_toInt_le, Int32.le_iff_toInt_le] at hb
      have c48 : (48 : Int32).toInt = 48 := rfl
      have c57 : (57 : Int32).toInt = 57 := rfl
      have c10 : (10 : Int32).toInt = 10 := rfl
      have c9 : (9999 : Int32).toInt = 9999 := rfl
      have v9 : v.toInt < 1000 := by
        have : (10 : Int) ^ (p - s) ≤ 10 ^ 3 := by
          rcases (show p - s = 0 ∨ p - s = 1 ∨ p - s = 2 ∨ p - s = 3 by omega) with e | e | e | e <;> rw [e] <;> decide
        omega
      have e1 : (v * 10 + f (nI p) - 48).toInt = v.toInt * 10 + (f (nI p)).toInt - 48 := by
        rw [Int32.toInt_sub, Int32.toInt_add, Int32.toInt_mul, c10, c48, b32 (x := v.toInt * 10) (by omega) (by omega), b32 (x := v.toInt * 10 + _) (by omega) (by omega), b32 (by omega) (by omega)]
      have e2 : 10 * v + f (nI p) - 48 = v * 10 + f (nI p) - 48 := by rw [Int32.mul_comm]
      have g1 : gB s p v (f (nI p)) = v * 10 + f (nI p) - 48 := by
        unfold gB
        rw [if_pos, e2]
        rw [Int32.lt_iff_toInt_lt, Int32.toInt_sub, nI_i (by omega), nI_i (by omega), b32 (by omega) (by omega)]
        show _ < (4 : Int)
        omega
      have g2 : gA p v (f (nI p)) = v * 10 + f (nI p) - 48 := by
        unfold gA
        split
        · rfl
        · rename_i hq
          rw [Int32.lt_iff_toInt_lt, e1, c9] at hq
          apply Int32.toInt_inj.mp
          rw [e1, c9]
          omega
      rw [g1, g2]
      refine ih _ _ (by omega) (by omega) h3 (by omega) ?_ (by omega)
      rw [e1, show p + 1 - s = (p - s) + 1 by omega, Int.pow_succ]
      omega
    · rfl
theorem dv_AB {f : Int32 → Int32} {n s : Nat} (hn : n ≤ 96) (hs : s ≤ n) (h : sk cD f n s - s ≤ 4) : dv (gB s) f n s 0 = dv gA f n s 0 := dvF_AB hn _ _ _ (Nat.le_refl _) (by omega) (by have := sk_b (c := cD) (f := f) hs; unfold sk at h this; omega) (by decide) (by rw [Nat.sub_self]; decide) (by omega)
/-- the reference stands at a word or sign -/
noncomputable def tyB (t : Tok) : Int32 := if t.ty = 2 ∧ 4 < t.nx - t.st then 4 else t.ty
noncomputable abbrev TkB (h : Hp) (t : Tok) : Prop := (h.1 65 17 = nI t.st) ∧ (h.1 65 18 = nI t.nx) ∧ (h.1 65 19 = tyB t) ∧ (t.ty = 2 → t.nx - t.st ≤ 4 → h.1 65 20 = t.val) ∧ (t.ty = 3 → h.1 65 21 = t.val) ∧ (t.ty = 1 → h.1 65 21 = if t.nx - t.st = 1 then h.1 78 (nI t.st) else 0)
theorem TkB.b17 {h : Hp} {t : Tok} (self_ : TkB h t) : h.1 65 17 = nI t.st := self_.1
theorem TkB.b18 {h : Hp} {t : Tok} (self_ : TkB h t) : h.1 65 18 = nI t.nx := self_.2.1
theorem TkB.b19 {h : Hp} {t : Tok} (self_ : TkB h t) : h.1 65 19 = tyB t := self_.2.2.1
theorem TkB.b20 {h : Hp} {t : Tok} (self_ : TkB h t) : t.ty = 2 → t.nx - t.st ≤ 4 → h.1 65 20 = t.val := self_.2.2.2.1
theorem TkB.b21 {h : Hp} {t : Tok} (self_ : TkB h t) : t.ty = 3 → h.1 65 21 = t.val := self_.2.2.2.2.1
theorem TkB.bw {h : Hp} {t : Tok} (self_ : TkB h t) : t.ty = 1 → h.1 65 21 = if t.nx - t.st = 1 then h.1 78 (nI t.st) else 0 := self_.2.2.2.2.2
noncomputable def frB (h h' : Hp) : Prop := (∀ o (j : Int32), ¬ (o = 65 ∧ (j = 17 ∨ j = 18 ∨ j = 19 ∨ j = 20 ∨ j = 21)) → h'.1 o j = h.1 o j) ∧ h'.2 = h.2
theorem frB_rf {h : Hp} : frB h h := ⟨fun _ _ _ => rfl, rfl⟩
theorem frB.st {h h1 : Hp} {j v : Int32} (f : frB h h1) (hj : j = 17 ∨ j = 18 ∨ j = 19 ∨ j = 20 ∨ j = 21) : frB h (hI h1 65 j v) := by
  refine ⟨fun o k hn => ?_, f.2⟩
  show (if o = 65 ∧ k = j then v else h1.1 o k) = _
  rw [if_neg (fun (q : o = 65 ∧ k = j) => hn ⟨q.1, by rw [q.2]; exact hj⟩)]
  exact f.1 o k hn
theorem nI_sb {a b : Nat} (h : b ≤ a) (ha : a ≤ 4000) : nI a - nI b = nI (a - b) := by
  apply Int32.toInt_inj.mp
  rw [Int32.toInt_sub, nI_i (by omega), nI_i (by omega), nI_i (by omega), b32 (by omega) (by omega)]
  omega
theorem tx_b1 {h : Hp} {a b : Int32} : hI (hI h 65 18 a) 65 17 b = hI (hI h 65 17 b) 65 18 a := tx_sw (by decide)
theorem tx_b2 {h : Hp} {a b c : Int32} : hI (hI (hI h 65 18 a) 65 17 b) 65 20 c = hI (hI (hI h 65 17 b) 65 20 c) 65 18 a := by
  rw [tx_sw (o := 65) (j := 18) (by decide), tx_sw (o := 65) (j := 18) (by decide)]
theorem tx_b3 {h : Hp} {a b v w : Int32} : hI (hI (hI (hI h 65 20 v) 65 18 a) 65 20 w) 65 18 b = hI (hI h 65 20 w) 65 18 b := by
  rw [tx_sw (o := 65) (j := 18) (by decide), tx_hh, tx_hh]
theorem i64_bd {v lo hi : Int32} {a b : Int64} (ha : a = lo.toInt64) (hb : b = hi.toInt64) : (a ≤ v.toInt64 ∧ v.toInt64 ≤ b) ↔ (lo ≤ v ∧ v ≤ hi) := by rw [ha, hb, i64_le, i64_le]
theorem tx_s1 {a s : Nat} (h : s ≤ a) (ha : a ≤ 4000) : nI a - nI s = 1 ↔ a - s = 1 := by
  rw [nI_sb h ha]
  exact nIle_eq (b := 1) (by omega) (by omega)
theorem tx_s4 {a s : Nat} (h : s ≤ a) (ha : a ≤ 4000) : nI a - nI s ≤ 4 ↔ a - s ≤ 4 := by
  rw [nI_sb h ha]
  exact tx_le (b := 4) (by omega) (by omega)
theorem c_bisLetter {d : Nat} {Q : Option Value → Hp → Prop} {h : Hp} {n : Nat} (t : TPB h n) {p : Nat} (hp : p ≤ n) (k1 : p < n → cL (h.1 78 (nI p)) = true → Q (some (.int 1)) h) (k0 : (p < n → cL (h.1 78 (nI p)) = false) → Q (some (.int 0)) h) : Call (d + 2) 209 [.ref 65, .int (nI p)] h Q := by
  refine call_of (rfl : psM[209]? = some _) rfl rfl (rcvV rfl) (fun X hX => ?_)
  show X (0, [some (.ref 65), some (.int (nI p))], [], h)
  refine go hX 4 (gs := [True, True, True, True]) (z' := (if (h.1 65 16) ≤ (nI p) then 31 else 8, [some (.ref 65), some (.int (nI p))], [], h)) rfl ⟨trivial, trivial, trivial, trivial, trivial⟩ ?_
  refine br (fun b1 => ?_) (fun b1 => ?_)
  ·
    refine go hX 1 (gs := [True]) (z' := (32, [some (.ref 65), some (.int (nI p))], [.int 0], h)) rfl ⟨trivial, trivial⟩ ?_
    refine rt_ hX (G := isB 0) (r := some (.int 0)) rfl isB0 ?_
    exact k0 (fun q => absurd (t.ge hp b1) (by omega))
  ·
    refine go hX 7 (gs := [True, True, True, ibd (nI p) 96, True, True, True]) (z' := (21, [some (.ref 65), some (.int (nI p))], [.long 122, .long 97, .long (Int32.toInt64 (h.1 78 (nI p)))], h)) rfl ⟨trivial, trivial, trivial, ?_, trivial, trivial, trivial, trivial⟩ ?_
    · exact t.ib (t.lt hp b1)
    refine cl hX 159 3 [.long (Int32.toInt64 (h.1 78 (nI p))), .long 97, .long 122] [] rfl rfl rfl rfl ?_
    refine c_isIn (fun b2 => ?_) (fun b2 => ?_)
    ·
      show X (24, [some (.ref 65), some (.int (nI p))], [.int 1], h)
      refine go hX 3 (gs := [True, True, True]) (z' := (32, [some (.ref 65), some (.int (nI p))], [.int 1], h)) rfl ⟨trivial, trivial, trivial, trivial⟩ ?_
      refine rt_ hX (G := isB 1) (r := some (.int 1)) rfl isB1 ?_
      exact k1 (t.lt hp b1) (decide_eq_true ((i64_bd (by decide) (by decide)).mp b2))
    ·
      show X (24, [some (.ref 65), some (.int (nI p))], [.int 0], h)
      refine go hX 2 (gs := [True, True]) (z' := (32, [some (.ref 65), some (.int (nI p))], [.int 0], h)) rfl ⟨trivial, trivial, trivial⟩ ?_
      refine rt_ hX (G := isB 0) (r := some (.int 0)) rfl isB0 ?_
      exact k0 (fun _ => decide_eq_false (fun q => b2 ((i64_bd (by decide) (by decide)).mpr q)))
theorem c_bisDigit {d : Nat} {Q : Option Value → Hp → Prop} {h : Hp} {n : Nat} (t : TPB h n) {p : Nat} (hp : p ≤ n) (k1 : p < n → cD (h.1 78 (nI p)) = true → Q (some (.int 1)) h) (k0 : (p < n → cD (h.1 78 (nI p)) = false) → Q (some (.int 0)) h) : Call (d + 2) 210 [.ref 65, .int (nI p)] h Q := by
  refine call_of (rfl : psM[210]? = some _) rfl rfl (rcvV rfl) (fun X hX => ?_)
  show X (0, [some (.ref 65), some (.int (nI p))], [], h)
  refine go hX 4 (gs := [True, True, True, True]) (z' := (if (h.1 65 16) ≤ (nI p) then 31 else 8, [some (.ref 65), some (.int (nI p))], [], h)) rfl ⟨trivial, trivial, trivial, trivial, trivial⟩ ?_
  refine br (fun b1 => ?_) (fun b1 => ?_)
  ·
    refine go hX 1 (gs := [True]) (z' := (32, [some (.ref 65), some (.int (nI p))], [.int 0], h)) rfl ⟨trivial, trivial⟩ ?_
    refine rt_ hX (G := isB 0) (r := some (.int 0)) rfl isB0 ?_
    exact k0 (fun q => absurd (t.ge hp b1) (by omega))
  ·
    refine go hX 7 (gs := [True, True, True, ibd (nI p) 96, True, True, True]) (z' := (21, [some (.ref 65), some (.int (nI p))], [.long 57, .long 48, .long (Int32.toInt64 (h.1 78 (nI p)))], h)) rfl ⟨trivial, trivial, trivial, ?_, trivial, trivial, trivial, trivial⟩ ?_
    · exact t.ib (t.lt hp b1)
    refine cl hX 159 3 [.long (Int32.toInt64 (h.1 78 (nI p))), .long 48, .long 57] [] rfl rfl rfl rfl ?_
    refine c_isIn (fun b2 => ?_) (fun b2 => ?_)
    ·
      show X (24, [some (.ref 65), some (.int (nI p))], [.int 1], h)
      refine go hX 3 (gs := [True, True, True]) (z' := (32, [some (.ref 65), some (.int (nI p))], [.int 1], h)) rfl ⟨trivial, trivial, trivial, trivial⟩ ?_
      refine rt_ hX (G := isB 1) (r := some (.int 1)) rfl isB1 ?_
      exact k1 (t.lt hp b1) (decide_eq_true ((i64_bd (by decide) (by decide)).mp b2))
    ·
      show X (24, [some (.ref 65), some (.int (nI p))], [.int 0], h)
      refine go hX 2 (gs := [True, True]) (z' := (32, [some (.ref 65), some (.int (nI p))], [.int 0], h)) rfl ⟨trivial, trivial, trivial⟩ ?_
      refine rt_ hX (G := isB 0) (r := some (.int 0)) rfl isB0 ?_
      exact k0 (fun _ => decide_eq_false (fun q => b2 ((i64_bd (by decide) (by decide)).mpr q)))
theorem nx_bl {d : Nat} {Q : Option Value → Hp → Prop} {X : Cf → Prop} (hX : Clo (Call (d + 2)) cd211 none Q X) {h : Hp} {n : Nat} (t : TPB h n) {bh q : Int32} {p : Nat} (hp : p ≤ n) (kx : X (72, [some (.ref 65), some (.int bh), some (.int q)], [], hI h 65 18 (nI (sk cB (h.1 78) n p)))) : X (34, [some (.ref 65), some (.int bh), some (.int q)], [], hI h 65 18 (nI p)) := by
  generalize ht : n - p = m
  induction m generalizing p with
  | zero =>
    refine go hX 5 (gs := [True, True, True, True, True]) (z' := (if (h.1 65 16) ≤ (nI p) then 72 else 45, [some (.ref 65), some (.int bh), some (.int q)], [], (hI h 65 18 (nI p)))) rfl ⟨trivial, trivial, trivial, trivial, trivial, trivial⟩ ?_
    refine br (fun b1 => ?_) (fun b1 => ?_)
    ·
      rw [sk_end (t.ge hp b1)] at kx; exact kx
    ·
      refine go hX 7 (gs := [True, True, ibd (nI p) 96, True, True, True, True]) (z' := (if (h.1 78 (nI p)) = 32 then 59 else 72, [some (.ref 65), some (.int bh), some (.int q)], [], (hI h 65 18 (nI p)))) rfl ⟨trivial, trivial, ?_, trivial, trivial, trivial, trivial, trivial⟩ ?_
      · exact t.ib (t.lt hp b1)
      refine br (fun b2 => ?_) (fun b2 => ?_)
      ·
        refine go hX 7 (gs := [True, True, True, True, True, True, True]) (z' := (34, [some (.ref 65), some (.int bh), some (.int q)], [], (hI (hI h 65 18 (nI p)) 65 18 ((nI p) + 1)))) rfl ⟨trivial, trivial, trivial, trivial, trivial, trivial, trivial, trivial⟩ ?_
        exact absurd (t.lt hp b1) (by omega)
      ·
        rw [sk_no (decide_eq_false b2)] at kx; exact kx
  | succ m ih =>
    refine go hX 5 (gs := [True, True, True, True, True]) (z' := (if (h.1 65 16) ≤ (nI p) then 72 else 45, [some (.ref 65), some (.int bh), some (.int q)], [], (hI h 65 18 (nI p)))) rfl ⟨trivial, trivial, trivial, trivial, trivial, trivial⟩ ?_
    refine br (fun b1 => ?_) (fun b1 => ?_)
    ·
      rw [sk_end (t.ge hp b1)] at kx; exact kx
    ·
      refine go hX 7 (gs := [True, True, ibd (nI p) 96, True, True, True, True]) (z' := (if (h.1 78 (nI p)) = 32 then 59 else 72, [some (.ref 65), some (.int bh), some (.int q)], [], (hI h 65 18 (nI p)))) rfl ⟨trivial, trivial, ?_, trivial, trivial, trivial, trivial, trivial⟩ ?_
      · exact t.ib (t.lt hp b1)
      refine br (fun b2 => ?_) (fun b2 => ?_)
      ·
        refine go hX 7 (gs := [True, True, True, True, True, True, True]) (z' := (34, [some (.ref 65), some (.int bh), some (.int q)], [], (hI (hI h 65 18 (nI p)) 65 18 ((nI p) + 1)))) rfl ⟨trivial, trivial, trivial, trivial, trivial, trivial, trivial, trivial⟩ ?_
        rw [tx_hh, tx_1]
        exact ih (by have := t.lt hp b1; omega) (by rw [← sk_go (t.lt hp b1) (decide_eq_true b2)]; exact kx) (by have := t.lt hp b1; omega)
      ·
        rw [sk_no (decide_eq_false b2)] at kx; exact kx
theorem nx_let {d : Nat} {Q : Option Value → Hp → Prop} {X : Cf → Prop} (hX : Clo (Call (d + 2)) cd211 none Q X) {h : Hp} {n : Nat} (t : TPB h n) {bh q : Int32} {p : Nat} (hp : p ≤ n) (kx : X (152, [some (.ref 65), some (.int bh), some (.int q)], [], hI h 65 18 (nI (sk cL (h.1 78) n p)))) : X (128, [some (.ref 65), some (.int bh), some (.int q)], [], hI h 65 18 (nI p)) := by
  generalize ht : n - p = m
  induction m generalizing p with
  | zero =>
    refine go hX 3 (gs := [True, True, True]) (z' := (133, [some (.ref 65), some (.int bh), some (.int q)], [.int (nI p), .ref 65], (hI h 65 18 (nI p)))) rfl ⟨trivial, trivial, trivial, trivial⟩ ?_
    refine cl hX 209 2 [.ref 65, .int (nI p)] [] rfl rfl rfl rfl ?_
    refine c_bisLetter (t.w (by decide)) hp (fun L1i L1 => ?_) (fun L1 => ?_)
    ·
      show X (136, [some (.ref 65), some (.int bh), some (.int q)], [.int 1], (hI h 65 18 (nI p)))
      refine go hX 8 (gs := [True, True, True, True, True, True, True, True]) (z' := (128, [some (.ref 65), some (.int bh), some (.int q)], [], (hI (hI h 65 18 (nI p)) 65 18 ((nI p) + 1)))) rfl ⟨trivial, trivial, trivial, trivial, trivial, trivial, trivial, trivial, trivial⟩ ?_
      exact absurd L1i (by omega)
    ·
      show X (136, [some (.ref 65), some (.int bh), some (.int q)], [.int 0], (hI h 65 18 (nI p)))
      refine go hX 1 (gs := [True]) (z' := (152, [some (.ref 65), some (.int bh), some (.int q)], [], (hI h 65 18 (nI p)))) rfl ⟨trivial, trivial⟩ ?_
      rw [tx_78 (by decide)] at L1
      exact tx_two (p < n) (fun q => by rw [sk_no (L1 q)] at kx; exact kx) (fun q => by rw [sk_end (by omega)] at kx; exact kx)
  | succ m ih =>
    refine go hX 3 (gs := [True, True, True]) (z' := (133, [some (.ref 65), some (.int bh), some (.int q)], [.int (nI p), .ref 65], (hI h 65 18 (nI p)))) rfl ⟨trivial, trivial, trivial, trivial⟩ ?_
    refine cl hX 209 2 [.ref 65, .int (nI p)] [] rfl rfl rfl rfl ?_
    refine c_bisLetter (t.w (by decide)) hp (fun L1i L1 => ?_) (fun L1 => ?_)
    ·
      show X (136, [some (.ref 65), some (.int bh), some (.int q)], [.int 1], (hI h 65 18 (nI p)))
      refine go hX 8 (gs := [True, True, True, True, True, True, True, True]) (z' := (128, [some (.ref 65), some (.int bh), some (.int q)], [], (hI (hI h 65 18 (nI p)) 65 18 ((nI p) + 1)))) rfl ⟨trivial, trivial, trivial, trivial, trivial, trivial, trivial, trivial, trivial⟩ ?_
      rw [tx_hh, tx_1]
      rw [tx_78 (by decide)] at L1
      exact ih (by omega) (by rw [← sk_go L1i L1]; exact kx) (by omega)
    ·
      show X (136, [some (.ref 65), some (.int bh), some (.int q)], [.int 0], (hI h 65 18 (nI p)))
      refine go hX 1 (gs := [True]) (z' := (152, [some (.ref 65), some (.int bh), some (.int q)], [], (hI h 65 18 (nI p)))) rfl ⟨trivial, trivial⟩ ?_
      rw [tx_78 (by decide)] at L1
      exact tx_two (p < n) (fun q => by rw [sk_no (L1 q)] at kx; exact kx) (fun q => by rw [sk_end (by omega)] at kx; exact kx)
theorem gB_y {s p : Nat} {v b : Int32} (h : ¬ 4 ≤ nI p - nI s) : gB s p v b = 10 * v + b - 48 := by
  unfold gB
  rw [if_pos]
  rw [Int32.le_iff_toInt_le] at h
  rw [Int32.lt_iff_toInt_lt]
  omega
theorem gB_n {s p : Nat} {v b : Int32} (h : 4 ≤ nI p - nI s) : gB s p v b = v := by
  unfold gB
  rw [if_neg]
  rw [Int32.le_iff_toInt_le] at h
  rw [Int32.lt_iff_toInt_lt]
  omega
theorem nx_dig {d : Nat} {Q : Option Value → Hp → Prop} {X : Cf → Prop} (hX : Clo (Call (d + 2)) cd211 none Q X) {h : Hp} {n : Nat} (t : TPB h n) {bh q : Int32} {s : Nat} (e17 : h.1 65 17 = nI s) : ∀ (m : Nat) (v : Int32) {p : Nat}, p ≤ n → X (282, [some (.ref 65), some (.int bh), some (.int q)], [], hI (hI h 65 20 (dv (gB s) (h.1 78) n p v)) 65 18 (nI (sk cD (h.1 78) n p))) → n - p = m → X (214, [some (.ref 65), some (.int bh), some (.int q)], [], hI (hI h 65 20 v) 65 18 (nI p)) := by
  intro m
  induction m with
  | zero =>
    intro v p hp kx ht
    refine go hX 3 (gs := [True, True, True]) (z' := (219, [some (.ref 65), some (.int bh), some (.int q)], [.int (nI p), .ref 65], (hI (hI h 65 20 v) 65 18 (nI p)))) rfl ⟨trivial, trivial, trivial, trivial⟩ ?_
    refine cl hX 210 2 [.ref 65, .int (nI p)] [] rfl rfl rfl rfl ?_
    refine c_bisDigit ((t.w (by decide)).w (by decide)) hp (fun D1i D1 => ?_) (fun D1 => ?_)
    ·
      show X (222, [some (.ref 65), some (.int bh), some (.int q)], [.int 1], (hI (hI h 65 20 v) 65 18 (nI p)))
      refine go hX 9 (gs := [True, True, True, True, True, True, True, True, True]) (z' := (if 4 ≤ ((nI p) - (h.1 65 17)) then 262 else 239, [some (.ref 65), some (.int bh), some (.int q)], [.ref 65], (hI (hI h 65 20 v) 65 18 (nI p)))) rfl ⟨trivial, trivial, trivial, trivial, trivial, trivial, trivial, trivial, trivial, trivial⟩ ?_
      refine br (fun b2 => ?_) (fun b2 => ?_)
      ·
        refine go hX 10 (gs := [True, True, True, True, True, True, True, True, True, True]) (z' := (214, [some (.ref 65), some (.int bh), some (.int q)], [], (hI (hI (hI (hI h 65 20 v) 65 18 (nI p)) 65 20 v) 65 18 ((nI p) + 1)))) rfl ⟨trivial, trivial, trivial, trivial, trivial, trivial, trivial, trivial, trivial, trivial, trivial⟩ ?_
        exact absurd D1i (by omega)
      ·
        refine go hX 21 (gs := [True, True, True, True, True, True, True, True, True, True, True, True, ibd (nI p) 96, True, True, True, True, True, True, True, True]) (z' := (214, [some (.ref 65), some (.int bh), some (.int q)], [], (hI (hI (hI (hI h 65 20 v) 65 18 (nI p)) 65 20 (((10 * v) + (h.1 78 (nI p))) - 48)) 65 18 ((nI p) + 1)))) rfl ⟨trivial, trivial, trivial, trivial, trivial, trivial, trivial, trivial, trivial, trivial, trivial, trivial, ?_, trivial, trivial, trivial, trivial, trivial, trivial, trivial, trivial, trivial⟩ ?_
        · exact t.ib D1i
        exact absurd D1i (by omega)
    ·
      show X (222, [some (.ref 65), some (.int bh), some (.int q)], [.int 0], (hI (hI h 65 20 v) 65 18 (nI p)))
      refine go hX 1 (gs := [True]) (z' := (282, [some (.ref 65), some (.int bh), some (.int q)], [], (hI (hI h 65 20 v) 65 18 (nI p)))) rfl ⟨trivial, trivial⟩ ?_
      rw [tx_78 (by decide), tx_78 (by decide)] at D1
      exact tx_two (p < n) (fun q => by rw [sk_no (D1 q), dv_no (D1 q)] at kx; exact kx) (fun q => by rw [sk_end (by omega), dv_end (by omega)] at kx; exact kx)
  | succ m ih =>
    intro v p hp kx ht
    refine go hX 3 (gs := [True, True, True]) (z' := (219, [some (.ref 65), some (.int bh), some (.int q)], [.int (nI p), .ref 65], (hI (hI h 65 20 v) 65 18 (nI p)))) rfl ⟨trivial, trivial, trivial, trivial⟩ ?_
    refine cl hX 210 2 [.ref 65, .int (nI p)] [] rfl rfl rfl rfl ?_
    refine c_bisDigit ((t.w (by decide)).w (by decide)) hp (fun D1i D1 => ?_) (fun D1 => ?_)
    ·
      show X (222, [some (.ref 65), some (.int bh), some (.int q)], [.int 1], (hI (hI h 65 20 v) 65 18 (nI p)))
      refine go hX 9 (gs := [True, True, True, True, True, True, True, True, True]) (z' := (if 4 ≤ ((nI p) - (h.1 65 17)) then 262 else 239, [some (.ref 65), some (.int bh), some (.int q)], [.ref 65], (hI (hI h 65 20 v) 65 18 (nI p)))) rfl ⟨trivial, trivial, trivial, trivial, trivial, trivial, trivial, trivial, trivial, trivial⟩ ?_
      refine br (fun b2 => ?_) (fun b2 => ?_)
      ·
        refine go hX 10 (gs := [True, True, True, True, True, True, True, True, True, True]) (z' := (214, [some (.ref 65), some (.int bh), some (.int q)], [], (hI (hI (hI (hI h 65 20 v) 65 18 (nI p)) 65 20 v) 65 18 ((nI p) + 1)))) rfl ⟨trivial, trivial, trivial, trivial, trivial, trivial, trivial, trivial, trivial, trivial, trivial⟩ ?_
        rw [tx_78 (by decide), tx_78 (by decide)] at D1
        rw [e17] at b2
        rw [tx_b3, tx_1]
        exact ih _ (by omega) (by rw [sk_go D1i D1, dv_go D1i D1, gB_n b2] at kx; exact kx) (by omega)
      ·
        refine go hX 21 (gs := [True, True, True, True, True, True, True, True, True, True, True, True, ibd (nI p) 96, True, True, True, True, True, True, True, True]) (z' := (214, [some (.ref 65), some (.int bh), some (.int q)], [], (hI (hI (hI (hI h 65 20 v) 65 18 (nI p)) 65 20 (((10 * v) + (h.1 78 (nI p))) - 48)) 65 18 ((nI p) + 1)))) rfl ⟨trivial, trivial, trivial, trivial, trivial, trivial, trivial, trivial, trivial, trivial, trivial, trivial, ?_, trivial, trivial, trivial, trivial, trivial, trivial, trivial, trivial, trivial⟩ ?_
        · exact t.ib D1i
        rw [tx_78 (by decide), tx_78 (by decide)] at D1
        rw [e17] at b2
        rw [tx_b3, tx_1]
        exact ih _ (by omega) (by rw [sk_go D1i D1, dv_go D1i D1, gB_y b2] at kx; exact kx) (by omega)
    ·
      show X (222, [some (.ref 65), some (.int bh), some (.int q)], [.int 0], (hI (hI h 65 20 v) 65 18 (nI p)))
      refine go hX 1 (gs := [True]) (z' := (282, [some (.ref 65), some (.int bh), some (.int q)], [], (hI (hI h 65 20 v) 65 18 (nI p)))) rfl ⟨trivial, trivial⟩ ?_
      rw [tx_78 (by decide), tx_78 (by decide)] at D1
      exact tx_two (p < n) (fun q => by rw [sk_no (D1 q), dv_no (D1 q)] at kx; exact kx) (fun q => by rw [sk_end (by omega), dv_end (by omega)] at kx; exact kx)
theorem tx_nl {x : Int32} (h : cL x = false) : ¬ (97 ≤ x ∧ x ≤ 122) := of_decide_eq_false h
theorem tx_nd {x : Int32} (h : cD x = false) : ¬ (48 ≤ x ∧ x ≤ 57) := of_decide_eq_false h
theorem nx_tl {d : Nat} {Q : Option Value → Hp → Prop} {X : Cf → Prop} (hX : Clo (Call (d + 2)) cd211 none Q X) {h : Hp} {n : Nat} (t : TPB h n) {bh : Int32} {beh : Prop} [Decidable beh] (hb : bh = 0 ↔ ¬ beh) {p s : Nat} (hp : p ≤ 4000) (hs : s ≤ n) (kk : ∀ h', frB h h' → TkB h' (tokS (h.1 78) n beh p s) → Q none h') : X (72, [some (.ref 65), some (.int bh), some (.int (nI p))], [], hI h 65 18 (nI s)) := by
  refine go hX 2 (gs := [True, True]) (z' := (if bh = 0 then 88 else 76, [some (.ref 65), some (.int bh), some (.int (nI p))], [], (hI h 65 18 (nI s)))) rfl ⟨trivial, trivial, trivial⟩ ?_
  refine br (fun b1 => ?_) (fun b1 => ?_)
  ·
    refine go hX 11 (gs := [True, True, True, True, True, True, True, True, True, True, True]) (z' := (if (nI s) = (h.1 65 16) then 109 else 117, [some (.ref 65), some (.int 0), some (.int (nI p))], [], (hI (hI h 65 18 (nI s)) 65 17 (nI s)))) rfl ⟨trivial, trivial, trivial, trivial, trivial, trivial, trivial, trivial, trivial, trivial, trivial, trivial⟩ ?_
    refine br (fun b2 => ?_) (fun b2 => ?_)
    ·
      refine go hX 4 (gs := [True, True, True, True]) (z' := (339, [some (.ref 65), some (.int 0), some (.int (nI p))], [], (hI (hI (hI h 65 18 (nI s)) 65 17 (nI s)) 65 19 0))) rfl ⟨trivial, trivial, trivial, trivial, trivial⟩ ?_
      refine rt_ hX (G := True) (r := none) rfl trivial ?_
      refine kk _ (((frB_rf.st (by decide)).st (by decide)).st (by decide)) ?_
      have hq : ¬ s < n := fun q => absurd ((nIle_eq (by have := t.hn; omega) (by have := t.hn; omega)).mp (b2.trans t.en)) (by omega)
      rw [tokS_end hq]
      exact ⟨by simp [Tok.ty_mk, Tok.st_mk, Tok.nx_mk, Tok.val_mk, hI], by simp [Tok.ty_mk, Tok.st_mk, Tok.nx_mk, Tok.val_mk, hI], by simp [Tok.ty_mk, Tok.st_mk, Tok.nx_mk, Tok.val_mk, hI, tyB], fun q => absurd q (by simp [Tok.ty_mk, Tok.st_mk, Tok.nx_mk, Tok.val_mk]), fun q => absurd q (by simp [Tok.ty_mk, Tok.st_mk, Tok.nx_mk, Tok.val_mk]), fun q => absurd q (by simp [Tok.ty_mk, Tok.st_mk, Tok.nx_mk, Tok.val_mk])⟩
    ·
      refine go hX 3 (gs := [True, True, True]) (z' := (122, [some (.ref 65), some (.int 0), some (.int (nI p))], [.int (nI s), .ref 65], (hI (hI h 65 18 (nI s)) 65 17 (nI s)))) rfl ⟨trivial, trivial, trivial, trivial⟩ ?_
      refine cl hX 209 2 [.ref 65, .int (nI s)] [] rfl rfl rfl rfl ?_
      refine c_bisLetter ((t.w (by decide)).w (by decide)) hs (fun L3i L3 => ?_) (fun L3 => ?_)
      ·
        show X (125, [some (.ref 65), some (.int 0), some (.int (nI p))], [.int 1], (hI (hI h 65 18 (nI s)) 65 17 (nI s)))
        refine go hX 1 (gs := [True]) (z' := (128, [some (.ref 65), some (.int 0), some (.int (nI p))], [], (hI (hI h 65 18 (nI s)) 65 17 (nI s)))) rfl ⟨trivial, trivial⟩ ?_
        rw [tx_78 (by decide), tx_78 (by decide)] at L3
        rw [tx_b1]
        refine nx_let hX (t.w (by decide)) hs ?_
        rw [tx_78 (by decide)]
        refine go hX 13 (gs := [True, True, True, True, True, True, True, True, True, True, True, True, True]) (z' := (if ((nI (sk cL (h.1 78) n s)) - (nI s)) = 1 then 179 else 191, [some (.ref 65), some (.int 0), some (.int (nI p))], [.ref 65], (hI (hI (hI h 65 17 (nI s)) 65 18 (nI (sk cL (h.1 78) n s))) 65 19 1))) rfl ⟨trivial, trivial, trivial, trivial, trivial, trivial, trivial, trivial, trivial, trivial, trivial, trivial, trivial, trivial⟩ ?_
        refine br (fun b4 => ?_) (fun b4 => ?_)
        ·
          refine go hX 8 (gs := [True, True, True, ibd (nI s) 96, True, True, True, True]) (z' := (339, [some (.ref 65), some (.int 0), some (.int (nI p))], [], (hI (hI (hI (hI h 65 17 (nI s)) 65 18 (nI (sk cL (h.1 78) n s))) 65 19 1) 65 21 (h.1 78 (nI s))))) rfl ⟨trivial, trivial, trivial, ?_, trivial, trivial, trivial, trivial, trivial⟩ ?_
          · exact t.ib L3i
          refine rt_ hX (G := True) (r := none) rfl trivial ?_
          refine kk _ ((((frB_rf.st (by decide)).st (by decide)).st (by decide)).st (by decide)) ?_
          have sb := (sk_b (c := cL) (f := h.1 78) hs)
          have hn := t.hn
          rw [tokS_let L3i (of_decide_eq_true L3), if_neg (fun q => (hb.mp b1) q.1)]
          exact ⟨by simp [Tok.ty_mk, Tok.st_mk, Tok.nx_mk, Tok.val_mk, hI], by simp [Tok.ty_mk, Tok.st_mk, Tok.nx_mk, Tok.val_mk, hI], by simp [Tok.ty_mk, Tok.st_mk, Tok.nx_mk, Tok.val_mk, hI, tyB], fun q => absurd q (by simp [Tok.ty_mk, Tok.st_mk, Tok.nx_mk, Tok.val_mk]), fun q => absurd q (by simp [Tok.ty_mk, Tok.st_mk, Tok.nx_mk, Tok.val_mk]), fun _ => by refine Eq.trans ?_ (if_pos ((tx_s1 sb.1 (by omega)).mp b4)).symm; simp [Tok.ty_mk, Tok.st_mk, Tok.nx_mk, Tok.val_mk, hI]⟩
        ·
          refine go hX 3 (gs := [True, True, True]) (z' := (339, [some (.ref 65), some (.int 0), some (.int (nI p))], [], (hI (hI (hI (hI h 65 17 (nI s)) 65 18 (nI (sk cL (h.1 78) n s))) 65 19 1) 65 21 0))) rfl ⟨trivial, trivial, trivial, trivial⟩ ?_
          refine rt_ hX (G := True) (r := none) rfl trivial ?_
          refine kk _ ((((frB_rf.st (by decide)).st (by decide)).st (by decide)).st (by decide)) ?_
          have sb := (sk_b (c := cL) (f := h.1 78) hs)
          have hn := t.hn
          rw [tokS_let L3i (of_decide_eq_true L3), if_neg (fun q => (hb.mp b1) q.1)]
          exact ⟨by simp [Tok.ty_mk, Tok.st_mk, Tok.nx_mk, Tok.val_mk, hI], by simp [Tok.ty_mk, Tok.st_mk, Tok.nx_mk, Tok.val_mk, hI], by simp [Tok.ty_mk, Tok.st_mk, Tok.nx_mk, Tok.val_mk, hI, tyB], fun q => absurd q (by simp [Tok.ty_mk, Tok.st_mk, Tok.nx_mk, Tok.val_mk]), fun q => absurd q (by simp [Tok.ty_mk, Tok.st_mk, Tok.nx_mk, Tok.val_mk]), fun _ => by refine Eq.trans ?_ (if_neg ((not_congr (tx_s1 sb.1 (by omega))).mp b4)).symm; simp [Tok.ty_mk, Tok.st_mk, Tok.nx_mk, Tok.val_mk, hI]⟩
      ·
        show X (125, [some (.ref 65), some (.int 0), some (.int (nI p))], [.int 0], (hI (hI h 65 18 (nI s)) 65 17 (nI s)))
        refine go hX 4 (gs := [True, True, True, True]) (z' := (203, [some (.ref 65), some (.int 0), some (.int (nI p))], [.int (nI s), .ref 65], (hI (hI h 65 18 (nI s)) 65 17 (nI s)))) rfl ⟨trivial, trivial, trivial, trivial, trivial⟩ ?_
        refine cl hX 210 2 [.ref 65, .int (nI s)] [] rfl rfl rfl rfl ?_
        refine c_bisDigit ((t.w (by decide)).w (by decide)) hs (fun D5i D5 => ?_) (fun D5 => ?_)
        ·
          show X (206, [some (.ref 65), some (.int 0), some (.int (nI p))], [.int 1], (hI (hI h 65 18 (nI s)) 65 17 (nI s)))
          refine go hX 4 (gs := [True, True, True, True]) (z' := (214, [some (.ref 65), some (.int 0), some (.int (nI p))], [], (hI (hI (hI h 65 18 (nI s)) 65 17 (nI s)) 65 20 0))) rfl ⟨trivial, trivial, trivial, trivial, trivial⟩ ?_
          rw [tx_78 (by decide), tx_78 (by decide)] at L3 D5
          rw [tx_b2]
          refine nx_dig hX (t.w (by decide)) hI_eq _ 0 hs ?_ rfl
          rw [tx_78 (by decide)]
          refine go hX 10 (gs := [True, True, True, True, True, True, True, True, True, True]) (z' := (if ((nI (sk cD (h.1 78) n s)) - (nI s)) ≤ 4 then 304 else 300, [some (.ref 65), some (.int 0), some (.int (nI p))], [.ref 65], (hI (hI (hI h 65 17 (nI s)) 65 20 (dv (gB s) (h.1 78) n s 0)) 65 18 (nI (sk cD (h.1 78) n s))))) rfl ⟨trivial, trivial, trivial, trivial, trivial, trivial, trivial, trivial, trivial, trivial, trivial⟩ ?_
          refine br (fun b6 => ?_) (fun b6 => ?_)
          ·
            refine go hX 3 (gs := [True, True, True]) (z' := (339, [some (.ref 65), some (.int 0), some (.int (nI p))], [], (hI (hI (hI (hI h 65 17 (nI s)) 65 20 (dv (gB s) (h.1 78) n s 0)) 65 18 (nI (sk cD (h.1 78) n s))) 65 19 2))) rfl ⟨trivial, trivial, trivial, trivial⟩ ?_
            refine rt_ hX (G := True) (r := none) rfl trivial ?_
            refine kk _ ((((frB_rf.st (by decide)).st (by decide)).st (by decide)).st (by decide)) ?_
            have sb := (sk_b (c := cD) (f := h.1 78) hs)
            have hn := t.hn
            rw [tokS_dig D5i (tx_nl (L3 D5i)) (of_decide_eq_true D5), if_neg (fun q => (hb.mp b1) q.1)]
            have s4 := (tx_s4 sb.1 (by omega)).mp b6
            exact ⟨by simp [Tok.ty_mk, Tok.st_mk, Tok.nx_mk, Tok.val_mk, hI], by simp [Tok.ty_mk, Tok.st_mk, Tok.nx_mk, Tok.val_mk, hI], by rw [tyB, if_neg (fun q => by have := q.2; dsimp only [Tok.ty_mk, Tok.st_mk, Tok.nx_mk, Tok.val_mk] at this; omega)]; simp [Tok.ty_mk, Tok.st_mk, Tok.nx_mk, Tok.val_mk, hI], fun _ _ => by rw [← dv_AB t.hn hs s4]; simp [Tok.ty_mk, Tok.st_mk, Tok.nx_mk, Tok.val_mk, hI], fun q => absurd q (by simp [Tok.ty_mk, Tok.st_mk, Tok.nx_mk, Tok.val_mk]), fun q => absurd q (by simp [Tok.ty_mk, Tok.st_mk, Tok.nx_mk, Tok.val_mk])⟩
          ·
            refine go hX 4 (gs := [True, True, True, True]) (z' := (339, [some (.ref 65), some (.int 0), some (.int (nI p))], [], (hI (hI (hI (hI h 65 17 (nI s)) 65 20 (dv (gB s) (h.1 78) n s 0)) 65 18 (nI (sk cD (h.1 78) n s))) 65 19 4))) rfl ⟨trivial, trivial, trivial, trivial, trivial⟩ ?_
            refine rt_ hX (G := True) (r := none) rfl trivial ?_
            refine kk _ ((((frB_rf.st (by decide)).st (by decide)).st (by decide)).st (by decide)) ?_
            have sb := (sk_b (c := cD) (f := h.1 78) hs)
            have hn := t.hn
            rw [tokS_dig D5i (tx_nl (L3 D5i)) (of_decide_eq_true D5), if_neg (fun q => (hb.mp b1) q.1)]
            have s4 := (not_congr (tx_s4 sb.1 (by omega))).mp b6
            exact ⟨by simp [Tok.ty_mk, Tok.st_mk, Tok.nx_mk, Tok.val_mk, hI], by simp [Tok.ty_mk, Tok.st_mk, Tok.nx_mk, Tok.val_mk, hI], by rw [tyB, if_pos ⟨rfl, by dsimp only [Tok.ty_mk, Tok.st_mk, Tok.nx_mk, Tok.val_mk]; omega⟩]; simp [Tok.ty_mk, Tok.st_mk, Tok.nx_mk, Tok.val_mk, hI], fun _ q => by dsimp only [Tok.ty_mk, Tok.st_mk, Tok.nx_mk, Tok.val_mk] at q; omega, fun q => absurd q (by simp [Tok.ty_mk, Tok.st_mk, Tok.nx_mk, Tok.val_mk]), fun q => absurd q (by simp [Tok.ty_mk, Tok.st_mk, Tok.nx_mk, Tok.val_mk])⟩
        ·
          show X (206, [some (.ref 65), some (.int 0), some (.int (nI p))], [.int 0], (hI (hI h 65 18 (nI s)) 65 17 (nI s)))
          refine go hX 1 (gs := [True]) (z' := (311, [some (.ref 65), some (.int 0), some (.int (nI p))], [], (hI (hI h 65 18 (nI s)) 65 17 (nI s)))) rfl ⟨trivial, trivial⟩ ?_
          rw [tx_78 (by decide), tx_78 (by decide)] at L3 D5
          have hin : s < n := Nat.lt_of_le_of_ne hs (fun q => b2 (by rw [q]; exact t.en.symm))
          refine go hX 16 (gs := [True, True, True, True, True, True, True, ibd (nI s) 96, True, True, True, True, True, True, True, True]) (z' := (339, [some (.ref 65), some (.int 0), some (.int (nI p))], [], (hI (hI (hI (hI (hI h 65 18 (nI s)) 65 17 (nI s)) 65 19 3) 65 21 (h.1 78 (nI s))) 65 18 ((nI s) + 1)))) rfl ⟨trivial, trivial, trivial, trivial, trivial, trivial, trivial, ?_, trivial, trivial, trivial, trivial, trivial, trivial, trivial, trivial, trivial⟩ ?_
          · exact t.ib hin
          refine rt_ hX (G := True) (r := none) rfl trivial ?_
          refine kk _ (((((frB_rf.st (by decide)).st (by decide)).st (by decide)).st (by decide)).st (by decide)) ?_
          rw [tokS_sig hin (tx_nl (L3 hin)) (tx_nd (D5 hin))]
          exact ⟨by simp [Tok.ty_mk, Tok.st_mk, Tok.nx_mk, Tok.val_mk, hI], by dsimp only [Tok.ty_mk, Tok.st_mk, Tok.nx_mk, Tok.val_mk]; rw [← tx_1]; simp [Tok.ty_mk, Tok.st_mk, Tok.nx_mk, Tok.val_mk, hI], by simp [Tok.ty_mk, Tok.st_mk, Tok.nx_mk, Tok.val_mk, hI, tyB], fun q => absurd q (by simp [Tok.ty_mk, Tok.st_mk, Tok.nx_mk, Tok.val_mk]), fun _ => by simp [Tok.ty_mk, Tok.st_mk, Tok.nx_mk, Tok.val_mk, hI], fun q => absurd q (by simp [Tok.ty_mk, Tok.st_mk, Tok.nx_mk, Tok.val_mk])⟩
  ·
    refine go hX 4 (gs := [True, True, True, True]) (z' := (if (nI p) = (nI s) then 84 else 88, [some (.ref 65), some (.int bh), some (.int (nI p))], [], (hI h 65 18 (nI s)))) rfl ⟨trivial, trivial, trivial, trivial, trivial⟩ ?_
    refine br (fun b7 => ?_) (fun b7 => ?_)
    ·
      refine go hX 12 (gs := [True, True, True, True, True, True, True, True, True, True, True, True]) (z' := (if (nI s) = (h.1 65 16) then 109 else 117, [some (.ref 65), some (.int 1), some (.int (nI p))], [], (hI (hI h 65 18 (nI s)) 65 17 (nI s)))) rfl ⟨trivial, trivial, trivial, trivial, trivial, trivial, trivial, trivial, trivial, trivial, trivial, trivial, trivial⟩ ?_
      refine br (fun b8 => ?_) (fun b8 => ?_)
      ·
        refine go hX 4 (gs := [True, True, True, True]) (z' := (339, [some (.ref 65), some (.int 1), some (.int (nI p))], [], (hI (hI (hI h 65 18 (nI s)) 65 17 (nI s)) 65 19 0))) rfl ⟨trivial, trivial, trivial, trivial, trivial⟩ ?_
        refine rt_ hX (G := True) (r := none) rfl trivial ?_
        refine kk _ (((frB_rf.st (by decide)).st (by decide)).st (by decide)) ?_
        have hq : ¬ s < n := fun q => absurd ((nIle_eq (by have := t.hn; omega) (by have := t.hn; omega)).mp (b8.trans t.en)) (by omega)
        rw [tokS_end hq]
        exact ⟨by simp [Tok.ty_mk, Tok.st_mk, Tok.nx_mk, Tok.val_mk, hI], by simp [Tok.ty_mk, Tok.st_mk, Tok.nx_mk, Tok.val_mk, hI], by simp [Tok.ty_mk, Tok.st_mk, Tok.nx_mk, Tok.val_mk, hI, tyB], fun q => absurd q (by simp [Tok.ty_mk, Tok.st_mk, Tok.nx_mk, Tok.val_mk]), fun q => absurd q (by simp [Tok.ty_mk, Tok.st_mk, Tok.nx_mk, Tok.val_mk]), fun q => absurd q (by simp [Tok.ty_mk, Tok.st_mk, Tok.nx_mk, Tok.val_mk])⟩
      ·
        refine go hX 3 (gs := [True, True, True]) (z' := (122, [some (.ref 65), some (.int 1), some (.int (nI p))], [.int (nI s), .ref 65], (hI (hI h 65 18 (nI s)) 65 17 (nI s)))) rfl ⟨trivial, trivial, trivial, trivial⟩ ?_
        refine cl hX 209 2 [.ref 65, .int (nI s)] [] rfl rfl rfl rfl ?_
        refine c_bisLetter ((t.w (by decide)).w (by decide)) hs (fun L9i L9 => ?_) (fun L9 => ?_)
        ·
          show X (125, [some (.ref 65), some (.int 1), some (.int (nI p))], [.int 1], (hI (hI h 65 18 (nI s)) 65 17 (nI s)))
          refine go hX 1 (gs := [True]) (z' := (128, [some (.ref 65), some (.int 1), some (.int (nI p))], [], (hI (hI h 65 18 (nI s)) 65 17 (nI s)))) rfl ⟨trivial, trivial⟩ ?_
          rw [tx_78 (by decide), tx_78 (by decide)] at L9
          rw [tx_b1]
          refine nx_let hX (t.w (by decide)) hs ?_
          rw [tx_78 (by decide)]
          refine go hX 14 (gs := [True, True, True, True, True, True, True, True, True, True, True, True, True, True]) (z' := (if ((nI (sk cL (h.1 78) n s)) - (nI s)) = 1 then 179 else 191, [some (.ref 65), some (.int 1), some (.int (nI p))], [.ref 65], (hI (hI (hI h 65 17 (nI s)) 65 18 (nI (sk cL (h.1 78) n s))) 65 19 4))) rfl ⟨trivial, trivial, trivial, trivial, trivial, trivial, trivial, trivial, trivial, trivial, trivial, trivial, trivial, trivial, trivial⟩ ?_
          refine br (fun b10 => ?_) (fun b10 => ?_)
          ·
            refine go hX 8 (gs := [True, True, True, ibd (nI s) 96, True, True, True, True]) (z' := (339, [some (.ref 65), some (.int 1), some (.int (nI p))], [], (hI (hI (hI (hI h 65 17 (nI s)) 65 18 (nI (sk cL (h.1 78) n s))) 65 19 4) 65 21 (h.1 78 (nI s))))) rfl ⟨trivial, trivial, trivial, ?_, trivial, trivial, trivial, trivial, trivial⟩ ?_
            · exact t.ib L9i
            refine rt_ hX (G := True) (r := none) rfl trivial ?_
            refine kk _ ((((frB_rf.st (by decide)).st (by decide)).st (by decide)).st (by decide)) ?_
            have sb := (sk_b (c := cL) (f := h.1 78) hs)
            have hn := t.hn
            rw [tokS_let L9i (of_decide_eq_true L9), if_pos ⟨Decidable.not_not.mp (fun q => b1 (hb.mpr q)), ((nIle_eq hp (by have := t.hn; omega)).mp b7).symm⟩]
            exact ⟨by simp [Tok.ty_mk, Tok.st_mk, Tok.nx_mk, Tok.val_mk, hI], by simp [Tok.ty_mk, Tok.st_mk, Tok.nx_mk, Tok.val_mk, hI], by simp [Tok.ty_mk, Tok.st_mk, Tok.nx_mk, Tok.val_mk, hI, tyB], fun q => absurd q (by simp [Tok.ty_mk, Tok.st_mk, Tok.nx_mk, Tok.val_mk]), fun q => absurd q (by simp [Tok.ty_mk, Tok.st_mk, Tok.nx_mk, Tok.val_mk]), fun q => absurd q (by simp [Tok.ty_mk, Tok.st_mk, Tok.nx_mk, Tok.val_mk])⟩
          ·
            refine go hX 3 (gs := [True, True, True]) (z' := (339, [some (.ref 65), some (.int 1), some (.int (nI p))], [], (hI (hI (hI (hI h 65 17 (nI s)) 65 18 (nI (sk cL (h.1 78) n s))) 65 19 4) 65 21 0))) rfl ⟨trivial, trivial, trivial, trivial⟩ ?_
            refine rt_ hX (G := True) (r := none) rfl trivial ?_
            refine kk _ ((((frB_rf.st (by decide)).st (by decide)).st (by decide)).st (by decide)) ?_
            have sb := (sk_b (c := cL) (f := h.1 78) hs)
            have hn := t.hn
            rw [tokS_let L9i (of_decide_eq_true L9), if_pos ⟨Decidable.not_not.mp (fun q => b1 (hb.mpr q)), ((nIle_eq hp (by have := t.hn; omega)).mp b7).symm⟩]
            exact ⟨by simp [Tok.ty_mk, Tok.st_mk, Tok.nx_mk, Tok.val_mk, hI], by simp [Tok.ty_mk, Tok.st_mk, Tok.nx_mk, Tok.val_mk, hI], by simp [Tok.ty_mk, Tok.st_mk, Tok.nx_mk, Tok.val_mk, hI, tyB], fun q => absurd q (by simp [Tok.ty_mk, Tok.st_mk, Tok.nx_mk, Tok.val_mk]), fun q => absurd q (by simp [Tok.ty_mk, Tok.st_mk, Tok.nx_mk, Tok.val_mk]), fun q => absurd q (by simp [Tok.ty_mk, Tok.st_mk, Tok.nx_mk, Tok.val_mk])⟩
        ·
          show X (125, [some (.ref 65), some (.int 1), some (.int (nI p))], [.int 0], (hI (hI h 65 18 (nI s)) 65 17 (nI s)))
          refine go hX 4 (gs := [True, True, True, True]) (z' := (203, [some (.ref 65), some (.int 1), some (.int (nI p))], [.int (nI s), .ref 65], (hI (hI h 65 18 (nI s)) 65 17 (nI s)))) rfl ⟨trivial, trivial, trivial, trivial, trivial⟩ ?_
          refine cl hX 210 2 [.ref 65, .int (nI s)] [] rfl rfl rfl rfl ?_
          refine c_bisDigit ((t.w (by decide)).w (by decide)) hs (fun D11i D11 => ?_) (fun D11 => ?_)
          ·
            show X (206, [some (.ref 65), some (.int 1), some (.int (nI p))], [.int 1], (hI (hI h 65 18 (nI s)) 65 17 (nI s)))
            refine go hX 4 (gs := [True, True, True, True]) (z' := (214, [some (.ref 65), some (.int 1), some (.int (nI p))], [], (hI (hI (hI h 65 18 (nI s)) 65 17 (nI s)) 65 20 0))) rfl ⟨trivial, trivial, trivial, trivial, trivial⟩ ?_
            rw [tx_78 (by decide), tx_78 (by decide)] at L9 D11
            rw [tx_b2]
            refine nx_dig hX (t.w (by decide)) hI_eq _ 0 hs ?_ rfl
            rw [tx_78 (by decide)]
            refine go hX 7 (gs := [True, True, True, True, True, True, True]) (z' := (339, [some (.ref 65), some (.int 1), some (.int (nI p))], [], (hI (hI (hI (hI h 65 17 (nI s)) 65 20 (dv (gB s) (h.1 78) n s 0)) 65 18 (nI (sk cD (h.1 78) n s))) 65 19 4))) rfl ⟨trivial, trivial, trivial, trivial, trivial, trivial, trivial, trivial⟩ ?_
            refine rt_ hX (G := True) (r := none) rfl trivial ?_
            refine kk _ ((((frB_rf.st (by decide)).st (by decide)).st (by decide)).st (by decide)) ?_
            have sb := (sk_b (c := cD) (f := h.1 78) hs)
            have hn := t.hn
            rw [tokS_dig D11i (tx_nl (L9 D11i)) (of_decide_eq_true D11), if_pos ⟨Decidable.not_not.mp (fun q => b1 (hb.mpr q)), ((nIle_eq hp (by have := t.hn; omega)).mp b7).symm⟩]
            exact ⟨by simp [Tok.ty_mk, Tok.st_mk, Tok.nx_mk, Tok.val_mk, hI], by simp [Tok.ty_mk, Tok.st_mk, Tok.nx_mk, Tok.val_mk, hI], by simp [Tok.ty_mk, Tok.st_mk, Tok.nx_mk, Tok.val_mk, hI, tyB], fun q => absurd q (by simp [Tok.ty_mk, Tok.st_mk, Tok.nx_mk, Tok.val_mk]), fun q => absurd q (by simp [Tok.ty_mk, Tok.st_mk, Tok.nx_mk, Tok.val_mk]), fun q => absurd q (by simp [Tok.ty_mk, Tok.st_mk, Tok.nx_mk, Tok.val_mk])⟩
          ·
            show X (206, [some (.ref 65), some (.int 1), some (.int (nI p))], [.int 0], (hI (hI h 65 18 (nI s)) 65 17 (nI s)))
            refine go hX 1 (gs := [True]) (z' := (311, [some (.ref 65), some (.int 1), some (.int (nI p))], [], (hI (hI h 65 18 (nI s)) 65 17 (nI s)))) rfl ⟨trivial, trivial⟩ ?_
            rw [tx_78 (by decide), tx_78 (by decide)] at L9 D11
            have hin : s < n := Nat.lt_of_le_of_ne hs (fun q => b8 (by rw [q]; exact t.en.symm))
            refine go hX 16 (gs := [True, True, True, True, True, True, True, ibd (nI s) 96, True, True, True, True, True, True, True, True]) (z' := (339, [some (.ref 65), some (.int 1), some (.int (nI p))], [], (hI (hI (hI (hI (hI h 65 18 (nI s)) 65 17 (nI s)) 65 19 3) 65 21 (h.1 78 (nI s))) 65 18 ((nI s) + 1)))) rfl ⟨trivial, trivial, trivial, trivial, trivial, trivial, trivial, ?_, trivial, trivial, trivial, trivial, trivial, trivial, trivial, trivial, trivial⟩ ?_
            · exact t.ib hin
            refine rt_ hX (G := True) (r := none) rfl trivial ?_
            refine kk _ (((((frB_rf.st (by decide)).st (by decide)).st (by decide)).st (by decide)).st (by decide)) ?_
            rw [tokS_sig hin (tx_nl (L9 hin)) (tx_nd (D11 hin))]
            exact ⟨by simp [Tok.ty_mk, Tok.st_mk, Tok.nx_mk, Tok.val_mk, hI], by dsimp only [Tok.ty_mk, Tok.st_mk, Tok.nx_mk, Tok.val_mk]; rw [← tx_1]; simp [Tok.ty_mk, Tok.st_mk, Tok.nx_mk, Tok.val_mk, hI], by simp [Tok.ty_mk, Tok.st_mk, Tok.nx_mk, Tok.val_mk, hI, tyB], fun q => absurd q (by simp [Tok.ty_mk, Tok.st_mk, Tok.nx_mk, Tok.val_mk]), fun _ => by simp [Tok.ty_mk, Tok.st_mk, Tok.nx_mk, Tok.val_mk, hI], fun q => absurd q (by simp [Tok.ty_mk, Tok.st_mk, Tok.nx_mk, Tok.val_mk])⟩
    ·
      refine go hX 11 (gs := [True, True, True, True, True, True, True, True, True, True, True]) (z' := (if (nI s) = (h.1 65 16) then 109 else 117, [some (.ref 65), some (.int 0), some (.int (nI p))], [], (hI (hI h 65 18 (nI s)) 65 17 (nI s)))) rfl ⟨trivial, trivial, trivial, trivial, trivial, trivial, trivial, trivial, trivial, trivial, trivial, trivial⟩ ?_
      refine br (fun b12 => ?_) (fun b12 => ?_)
      ·
        refine go hX 4 (gs := [True, True, True, True]) (z' := (339, [some (.ref 65), some (.int 0), some (.int (nI p))], [], (hI (hI (hI h 65 18 (nI s)) 65 17 (nI s)) 65 19 0))) rfl ⟨trivial, trivial, trivial, trivial, trivial⟩ ?_
        refine rt_ hX (G := True) (r := none) rfl trivial ?_
        refine kk _ (((frB_rf.st (by decide)).st (by decide)).st (by decide)) ?_
        have hq : ¬ s < n := fun q => absurd ((nIle_eq (by have := t.hn; omega) (by have := t.hn; omega)).mp (b12.trans t.en)) (by omega)
        rw [tokS_end hq]
        exact ⟨by simp [Tok.ty_mk, Tok.st_mk, Tok.nx_mk, Tok.val_mk, hI], by simp [Tok.ty_mk, Tok.st_mk, Tok.nx_mk, Tok.val_mk, hI], by simp [Tok.ty_mk, Tok.st_mk, Tok.nx_mk, Tok.val_mk, hI, tyB], fun q => absurd q (by simp [Tok.ty_mk, Tok.st_mk, Tok.nx_mk, Tok.val_mk]), fun q => absurd q (by simp [Tok.ty_mk, Tok.st_mk, Tok.nx_mk, Tok.val_mk]), fun q => absurd q (by simp [Tok.ty_mk, Tok.st_mk, Tok.nx_mk, Tok.val_mk])⟩
      ·
        refine go hX 3 (gs := [True, True, True]) (z' := (122, [some (.ref 65), some (.int 0), some (.int (nI p))], [.int (nI s), .ref 65], (hI (hI h 65 18 (nI s)) 65 17 (nI s)))) rfl ⟨trivial, trivial, trivial, trivial⟩ ?_
        refine cl hX 209 2 [.ref 65, .int (nI s)] [] rfl rfl rfl rfl ?_
        refine c_bisLetter ((t.w (by decide)).w (by decide)) hs (fun L13i L13 => ?_) (fun L13 => ?_)
        ·
          show X (125, [some (.ref 65), some (.int 0), some (.int (nI p))], [.int 1], (hI (hI h 65 18 (nI s)) 65 17 (nI s)))
          refine go hX 1 (gs := [True]) (z' := (128, [some (.ref 65), some (.int 0), some (.int (nI p))], [], (hI (hI h 65 18 (nI s)) 65 17 (nI s)))) rfl ⟨trivial, trivial⟩ ?_
          rw [tx_78 (by decide), tx_78 (by decide)] at L13
          rw [tx_b1]
          refine nx_let hX (t.w (by decide)) hs ?_
          rw [tx_78 (by decide)]
          refine go hX 13 (gs := [True, True, True, True, True, True, True, True, True, True, True, True, True]) (z' := (if ((nI (sk cL (h.1 78) n s)) - (nI s)) = 1 then 179 else 191, [some (.ref 65), some (.int 0), some (.int (nI p))], [.ref 65], (hI (hI (hI h 65 17 (nI s)) 65 18 (nI (sk cL (h.1 78) n s))) 65 19 1))) rfl ⟨trivial, trivial, trivial, trivial, trivial, trivial, trivial, trivial, trivial, trivial, trivial, trivial, trivial, trivial⟩ ?_
          refine br (fun b14 => ?_) (fun b14 => ?_)
          ·
            refine go hX 8 (gs := [True, True, True, ibd (nI s) 96, True, True, True, True]) (z' := (339, [some (.ref 65), some (.int 0), some (.int (nI p))], [], (hI (hI (hI (hI h 65 17 (nI s)) 65 18 (nI (sk cL (h.1 78) n s))) 65 19 1) 65 21 (h.1 78 (nI s))))) rfl ⟨trivial, trivial, trivial, ?_, trivial, trivial, trivial, trivial, trivial⟩ ?_
            · exact t.ib L13i
            refine rt_ hX (G := True) (r := none) rfl trivial ?_
            refine kk _ ((((frB_rf.st (by decide)).st (by decide)).st (by decide)).st (by decide)) ?_
            have sb := (sk_b (c := cL) (f := h.1 78) hs)
            have hn := t.hn
            rw [tokS_let L13i (of_decide_eq_true L13), if_neg (fun q => b7 (by rw [q.2]))]
            exact ⟨by simp [Tok.ty_mk, Tok.st_mk, Tok.nx_mk, Tok.val_mk, hI], by simp [Tok.ty_mk, Tok.st_mk, Tok.nx_mk, Tok.val_mk, hI], by simp [Tok.ty_mk, Tok.st_mk, Tok.nx_mk, Tok.val_mk, hI, tyB], fun q => absurd q (by simp [Tok.ty_mk, Tok.st_mk, Tok.nx_mk, Tok.val_mk]), fun q => absurd q (by simp [Tok.ty_mk, Tok.st_mk, Tok.nx_mk, Tok.val_mk]), fun _ => by refine Eq.trans ?_ (if_pos ((tx_s1 sb.1 (by omega)).mp b14)).symm; simp [Tok.ty_mk, Tok.st_mk, Tok.nx_mk, Tok.val_mk, hI]⟩
          ·
            refine go hX 3 (gs := [True, True, True]) (z' := (339, [some (.ref 65), some (.int 0), some (.int (nI p))], [], (hI (hI (hI (hI h 65 17 (nI s)) 65 18 (nI (sk cL (h.1 78) n s))) 65 19 1) 65 21 0))) rfl ⟨trivial, trivial, trivial, trivial⟩ ?_
            refine rt_ hX (G := True) (r := none) rfl trivial ?_
            refine kk _ ((((frB_rf.st (by decide)).st (by decide)).st (by decide)).st (by decide)) ?_
            have sb := (sk_b (c := cL) (f := h.1 78) hs)
            have hn := t.hn
            rw [tokS_let L13i (of_decide_eq_true L13), if_neg (fun q => b7 (by rw [q.2]))]
            exact ⟨by simp [Tok.ty_mk, Tok.st_mk, Tok.nx_mk, Tok.val_mk, hI], by simp [Tok.ty_mk, Tok.st_mk, Tok.nx_mk, Tok.val_mk, hI], by simp [Tok.ty_mk, Tok.st_mk, Tok.nx_mk, Tok.val_mk, hI, tyB], fun q => absurd q (by simp [Tok.ty_mk, Tok.st_mk, Tok.nx_mk, Tok.val_mk]), fun q => absurd q (by simp [Tok.ty_mk, Tok.st_mk, Tok.nx_mk, Tok.val_mk]), fun _ => by refine Eq.trans ?_ (if_neg ((not_congr (tx_s1 sb.1 (by omega))).mp b14)).symm; simp [Tok.ty_mk, Tok.st_mk, Tok.nx_mk, Tok.val_mk, hI]⟩
        ·
          show X (125, [some (.ref 65), some (.int 0), some (.int (nI p))], [.int 0], (hI (hI h 65 18 (nI s)) 65 17 (nI s)))
          refine go hX 4 (gs := [True, True, True, True]) (z' := (203, [some (.ref 65), some (.int 0), some (.int (nI p))], [.int (nI s), .ref 65], (hI (hI h 65 18 (nI s)) 65 17 (nI s)))) rfl ⟨trivial, trivial, trivial, trivial, trivial⟩ ?_
          refine cl hX 210 2 [.ref 65, .int (nI s)] [] rfl rfl rfl rfl ?_
          refine c_bisDigit ((t.w (by decide)).w (by decide)) hs (fun D15i D15 => ?_) (fun D15 => ?_)
          ·
            show X (206, [some (.ref 65), some (.int 0), some (.int (nI p))], [.int 1], (hI (hI h 65 18 (nI s)) 65 17 (nI s)))
            refine go hX 4 (gs := [True, True, True, True]) (z' := (214, [some (.ref 65), some (.int 0), some (.int (nI p))], [], (hI (hI (hI h 65 18 (nI s)) 65 17 (nI s)) 65 20 0))) rfl ⟨trivial, trivial, trivial, trivial, trivial⟩ ?_
            rw [tx_78 (by decide), tx_78 (by decide)] at L13 D15
            rw [tx_b2]
            refine nx_dig hX (t.w (by decide)) hI_eq _ 0 hs ?_ rfl
            rw [tx_78 (by decide)]
            refine go hX 10 (gs := [True, True, True, True, True, True, True, True, True, True]) (z' := (if ((nI (sk cD (h.1 78) n s)) - (nI s)) ≤ 4 then 304 else 300, [some (.ref 65), some (.int 0), some (.int (nI p))], [.ref 65], (hI (hI (hI h 65 17 (nI s)) 65 20 (dv (gB s) (h.1 78) n s 0)) 65 18 (nI (sk cD (h.1 78) n s))))) rfl ⟨trivial, trivial, trivial, trivial, trivial, trivial, trivial, trivial, trivial, trivial, trivial⟩ ?_
            refine br (fun b16 => ?_) (fun b16 => ?_)
            ·
              refine go hX 3 (gs := [True, True, True]) (z' := (339, [some (.ref 65), some (.int 0), some (.int (nI p))], [], (hI (hI (hI (hI h 65 17 (nI s)) 65 20 (dv (gB s) (h.1 78) n s 0)) 65 18 (nI (sk cD (h.1 78) n s))) 65 19 2))) rfl ⟨trivial, trivial, trivial, trivial⟩ ?_
              refine rt_ hX (G := True) (r := none) rfl trivial ?_
              refine kk _ ((((frB_rf.st (by decide)).st (by decide)).st (by decide)).st (by decide)) ?_
              have sb := (sk_b (c := cD) (f := h.1 78) hs)
              have hn := t.hn
              rw [tokS_dig D15i (tx_nl (L13 D15i)) (of_decide_eq_true D15), if_neg (fun q => b7 (by rw [q.2]))]
              have s4 := (tx_s4 sb.1 (by omega)).mp b16
              exact ⟨by simp [Tok.ty_mk, Tok.st_mk, Tok.nx_mk, Tok.val_mk, hI], by simp [Tok.ty_mk, Tok.st_mk, Tok.nx_mk, Tok.val_mk, hI], by rw [tyB, if_neg (fun q => by have := q.2; dsimp only [Tok.ty_mk, Tok.st_mk, Tok.nx_mk, Tok.val_mk] at this; omega)]; simp [Tok.ty_mk, Tok.st_mk, Tok.nx_mk, Tok.val_mk, hI], fun _ _ => by rw [← dv_AB t.hn hs s4]; simp [Tok.ty_mk, Tok.st_mk, Tok.nx_mk, Tok.val_mk, hI], fun q => absurd q (by simp [Tok.ty_mk, Tok.st_mk, Tok.nx_mk, Tok.val_mk]), fun q => absurd q (by simp [Tok.ty_mk, Tok.st_mk, Tok.nx_mk, Tok.val_mk])⟩
            ·
              refine go hX 4 (gs := [True, True, True, True]) (z' := (339, [some (.ref 65), some (.int 0), some (.int (nI p))], [], (hI (hI (hI (hI h 65 17 (nI s)) 65 20 (dv (gB s) (h.1 78) n s 0)) 65 18 (nI (sk cD (h.1 78) n s))) 65 19 4))) rfl ⟨trivial, trivial, trivial, trivial, trivial⟩ ?_
              refine rt_ hX (G := True) (r := none) rfl trivial ?_
              refine kk _ ((((frB_rf.st (by decide)).st (by decide)).st (by decide)).st (by decide)) ?_
              have sb := (sk_b (c := cD) (f := h.1 78) hs)
              have hn := t.hn
              rw [tokS_dig D15i (tx_nl (L13 D15i)) (of_decide_eq_true D15), if_neg (fun q => b7 (by rw [q.2]))]
              have s4 := (not_congr (tx_s4 sb.1 (by omega))).mp b16
              exact ⟨by simp [Tok.ty_mk, Tok.st_mk, Tok.nx_mk, Tok.val_mk, hI], by simp [Tok.ty_mk, Tok.st_mk, Tok.nx_mk, Tok.val_mk, hI], by rw [tyB, if_pos ⟨rfl, by dsimp only [Tok.ty_mk, Tok.st_mk, Tok.nx_mk, Tok.val_mk]; omega⟩]; simp [Tok.ty_mk, Tok.st_mk, Tok.nx_mk, Tok.val_mk, hI], fun _ q => by dsimp only [Tok.ty_mk, Tok.st_mk, Tok.nx_mk, Tok.val_mk] at q; omega, fun q => absurd q (by simp [Tok.ty_mk, Tok.st_mk, Tok.nx_mk, Tok.val_mk]), fun q => absurd q (by simp [Tok.ty_mk, Tok.st_mk, Tok.nx_mk, Tok.val_mk])⟩
          ·
            show X (206, [some (.ref 65), some (.int 0), some (.int (nI p))], [.int 0], (hI (hI h 65 18 (nI s)) 65 17 (nI s)))
            refine go hX 1 (gs := [True]) (z' := (311, [some (.ref 65), some (.int 0), some (.int (nI p))], [], (hI (hI h 65 18 (nI s)) 65 17 (nI s)))) rfl ⟨trivial, trivial⟩ ?_
            rw [tx_78 (by decide), tx_78 (by decide)] at L13 D15
            have hin : s < n := Nat.lt_of_le_of_ne hs (fun q => b12 (by rw [q]; exact t.en.symm))
            refine go hX 16 (gs := [True, True, True, True, True, True, True, ibd (nI s) 96, True, True, True, True, True, True, True, True]) (z' := (339, [some (.ref 65), some (.int 0), some (.int (nI p))], [], (hI (hI (hI (hI (hI h 65 18 (nI s)) 65 17 (nI s)) 65 19 3) 65 21 (h.1 78 (nI s))) 65 18 ((nI s) + 1)))) rfl ⟨trivial, trivial, trivial, trivial, trivial, trivial, trivial, ?_, trivial, trivial, trivial, trivial, trivial, trivial, trivial, trivial, trivial⟩ ?_
            · exact t.ib hin
            refine rt_ hX (G := True) (r := none) rfl trivial ?_
            refine kk _ (((((frB_rf.st (by decide)).st (by decide)).st (by decide)).st (by decide)).st (by decide)) ?_
            rw [tokS_sig hin (tx_nl (L13 hin)) (tx_nd (D15 hin))]
            exact ⟨by simp [Tok.ty_mk, Tok.st_mk, Tok.nx_mk, Tok.val_mk, hI], by dsimp only [Tok.ty_mk, Tok.st_mk, Tok.nx_mk, Tok.val_mk]; rw [← tx_1]; simp [Tok.ty_mk, Tok.st_mk, Tok.nx_mk, Tok.val_mk, hI], by simp [Tok.ty_mk, Tok.st_mk, Tok.nx_mk, Tok.val_mk, hI, tyB], fun q => absurd q (by simp [Tok.ty_mk, Tok.st_mk, Tok.nx_mk, Tok.val_mk]), fun _ => by simp [Tok.ty_mk, Tok.st_mk, Tok.nx_mk, Tok.val_mk, hI], fun q => absurd q (by simp [Tok.ty_mk, Tok.st_mk, Tok.nx_mk, Tok.val_mk])⟩
theorem ty2 {k : Tok} {v : Int32} (h : tyB k = v) (hv : v ≠ 4) : k.ty = v := by
  unfold tyB at h
  split at h
  · exact absurd h.symm hv
  · exact h
theorem ty1 {k : Tok} (h : k.ty = 1) : tyB k = 1 := by
  unfold tyB
  rw [if_neg (fun q => by rw [h] at q; exact absurd q.1 (by decide)), h]
theorem ty2' {k : Tok} (hl : k.ty = 2 → k.nx - k.st ≤ 4) (h : k.ty = 2) : tyB k = 2 := by
  unfold tyB
  rw [if_neg (fun q => by have := hl h; omega), h]
theorem tx_n0 {a : Nat} (h : nI a ≤ 0) (ha : a ≤ 4000) : a = 0 := by
  have := (tx_le (b := 0) ha (by omega)).mp h
  omega
theorem c_next {d : Nat} {Q : Option Value → Hp → Prop} {h : Hp} {n : Nat} (t : TPB h n) {k : Tok} (e18 : h.1 65 18 = nI k.nx) (e19 : h.1 65 19 = tyB k) (hx : k.nx ≤ n) (hl : k.ty = 2 → k.nx - k.st ≤ 4) (h0 : k.ty = 1 ∨ k.ty = 2 → k.nx ≠ 0) (kk : ∀ h', frB h h' → TkB h' (tokN (h.1 78) n k) → Q none h') : Call (d + 3) 211 [.ref 65] h Q := by
  refine call_of (rfl : psM[211]? = some _) rfl rfl (rcvV rfl) (fun X hX => ?_)
  show X (0, [some (.ref 65), none, none], [], h)
  refine go hX 3 (gs := [True, True, True]) (z' := (if (h.1 65 18) ≤ 0 then 27 else 7, [some (.ref 65), none, none], [], h)) rfl ⟨trivial, trivial, trivial, trivial⟩ ?_
  refine br (fun b1 => ?_) (fun b1 => ?_)
  ·
    refine go hX 5 (gs := [True, True, True, True, True]) (z' := (34, [some (.ref 65), some (.int 0), some (.int (h.1 65 18))], [], h)) rfl ⟨trivial, trivial, trivial, trivial, trivial, trivial⟩ ?_
    rw [e18]
    refine Eq.mp (congrArg (fun z => X (34, [some (.ref 65), some (.int 0), some (.int (nI k.nx))], [], z)) (tx_id e18)) ?_
    exact nx_bl hX t hx (nx_tl hX t (beh := k.ty = 1 ∨ k.ty = 2) ⟨fun _ q => absurd (by have q := b1; rw [e18] at q; exact tx_n0 q (by have := t.hn; omega)) (h0 q), fun _ => rfl⟩ (by have := t.hn; omega) (sk_b hx).2 kk)
  ·
    refine go hX 4 (gs := [True, True, True, True]) (z' := (if (h.1 65 19) = 1 then 23 else 15, [some (.ref 65), none, none], [], h)) rfl ⟨trivial, trivial, trivial, trivial, trivial⟩ ?_
    refine br (fun b2 => ?_) (fun b2 => ?_)
    ·
      refine go hX 6 (gs := [True, True, True, True, True, True]) (z' := (34, [some (.ref 65), some (.int 1), some (.int (h.1 65 18))], [], h)) rfl ⟨trivial, trivial, trivial, trivial, trivial, trivial, trivial⟩ ?_
      rw [e18]
      refine Eq.mp (congrArg (fun z => X (34, [some (.ref 65), some (.int 1), some (.int (nI k.nx))], [], z)) (tx_id e18)) ?_
      exact nx_bl hX t hx (nx_tl hX t (beh := k.ty = 1 ∨ k.ty = 2) ⟨fun q => absurd q (by decide), fun q => absurd (Or.inl (ty2 (e19.symm.trans b2) (by decide))) q⟩ (by have := t.hn; omega) (sk_b hx).2 kk)
    ·
      refine go hX 4 (gs := [True, True, True, True]) (z' := (if (h.1 65 19) = 2 then 23 else 27, [some (.ref 65), none, none], [], h)) rfl ⟨trivial, trivial, trivial, trivial, trivial⟩ ?_
      refine br (fun b3 => ?_) (fun b3 => ?_)
      ·
        refine go hX 6 (gs := [True, True, True, True, True, True]) (z' := (34, [some (.ref 65), some (.int 1), some (.int (h.1 65 18))], [], h)) rfl ⟨trivial, trivial, trivial, trivial, trivial, trivial, trivial⟩ ?_
        rw [e18]
        refine Eq.mp (congrArg (fun z => X (34, [some (.ref 65), some (.int 1), some (.int (nI k.nx))], [], z)) (tx_id e18)) ?_
        exact nx_bl hX t hx (nx_tl hX t (beh := k.ty = 1 ∨ k.ty = 2) ⟨fun q => absurd q (by decide), fun q => absurd (Or.inr (ty2 (e19.symm.trans b3) (by decide))) q⟩ (by have := t.hn; omega) (sk_b hx).2 kk)
      ·
        refine go hX 5 (gs := [True, True, True, True, True]) (z' := (34, [some (.ref 65), some (.int 0), some (.int (h.1 65 18))], [], h)) rfl ⟨trivial, trivial, trivial, trivial, trivial, trivial⟩ ?_
        rw [e18]
        refine Eq.mp (congrArg (fun z => X (34, [some (.ref 65), some (.int 0), some (.int (nI k.nx))], [], z)) (tx_id e18)) ?_
        exact nx_bl hX t hx (nx_tl hX t (beh := k.ty = 1 ∨ k.ty = 2) ⟨fun _ q => q.elim (fun q => b2 (e19.trans (ty1 q))) (fun q => b3 (e19.trans (ty2' hl q))), fun _ => rfl⟩ (by have := t.hn; omega) (sk_b hx).2 kk)
