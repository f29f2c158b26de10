/-! THE RULES: how steps are worked out, one pile of numbers. -/
/-- two numbers joined by a sign -/
noncomputable def jn (s : Int) (x y : Int32) : Int32 := if s = 43 then x + y else if s = 45 then x - y else if s = 42 then x * y else if s = 47 then (if y = 0 then 0 else x / y) else if s = 60 then (if x < y then 1 else 0) else if s = 61 then (if x = y then 1 else 0) else if s = 62 then (if y < x then 1 else 0) else if s = 38 then (if ¬ x = 0 ∧ ¬ y = 0 then 1 else 0) else (if ¬ x = 0 ∨ ¬ y = 0 then 1 else 0)
noncomputable def isSg (s : Int) : Prop := s = 43 ∨ s = 45 ∨ s = 42 ∨ s = 47 ∨ s = 60 ∨ s = 61 ∨ s = 62 ∨ s = 38 ∨ s = 124
noncomputable def evT (a b c : Int32) (s : Int) (S : List Int32) : List Int32 :=
  if s < 10000 then Int32.ofInt s :: S
  else if s < 20000 then (if s = 10000 then a else if s = 10001 then b else c) :: S
  else if s = 20033 then (match S with
    | x :: r => (if x = 0 then 1 else 0) :: r
    | [] => [])
  else (match S with
    | y :: x :: r => jn (s - 20000) x y :: r
    | r => r)
noncomputable def evS (a b c : Int32) (st : Nat → Int) : Nat → List Int32
  | 0 => []
  | k + 1 => evT a b c (st k) (evS a b c st k)
/-- a pile, the newest first -/
noncomputable def PLi (f : Int32 → Int32) : List Int32 → Prop
  | [] => True
  | x :: S => f (nI S.length) = x ∧ PLi f S
theorem PLi.cg {f g : Int32 → Int32} : ∀ {S : List Int32}, PLi f S → (∀ j, j < S.length → g (nI j) = f (nI j)) → PLi g S
  | [], _, _ => trivial
  | x :: S, h, e => ⟨by rw [e _ (Nat.lt_succ_self _)]; exact h.1, PLi.cg h.2 (fun j hj => e j (Nat.lt_succ_of_lt hj))⟩
theorem PLi.up {f : Int32 → Int32} {S : List Int32} {v : Int32} (h : PLi f S) (l : S.length ≤ 4000) : PLi (fun j => if j = nI S.length then v else f j) (v :: S) := by
  refine ⟨if_pos rfl, h.cg (fun j hj => if_neg (fun z => ?_))⟩
  have := (nIle_eq (by omega) l).mp z
  omega
/-- steps that can be worked out: each finds what it needs -/
noncomputable abbrev WfS (st : Nat → Int) (n : Nat) : Prop := (n ≤ 96) ∧ (∀ k, k < n → (0 ≤ st k ∧ st k < 10000) ∨ (10000 ≤ st k ∧ st k ≤ 10002) ∨ st k = 20033 ∨ isSg (st k - 20000)) ∧ (∀ (a b c : Int32) k, k < n → (st k = 20033 → 1 ≤ (evS a b c st k).length) ∧ (isSg (st k - 20000) → 2 ≤ (evS a b c st k).length)) ∧ (∀ (a b c : Int32), (evS a b c st n).length = 1)
theorem WfS.n96 {st : Nat → Int} {n : Nat} (self_ : WfS st n) : n ≤ 96 := self_.1
theorem WfS.ok {st : Nat → Int} {n : Nat} (self_ : WfS st n) : ∀ k, k < n → (0 ≤ st k ∧ st k < 10000) ∨ (10000 ≤ st k ∧ st k ≤ 10002) ∨ st k = 20033 ∨ isSg (st k - 20000) := self_.2.1
theorem WfS.ln {st : Nat → Int} {n : Nat} (self_ : WfS st n) : ∀ (a b c : Int32) k, k < n → (st k = 20033 → 1 ≤ (evS a b c st k).length) ∧ (isSg (st k - 20000) → 2 ≤ (evS a b c st k).length) := self_.2.2.1
theorem WfS.one {st : Nat → Int} {n : Nat} (self_ : WfS st n) : ∀ (a b c : Int32), (evS a b c st n).length = 1 := self_.2.2.2
theorem evS_le {a b c : Int32} {st : Nat → Int} : ∀ {k : Nat}, (evS a b c st k).length ≤ k
  | 0 => Nat.le_refl 0
  | k + 1 => by
    have ih := evS_le (a := a) (b := b) (c := c) (st := st) (k := k)
    show (evT a b c (st k) (evS a b c st k)).length ≤ k + 1
    generalize evS a b c st k = S at ih ⊢
    unfold evT
    split
    · simp only [List.length_cons]; omega
    · split
      · simp only [List.length_cons]; omega
      · split
        · split
          · simp only [List.length_cons] at ih ⊢; omega
          · simp only [List.length_nil]; omega
        · split
          · simp only [List.length_cons] at ih ⊢; omega
          · omega
noncomputable def jnA (c x y : Int32) : Int32 := if c = 43 then x + y else if c = 45 then x - y else if c = 42 then x * y else if c = 47 then (if y = 0 then 0 else x / y) else if c = 60 then (if x < y then 1 else 0) else if c = 61 then (if x = y then 1 else 0) else if c = 62 then (if y < x then 1 else 0) else if c = 38 then (if ¬ x = 0 ∧ ¬ y = 0 then 1 else 0) else if c = 124 then (if ¬ x = 0 ∨ ¬ y = 0 then 1 else 0) else 0
theorem jnA_eq {s : Int} {x y : Int32} (h : isSg s) : jnA (Int32.ofInt s) x y = jn s x y := by
  rcases h with rfl | rfl | rfl | rfl | rfl | rfl | rfl | rfl | rfl <;> rfl
/-- the class's pile of numbers -/
noncomputable abbrev Pv (h : Hp) (S : List Int32) : Prop := (h.1 35 1 = nI S.length) ∧ (PLi (h.1 36) S) ∧ (S.length ≤ 96)
theorem Pv.sz {h : Hp} {S : List Int32} (self_ : Pv h S) : h.1 35 1 = nI S.length := self_.1
theorem Pv.cs {h : Hp} {S : List Int32} (self_ : Pv h S) : PLi (h.1 36) S := self_.2.1
theorem Pv.ln {h : Hp} {S : List Int32} (self_ : Pv h S) : S.length ≤ 96 := self_.2.2
noncomputable def frV (h h' : Hp) : Prop := (∀ o (j : Int32), ¬ (o = 35 ∧ j = 1 ∨ o = 36) → h'.1 o j = h.1 o j) ∧ h'.2 = h.2
theorem frV_rf {h : Hp} : frV h h := ⟨fun _ _ _ => rfl, rfl⟩
theorem frV.tr {h h1 h2 : Hp} (a : frV h h1) (b : frV h1 h2) : frV h h2 := ⟨fun o j q => (b.1 o j q).trans (a.1 o j q), b.2.trans a.2⟩
theorem frV.st {h h1 : Hp} (f : frV h h1) {o : Nat} {j v : Int32} (hj : o = 35 ∧ j = 1 ∨ o = 36) : frV h (hI h1 o j v) := by
  refine ⟨fun a k q => ?_, f.2⟩
  show (if a = o ∧ k = j then v else h1.1 a k) = _
  rw [if_neg (fun (e : a = o ∧ k = j) => q (by rw [e.1, e.2]; exact hj))]
  exact f.1 a k q
theorem Pv.up {h : Hp} {S : List Int32} {v : Int32} (P : Pv h S) (l : S.length < 96) : Pv (hI (hI h 36 (h.1 35 1) v) 35 1 (h.1 35 1 + 1)) (v :: S) := by
  refine ⟨?_, ?_, l⟩
  · rw [hI_eq, P.sz, tx_1]
    rfl
  · have e : (hI (hI h 36 (h.1 35 1) v) 35 1 (h.1 35 1 + 1)).1 36 = fun j => if j = nI S.length then v else h.1 36 j := funext fun j => by
      rw [hI_ne (by decide), P.sz]
      by_cases q : j = nI S.length
      · rw [q, hI_eq, if_pos rfl]
      · rw [hI_j q, if_neg q]
    rw [e]
    exact P.cs.up (by omega)
theorem Pv.dn {h : Hp} {S : List Int32} {v : Int32} (P : Pv h (v :: S)) : h.1 36 (h.1 35 1 - 1) = v ∧ Pv (hI h 35 1 (h.1 35 1 - 1)) S := by
  have e : h.1 35 1 - 1 = nI S.length := by
    rw [P.sz]
    exact nI_m1
  rw [e]
  exact ⟨P.cs.1, hI_eq, by
    have : (hI h 35 1 (nI S.length)).1 36 = h.1 36 := funext fun j => hI_ne (by decide)
    rw [this]
    exact P.cs.2, by have := P.ln; simp only [List.length_cons] at this; omega⟩
theorem Pv.c0 {h : Hp} {S : List Int32} (P : Pv h S) : 0 ≤ h.1 35 1 := by
  have := P.ln
  rw [P.sz]
  exact tx_0 _ (by omega)
theorem Pv.c1 {h : Hp} {S : List Int32} (P : Pv h S) (l : S.length < 96) : h.1 35 1 < 96 := by
  rw [P.sz]
  exact (tx_lt (b := 96) (by omega) (by decide)).mpr l
theorem Pv.p0 {h : Hp} {S : List Int32} {v : Int32} (P : Pv h (v :: S)) : 0 < h.1 35 1 := by
  have := P.ln
  rw [P.sz]
  exact (tx_lt (a := 0) (by decide) (by omega)).mpr (by simp only [List.length_cons]; omega)
theorem Pv.p1 {h : Hp} {S : List Int32} (P : Pv h S) : h.1 35 1 ≤ 96 := by
  have := P.ln
  rw [P.sz]
  exact (tx_le (b := 96) (by omega) (by decide)).mpr this
theorem WfS.bd {st : Nat → Int} {n k : Nat} (W : WfS st n) (hk : k < n) : (Int32.ofInt (st k)).toInt = st k ∧ 0 ≤ st k ∧ st k ≤ 20124 := by
  have h : 0 ≤ st k ∧ st k ≤ 20124 := by
    rcases W.ok k hk with h | h | h | h
    · omega
    · omega
    · omega
    · unfold isSg at h
      omega
  exact ⟨i32of (by omega) (by omega), h⟩
theorem evS_num {a b c : Int32} {st : Nat → Int} {k : Nat} (h : st k < 10000) : evS a b c st (k + 1) = Int32.ofInt (st k) :: evS a b c st k := if_pos h
theorem evS_nam {a b c : Int32} {st : Nat → Int} {k : Nat} (h : ¬ st k < 10000) (h2 : st k < 20000) : evS a b c st (k + 1) = (if st k = 10000 then a else if st k = 10001 then b else c) :: evS a b c st k := (if_neg h).trans (if_pos h2)
theorem evS_not {a b c x : Int32} {st : Nat → Int} {k : Nat} {S : List Int32} (h : st k = 20033) (e : evS a b c st k = x :: S) : evS a b c st (k + 1) = (if x = 0 then 1 else 0) :: S := by
  show evT a b c (st k) (evS a b c st k) = _
  rw [e, h]
  rfl
theorem evS_two {a b c x y : Int32} {st : Nat → Int} {k : Nat} {S : List Int32} (h : isSg (st k - 20000)) (e : evS a b c st k = y :: x :: S) : evS a b c st (k + 1) = jn (st k - 20000) x y :: S := by
  show evT a b c (st k) (evS a b c st k) = _
  have : 20038 ≤ st k := by unfold isSg at h; omega
  unfold evT
  rw [e, if_neg (by omega), if_neg (by omega), if_neg (by omega)]
theorem len1 {S : List Int32} (h : 1 ≤ S.length) : ∃ x r, S = x :: r := by
  cases S with
  | nil => simp at h
  | cons x r => exact ⟨x, r, rfl⟩
theorem len2 {S : List Int32} (h : 2 ≤ S.length) : ∃ y x r, S = y :: x :: r := by
  cases S with
  | nil => simp at h
  | cons y S => cases S with
    | nil => simp at h
    | cons x r => exact ⟨y, x, r, rfl⟩
theorem ofI_sub {s : Int} (sb : (Int32.ofInt s).toInt = s ∧ 0 ≤ s ∧ s ≤ 20124) : Int32.ofInt s - 20000 = Int32.ofInt (s - 20000) := by
  apply Int32.toInt_inj.mp
  have c : (20000 : Int32).toInt = 20000 := rfl
  rw [Int32.toInt_sub, sb.1, c, b32 (by omega) (by omega), i32of (by omega) (by omega)]
theorem c_push35 {d : Nat} {Q : Option Value → Hp → Prop} {h : Hp} {v : Int32} (a0 : 0 ≤ h.1 35 1) (a1 : h.1 35 1 < 96) (k : Q none (hI (hI h 36 (h.1 35 1) v) 35 1 (h.1 35 1 + 1))) : Call (d + 1) 23 [.ref 35, .int v] h Q := by
  refine call_of (rfl : psM[23]? = some _) rfl rfl (rcvV rfl) (fun X hX => ?_)
  show X (0, [some (.ref 35), some (.int v)], [], h)
  refine go hX 3 (gs := [True, True, True]) (z' := (if (h.1 35 1) < 0 then 19 else 7, [some (.ref 35), some (.int v)], [], h)) rfl ⟨trivial, trivial, trivial, trivial⟩ ?_
  refine br (fun b1 => ?_) (fun b1 => ?_)
  ·
    refine rt_ hX (G := True) (r := none) rfl trivial ?_
    exfalso; grind
  ·
    refine go hX 6 (gs := [True, True, True, True, True, True]) (z' := (if (h.1 35 1) < (nI 96) then 20 else 19, [some (.ref 35), some (.int v)], [], h)) rfl ⟨trivial, trivial, trivial, trivial, trivial, trivial, trivial⟩ ?_
    refine br (fun b2 => ?_) (fun b2 => ?_)
    ·
      refine go hX 12 (gs := [True, True, True, True, True, True, ibd (h.1 35 1) 96, True, True, True, True, True]) (z' := (40, [some (.ref 35), some (.int v)], [], (hI (hI h 36 (h.1 35 1) v) 35 1 ((h.1 35 1) + 1)))) rfl ⟨trivial, trivial, trivial, trivial, trivial, trivial, ?_, trivial, trivial, trivial, trivial, trivial, trivial⟩ ?_
      · exact ibd_of (B := 96) rfl a0 a1
      refine rt_ hX (G := True) (r := none) rfl trivial ?_
      exact k
    ·
      refine rt_ hX (G := True) (r := none) rfl trivial ?_
      exact absurd (show h.1 35 1 < nI 96 from a1) b2
theorem c_pop35 {d : Nat} {Q : Option Value → Hp → Prop} {h : Hp} (a0 : 0 < h.1 35 1) (sm : h.1 35 1 ≤ 96) (k : Q (some (.int (h.1 36 (h.1 35 1 - 1)))) (hI h 35 1 (h.1 35 1 - 1))) : Call (d + 1) 26 [.ref 35] h Q := by
  refine call_of (rfl : psM[26]? = some _) rfl rfl (rcvV rfl) (fun X hX => ?_)
  show X (0, [some (.ref 35)], [], h)
  refine go hX 3 (gs := [True, True, True]) (z' := (if (h.1 35 1) ≤ 0 then 19 else 7, [some (.ref 35)], [], h)) rfl ⟨trivial, trivial, trivial, trivial⟩ ?_
  refine br (fun b1 => ?_) (fun b1 => ?_)
  ·
    refine go hX 1 (gs := [True]) (z' := (20, [some (.ref 35)], [.int 0], h)) rfl ⟨trivial, trivial⟩ ?_
    refine rt_ hX (G := True) (r := some (.int 0)) rfl trivial ?_
    exfalso; grind
  ·
    refine go hX 6 (gs := [True, True, True, True, True, True]) (z' := (if (h.1 35 1) ≤ (nI 96) then 21 else 19, [some (.ref 35)], [], h)) rfl ⟨trivial, trivial, trivial, trivial, trivial, trivial, trivial⟩ ?_
    refine br (fun b2 => ?_) (fun b2 => ?_)
    ·
      refine go hX 11 (gs := [ibd ((h.1 35 1) - 1) 96, True, True, True, True, True, True, True, True, True, True]) (z' := (40, [some (.ref 35)], [.int (h.1 36 ((h.1 35 1) - 1))], (hI h 35 1 ((h.1 35 1) - 1)))) rfl ⟨?_, trivial, trivial, trivial, trivial, trivial, trivial, trivial, trivial, trivial, trivial, trivial⟩ ?_
      · exact tx_m1 a0 sm
      refine rt_ hX (G := True) (r := some (.int (h.1 36 ((h.1 35 1) - 1)))) rfl trivial ?_
      exact k
    ·
      refine go hX 1 (gs := [True]) (z' := (20, [some (.ref 35)], [.int 0], h)) rfl ⟨trivial, trivial⟩ ?_
      refine rt_ hX (G := True) (r := some (.int 0)) rfl trivial ?_
      exact absurd (show h.1 35 1 ≤ nI 96 from sm) (by assumption)
theorem c_clear35 {d : Nat} {Q : Option Value → Hp → Prop} {h : Hp} (k : Q none (hI h 35 1 0)) : Call (d + 1) 22 [.ref 35] h Q := by
  refine call_of (rfl : psM[22]? = some _) rfl rfl (rcvV rfl) (fun X hX => ?_)
  show X (0, [some (.ref 35)], [], h)
  refine go hX 3 (gs := [True, True, True]) (z' := (5, [some (.ref 35)], [], (hI h 35 1 0))) rfl ⟨trivial, trivial, trivial, trivial⟩ ?_
  refine rt_ hX (G := True) (r := none) rfl trivial ?_
  exact k
theorem c_isTr {d : Nat} {Q : Option Value → Hp → Prop} {h : Hp} (k : Q (some (.int 1)) h) : Call (d + 1) 51 [.int 1] h Q := by
  refine call_of (rfl : psM[51]? = some _) rfl rfl (rcvS rfl) (fun X hX => ?_)
  show X (0, [some (.int 1)], [], h)
  refine go hX 4 (gs := [True, True, True, True]) (z' := (9, [some (.int 1)], [.int 1], h)) rfl ⟨trivial, trivial, trivial, trivial, trivial⟩ ?_
  refine rt_ hX (G := True) (r := some (.int 1)) rfl trivial ?_
  exact k
theorem c_isTr0 {d : Nat} {Q : Option Value → Hp → Prop} {h : Hp} (k : Q (some (.int 0)) h) : Call (d + 1) 51 [.int 0] h Q := by
  refine call_of (rfl : psM[51]? = some _) rfl rfl (rcvS rfl) (fun X hX => ?_)
  show X (0, [some (.int 0)], [], h)
  refine go hX 3 (gs := [True, True, True]) (z' := (9, [some (.int 0)], [.int 0], h)) rfl ⟨trivial, trivial, trivial, trivial⟩ ?_
  refine rt_ hX (G := True) (r := some (.int 0)) rfl trivial ?_
  exact k
theorem c_join {d : Nat} {Q : Option Value → Hp → Prop} {h : Hp} {c x y : Int32} (k : Q (some (.int (jnA c x y))) h) : Call (d + 2) 50 [.int c, .int x, .int y] h Q := by
  refine call_of (rfl : psM[50]? = some _) rfl rfl (rcvS rfl) (fun X hX => ?_)
  show X (0, [some (.int c), some (.int x), some (.int y)], [], h)
  refine go hX 2 (gs := [True, True]) (z' := (if c = 38 then 150 else if c = 42 then 92 else if c = 43 then 84 else if c = 45 then 88 else if c = 47 then 96 else if c = 60 then 108 else if c = 61 then 122 else if c = 62 then 136 else if c = 124 then 167 else 184, [some (.int c), some (.int x), some (.int y)], [], h)) rfl ⟨trivial, trivial, trivial⟩ ?_
  refine br (fun b1 => ?_) (fun b1 => ?_)
  ·
    refine go hX 2 (gs := [True, True]) (z' := (if x = 0 then 162 else 154, [some (.int c), some (.int x), some (.int y)], [], h)) rfl ⟨trivial, trivial, trivial⟩ ?_
    refine br (fun b2 => ?_) (fun b2 => ?_)
    ·
      refine go hX 1 (gs := [True]) (z' := (163, [some (.int c), some (.int x), some (.int y)], [.int 0], h)) rfl ⟨trivial, trivial⟩ ?_
      refine cl hX 51 1 [.int 0] [] rfl rfl rfl rfl ?_
      refine c_isTr0 ?_
      show X (166, [some (.int c), some (.int x), some (.int y)], [.int 0], h)
      refine rt_ hX (G := True) (r := some (.int 0)) rfl trivial ?_
      have e : jnA c x y = 0 := by
        unfold jnA
        simp [*]
      rw [e] at k
      exact k
    ·
      refine go hX 2 (gs := [True, True]) (z' := (if y = 0 then 162 else 158, [some (.int c), some (.int x), some (.int y)], [], h)) rfl ⟨trivial, trivial, trivial⟩ ?_
      refine br (fun b3 => ?_) (fun b3 => ?_)
      ·
        refine go hX 1 (gs := [True]) (z' := (163, [some (.int c), some (.int x), some (.int y)], [.int 0], h)) rfl ⟨trivial, trivial⟩ ?_
        refine cl hX 51 1 [.int 0] [] rfl rfl rfl rfl ?_
        refine c_isTr0 ?_
        show X (166, [some (.int c), some (.int x), some (.int y)], [.int 0], h)
        refine rt_ hX (G := True) (r := some (.int 0)) rfl trivial ?_
        have e : jnA c x y = 0 := by
          unfold jnA
          simp [*]
        rw [e] at k
        exact k
      ·
        refine go hX 2 (gs := [True, True]) (z' := (163, [some (.int c), some (.int x), some (.int y)], [.int 1], h)) rfl ⟨trivial, trivial, trivial⟩ ?_
        refine cl hX 51 1 [.int 1] [] rfl rfl rfl rfl ?_
        refine c_isTr ?_
        show X (166, [some (.int c), some (.int x), some (.int y)], [.int 1], h)
        refine rt_ hX (G := True) (r := some (.int 1)) rfl trivial ?_
        have e : jnA c x y = 1 := by
          unfold jnA
          simp [*]
        rw [e] at k
        exact k
  ·
    refine br (fun b4 => ?_) (fun b4 => ?_)
    ·
      refine go hX 3 (gs := [True, True, True]) (z' := (95, [some (.int c), some (.int x), some (.int y)], [.int (x * y)], h)) rfl ⟨trivial, trivial, trivial, trivial⟩ ?_
      refine rt_ hX (G := True) (r := some (.int (x * y))) rfl trivial ?_
      have e : jnA c x y = (x * y) := by
        unfold jnA
        simp [*]
      rw [e] at k
      exact k
    ·
      refine br (fun b5 => ?_) (fun b5 => ?_)
      ·
        refine go hX 3 (gs := [True, True, True]) (z' := (87, [some (.int c), some (.int x), some (.int y)], [.int (x + y)], h)) rfl ⟨trivial, trivial, trivial, trivial⟩ ?_
        refine rt_ hX (G := True) (r := some (.int (x + y))) rfl trivial ?_
        have e : jnA c x y = (x + y) := by
          unfold jnA
          simp [*]
        rw [e] at k
        exact k
      ·
        refine br (fun b6 => ?_) (fun b6 => ?_)
        ·
          refine go hX 3 (gs := [True, True, True]) (z' := (91, [some (.int c), some (.int x), some (.int y)], [.int (x - y)], h)) rfl ⟨trivial, trivial, trivial, trivial⟩ ?_
          refine rt_ hX (G := True) (r := some (.int (x - y))) rfl trivial ?_
          have e : jnA c x y = (x - y) := by
            unfold jnA
            simp [*]
          rw [e] at k
          exact k
        ·
          refine br (fun b7 => ?_) (fun b7 => ?_)
          ·
            refine go hX 2 (gs := [True, True]) (z' := (if y = 0 then 100 else 104, [some (.int c), some (.int x), some (.int y)], [], h)) rfl ⟨trivial, trivial, trivial⟩ ?_
            refine br (fun b8 => ?_) (fun b8 => ?_)
            ·
              refine go hX 2 (gs := [True, True]) (z' := (107, [some (.int c), some (.int x), some (.int y)], [.int 0], h)) rfl ⟨trivial, trivial, trivial⟩ ?_
              refine rt_ hX (G := True) (r := some (.int 0)) rfl trivial ?_
              have e : jnA c x y = 0 := by
                unfold jnA
                simp [*]
              rw [e] at k
              exact k
            ·
              refine go hX 3 (gs := [¬ y = (0 : Int32), True, True]) (z' := (107, [some (.int c), some (.int x), some (.int y)], [.int (x / y)], h)) rfl ⟨?_, trivial, trivial, trivial⟩ ?_
              · assumption
              refine rt_ hX (G := True) (r := some (.int (x / y))) rfl trivial ?_
              have e : jnA c x y = (x / y) := by
                unfold jnA
                simp [*]
              rw [e] at k
              exact k
          ·
            refine br (fun b9 => ?_) (fun b9 => ?_)
            ·
              refine go hX 3 (gs := [True, True, True]) (z' := (if y ≤ x then 117 else 113, [some (.int c), some (.int x), some (.int y)], [], h)) rfl ⟨trivial, trivial, trivial, trivial⟩ ?_
              refine br (fun b10 => ?_) (fun b10 => ?_)
              ·
                refine go hX 1 (gs := [True]) (z' := (118, [some (.int c), some (.int x), some (.int y)], [.int 0], h)) rfl ⟨trivial, trivial⟩ ?_
                refine cl hX 51 1 [.int 0] [] rfl rfl rfl rfl ?_
                refine c_isTr0 ?_
                show X (121, [some (.int c), some (.int x), some (.int y)], [.int 0], h)
                refine rt_ hX (G := True) (r := some (.int 0)) rfl trivial ?_
                have e : jnA c x y = 0 := by
                  unfold jnA
                  simp [*]
                rw [e] at k
                exact k
              ·
                refine go hX 2 (gs := [True, True]) (z' := (118, [some (.int c), some (.int x), some (.int y)], [.int 1], h)) rfl ⟨trivial, trivial, trivial⟩ ?_
                refine cl hX 51 1 [.int 1] [] rfl rfl rfl rfl ?_
                refine c_isTr ?_
                show X (121, [some (.int c), some (.int x), some (.int y)], [.int 1], h)
                refine rt_ hX (G := True) (r := some (.int 1)) rfl trivial ?_
                have e : jnA c x y = 1 := by
                  unfold jnA
                  simp [*]
                rw [e] at k
                exact k
            ·
              refine br (fun b11 => ?_) (fun b11 => ?_)
              ·
                refine go hX 3 (gs := [True, True, True]) (z' := (if x = y then 127 else 131, [some (.int c), some (.int x), some (.int y)], [], h)) rfl ⟨trivial, trivial, trivial, trivial⟩ ?_
                refine br (fun b12 => ?_) (fun b12 => ?_)
                ·
                  refine go hX 2 (gs := [True, True]) (z' := (132, [some (.int c), some (.int x), some (.int y)], [.int 1], h)) rfl ⟨trivial, trivial, trivial⟩ ?_
                  refine cl hX 51 1 [.int 1] [] rfl rfl rfl rfl ?_
                  refine c_isTr ?_
                  show X (135, [some (.int c), some (.int x), some (.int y)], [.int 1], h)
                  refine rt_ hX (G := True) (r := some (.int 1)) rfl trivial ?_
                  have e : jnA c x y = 1 := by
                    unfold jnA
                    simp [*]
                  rw [e] at k
                  exact k
                ·
                  refine go hX 1 (gs := [True]) (z' := (132, [some (.int c), some (.int x), some (.int y)], [.int 0], h)) rfl ⟨trivial, trivial⟩ ?_
                  refine cl hX 51 1 [.int 0] [] rfl rfl rfl rfl ?_
                  refine c_isTr0 ?_
                  show X (135, [some (.int c), some (.int x), some (.int y)], [.int 0], h)
                  refine rt_ hX (G := True) (r := some (.int 0)) rfl trivial ?_
                  have e : jnA c x y = 0 := by
                    unfold jnA
                    simp [*]
                  rw [e] at k
                  exact k
              ·
                refine br (fun b13 => ?_) (fun b13 => ?_)
                ·
                  refine go hX 3 (gs := [True, True, True]) (z' := (if x ≤ y then 145 else 141, [some (.int c), some (.int x), some (.int y)], [], h)) rfl ⟨trivial, trivial, trivial, trivial⟩ ?_
                  refine br (fun b14 => ?_) (fun b14 => ?_)
                  ·
                    refine go hX 1 (gs := [True]) (z' := (146, [some (.int c), some (.int x), some (.int y)], [.int 0], h)) rfl ⟨trivial, trivial⟩ ?_
                    refine cl hX 51 1 [.int 0] [] rfl rfl rfl rfl ?_
                    refine c_isTr0 ?_
                    show X (149, [some (.int c), some (.int x), some (.int y)], [.int 0], h)
                    refine rt_ hX (G := True) (r := some (.int 0)) rfl trivial ?_
                    have e : jnA c x y = 0 := by
                      unfold jnA
                      simp [*]
                    rw [e] at k
                    exact k
                  ·
                    refine go hX 2 (gs := [True, True]) (z' := (146, [some (.int c), some (.int x), some (.int y)], [.int 1], h)) rfl ⟨trivial, trivial, trivial⟩ ?_
                    refine cl hX 51 1 [.int 1] [] rfl rfl rfl rfl ?_
                    refine c_isTr ?_
                    show X (149, [some (.int c), some (.int x), some (.int y)], [.int 1], h)
                    refine rt_ hX (G := True) (r := some (.int 1)) rfl trivial ?_
                    have e : jnA c x y = 1 := by
                      unfold jnA
                      simp [*]
                    rw [e] at k
                    exact k
                ·
                  refine br (fun b15 => ?_) (fun b15 => ?_)
                  ·
                    refine go hX 2 (gs := [True, True]) (z' := (if x = 0 then 171 else 175, [some (.int c), some (.int x), some (.int y)], [], h)) rfl ⟨trivial, trivial, trivial⟩ ?_
                    refine br (fun b16 => ?_) (fun b16 => ?_)
                    ·
                      refine go hX 2 (gs := [True, True]) (z' := (if y = 0 then 179 else 175, [some (.int c), some (.int x), some (.int y)], [], h)) rfl ⟨trivial, trivial, trivial⟩ ?_
                      refine br (fun b17 => ?_) (fun b17 => ?_)
                      ·
                        refine go hX 1 (gs := [True]) (z' := (180, [some (.int c), some (.int x), some (.int y)], [.int 0], h)) rfl ⟨trivial, trivial⟩ ?_
                        refine cl hX 51 1 [.int 0] [] rfl rfl rfl rfl ?_
                        refine c_isTr0 ?_
                        show X (183, [some (.int c), some (.int x), some (.int y)], [.int 0], h)
                        refine rt_ hX (G := True) (r := some (.int 0)) rfl trivial ?_
                        have e : jnA c x y = 0 := by
                          unfold jnA
                          simp [*]
                        rw [e] at k
                        exact k
                      ·
                        refine go hX 2 (gs := [True, True]) (z' := (180, [some (.int c), some (.int x), some (.int y)], [.int 1], h)) rfl ⟨trivial, trivial, trivial⟩ ?_
                        refine cl hX 51 1 [.int 1] [] rfl rfl rfl rfl ?_
                        refine c_isTr ?_
                        show X (183, [some (.int c), some (.int x), some (.int y)], [.int 1], h)
                        refine rt_ hX (G := True) (r := some (.int 1)) rfl trivial ?_
                        have e : jnA c x y = 1 := by
                          unfold jnA
                          simp [*]
                        rw [e] at k
                        exact k
                    ·
                      refine go hX 2 (gs := [True, True]) (z' := (180, [some (.int c), some (.int x), some (.int y)], [.int 1], h)) rfl ⟨trivial, trivial, trivial⟩ ?_
                      refine cl hX 51 1 [.int 1] [] rfl rfl rfl rfl ?_
                      refine c_isTr ?_
                      show X (183, [some (.int c), some (.int x), some (.int y)], [.int 1], h)
                      refine rt_ hX (G := True) (r := some (.int 1)) rfl trivial ?_
                      have e : jnA c x y = 1 := by
                        unfold jnA
                        simp [*]
                      rw [e] at k
                      exact k
                  ·
                    refine go hX 1 (gs := [True]) (z' := (185, [some (.int c), some (.int x), some (.int y)], [.int 0], h)) rfl ⟨trivial, trivial⟩ ?_
                    refine rt_ hX (G := True) (r := some (.int 0)) rfl trivial ?_
                    have e : jnA c x y = 0 := by
                      unfold jnA
                      simp [*]
                    rw [e] at k
                    exact k
theorem c_getX {d : Nat} {Q : Option Value → Hp → Prop} {h : Hp} {x f : Int32} (x0 : 0 ≤ x) (x1 : x < h.1 8 2) (xm : h.1 8 2 ≤ 12) (f0 : 0 ≤ f) (f1 : f < 100) (k : Q (some (.int (h.1 9 ((x * 100) + f)))) h) : Call (d + 1) 94 [.ref 8, .int x, .int f] h Q := by
  refine call_of (rfl : psM[94]? = some _) rfl rfl (rcvV rfl) (fun X hX => ?_)
  show X (0, [some (.ref 8), some (.int x), some (.int f)], [], h)
  refine go hX 2 (gs := [True, True]) (z' := (if x < 0 then 24 else 4, [some (.ref 8), some (.int x), some (.int f)], [], h)) rfl ⟨trivial, trivial, trivial⟩ ?_
  refine br (fun b1 => ?_) (fun b1 => ?_)
  ·
    refine go hX 1 (gs := [True]) (z' := (25, [some (.ref 8), some (.int x), some (.int f)], [.int 0], h)) rfl ⟨trivial, trivial⟩ ?_
    refine rt_ hX (G := True) (r := some (.int 0)) rfl trivial ?_
    exfalso; grind
  ·
    refine go hX 4 (gs := [True, True, True, True]) (z' := (if (h.1 8 2) ≤ x then 24 else 12, [some (.ref 8), some (.int x), some (.int f)], [], h)) rfl ⟨trivial, trivial, trivial, trivial, trivial⟩ ?_
    refine br (fun b2 => ?_) (fun b2 => ?_)
    ·
      refine go hX 1 (gs := [True]) (z' := (25, [some (.ref 8), some (.int x), some (.int f)], [.int 0], h)) rfl ⟨trivial, trivial⟩ ?_
      refine rt_ hX (G := True) (r := some (.int 0)) rfl trivial ?_
      exfalso; grind
    ·
      refine go hX 2 (gs := [True, True]) (z' := (if f < 0 then 24 else 16, [some (.ref 8), some (.int x), some (.int f)], [], h)) rfl ⟨trivial, trivial, trivial⟩ ?_
      refine br (fun b3 => ?_) (fun b3 => ?_)
      ·
        refine go hX 1 (gs := [True]) (z' := (25, [some (.ref 8), some (.int x), some (.int f)], [.int 0], h)) rfl ⟨trivial, trivial⟩ ?_
        refine rt_ hX (G := True) (r := some (.int 0)) rfl trivial ?_
        exfalso; grind
      ·
        refine go hX 4 (gs := [True, True, True, True]) (z' := (if f < 100 then 26 else 24, [some (.ref 8), some (.int x), some (.int f)], [], h)) rfl ⟨trivial, trivial, trivial, trivial, trivial⟩ ?_
        refine br (fun b4 => ?_) (fun b4 => ?_)
        ·
          refine go hX 9 (gs := [ibd ((x * 100) + f) 1200, True, True, True, True, True, True, True, True]) (z' := (39, [some (.ref 8), some (.int x), some (.int f)], [.int (h.1 9 ((x * 100) + f))], h)) rfl ⟨?_, trivial, trivial, trivial, trivial, trivial, trivial, trivial, trivial, trivial⟩ ?_
          · exact ibd_of (B := 1200) rfl (by grind) (by grind)
          refine rt_ hX (G := True) (r := some (.int (h.1 9 ((x * 100) + f)))) rfl trivial ?_
          exact k
        ·
          refine go hX 1 (gs := [True]) (z' := (25, [some (.ref 8), some (.int x), some (.int f)], [.int 0], h)) rfl ⟨trivial, trivial⟩ ?_
          refine rt_ hX (G := True) (r := some (.int 0)) rfl trivial ?_
          exfalso; grind
theorem lp_wo {d : Nat} {Q : Option Value → Hp → Prop} {X : Cf → Prop} (hX : Clo (Call (d + 2)) cd49 (some .int) Q X) {t tx n : Nat} {a b c : Int32} {h0 : Hp} {st : Nat → Int} (W : WfS st n) (ht : t < tx) (htx : tx ≤ 12) (etx : h0.1 8 2 = nI tx) (hs : ∀ k, k < n → st k = (h0.1 9 ((nI t * 100) + nI (4 + k))).toInt) (K : ∀ h r, frV h0 h → evS a b c st n = [r] → Q (some (.int r)) h) {k : Nat} (hk : k ≤ n) : ∀ (h : Hp) (l8 l9 l10 : Option Value), (l8 = none ∧ l9 = none ∧ l10 = none ∨ (∃ x, l8 = some (.int x) ∧ l9 = none ∧ l10 = none) ∨ ∃ x y z, l8 = some (.int x) ∧ l9 = some (.int y) ∧ l10 = some (.int z)) → frV h0 h → Pv h (evS a b c st k) → X (20, [some (.ref 34), some (.ref 8), some (.int (nI t)), some (.int a), some (.int b), some (.int c), some (.int (nI (4 + n))), some (.int (nI (4 + k))), l8, l9, l10], [], h) := by
  have n96 := W.n96
  refine dn_ind (P := fun k => ∀ (h : Hp) (l8 l9 l10 : Option Value), (l8 = none ∧ l9 = none ∧ l10 = none ∨ (∃ x, l8 = some (.int x) ∧ l9 = none ∧ l10 = none) ∨ ∃ x y z, l8 = some (.int x) ∧ l9 = some (.int y) ∧ l10 = some (.int z)) → frV h0 h → Pv h (evS a b c st k) → X (20, [some (.ref 34), some (.ref 8), some (.int (nI t)), some (.int a), some (.int b), some (.int c), some (.int (nI (4 + n))), some (.int (nI (4 + k))), l8, l9, l10], [], h)) (fun k hk ih h l8 l9 l10 hl fr P => ?_) hk
  rcases hl with ⟨rfl, rfl, rfl⟩ | ⟨x8, rfl, rfl, rfl⟩ | ⟨x8, x9, x10, rfl, rfl, rfl⟩
  ·
    refine go hX 3 (gs := [True, True, True]) (z' := (if (nI (4 + n)) ≤ (nI (4 + k)) then 181 else 27, [some (.ref 34), some (.ref 8), some (.int (nI t)), some (.int a), some (.int b), some (.int c), some (.int (nI (4 + n))), some (.int (nI (4 + k))), none, none, none], [], h)) rfl ⟨trivial, trivial, trivial, trivial⟩ ?_
    refine br (fun b1 => ?_) (fun b1 => ?_)
    ·
      have e : k = n := by
        have := (tx_le (a := 4 + n) (b := 4 + k) (by omega) (by omega)).mp b1
        omega
      rw [e] at P
      refine go hX 2 (gs := [True, True]) (z' := (185, [some (.ref 34), some (.ref 8), some (.int (nI t)), some (.int a), some (.int b), some (.int c), some (.int (nI (4 + n))), some (.int (nI (4 + k))), none, none, none], [.ref 35], h)) rfl ⟨trivial, trivial, trivial⟩ ?_
      refine cl hX 26 1 [.ref 35] [] rfl rfl rfl rfl ?_
      obtain ⟨r, hr⟩ := List.length_eq_one_iff.mp (W.one a b c)
      rw [hr] at P
      obtain ⟨e3, P2⟩ := P.dn
      refine c_pop35 P.p0 P.p1 ?_
      rw [e3]
      show X (188, [some (.ref 34), some (.ref 8), some (.int (nI t)), some (.int a), some (.int b), some (.int c), some (.int (nI (4 + n))), some (.int (nI (4 + k))), none, none, none], [.int r], (hI h 35 1 (h.1 35 1 - 1)))
      refine rt_ hX (G := True) (r := some (.int r)) rfl trivial ?_
      exact K _ _ (fr.st (Or.inl ⟨rfl, rfl⟩)) hr
    ·
      have kn : k < n := Nat.lt_of_not_le (fun z => b1 ((tx_le (by omega) (by omega)).mpr (by omega)))
      have sb := W.bd kn
      have hst : h.1 9 ((nI t * 100) + nI (4 + k)) = Int32.ofInt (st k) := by
        rw [fr.1 9 _ (by omega), hs k kn]
        exact (Int32.ofInt_toInt _).symm
      have lt1 : ¬ 10000 ≤ Int32.ofInt (st k) → st k < 10000 := fun q => by rw [Int32.le_iff_toInt_le, sb.1] at q; exact Int.not_le.mp q
      have nlt1 : 10000 ≤ Int32.ofInt (st k) → ¬ st k < 10000 := fun q => by rw [Int32.le_iff_toInt_le, sb.1] at q; exact Int.not_lt.mpr q
      have lt2 : ¬ 20000 ≤ Int32.ofInt (st k) → st k < 20000 := fun q => by rw [Int32.le_iff_toInt_le, sb.1] at q; exact Int.not_le.mp q
      have nlt2 : 20000 ≤ Int32.ofInt (st k) → ¬ st k < 20000 := fun q => by rw [Int32.le_iff_toInt_le, sb.1] at q; exact Int.not_lt.mpr q
      have eq1 : Int32.ofInt (st k) = 10000 → st k = 10000 := fun q => by rw [← Int32.toInt_inj, sb.1] at q; exact q
      have ne1 : ¬ Int32.ofInt (st k) = 10000 → ¬ st k = 10000 := fun q => by rw [← Int32.toInt_inj, sb.1] at q; exact q
      have eq2 : Int32.ofInt (st k) = 10001 → st k = 10001 := fun q => by rw [← Int32.toInt_inj, sb.1] at q; exact q
      have ne2 : ¬ Int32.ofInt (st k) = 10001 → ¬ st k = 10001 := fun q => by rw [← Int32.toInt_inj, sb.1] at q; exact q
      have t0 : (0 : Int32) ≤ nI t := tx_0 t (by omega)
      have t1 : nI t < h.1 8 2 := by rw [fr.1 8 _ (by omega), etx]; exact (tx_lt (by omega) (by omega)).mpr ht
      have tm : h.1 8 2 ≤ 12 := by rw [fr.1 8 _ (by omega), etx]; exact (tx_le (b := 12) (by omega) (by decide)).mpr htx
      refine go hX 3 (gs := [True, True, True]) (z' := (31, [some (.ref 34), some (.ref 8), some (.int (nI t)), some (.int a), some (.int b), some (.int c), some (.int (nI (4 + n))), some (.int (nI (4 + k))), none, none, none], [.int (nI (4 + k)), .int (nI t), .ref 8], h)) rfl ⟨trivial, trivial, trivial, trivial⟩ ?_
      refine cl hX 94 3 [.ref 8, .int (nI t), .int (nI (4 + k))] [] rfl rfl rfl rfl ?_
      refine c_getX t0 t1 tm (tx_0 _ (by omega)) ((tx_lt (b := 100) (by omega) (by decide)).mpr (by omega)) ?_
      rw [hst]
      show X (34, [some (.ref 34), some (.ref 8), some (.int (nI t)), some (.int a), some (.int b), some (.int c), some (.int (nI (4 + n))), some (.int (nI (4 + k))), none, none, none], [.int (Int32.ofInt (st k))], h)
      refine go hX 4 (gs := [True, True, True, True]) (z' := (if 10000 ≤ (Int32.ofInt (st k)) then 56 else 44, [some (.ref 34), some (.ref 8), some (.int (nI t)), some (.int a), some (.int b), some (.int c), some (.int (nI (4 + n))), some (.int (nI (4 + k))), some (.int (Int32.ofInt (st k))), none, none], [], h)) rfl ⟨trivial, trivial, trivial, trivial, trivial⟩ ?_
      refine br (fun b4 => ?_) (fun b4 => ?_)
      ·
        refine go hX 3 (gs := [True, True, True]) (z' := (if 20000 ≤ (Int32.ofInt (st k)) then 101 else 64, [some (.ref 34), some (.ref 8), some (.int (nI t)), some (.int a), some (.int b), some (.int c), some (.int (nI (4 + n))), some (.int (nI (4 + k))), some (.int (Int32.ofInt (st k))), none, none], [], h)) rfl ⟨trivial, trivial, trivial, trivial⟩ ?_
        refine br (fun b5 => ?_) (fun b5 => ?_)
        ·
          refine go hX 3 (gs := [True, True, True]) (z' := (if (Int32.ofInt (st k)) = 20033 then 109 else 137, [some (.ref 34), some (.ref 8), some (.int (nI t)), some (.int a), some (.int b), some (.int c), some (.int (nI (4 + n))), some (.int (nI (4 + k))), some (.int (Int32.ofInt (st k))), none, none], [], h)) rfl ⟨trivial, trivial, trivial, trivial⟩ ?_
          refine br (fun b6 => ?_) (fun b6 => ?_)
          ·
            refine go hX 4 (gs := [True, True, True, True]) (z' := (117, [some (.ref 34), some (.ref 8), some (.int (nI t)), some (.int a), some (.int b), some (.int c), some (.int (nI (4 + n))), some (.int (nI (4 + k))), some (.int (Int32.ofInt (st k))), none, none], [.ref 35, .ref 35], h)) rfl ⟨trivial, trivial, trivial, trivial, trivial⟩ ?_
            refine cl hX 26 1 [.ref 35] [.ref 35] rfl rfl rfl rfl ?_
            have s33 : st k = 20033 := by rw [← sb.1, b6]; rfl
            obtain ⟨x, S, hS⟩ := len1 ((W.ln a b c k kn).1 s33)
            rw [hS] at P
            obtain ⟨e8, P7⟩ := P.dn
            refine c_pop35 P.p0 P.p1 ?_
            rw [e8]
            show X (120, [some (.ref 34), some (.ref 8), some (.int (nI t)), some (.int a), some (.int b), some (.int c), some (.int (nI (4 + n))), some (.int (nI (4 + k))), some (.int (Int32.ofInt (st k))), none, none], [.int x, .ref 35], (hI h 35 1 (h.1 35 1 - 1)))
            refine go hX 1 (gs := [True]) (z' := (if x = 0 then 123 else 127, [some (.ref 34), some (.ref 8), some (.int (nI t)), some (.int a), some (.int b), some (.int c), some (.int (nI (4 + n))), some (.int (nI (4 + k))), some (.int (Int32.ofInt (st k))), none, none], [.ref 35], (hI h 35 1 (h.1 35 1 - 1)))) rfl ⟨trivial, trivial⟩ ?_
            refine br (fun b9 => ?_) (fun b9 => ?_)
            ·
              refine go hX 2 (gs := [True, True]) (z' := (128, [some (.ref 34), some (.ref 8), some (.int (nI t)), some (.int a), some (.int b), some (.int c), some (.int (nI (4 + n))), some (.int (nI (4 + k))), some (.int (Int32.ofInt (st k))), none, none], [.int 1, .ref 35], (hI h 35 1 (h.1 35 1 - 1)))) rfl ⟨trivial, trivial, trivial⟩ ?_
              refine cl hX 51 1 [.int 1] [.ref 35] rfl rfl rfl rfl ?_
              refine c_isTr ?_
              show X (131, [some (.ref 34), some (.ref 8), some (.int (nI t)), some (.int a), some (.int b), some (.int c), some (.int (nI (4 + n))), some (.int (nI (4 + k))), some (.int (Int32.ofInt (st k))), none, none], [.int 1, .ref 35], (hI h 35 1 (h.1 35 1 - 1)))
              refine cl hX 23 2 [.ref 35, .int 1] [] rfl rfl rfl rfl ?_
              have P10 := P7.up (v := 1) (by have := P.ln; simp only [List.length_cons] at this; omega)
              refine c_push35 P7.c0 (P7.c1 (by have := P.ln; simp only [List.length_cons] at this; omega)) ?_
              show X (134, [some (.ref 34), some (.ref 8), some (.int (nI t)), some (.int a), some (.int b), some (.int c), some (.int (nI (4 + n))), some (.int (nI (4 + k))), some (.int (Int32.ofInt (st k))), none, none], [], (hI (hI (hI h 35 1 (h.1 35 1 - 1)) 36 ((hI h 35 1 (h.1 35 1 - 1)).1 35 1) 1) 35 1 ((hI h 35 1 (h.1 35 1 - 1)).1 35 1 + 1)))
              refine go hX 3 (gs := [True, True, True]) (z' := (20, [some (.ref 34), some (.ref 8), some (.int (nI t)), some (.int a), some (.int b), some (.int c), some (.int (nI (4 + n))), some (.int ((nI (4 + k)) + 1)), some (.int (Int32.ofInt (st k))), none, none], [], (hI (hI (hI h 35 1 (h.1 35 1 - 1)) 36 ((hI h 35 1 (h.1 35 1 - 1)).1 35 1) 1) 35 1 ((hI h 35 1 (h.1 35 1 - 1)).1 35 1 + 1)))) rfl ⟨trivial, trivial, trivial, trivial⟩ ?_
              rw [tx_1]
              refine ih (k + 1) (Nat.lt_succ_self k) (by omega) _ _ _ _ (Or.inr (Or.inl ⟨_, rfl, rfl, rfl⟩)) (((fr.st (Or.inl ⟨rfl, rfl⟩)).st (Or.inr rfl)).st (Or.inl ⟨rfl, rfl⟩)) ?_
              have ev := (evS_not s33 hS).trans (by rw [if_pos b9])
              rw [ev]
              exact P10
            ·
              refine go hX 1 (gs := [True]) (z' := (128, [some (.ref 34), some (.ref 8), some (.int (nI t)), some (.int a), some (.int b), some (.int c), some (.int (nI (4 + n))), some (.int (nI (4 + k))), some (.int (Int32.ofInt (st k))), none, none], [.int 0, .ref 35], (hI h 35 1 (h.1 35 1 - 1)))) rfl ⟨trivial, trivial⟩ ?_
              refine cl hX 51 1 [.int 0] [.ref 35] rfl rfl rfl rfl ?_
              refine c_isTr0 ?_
              show X (131, [some (.ref 34), some (.ref 8), some (.int (nI t)), some (.int a), some (.int b), some (.int c), some (.int (nI (4 + n))), some (.int (nI (4 + k))), some (.int (Int32.ofInt (st k))), none, none], [.int 0, .ref 35], (hI h 35 1 (h.1 35 1 - 1)))
              refine cl hX 23 2 [.ref 35, .int 0] [] rfl rfl rfl rfl ?_
              have P11 := P7.up (v := 0) (by have := P.ln; simp only [List.length_cons] at this; omega)
              refine c_push35 P7.c0 (P7.c1 (by have := P.ln; simp only [List.length_cons] at this; omega)) ?_
              show X (134, [some (.ref 34), some (.ref 8), some (.int (nI t)), some (.int a), some (.int b), some (.int c), some (.int (nI (4 + n))), some (.int (nI (4 + k))), some (.int (Int32.ofInt (st k))), none, none], [], (hI (hI (hI h 35 1 (h.1 35 1 - 1)) 36 ((hI h 35 1 (h.1 35 1 - 1)).1 35 1) 0) 35 1 ((hI h 35 1 (h.1 35 1 - 1)).1 35 1 + 1)))
              refine go hX 3 (gs := [True, True, True]) (z' := (20, [some (.ref 34), some (.ref 8), some (.int (nI t)), some (.int a), some (.int b), some (.int c), some (.int (nI (4 + n))), some (.int ((nI (4 + k)) + 1)), some (.int (Int32.ofInt (st k))), none, none], [], (hI (hI (hI h 35 1 (h.1 35 1 - 1)) 36 ((hI h 35 1 (h.1 35 1 - 1)).1 35 1) 0) 35 1 ((hI h 35 1 (h.1 35 1 - 1)).1 35 1 + 1)))) rfl ⟨trivial, trivial, trivial, trivial⟩ ?_
              rw [tx_1]
              refine ih (k + 1) (Nat.lt_succ_self k) (by omega) _ _ _ _ (Or.inr (Or.inl ⟨_, rfl, rfl, rfl⟩)) (((fr.st (Or.inl ⟨rfl, rfl⟩)).st (Or.inr rfl)).st (Or.inl ⟨rfl, rfl⟩)) ?_
              have ev := (evS_not s33 hS).trans (by rw [if_neg b9])
              rw [ev]
              exact P11
          ·
            refine go hX 2 (gs := [True, True]) (z' := (141, [some (.ref 34), some (.ref 8), some (.int (nI t)), some (.int a), some (.int b), some (.int c), some (.int (nI (4 + n))), some (.int (nI (4 + k))), some (.int (Int32.ofInt (st k))), none, none], [.ref 35], h)) rfl ⟨trivial, trivial, trivial⟩ ?_
            refine cl hX 26 1 [.ref 35] [] rfl rfl rfl rfl ?_
            have sg : isSg (st k - 20000) := by
              rcases W.ok k kn with q | q | q | q
              · exact absurd q.2 (nlt1 b4)
              · exact absurd (show st k < 20000 by omega) (nlt2 b5)
              · exact absurd (Int32.toInt_inj.mp (by rw [sb.1, q]; rfl)) b6
              · exact q
            obtain ⟨y, x, S, hS⟩ := len2 ((W.ln a b c k kn).2 sg)
            rw [hS] at P
            obtain ⟨e13, P12⟩ := P.dn
            refine c_pop35 P.p0 P.p1 ?_
            rw [e13]
            show X (144, [some (.ref 34), some (.ref 8), some (.int (nI t)), some (.int a), some (.int b), some (.int c), some (.int (nI (4 + n))), some (.int (nI (4 + k))), some (.int (Int32.ofInt (st k))), none, none], [.int y], (hI h 35 1 (h.1 35 1 - 1)))
            refine go hX 3 (gs := [True, True, True]) (z' := (150, [some (.ref 34), some (.ref 8), some (.int (nI t)), some (.int a), some (.int b), some (.int c), some (.int (nI (4 + n))), some (.int (nI (4 + k))), some (.int (Int32.ofInt (st k))), some (.int y), none], [.ref 35], (hI h 35 1 (h.1 35 1 - 1)))) rfl ⟨trivial, trivial, trivial, trivial⟩ ?_
            refine cl hX 26 1 [.ref 35] [] rfl rfl rfl rfl ?_
            obtain ⟨e15, P14⟩ := P12.dn
            refine c_pop35 P12.p0 P12.p1 ?_
            rw [e15]
            show X (153, [some (.ref 34), some (.ref 8), some (.int (nI t)), some (.int a), some (.int b), some (.int c), some (.int (nI (4 + n))), some (.int (nI (4 + k))), some (.int (Int32.ofInt (st k))), some (.int y), none], [.int x], (hI (hI h 35 1 (h.1 35 1 - 1)) 35 1 ((hI h 35 1 (h.1 35 1 - 1)).1 35 1 - 1)))
            refine go hX 8 (gs := [True, True, True, True, True, True, True, True]) (z' := (169, [some (.ref 34), some (.ref 8), some (.int (nI t)), some (.int a), some (.int b), some (.int c), some (.int (nI (4 + n))), some (.int (nI (4 + k))), some (.int (Int32.ofInt (st k))), some (.int y), some (.int x)], [.int y, .int x, .int ((Int32.ofInt (st k)) - 20000), .ref 35], (hI (hI h 35 1 (h.1 35 1 - 1)) 35 1 ((hI h 35 1 (h.1 35 1 - 1)).1 35 1 - 1)))) rfl ⟨trivial, trivial, trivial, trivial, trivial, trivial, trivial, trivial, trivial⟩ ?_
            refine cl hX 50 3 [.int ((Int32.ofInt (st k)) - 20000), .int x, .int y] [.ref 35] rfl rfl rfl rfl ?_
            refine c_join ?_
            rw [show Int32.ofInt (st k) - 20000 = Int32.ofInt (st k - 20000) from ofI_sub sb, jnA_eq sg]
            show X (172, [some (.ref 34), some (.ref 8), some (.int (nI t)), some (.int a), some (.int b), some (.int c), some (.int (nI (4 + n))), some (.int (nI (4 + k))), some (.int (Int32.ofInt (st k))), some (.int y), some (.int x)], [.int (jn (st k - 20000) x y), .ref 35], (hI (hI h 35 1 (h.1 35 1 - 1)) 35 1 ((hI h 35 1 (h.1 35 1 - 1)).1 35 1 - 1)))
            refine cl hX 23 2 [.ref 35, .int (jn (st k - 20000) x y)] [] rfl rfl rfl rfl ?_
            have P16 := P14.up (v := (jn (st k - 20000) x y)) (by have := P.ln; simp only [List.length_cons] at this; omega)
            refine c_push35 P14.c0 (P14.c1 (by have := P.ln; simp only [List.length_cons] at this; omega)) ?_
            show X (175, [some (.ref 34), some (.ref 8), some (.int (nI t)), some (.int a), some (.int b), some (.int c), some (.int (nI (4 + n))), some (.int (nI (4 + k))), some (.int (Int32.ofInt (st k))), some (.int y), some (.int x)], [], (hI (hI (hI (hI h 35 1 (h.1 35 1 - 1)) 35 1 ((hI h 35 1 (h.1 35 1 - 1)).1 35 1 - 1)) 36 ((hI (hI h 35 1 (h.1 35 1 - 1)) 35 1 ((hI h 35 1 (h.1 35 1 - 1)).1 35 1 - 1)).1 35 1) (jn (st k - 20000) x y)) 35 1 ((hI (hI h 35 1 (h.1 35 1 - 1)) 35 1 ((hI h 35 1 (h.1 35 1 - 1)).1 35 1 - 1)).1 35 1 + 1)))
            refine go hX 2 (gs := [True, True]) (z' := (20, [some (.ref 34), some (.ref 8), some (.int (nI t)), some (.int a), some (.int b), some (.int c), some (.int (nI (4 + n))), some (.int ((nI (4 + k)) + 1)), some (.int (Int32.ofInt (st k))), some (.int y), some (.int x)], [], (hI (hI (hI (hI h 35 1 (h.1 35 1 - 1)) 35 1 ((hI h 35 1 (h.1 35 1 - 1)).1 35 1 - 1)) 36 ((hI (hI h 35 1 (h.1 35 1 - 1)) 35 1 ((hI h 35 1 (h.1 35 1 - 1)).1 35 1 - 1)).1 35 1) (jn (st k - 20000) x y)) 35 1 ((hI (hI h 35 1 (h.1 35 1 - 1)) 35 1 ((hI h 35 1 (h.1 35 1 - 1)).1 35 1 - 1)).1 35 1 + 1)))) rfl ⟨trivial, trivial, trivial⟩ ?_
            rw [tx_1]
            refine ih (k + 1) (Nat.lt_succ_self k) (by omega) _ _ _ _ (Or.inr (Or.inr ⟨_, _, _, rfl, rfl, rfl⟩)) ((((fr.st (Or.inl ⟨rfl, rfl⟩)).st (Or.inl ⟨rfl, rfl⟩)).st (Or.inr rfl)).st (Or.inl ⟨rfl, rfl⟩)) ?_
            have ev := evS_two sg hS
            rw [ev]
            exact P16
        ·
          refine go hX 5 (gs := [True, True, True, True, True]) (z' := (if (Int32.ofInt (st k)) = 10000 then 76 else 80, [some (.ref 34), some (.ref 8), some (.int (nI t)), some (.int a), some (.int b), some (.int c), some (.int (nI (4 + n))), some (.int (nI (4 + k))), some (.int (Int32.ofInt (st k))), none, none], [.ref 35], h)) rfl ⟨trivial, trivial, trivial, trivial, trivial, trivial⟩ ?_
          refine br (fun b17 => ?_) (fun b17 => ?_)
          ·
            refine go hX 2 (gs := [True, True]) (z' := (95, [some (.ref 34), some (.ref 8), some (.int (nI t)), some (.int a), some (.int b), some (.int c), some (.int (nI (4 + n))), some (.int (nI (4 + k))), some (.int (Int32.ofInt (st k))), none, none], [.int a, .ref 35], h)) rfl ⟨trivial, trivial, trivial⟩ ?_
            refine cl hX 23 2 [.ref 35, .int a] [] rfl rfl rfl rfl ?_
            have P18 := P.up (v := a) (by have := evS_le (a := a) (b := b) (c := c) (st := st) (k := k); omega)
            refine c_push35 P.c0 (P.c1 (by have := evS_le (a := a) (b := b) (c := c) (st := st) (k := k); omega)) ?_
            show X (98, [some (.ref 34), some (.ref 8), some (.int (nI t)), some (.int a), some (.int b), some (.int c), some (.int (nI (4 + n))), some (.int (nI (4 + k))), some (.int (Int32.ofInt (st k))), none, none], [], (hI (hI h 36 (h.1 35 1) a) 35 1 (h.1 35 1 + 1)))
            refine go hX 3 (gs := [True, True, True]) (z' := (20, [some (.ref 34), some (.ref 8), some (.int (nI t)), some (.int a), some (.int b), some (.int c), some (.int (nI (4 + n))), some (.int ((nI (4 + k)) + 1)), some (.int (Int32.ofInt (st k))), none, none], [], (hI (hI h 36 (h.1 35 1) a) 35 1 (h.1 35 1 + 1)))) rfl ⟨trivial, trivial, trivial, trivial⟩ ?_
            rw [tx_1]
            refine ih (k + 1) (Nat.lt_succ_self k) (by omega) _ _ _ _ (Or.inr (Or.inl ⟨_, rfl, rfl, rfl⟩)) ((fr.st (Or.inr rfl)).st (Or.inl ⟨rfl, rfl⟩)) ?_
            have ev := (evS_nam (a := a) (b := b) (c := c) (nlt1 b4) (lt2 b5)).trans (by rw [show (if st k = 10000 then a else if st k = 10001 then b else c) = _ from if_pos (eq1 b17)])
            rw [ev]
            exact P18
          ·
            refine go hX 3 (gs := [True, True, True]) (z' := (if (Int32.ofInt (st k)) = 10001 then 88 else 93, [some (.ref 34), some (.ref 8), some (.int (nI t)), some (.int a), some (.int b), some (.int c), some (.int (nI (4 + n))), some (.int (nI (4 + k))), some (.int (Int32.ofInt (st k))), none, none], [.ref 35], h)) rfl ⟨trivial, trivial, trivial, trivial⟩ ?_
            refine br (fun b19 => ?_) (fun b19 => ?_)
            ·
              refine go hX 2 (gs := [True, True]) (z' := (95, [some (.ref 34), some (.ref 8), some (.int (nI t)), some (.int a), some (.int b), some (.int c), some (.int (nI (4 + n))), some (.int (nI (4 + k))), some (.int (Int32.ofInt (st k))), none, none], [.int b, .ref 35], h)) rfl ⟨trivial, trivial, trivial⟩ ?_
              refine cl hX 23 2 [.ref 35, .int b] [] rfl rfl rfl rfl ?_
              have P20 := P.up (v := b) (by have := evS_le (a := a) (b := b) (c := c) (st := st) (k := k); omega)
              refine c_push35 P.c0 (P.c1 (by have := evS_le (a := a) (b := b) (c := c) (st := st) (k := k); omega)) ?_
              show X (98, [some (.ref 34), some (.ref 8), some (.int (nI t)), some (.int a), some (.int b), some (.int c), some (.int (nI (4 + n))), some (.int (nI (4 + k))), some (.int (Int32.ofInt (st k))), none, none], [], (hI (hI h 36 (h.1 35 1) b) 35 1 (h.1 35 1 + 1)))
              refine go hX 3 (gs := [True, True, True]) (z' := (20, [some (.ref 34), some (.ref 8), some (.int (nI t)), some (.int a), some (.int b), some (.int c), some (.int (nI (4 + n))), some (.int ((nI (4 + k)) + 1)), some (.int (Int32.ofInt (st k))), none, none], [], (hI (hI h 36 (h.1 35 1) b) 35 1 (h.1 35 1 + 1)))) rfl ⟨trivial, trivial, trivial, trivial⟩ ?_
              rw [tx_1]
              refine ih (k + 1) (Nat.lt_succ_self k) (by omega) _ _ _ _ (Or.inr (Or.inl ⟨_, rfl, rfl, rfl⟩)) ((fr.st (Or.inr rfl)).st (Or.inl ⟨rfl, rfl⟩)) ?_
              have ev := (evS_nam (a := a) (b := b) (c := c) (nlt1 b4) (lt2 b5)).trans (by rw [show (if st k = 10000 then a else if st k = 10001 then b else c) = _ from (if_neg (ne1 b17)).trans (if_pos (eq2 b19))])
              rw [ev]
              exact P20
            ·
              refine go hX 1 (gs := [True]) (z' := (95, [some (.ref 34), some (.ref 8), some (.int (nI t)), some (.int a), some (.int b), some (.int c), some (.int (nI (4 + n))), some (.int (nI (4 + k))), some (.int (Int32.ofInt (st k))), none, none], [.int c, .ref 35], h)) rfl ⟨trivial, trivial⟩ ?_
              refine cl hX 23 2 [.ref 35, .int c] [] rfl rfl rfl rfl ?_
              have P21 := P.up (v := c) (by have := evS_le (a := a) (b := b) (c := c) (st := st) (k := k); omega)
              refine c_push35 P.c0 (P.c1 (by have := evS_le (a := a) (b := b) (c := c) (st := st) (k := k); omega)) ?_
              show X (98, [some (.ref 34), some (.ref 8), some (.int (nI t)), some (.int a), some (.int b), some (.int c), some (.int (nI (4 + n))), some (.int (nI (4 + k))), some (.int (Int32.ofInt (st k))), none, none], [], (hI (hI h 36 (h.1 35 1) c) 35 1 (h.1 35 1 + 1)))
              refine go hX 3 (gs := [True, True, True]) (z' := (20, [some (.ref 34), some (.ref 8), some (.int (nI t)), some (.int a), some (.int b), some (.int c), some (.int (nI (4 + n))), some (.int ((nI (4 + k)) + 1)), some (.int (Int32.ofInt (st k))), none, none], [], (hI (hI h 36 (h.1 35 1) c) 35 1 (h.1 35 1 + 1)))) rfl ⟨trivial, trivial, trivial, trivial⟩ ?_
              rw [tx_1]
              refine ih (k + 1) (Nat.lt_succ_self k) (by omega) _ _ _ _ (Or.inr (Or.inl ⟨_, rfl, rfl, rfl⟩)) ((fr.st (Or.inr rfl)).st (Or.inl ⟨rfl, rfl⟩)) ?_
              have ev := (evS_nam (a := a) (b := b) (c := c) (nlt1 b4) (lt2 b5)).trans (by rw [show (if st k = 10000 then a else if st k = 10001 then b else c) = _ from (if_neg (ne1 b17)).trans (if_neg (ne2 b19))])
              rw [ev]
              exact P21
      ·
        refine go hX 3 (gs := [True, True, True]) (z' := (50, [some (.ref 34), some (.ref 8), some (.int (nI t)), some (.int a), some (.int b), some (.int c), some (.int (nI (4 + n))), some (.int (nI (4 + k))), some (.int (Int32.ofInt (st k))), none, none], [.int (Int32.ofInt (st k)), .ref 35], h)) rfl ⟨trivial, trivial, trivial, trivial⟩ ?_
        refine cl hX 23 2 [.ref 35, .int (Int32.ofInt (st k))] [] rfl rfl rfl rfl ?_
        have P22 := P.up (v := (Int32.ofInt (st k))) (by have := evS_le (a := a) (b := b) (c := c) (st := st) (k := k); omega)
        refine c_push35 P.c0 (P.c1 (by have := evS_le (a := a) (b := b) (c := c) (st := st) (k := k); omega)) ?_
        show X (53, [some (.ref 34), some (.ref 8), some (.int (nI t)), some (.int a), some (.int b), some (.int c), some (.int (nI (4 + n))), some (.int (nI (4 + k))), some (.int (Int32.ofInt (st k))), none, none], [], (hI (hI h 36 (h.1 35 1) (Int32.ofInt (st k))) 35 1 (h.1 35 1 + 1)))
        refine go hX 3 (gs := [True, True, True]) (z' := (20, [some (.ref 34), some (.ref 8), some (.int (nI t)), some (.int a), some (.int b), some (.int c), some (.int (nI (4 + n))), some (.int ((nI (4 + k)) + 1)), some (.int (Int32.ofInt (st k))), none, none], [], (hI (hI h 36 (h.1 35 1) (Int32.ofInt (st k))) 35 1 (h.1 35 1 + 1)))) rfl ⟨trivial, trivial, trivial, trivial⟩ ?_
        rw [tx_1]
        refine ih (k + 1) (Nat.lt_succ_self k) (by omega) _ _ _ _ (Or.inr (Or.inl ⟨_, rfl, rfl, rfl⟩)) ((fr.st (Or.inr rfl)).st (Or.inl ⟨rfl, rfl⟩)) ?_
        have ev := evS_num (a := a) (b := b) (c := c) (lt1 b4)
        rw [ev]
        exact P22
  ·
    refine go hX 3 (gs := [True, True, True]) (z' := (if (nI (4 + n)) ≤ (nI (4 + k)) then 181 else 27, [some (.ref 34), some (.ref 8), some (.int (nI t)), some (.int a), some (.int b), some (.int c), some (.int (nI (4 + n))), some (.int (nI (4 + k))), some (.int x8), none, none], [], h)) rfl ⟨trivial, trivial, trivial, trivial⟩ ?_
    refine br (fun b1 => ?_) (fun b1 => ?_)
    ·
      have e : k = n := by
        have := (tx_le (a := 4 + n) (b := 4 + k) (by omega) (by omega)).mp b1
        omega
      rw [e] at P
      refine go hX 2 (gs := [True, True]) (z' := (185, [some (.ref 34), some (.ref 8), some (.int (nI t)), some (.int a), some (.int b), some (.int c), some (.int (nI (4 + n))), some (.int (nI (4 + k))), some (.int x8), none, none], [.ref 35], h)) rfl ⟨trivial, trivial, trivial⟩ ?_
      refine cl hX 26 1 [.ref 35] [] rfl rfl rfl rfl ?_
      obtain ⟨r, hr⟩ := List.length_eq_one_iff.mp (W.one a b c)
      rw [hr] at P
      obtain ⟨e3, P2⟩ := P.dn
      refine c_pop35 P.p0 P.p1 ?_
      rw [e3]
      show X (188, [some (.ref 34), some (.ref 8), some (.int (nI t)), some (.int a), some (.int b), some (.int c), some (.int (nI (4 + n))), some (.int (nI (4 + k))), some (.int x8), none, none], [.int r], (hI h 35 1 (h.1 35 1 - 1)))
      refine rt_ hX (G := True) (r := some (.int r)) rfl trivial ?_
      exact K _ _ (fr.st (Or.inl ⟨rfl, rfl⟩)) hr
    ·
      have kn : k < n := Nat.lt_of_not_le (fun z => b1 ((tx_le (by omega) (by omega)).mpr (by omega)))
      have sb := W.bd kn
      have hst : h.1 9 ((nI t * 100) + nI (4 + k)) = Int32.ofInt (st k) := by
        rw [fr.1 9 _ (by omega), hs k kn]
        exact (Int32.ofInt_toInt _).symm
      have lt1 : ¬ 10000 ≤ Int32.ofInt (st k) → st k < 10000 := fun q => by rw [Int32.le_iff_toInt_le, sb.1] at q; exact Int.not_le.mp q
      have nlt1 : 10000 ≤ Int32.ofInt (st k) → ¬ st k < 10000 := fun q => by rw [Int32.le_iff_toInt_le, sb.1] at q; exact Int.not_lt.mpr q
      have lt2 : ¬ 20000 ≤ Int32.ofInt (st k) → st k < 20000 := fun q => by rw [Int32.le_iff_toInt_le, sb.1] at q; exact Int.not_le.mp q
      have nlt2 : 20000 ≤ Int32.ofInt (st k) → ¬ st k < 20000 := fun q => by rw [Int32.le_iff_toInt_le, sb.1] at q; exact Int.not_lt.mpr q
      have eq1 : Int32.ofInt (st k) = 10000 → st k = 10000 := fun q => by rw [← Int32.toInt_inj, sb.1] at q; exact q
      have ne1 : ¬ Int32.ofInt (st k) = 10000 → ¬ st k = 10000 := fun q => by rw [← Int32.toInt_inj, sb.1] at q; exact q
      have eq2 : Int32.ofInt (st k) = 10001 → st k = 10001 := fun q => by rw [← Int32.toInt_inj, sb.1] at q; exact q
      have ne2 : ¬ Int32.ofInt (st k) = 10001 → ¬ st k = 10001 := fun q => by rw [← Int32.toInt_inj, sb.1] at q; exact q
      have t0 : (0 : Int32) ≤ nI t := tx_0 t (by omega)
      have t1 : nI t < h.1 8 2 := by rw [fr.1 8 _ (by omega), etx]; exact (tx_lt (by omega) (by omega)).mpr ht
      have tm : h.1 8 2 ≤ 12 := by rw [fr.1 8 _ (by omega), etx]; exact (tx_le (b := 12) (by omega) (by decide)).mpr htx
      refine go hX 3 (gs := [True, True, True]) (z' := (31, [some (.ref 34), some (.ref 8), some (.int (nI t)), some (.int a), some (.int b), some (.int c), some (.int (nI (4 + n))), some (.int (nI (4 + k))), some (.int x8), none, none], [.int (nI (4 + k)), .int (nI t), .ref 8], h)) rfl ⟨trivial, trivial, trivial, trivial⟩ ?_
      refine cl hX 94 3 [.ref 8, .int (nI t), .int (nI (4 + k))] [] rfl rfl rfl rfl ?_
      refine c_getX t0 t1 tm (tx_0 _ (by omega)) ((tx_lt (b := 100) (by omega) (by decide)).mpr (by omega)) ?_
      rw [hst]
      show X (34, [some (.ref 34), some (.ref 8), some (.int (nI t)), some (.int a), some (.int b), some (.int c), some (.int (nI (4 + n))), some (.int (nI (4 + k))), some (.int x8), none, none], [.int (Int32.ofInt (st k))], h)
      refine go hX 4 (gs := [True, True, True, True]) (z' := (if 10000 ≤ (Int32.ofInt (st k)) then 56 else 44, [some (.ref 34), some (.ref 8), some (.int (nI t)), some (.int a), some (.int b), some (.int c), some (.int (nI (4 + n))), some (.int (nI (4 + k))), some (.int (Int32.ofInt (st k))), none, none], [], h)) rfl ⟨trivial, trivial, trivial, trivial, trivial⟩ ?_
      refine br (fun b4 => ?_) (fun b4 => ?_)
      ·
        refine go hX 3 (gs := [True, True, True]) (z' := (if 20000 ≤ (Int32.ofInt (st k)) then 101 else 64, [some (.ref 34), some (.ref 8), some (.int (nI t)), some (.int a), some (.int b), some (.int c), some (.int (nI (4 + n))), some (.int (nI (4 + k))), some (.int (Int32.ofInt (st k))), none, none], [], h)) rfl ⟨trivial, trivial, trivial, trivial⟩ ?_
        refine br (fun b5 => ?_) (fun b5 => ?_)
        ·
          refine go hX 3 (gs := [True, True, True]) (z' := (if (Int32.ofInt (st k)) = 20033 then 109 else 137, [some (.ref 34), some (.ref 8), some (.int (nI t)), some (.int a), some (.int b), some (.int c), some (.int (nI (4 + n))), some (.int (nI (4 + k))), some (.int (Int32.ofInt (st k))), none, none], [], h)) rfl ⟨trivial, trivial, trivial, trivial⟩ ?_
          refine br (fun b6 => ?_) (fun b6 => ?_)
          ·
            refine go hX 4 (gs := [True, True, True, True]) (z' := (117, [some (.ref 34), some (.ref 8), some (.int (nI t)), some (.int a), some (.int b), some (.int c), some (.int (nI (4 + n))), some (.int (nI (4 + k))), some (.int (Int32.ofInt (st k))), none, none], [.ref 35, .ref 35], h)) rfl ⟨trivial, trivial, trivial, trivial, trivial⟩ ?_
            refine cl hX 26 1 [.ref 35] [.ref 35] rfl rfl rfl rfl ?_
            have s33 : st k = 20033 := by rw [← sb.1, b6]; rfl
            obtain ⟨x, S, hS⟩ := len1 ((W.ln a b c k kn).1 s33)
            rw [hS] at P
            obtain ⟨e8, P7⟩ := P.dn
            refine c_pop35 P.p0 P.p1 ?_
            rw [e8]
            show X (120, [some (.ref 34), some (.ref 8), some (.int (nI t)), some (.int a), some (.int b), some (.int c), some (.int (nI (4 + n))), some (.int (nI (4 + k))), some (.int (Int32.ofInt (st k))), none, none], [.int x, .ref 35], (hI h 35 1 (h.1 35 1 - 1)))
            refine go hX 1 (gs := [True]) (z' := (if x = 0 then 123 else 127, [some (.ref 34), some (.ref 8), some (.int (nI t)), some (.int a), some (.int b), some (.int c), some (.int (nI (4 + n))), some (.int (nI (4 + k))), some (.int (Int32.ofInt (st k))), none, none], [.ref 35], (hI h 35 1 (h.1 35 1 - 1)))) rfl ⟨trivial, trivial⟩ ?_
            refine br (fun b9 => ?_) (fun b9 => ?_)
            ·
              refine go hX 2 (gs := [True, True]) (z' := (128, [some (.ref 34), some (.ref 8), some (.int (nI t)), some (.int a), some (.int b), some (.int c), some (.int (nI (4 + n))), some (.int (nI (4 + k))), some (.int (Int32.ofInt (st k))), none, none], [.int 1, .ref 35], (hI h 35 1 (h.1 35 1 - 1)))) rfl ⟨trivial, trivial, trivial⟩ ?_
              refine cl hX 51 1 [.int 1] [.ref 35] rfl rfl rfl rfl ?_
              refine c_isTr ?_
              show X (131, [some (.ref 34), some (.ref 8), some (.int (nI t)), some (.int a), some (.int b), some (.int c), some (.int (nI (4 + n))), some (.int (nI (4 + k))), some (.int (Int32.ofInt (st k))), none, none], [.int 1, .ref 35], (hI h 35 1 (h.1 35 1 - 1)))
              refine cl hX 23 2 [.ref 35, .int 1] [] rfl rfl rfl rfl ?_
              have P10 := P7.up (v := 1) (by have := P.ln; simp only [List.length_cons] at this; omega)
              refine c_push35 P7.c0 (P7.c1 (by have := P.ln; simp only [List.length_cons] at this; omega)) ?_
              show X (134, [some (.ref 34), some (.ref 8), some (.int (nI t)), some (.int a), some (.int b), some (.int c), some (.int (nI (4 + n))), some (.int (nI (4 + k))), some (.int (Int32.ofInt (st k))), none, none], [], (hI (hI (hI h 35 1 (h.1 35 1 - 1)) 36 ((hI h 35 1 (h.1 35 1 - 1)).1 35 1) 1) 35 1 ((hI h 35 1 (h.1 35 1 - 1)).1 35 1 + 1)))
              refine go hX 3 (gs := [True, True, True]) (z' := (20, [some (.ref 34), some (.ref 8), some (.int (nI t)), some (.int a), some (.int b), some (.int c), some (.int (nI (4 + n))), some (.int ((nI (4 + k)) + 1)), some (.int (Int32.ofInt (st k))), none, none], [], (hI (hI (hI h 35 1 (h.1 35 1 - 1)) 36 ((hI h 35 1 (h.1 35 1 - 1)).1 35 1) 1) 35 1 ((hI h 35 1 (h.1 35 1 - 1)).1 35 1 + 1)))) rfl ⟨trivial, trivial, trivial, trivial⟩ ?_
              rw [tx_1]
              refine ih (k + 1) (Nat.lt_succ_self k) (by omega) _ _ _ _ (Or.inr (Or.inl ⟨_, rfl, rfl, rfl⟩)) (((fr.st (Or.inl ⟨rfl, rfl⟩)).st (Or.inr rfl)).st (Or.inl ⟨rfl, rfl⟩)) ?_
              have ev := (evS_not s33 hS).trans (by rw [if_pos b9])
              rw [ev]
              exact P10
            ·
              refine go hX 1 (gs := [True]) (z' := (128, [some (.ref 34), some (.ref 8), some (.int (nI t)), some (.int a), some (.int b), some (.int c), some (.int (nI (4 + n))), some (.int (nI (4 + k))), some (.int (Int32.ofInt (st k))), none, none], [.int 0, .ref 35], (hI h 35 1 (h.1 35 1 - 1)))) rfl ⟨trivial, trivial⟩ ?_
              refine cl hX 51 1 [.int 0] [.ref 35] rfl rfl rfl rfl ?_
              refine c_isTr0 ?_
              show X (131, [some (.ref 34), some (.ref 8), some (.int (nI t)), some (.int a), some (.int b), some (.int c), some (.int (nI (4 + n))), some (.int (nI (4 + k))), some (.int (Int32.ofInt (st k))), none, none], [.int 0, .ref 35], (hI h 35 1 (h.1 35 1 - 1)))
              refine cl hX 23 2 [.ref 35, .int 0] [] rfl rfl rfl rfl ?_
              have P11 := P7.up (v := 0) (by have := P.ln; simp only [List.length_cons] at this; omega)
              refine c_push35 P7.c0 (P7.c1 (by have := P.ln; simp only [List.length_cons] at this; omega)) ?_
              show X (134, [some (.ref 34), some (.ref 8), some (.int (nI t)), some (.int a), some (.int b), some (.int c), some (.int (nI (4 + n))), some (.int (nI (4 + k))), some (.int (Int32.ofInt (st k))), none, none], [], (hI (hI (hI h 35 1 (h.1 35 1 - 1)) 36 ((hI h 35 1 (h.1 35 1 - 1)).1 35 1) 0) 35 1 ((hI h 35 1 (h.1 35 1 - 1)).1 35 1 + 1)))
              refine go hX 3 (gs := [True, True, True]) (z' := (20, [some (.ref 34), some (.ref 8), some (.int (nI t)), some (.int a), some (.int b), some (.int c), some (.int (nI (4 + n))), some (.int ((nI (4 + k)) + 1)), some (.int (Int32.ofInt (st k))), none, none], [], (hI (hI (hI h 35 1 (h.1 35 1 - 1)) 36 ((hI h 35 1 (h.1 35 1 - 1)).1 35 1) 0) 35 1 ((hI h 35 1 (h.1 35 1 - 1)).1 35 1 + 1)))) rfl ⟨trivial, trivial, trivial, trivial⟩ ?_
              rw [tx_1]
              refine ih (k + 1) (Nat.lt_succ_self k) (by omega) _ _ _ _ (Or.inr (Or.inl ⟨_, rfl, rfl, rfl⟩)) (((fr.st (Or.inl ⟨rfl, rfl⟩)).st (Or.inr rfl)).st (Or.inl ⟨rfl, rfl⟩)) ?_
              have ev := (evS_not s33 hS).trans (by rw [if_neg b9])
              rw [ev]
              exact P11
          ·
            refine go hX 2 (gs := [True, True]) (z' := (141, [some (.ref 34), some (.ref 8), some (.int (nI t)), some (.int a), some (.int b), some (.int c), some (.int (nI (4 + n))), some (.int (nI (4 + k))), some (.int (Int32.ofInt (st k))), none, none], [.ref 35], h)) rfl ⟨trivial, trivial, trivial⟩ ?_
            refine cl hX 26 1 [.ref 35] [] rfl rfl rfl rfl ?_
            have sg : isSg (st k - 20000) := by
              rcases W.ok k kn with q | q | q | q
              · exact absurd q.2 (nlt1 b4)
              · exact absurd (show st k < 20000 by omega) (nlt2 b5)
              · exact absurd (Int32.toInt_inj.mp (by rw [sb.1, q]; rfl)) b6
              · exact q
            obtain ⟨y, x, S, hS⟩ := len2 ((W.ln a b c k kn).2 sg)
            rw [hS] at P
            obtain ⟨e13, P12⟩ := P.dn
            refine c_pop35 P.p0 P.p1 ?_
            rw [e13]
            show X (144, [some (.ref 34), some (.ref 8), some (.int (nI t)), some (.int a), some (.int b), some (.int c), some (.int (nI (4 + n))), some (.int (nI (4 + k))), some (.int (Int32.ofInt (st k))), none, none], [.int y], (hI h 35 1 (h.1 35 1 - 1)))
            refine go hX 3 (gs := [True, True, True]) (z' := (150, [some (.ref 34), some (.ref 8), some (.int (nI t)), some (.int a), some (.int b), some (.int c), some (.int (nI (4 + n))), some (.int (nI (4 + k))), some (.int (Int32.ofInt (st k))), some (.int y), none], [.ref 35], (hI h 35 1 (h.1 35 1 - 1)))) rfl ⟨trivial, trivial, trivial, trivial⟩ ?_
            refine cl hX 26 1 [.ref 35] [] rfl rfl rfl rfl ?_
            obtain ⟨e15, P14⟩ := P12.dn
            refine c_pop35 P12.p0 P12.p1 ?_
            rw [e15]
            show X (153, [some (.ref 34), some (.ref 8), some (.int (nI t)), some (.int a), some (.int b), some (.int c), some (.int (nI (4 + n))), some (.int (nI (4 + k))), some (.int (Int32.ofInt (st k))), some (.int y), none], [.int x], (hI (hI h 35 1 (h.1 35 1 - 1)) 35 1 ((hI h 35 1 (h.1 35 1 - 1)).1 35 1 - 1)))
            refine go hX 8 (gs := [True, True, True, True, True, True, True, True]) (z' := (169, [some (.ref 34), some (.ref 8), some (.int (nI t)), some (.int a), some (.int b), some (.int c), some (.int (nI (4 + n))), some (.int (nI (4 + k))), some (.int (Int32.ofInt (st k))), some (.int y), some (.int x)], [.int y, .int x, .int ((Int32.ofInt (st k)) - 20000), .ref 35], (hI (hI h 35 1 (h.1 35 1 - 1)) 35 1 ((hI h 35 1 (h.1 35 1 - 1)).1 35 1 - 1)))) rfl ⟨trivial, trivial, trivial, trivial, trivial, trivial, trivial, trivial, trivial⟩ ?_
            refine cl hX 50 3 [.int ((Int32.ofInt (st k)) - 20000), .int x, .int y] [.ref 35] rfl rfl rfl rfl ?_
            refine c_join ?_
            rw [show Int32.ofInt (st k) - 20000 = Int32.ofInt (st k - 20000) from ofI_sub sb, jnA_eq sg]
            show X (172, [some (.ref 34), some (.ref 8), some (.int (nI t)), some (.int a), some (.int b), some (.int c), some (.int (nI (4 + n))), some (.int (nI (4 + k))), some (.int (Int32.ofInt (st k))), some (.int y), some (.int x)], [.int (jn (st k - 20000) x y), .ref 35], (hI (hI h 35 1 (h.1 35 1 - 1)) 35 1 ((hI h 35 1 (h.1 35 1 - 1)).1 35 1 - 1)))
            refine cl hX 23 2 [.ref 35, .int (jn (st k - 20000) x y)] [] rfl rfl rfl rfl ?_
            have P16 := P14.up (v := (jn (st k - 20000) x y)) (by have := P.ln; simp only [List.length_cons] at this; omega)
            refine c_push35 P14.c0 (P14.c1 (by have := P.ln; simp only [List.length_cons] at this; omega)) ?_
            show X (175, [some (.ref 34), some (.ref 8), some (.int (nI t)), some (.int a), some (.int b), some (.int c), some (.int (nI (4 + n))), some (.int (nI (4 + k))), some (.int (Int32.ofInt (st k))), some (.int y), some (.int x)], [], (hI (hI (hI (hI h 35 1 (h.1 35 1 - 1)) 35 1 ((hI h 35 1 (h.1 35 1 - 1)).1 35 1 - 1)) 36 ((hI (hI h 35 1 (h.1 35 1 - 1)) 35 1 ((hI h 35 1 (h.1 35 1 - 1)).1 35 1 - 1)).1 35 1) (jn (st k - 20000) x y)) 35 1 ((hI (hI h 35 1 (h.1 35 1 - 1)) 35 1 ((hI h 35 1 (h.1 35 1 - 1)).1 35 1 - 1)).1 35 1 + 1)))
            refine go hX 2 (gs := [True, True]) (z' := (20, [some (.ref 34), some (.ref 8), some (.int (nI t)), some (.int a), some (.int b), some (.int c), some (.int (nI (4 + n))), some (.int ((nI (4 + k)) + 1)), some (.int (Int32.ofInt (st k))), some (.int y), some (.int x)], [], (hI (hI (hI (hI h 35 1 (h.1 35 1 - 1)) 35 1 ((hI h 35 1 (h.1 35 1 - 1)).1 35 1 - 1)) 36 ((hI (hI h 35 1 (h.1 35 1 - 1)) 35 1 ((hI h 35 1 (h.1 35 1 - 1)).1 35 1 - 1)).1 35 1) (jn (st k - 20000) x y)) 35 1 ((hI (hI h 35 1 (h.1 35 1 - 1)) 35 1 ((hI h 35 1 (h.1 35 1 - 1)).1 35 1 - 1)).1 35 1 + 1)))) rfl ⟨trivial, trivial, trivial⟩ ?_
            rw [tx_1]
            refine ih (k + 1) (Nat.lt_succ_self k) (by omega) _ _ _ _ (Or.inr (Or.inr ⟨_, _, _, rfl, rfl, rfl⟩)) ((((fr.st (Or.inl ⟨rfl, rfl⟩)).st (Or.inl ⟨rfl, rfl⟩)).st (Or.inr rfl)).st (Or.inl ⟨rfl, rfl⟩)) ?_
            have ev := evS_two sg hS
            rw [ev]
            exact P16
        ·
          refine go hX 5 (gs := [True, True, True, True, True]) (z' := (if (Int32.ofInt (st k)) = 10000 then 76 else 80, [some (.ref 34), some (.ref 8), some (.int (nI t)), some (.int a), some (.int b), some (.int c), some (.int (nI (4 + n))), some (.int (nI (4 + k))), some (.int (Int32.ofInt (st k))), none, none], [.ref 35], h)) rfl ⟨trivial, trivial, trivial, trivial, trivial, trivial⟩ ?_
          refine br (fun b17 => ?_) (fun b17 => ?_)
          ·
            refine go hX 2 (gs := [True, True]) (z' := (95, [some (.ref 34), some (.ref 8), some (.int (nI t)), some (.int a), some (.int b), some (.int c), some (.int (nI (4 + n))), some (.int (nI (4 + k))), some (.int (Int32.ofInt (st k))), none, none], [.int a, .ref 35], h)) rfl ⟨trivial, trivial, trivial⟩ ?_
            refine cl hX 23 2 [.ref 35, .int a] [] rfl rfl rfl rfl ?_
            have P18 := P.up (v := a) (by have := evS_le (a := a) (b := b) (c := c) (st := st) (k := k); omega)
            refine c_push35 P.c0 (P.c1 (by have := evS_le (a := a) (b := b) (c := c) (st := st) (k := k); omega)) ?_
            show X (98, [some (.ref 34), some (.ref 8), some (.int (nI t)), some (.int a), some (.int b), some (.int c), some (.int (nI (4 + n))), some (.int (nI (4 + k))), some (.int (Int32.ofInt (st k))), none, none], [], (hI (hI h 36 (h.1 35 1) a) 35 1 (h.1 35 1 + 1)))
            refine go hX 3 (gs := [True, True, True]) (z' := (20, [some (.ref 34), some (.ref 8), some (.int (nI t)), some (.int a), some (.int b), some (.int c), some (.int (nI (4 + n))), some (.int ((nI (4 + k)) + 1)), some (.int (Int32.ofInt (st k))), none, none], [], (hI (hI h 36 (h.1 35 1) a) 35 1 (h.1 35 1 + 1)))) rfl ⟨trivial, trivial, trivial, trivial⟩ ?_
            rw [tx_1]
            refine ih (k + 1) (Nat.lt_succ_self k) (by omega) _ _ _ _ (Or.inr (Or.inl ⟨_, rfl, rfl, rfl⟩)) ((fr.st (Or.inr rfl)).st (Or.inl ⟨rfl, rfl⟩)) ?_
            have ev := (evS_nam (a := a) (b := b) (c := c) (nlt1 b4) (lt2 b5)).trans (by rw [show (if st k = 10000 then a else if st k = 10001 then b else c) = _ from if_pos (eq1 b17)])
            rw [ev]
            exact P18
          ·
            refine go hX 3 (gs := [True, True, True]) (z' := (if (Int32.ofInt (st k)) = 10001 then 88 else 93, [some (.ref 34), some (.ref 8), some (.int (nI t)), some (.int a), some (.int b), some (.int c), some (.int (nI (4 + n))), some (.int (nI (4 + k))), some (.int (Int32.ofInt (st k))), none, none], [.ref 35], h)) rfl ⟨trivial, trivial, trivial, trivial⟩ ?_
            refine br (fun b19 => ?_) (fun b19 => ?_)
            ·
              refine go hX 2 (gs := [True, True]) (z' := (95, [some (.ref 34), some (.ref 8), some (.int (nI t)), some (.int a), some (.int b), some (.int c), some (.int (nI (4 + n))), some (.int (nI (4 + k))), some (.int (Int32.ofInt (st k))), none, none], [.int b, .ref 35], h)) rfl ⟨trivial, trivial, trivial⟩ ?_
              refine cl hX 23 2 [.ref 35, .int b] [] rfl rfl rfl rfl ?_
              have P20 := P.up (v := b) (by have := evS_le (a := a) (b := b) (c := c) (st := st) (k := k); omega)
              refine c_push35 P.c0 (P.c1 (by have := evS_le (a := a) (b := b) (c := c) (st := st) (k := k); omega)) ?_
              show X (98, [some (.ref 34), some (.ref 8), some (.int (nI t)), some (.int a), some (.int b), some (.int c), some (.int (nI (4 + n))), some (.int (nI (4 + k))), some (.int (Int32.ofInt (st k))), none, none], [], (hI (hI h 36 (h.1 35 1) b) 35 1 (h.1 35 1 + 1)))
              refine go hX 3 (gs := [True, True, True]) (z' := (20, [some (.ref 34), some (.ref 8), some (.int (nI t)), some (.int a), some (.int b), some (.int c), some (.int (nI (4 + n))), some (.int ((nI (4 + k)) + 1)), some (.int (Int32.ofInt (st k))), none, none], [], (hI (hI h 36 (h.1 35 1) b) 35 1 (h.1 35 1 + 1)))) rfl ⟨trivial, trivial, trivial, trivial⟩ ?_
              rw [tx_1]
              refine ih (k + 1) (Nat.lt_succ_self k) (by omega) _ _ _ _ (Or.inr (Or.inl ⟨_, rfl, rfl, rfl⟩)) ((fr.st (Or.inr rfl)).st (Or.inl ⟨rfl, rfl⟩)) ?_
              have ev := (evS_nam (a := a) (b := b) (c := c) (nlt1 b4) (lt2 b5)).trans (by rw [show (if st k = 10000 then a else if st k = 10001 then b else c) = _ from (if_neg (ne1 b17)).trans (if_pos (eq2 b19))])
              rw [ev]
              exact P20
            ·
              refine go hX 1 (gs := [True]) (z' := (95, [some (.ref 34), some (.ref 8), some (.int (nI t)), some (.int a), some (.int b), some (.int c), some (.int (nI (4 + n))), some (.int (nI (4 + k))), some (.int (Int32.ofInt (st k))), none, none], [.int c, .ref 35], h)) rfl ⟨trivial, trivial⟩ ?_
              refine cl hX 23 2 [.ref 35, .int c] [] rfl rfl rfl rfl ?_
              have P21 := P.up (v := c) (by have := evS_le (a := a) (b := b) (c := c) (st := st) (k := k); omega)
              refine c_push35 P.c0 (P.c1 (by have := evS_le (a := a) (b := b) (c := c) (st := st) (k := k); omega)) ?_
              show X (98, [some (.ref 34), some (.ref 8), some (.int (nI t)), some (.int a), some (.int b), some (.int c), some (.int (nI (4 + n))), some (.int (nI (4 + k))), some (.int (Int32.ofInt (st k))), none, none], [], (hI (hI h 36 (h.1 35 1) c) 35 1 (h.1 35 1 + 1)))
              refine go hX 3 (gs := [True, True, True]) (z' := (20, [some (.ref 34), some (.ref 8), some (.int (nI t)), some (.int a), some (.int b), some (.int c), some (.int (nI (4 + n))), some (.int ((nI (4 + k)) + 1)), some (.int (Int32.ofInt (st k))), none, none], [], (hI (hI h 36 (h.1 35 1) c) 35 1 (h.1 35 1 + 1)))) rfl ⟨trivial, trivial, trivial, trivial⟩ ?_
              rw [tx_1]
              refine ih (k + 1) (Nat.lt_succ_self k) (by omega) _ _ _ _ (Or.inr (Or.inl ⟨_, rfl, rfl, rfl⟩)) ((fr.st (Or.inr rfl)).st (Or.inl ⟨rfl, rfl⟩)) ?_
              have ev := (evS_nam (a := a) (b := b) (c := c) (nlt1 b4) (lt2 b5)).trans (by rw [show (if st k = 10000 then a else if st k = 10001 then b else c) = _ from (if_neg (ne1 b17)).trans (if_neg (ne2 b19))])
              rw [ev]
              exact P21
      ·
        refine go hX 3 (gs := [True, True, True]) (z' := (50, [some (.ref 34), some (.ref 8), some (.int (nI t)), some (.int a), some (.int b), some (.int c), some (.int (nI (4 + n))), some (.int (nI (4 + k))), some (.int (Int32.ofInt (st k))), none, none], [.int (Int32.ofInt (st k)), .ref 35], h)) rfl ⟨trivial, trivial, trivial, trivial⟩ ?_
        refine cl hX 23 2 [.ref 35, .int (Int32.ofInt (st k))] [] rfl rfl rfl rfl ?_
        have P22 := P.up (v := (Int32.ofInt (st k))) (by have := evS_le (a := a) (b := b) (c := c) (st := st) (k := k); omega)
        refine c_push35 P.c0 (P.c1 (by have := evS_le (a := a) (b := b) (c := c) (st := st) (k := k); omega)) ?_
        show X (53, [some (.ref 34), some (.ref 8), some (.int (nI t)), some (.int a), some (.int b), some (.int c), some (.int (nI (4 + n))), some (.int (nI (4 + k))), some (.int (Int32.ofInt (st k))), none, none], [], (hI (hI h 36 (h.1 35 1) (Int32.ofInt (st k))) 35 1 (h.1 35 1 + 1)))
        refine go hX 3 (gs := [True, True, True]) (z' := (20, [some (.ref 34), some (.ref 8), some (.int (nI t)), some (.int a), some (.int b), some (.int c), some (.int (nI (4 + n))), some (.int ((nI (4 + k)) + 1)), some (.int (Int32.ofInt (st k))), none, none], [], (hI (hI h 36 (h.1 35 1) (Int32.ofInt (st k))) 35 1 (h.1 35 1 + 1)))) rfl ⟨trivial, trivial, trivial, trivial⟩ ?_
        rw [tx_1]
        refine ih (k + 1) (Nat.lt_succ_self k) (by omega) _ _ _ _ (Or.inr (Or.inl ⟨_, rfl, rfl, rfl⟩)) ((fr.st (Or.inr rfl)).st (Or.inl ⟨rfl, rfl⟩)) ?_
        have ev := evS_num (a := a) (b := b) (c := c) (lt1 b4)
        rw [ev]
        exact P22
  ·
    refine go hX 3 (gs := [True, True, True]) (z' := (if (nI (4 + n)) ≤ (nI (4 + k)) then 181 else 27, [some (.ref 34), some (.ref 8), some (.int (nI t)), some (.int a), some (.int b), some (.int c), some (.int (nI (4 + n))), some (.int (nI (4 + k))), some (.int x8), some (.int x9), some (.int x10)], [], h)) rfl ⟨trivial, trivial, trivial, trivial⟩ ?_
    refine br (fun b1 => ?_) (fun b1 => ?_)
    ·
      have e : k = n := by
        have := (tx_le (a := 4 + n) (b := 4 + k) (by omega) (by omega)).mp b1
        omega
      rw [e] at P
      refine go hX 2 (gs := [True, True]) (z' := (185, [some (.ref 34), some (.ref 8), some (.int (nI t)), some (.int a), some (.int b), some (.int c), some (.int (nI (4 + n))), some (.int (nI (4 + k))), some (.int x8), some (.int x9), some (.int x10)], [.ref 35], h)) rfl ⟨trivial, trivial, trivial⟩ ?_
      refine cl hX 26 1 [.ref 35] [] rfl rfl rfl rfl ?_
      obtain ⟨r, hr⟩ := List.length_eq_one_iff.mp (W.one a b c)
      rw [hr] at P
      obtain ⟨e3, P2⟩ := P.dn
      refine c_pop35 P.p0 P.p1 ?_
      rw [e3]
      show X (188, [some (.ref 34), some (.ref 8), some (.int (nI t)), some (.int a), some (.int b), some (.int c), some (.int (nI (4 + n))), some (.int (nI (4 + k))), some (.int x8), some (.int x9), some (.int x10)], [.int r], (hI h 35 1 (h.1 35 1 - 1)))
      refine rt_ hX (G := True) (r := some (.int r)) rfl trivial ?_
      exact K _ _ (fr.st (Or.inl ⟨rfl, rfl⟩)) hr
    ·
      have kn : k < n := Nat.lt_of_not_le (fun z => b1 ((tx_le (by omega) (by omega)).mpr (by omega)))
      have sb := W.bd kn
      have hst : h.1 9 ((nI t * 100) + nI (4 + k)) = Int32.ofInt (st k) := by
        rw [fr.1 9 _ (by omega), hs k kn]
        exact (Int32.ofInt_toInt _).symm
      have lt1 : ¬ 10000 ≤ Int32.ofInt (st k) → st k < 10000 := fun q => by rw [Int32.le_iff_toInt_le, sb.1] at q; exact Int.not_le.mp q
      have nlt1 : 10000 ≤ Int32.ofInt (st k) → ¬ st k < 10000 := fun q => by rw [Int32.le_iff_toInt_le, sb.1] at q; exact Int.not_lt.mpr q
      have lt2 : ¬ 20000 ≤ Int32.ofInt (st k) → st k < 20000 := fun q => by rw [Int32.le_iff_toInt_le, sb.1] at q; exact Int.not_le.mp q
      have nlt2 : 20000 ≤ Int32.ofInt (st k) → ¬ st k < 20000 := fun q => by rw [Int32.le_iff_toInt_le, sb.1] at q; exact Int.not_lt.mpr q
      have eq1 : Int32.ofInt (st k) = 10000 → st k = 10000 := fun q => by rw [← Int32.toInt_inj, sb.1] at q; exact q
      have ne1 : ¬ Int32.ofInt (st k) = 10000 → ¬ st k = 10000 := fun q => by rw [← Int32.toInt_inj, sb.1] at q; exact q
      have eq2 : Int32.ofInt (st k) = 10001 → st k = 10001 := fun q => by rw [← Int32.toInt_inj, sb.1] at q; exact q
      have ne2 : ¬ Int32.ofInt (st k) = 10001 → ¬ st k = 10001 := fun q => by rw [← Int32.toInt_inj, sb.1] at q; exact q
      have t0 : (0 : Int32) ≤ nI t := tx_0 t (by omega)
      have t1 : nI t < h.1 8 2 := by rw [fr.1 8 _ (by omega), etx]; exact (tx_lt (by omega) (by omega)).mpr ht
      have tm : h.1 8 2 ≤ 12 := by rw [fr.1 8 _ (by omega), etx]; exact (tx_le (b := 12) (by omega) (by decide)).mpr htx
      refine go hX 3 (gs := [True, True, True]) (z' := (31, [some (.ref 34), some (.ref 8), some (.int (nI t)), some (.int a), some (.int b), some (.int c), some (.int (nI (4 + n))), some (.int (nI (4 + k))), some (.int x8), some (.int x9), some (.int x10)], [.int (nI (4 + k)), .int (nI t), .ref 8], h)) rfl ⟨trivial, trivial, trivial, trivial⟩ ?_
      refine cl hX 94 3 [.ref 8, .int (nI t), .int (nI (4 + k))] [] rfl rfl rfl rfl ?_
      refine c_getX t0 t1 tm (tx_0 _ (by omega)) ((tx_lt (b := 100) (by omega) (by decide)).mpr (by omega)) ?_
      rw [hst]
      show X (34, [some (.ref 34), some (.ref 8), some (.int (nI t)), some (.int a), some (.int b), some (.int c), some (.int (nI (4 + n))), some (.int (nI (4 + k))), some (.int x8), some (.int x9), some (.int x10)], [.int (Int32.ofInt (st k))], h)
      refine go hX 4 (gs := [True, True, True, True]) (z' := (if 10000 ≤ (Int32.ofInt (st k)) then 56 else 44, [some (.ref 34), some (.ref 8), some (.int (nI t)), some (.int a), some (.int b), some (.int c), some (.int (nI (4 + n))), some (.int (nI (4 + k))), some (.int (Int32.ofInt (st k))), some (.int x9), some (.int x10)], [], h)) rfl ⟨trivial, trivial, trivial, trivial, trivial⟩ ?_
      refine br (fun b4 => ?_) (fun b4 => ?_)
      ·
        refine go hX 3 (gs := [True, True, True]) (z' := (if 20000 ≤ (Int32.ofInt (st k)) then 101 else 64, [some (.ref 34), some (.ref 8), some (.int (nI t)), some (.int a), some (.int b), some (.int c), some (.int (nI (4 + n))), some (.int (nI (4 + k))), some (.int (Int32.ofInt (st k))), some (.int x9), some (.int x10)], [], h)) rfl ⟨trivial, trivial, trivial, trivial⟩ ?_
        refine br (fun b5 => ?_) (fun b5 => ?_)
        ·
          refine go hX 3 (gs := [True, True, True]) (z' := (if (Int32.ofInt (st k)) = 20033 then 109 else 137, [some (.ref 34), some (.ref 8), some (.int (nI t)), some (.int a), some (.int b), some (.int c), some (.int (nI (4 + n))), some (.int (nI (4 + k))), some (.int (Int32.ofInt (st k))), some (.int x9), some (.int x10)], [], h)) rfl ⟨trivial, trivial, trivial, trivial⟩ ?_
          refine br (fun b6 => ?_) (fun b6 => ?_)
          ·
            refine go hX 4 (gs := [True, True, True, True]) (z' := (117, [some (.ref 34), some (.ref 8), some (.int (nI t)), some (.int a), some (.int b), some (.int c), some (.int (nI (4 + n))), some (.int (nI (4 + k))), some (.int (Int32.ofInt (st k))), some (.int x9), some (.int x10)], [.ref 35, .ref 35], h)) rfl ⟨trivial, trivial, trivial, trivial, trivial⟩ ?_
            refine cl hX 26 1 [.ref 35] [.ref 35] rfl rfl rfl rfl ?_
            have s33 : st k = 20033 := by rw [← sb.1, b6]; rfl
            obtain ⟨x, S, hS⟩ := len1 ((W.ln a b c k kn).1 s33)
            rw [hS] at P
            obtain ⟨e8, P7⟩ := P.dn
            refine c_pop35 P.p0 P.p1 ?_
            rw [e8]
            show X (120, [some (.ref 34), some (.ref 8), some (.int (nI t)), some (.int a), some (.int b), some (.int c), some (.int (nI (4 + n))), some (.int (nI (4 + k))), some (.int (Int32.ofInt (st k))), some (.int x9), some (.int x10)], [.int x, .ref 35], (hI h 35 1 (h.1 35 1 - 1)))
            refine go hX 1 (gs := [True]) (z' := (if x = 0 then 123 else 127, [some (.ref 34), some (.ref 8), some (.int (nI t)), some (.int a), some (.int b), some (.int c), some (.int (nI (4 + n))), some (.int (nI (4 + k))), some (.int (Int32.ofInt (st k))), some (.int x9), some (.int x10)], [.ref 35], (hI h 35 1 (h.1 35 1 - 1)))) rfl ⟨trivial, trivial⟩ ?_
            refine br (fun b9 => ?_) (fun b9 => ?_)
            ·
              refine go hX 2 (gs := [True, True]) (z' := (128, [some (.ref 34), some (.ref 8), some (.int (nI t)), some (.int a), some (.int b), some (.int c), some (.int (nI (4 + n))), some (.int (nI (4 + k))), some (.int (Int32.ofInt (st k))), some (.int x9), some (.int x10)], [.int 1, .ref 35], (hI h 35 1 (h.1 35 1 - 1)))) rfl ⟨trivial, trivial, trivial⟩ ?_
              refine cl hX 51 1 [.int 1] [.ref 35] rfl rfl rfl rfl ?_
              refine c_isTr ?_
              show X (131, [some (.ref 34), some (.ref 8), some (.int (nI t)), some (.int a), some (.int b), some (.int c), some (.int (nI (4 + n))), some (.int (nI (4 + k))), some (.int (Int32.ofInt (st k))), some (.int x9), some (.int x10)], [.int 1, .ref 35], (hI h 35 1 (h.1 35 1 - 1)))
              refine cl hX 23 2 [.ref 35, .int 1] [] rfl rfl rfl rfl ?_
              have P10 := P7.up (v := 1) (by have := P.ln; simp only [List.length_cons] at this; omega)
              refine c_push35 P7.c0 (P7.c1 (by have := P.ln; simp only [List.length_cons] at this; omega)) ?_
              show X (134, [some (.ref 34), some (.ref 8), some (.int (nI t)), some (.int a), some (.int b), some (.int c), some (.int (nI (4 + n))), some (.int (nI (4 + k))), some (.int (Int32.ofInt (st k))), some (.int x9), some (.int x10)], [], (hI (hI (hI h 35 1 (h.1 35 1 - 1)) 36 ((hI h 35 1 (h.1 35 1 - 1)).1 35 1) 1) 35 1 ((hI h 35 1 (h.1 35 1 - 1)).1 35 1 + 1)))
              refine go hX 3 (gs := [True, True, True]) (z' := (20, [some (.ref 34), some (.ref 8), some (.int (nI t)), some (.int a), some (.int b), some (.int c), some (.int (nI (4 + n))), some (.int ((nI (4 + k)) + 1)), some (.int (Int32.ofInt (st k))), some (.int x9), some (.int x10)], [], (hI (hI (hI h 35 1 (h.1 35 1 - 1)) 36 ((hI h 35 1 (h.1 35 1 - 1)).1 35 1) 1) 35 1 ((hI h 35 1 (h.1 35 1 - 1)).1 35 1 + 1)))) rfl ⟨trivial, trivial, trivial, trivial⟩ ?_
              rw [tx_1]
              refine ih (k + 1) (Nat.lt_succ_self k) (by omega) _ _ _ _ (Or.inr (Or.inr ⟨_, _, _, rfl, rfl, rfl⟩)) (((fr.st (Or.inl ⟨rfl, rfl⟩)).st (Or.inr rfl)).st (Or.inl ⟨rfl, rfl⟩)) ?_
              have ev := (evS_not s33 hS).trans (by rw [if_pos b9])
              rw [ev]
              exact P10
            ·
              refine go hX 1 (gs := [True]) (z' := (128, [some (.ref 34), some (.ref 8), some (.int (nI t)), some (.int a), some (.int b), some (.int c), some (.int (nI (4 + n))), some (.int (nI (4 + k))), some (.int (Int32.ofInt (st k))), some (.int x9), some (.int x10)], [.int 0, .ref 35], (hI h 35 1 (h.1 35 1 - 1)))) rfl ⟨trivial, trivial⟩ ?_
              refine cl hX 51 1 [.int 0] [.ref 35] rfl rfl rfl rfl ?_
              refine c_isTr0 ?_
              show X (131, [some (.ref 34), some (.ref 8), some (.int (nI t)), some (.int a), some (.int b), some (.int c), some (.int (nI (4 + n))), some (.int (nI (4 + k))), some (.int (Int32.ofInt (st k))), some (.int x9), some (.int x10)], [.int 0, .ref 35], (hI h 35 1 (h.1 35 1 - 1)))
              refine cl hX 23 2 [.ref 35, .int 0] [] rfl rfl rfl rfl ?_
              have P11 := P7.up (v := 0) (by have := P.ln; simp only [List.length_cons] at this; omega)
              refine c_push35 P7.c0 (P7.c1 (by have := P.ln; simp only [List.length_cons] at this; omega)) ?_
              show X (134, [some (.ref 34), some (.ref 8), some (.int (nI t)), some (.int a), some (.int b), some (.int c), some (.int (nI (4 + n))), some (.int (nI (4 + k))), some (.int (Int32.ofInt (st k))), some (.int x9), some (.int x10)], [], (hI (hI (hI h 35 1 (h.1 35 1 - 1)) 36 ((hI h 35 1 (h.1 35 1 - 1)).1 35 1) 0) 35 1 ((hI h 35 1 (h.1 35 1 - 1)).1 35 1 + 1)))
              refine go hX 3 (gs := [True, True, True]) (z' := (20, [some (.ref 34), some (.ref 8), some (.int (nI t)), some (.int a), some (.int b), some (.int c), some (.int (nI (4 + n))), some (.int ((nI (4 + k)) + 1)), some (.int (Int32.ofInt (st k))), some (.int x9), some (.int x10)], [], (hI (hI (hI h 35 1 (h.1 35 1 - 1)) 36 ((hI h 35 1 (h.1 35 1 - 1)).1 35 1) 0) 35 1 ((hI h 35 1 (h.1 35 1 - 1)).1 35 1 + 1)))) rfl ⟨trivial, trivial, trivial, trivial⟩ ?_
              rw [tx_1]
              refine ih (k + 1) (Nat.lt_succ_self k) (by omega) _ _ _ _ (Or.inr (Or.inr ⟨_, _, _, rfl, rfl, rfl⟩)) (((fr.st (Or.inl ⟨rfl, rfl⟩)).st (Or.inr rfl)).st (Or.inl ⟨rfl, rfl⟩)) ?_
              have ev := (evS_not s33 hS).trans (by rw [if_neg b9])
              rw [ev]
              exact P11
          ·
            refine go hX 2 (gs := [True, True]) (z' := (141, [some (.ref 34), some (.ref 8), some (.int (nI t)), some (.int a), some (.int b), some (.int c), some (.int (nI (4 + n))), some (.int (nI (4 + k))), some (.int (Int32.ofInt (st k))), some (.int x9), some (.int x10)], [.ref 35], h)) rfl ⟨trivial, trivial, trivial⟩ ?_
            refine cl hX 26 1 [.ref 35] [] rfl rfl rfl rfl ?_
            have sg : isSg (st k - 20000) := by
              rcases W.ok k kn with q | q | q | q
              · exact absurd q.2 (nlt1 b4)
              · exact absurd (show st k < 20000 by omega) (nlt2 b5)
              · exact absurd (Int32.toInt_inj.mp (by rw [sb.1, q]; rfl)) b6
              · exact q
            obtain ⟨y, x, S, hS⟩ := len2 ((W.ln a b c k kn).2 sg)
            rw [hS] at P
            obtain ⟨e13, P12⟩ := P.dn
            refine c_pop35 P.p0 P.p1 ?_
            rw [e13]
            show X (144, [some (.ref 34), some (.ref 8), some (.int (nI t)), some (.int a), some (.int b), some (.int c), some (.int (nI (4 + n))), some (.int (nI (4 + k))), some (.int (Int32.ofInt (st k))), some (.int x9), some (.int x10)], [.int y], (hI h 35 1 (h.1 35 1 - 1)))
            refine go hX 3 (gs := [True, True, True]) (z' := (150, [some (.ref 34), some (.ref 8), some (.int (nI t)), some (.int a), some (.int b), some (.int c), some (.int (nI (4 + n))), some (.int (nI (4 + k))), some (.int (Int32.ofInt (st k))), some (.int y), some (.int x10)], [.ref 35], (hI h 35 1 (h.1 35 1 - 1)))) rfl ⟨trivial, trivial, trivial, trivial⟩ ?_
            refine cl hX 26 1 [.ref 35] [] rfl rfl rfl rfl ?_
            obtain ⟨e15, P14⟩ := P12.dn
            refine c_pop35 P12.p0 P12.p1 ?_
            rw [e15]
            show X (153, [some (.ref 34), some (.ref 8), some (.int (nI t)), some (.int a), some (.int b), some (.int c), some (.int (nI (4 + n))), some (.int (nI (4 + k))), some (.int (Int32.ofInt (st k))), some (.int y), some (.int x10)], [.int x], (hI (hI h 35 1 (h.1 35 1 - 1)) 35 1 ((hI h 35 1 (h.1 35 1 - 1)).1 35 1 - 1)))
            refine go hX 8 (gs := [True, True, True, True, True, True, True, True]) (z' := (169, [some (.ref 34), some (.ref 8), some (.int (nI t)), some (.int a), some (.int b), some (.int c), some (.int (nI (4 + n))), some (.int (nI (4 + k))), some (.int (Int32.ofInt (st k))), some (.int y), some (.int x)], [.int y, .int x, .int ((Int32.ofInt (st k)) - 20000), .ref 35], (hI (hI h 35 1 (h.1 35 1 - 1)) 35 1 ((hI h 35 1 (h.1 35 1 - 1)).1 35 1 - 1)))) rfl ⟨trivial, trivial, trivial, trivial, trivial, trivial, trivial, trivial, trivial⟩ ?_
            refine cl hX 50 3 [.int ((Int32.ofInt (st k)) - 20000), .int x, .int y] [.ref 35] rfl rfl rfl rfl ?_
            refine c_join ?_
            rw [show Int32.ofInt (st k) - 20000 = Int32.ofInt (st k - 20000) from ofI_sub sb, jnA_eq sg]
            show X (172, [some (.ref 34), some (.ref 8), some (.int (nI t)), some (.int a), some (.int b), some (.int c), some (.int (nI (4 + n))), some (.int (nI (4 + k))), some (.int (Int32.ofInt (st k))), some (.int y), some (.int x)], [.int (jn (st k - 20000) x y), .ref 35], (hI (hI h 35 1 (h.1 35 1 - 1)) 35 1 ((hI h 35 1 (h.1 35 1 - 1)).1 35 1 - 1)))
            refine cl hX 23 2 [.ref 35, .int (jn (st k - 20000) x y)] [] rfl rfl rfl rfl ?_
            have P16 := P14.up (v := (jn (st k - 20000) x y)) (by have := P.ln; simp only [List.length_cons] at this; omega)
            refine c_push35 P14.c0 (P14.c1 (by have := P.ln; simp only [List.length_cons] at this; omega)) ?_
            show X (175, [some (.ref 34), some (.ref 8), some (.int (nI t)), some (.int a), some (.int b), some (.int c), some (.int (nI (4 + n))), some (.int (nI (4 + k))), some (.int (Int32.ofInt (st k))), some (.int y), some (.int x)], [], (hI (hI (hI (hI h 35 1 (h.1 35 1 - 1)) 35 1 ((hI h 35 1 (h.1 35 1 - 1)).1 35 1 - 1)) 36 ((hI (hI h 35 1 (h.1 35 1 - 1)) 35 1 ((hI h 35 1 (h.1 35 1 - 1)).1 35 1 - 1)).1 35 1) (jn (st k - 20000) x y)) 35 1 ((hI (hI h 35 1 (h.1 35 1 - 1)) 35 1 ((hI h 35 1 (h.1 35 1 - 1)).1 35 1 - 1)).1 35 1 + 1)))
            refine go hX 2 (gs := [True, True]) (z' := (20, [some (.ref 34), some (.ref 8), some (.int (nI t)), some (.int a), some (.int b), some (.int c), some (.int (nI (4 + n))), some (.int ((nI (4 + k)) + 1)), some (.int (Int32.ofInt (st k))), some (.int y), some (.int x)], [], (hI (hI (hI (hI h 35 1 (h.1 35 1 - 1)) 35 1 ((hI h 35 1 (h.1 35 1 - 1)).1 35 1 - 1)) 36 ((hI (hI h 35 1 (h.1 35 1 - 1)) 35 1 ((hI h 35 1 (h.1 35 1 - 1)).1 35 1 - 1)).1 35 1) (jn (st k - 20000) x y)) 35 1 ((hI (hI h 35 1 (h.1 35 1 - 1)) 35 1 ((hI h 35 1 (h.1 35 1 - 1)).1 35 1 - 1)).1 35 1 + 1)))) rfl ⟨trivial, trivial, trivial⟩ ?_
            rw [tx_1]
            refine ih (k + 1) (Nat.lt_succ_self k) (by omega) _ _ _ _ (Or.inr (Or.inr ⟨_, _, _, rfl, rfl, rfl⟩)) ((((fr.st (Or.inl ⟨rfl, rfl⟩)).st (Or.inl ⟨rfl, rfl⟩)).st (Or.inr rfl)).st (Or.inl ⟨rfl, rfl⟩)) ?_
            have ev := evS_two sg hS
            rw [ev]
            exact P16
        ·
          refine go hX 5 (gs := [True, True, True, True, True]) (z' := (if (Int32.ofInt (st k)) = 10000 then 76 else 80, [some (.ref 34), some (.ref 8), some (.int (nI t)), some (.int a), some (.int b), some (.int c), some (.int (nI (4 + n))), some (.int (nI (4 + k))), some (.int (Int32.ofInt (st k))), some (.int x9), some (.int x10)], [.ref 35], h)) rfl ⟨trivial, trivial, trivial, trivial, trivial, trivial⟩ ?_
          refine br (fun b17 => ?_) (fun b17 => ?_)
          ·
            refine go hX 2 (gs := [True, True]) (z' := (95, [some (.ref 34), some (.ref 8), some (.int (nI t)), some (.int a), some (.int b), some (.int c), some (.int (nI (4 + n))), some (.int (nI (4 + k))), some (.int (Int32.ofInt (st k))), some (.int x9), some (.int x10)], [.int a, .ref 35], h)) rfl ⟨trivial, trivial, trivial⟩ ?_
            refine cl hX 23 2 [.ref 35, .int a] [] rfl rfl rfl rfl ?_
            have P18 := P.up (v := a) (by have := evS_le (a := a) (b := b) (c := c) (st := st) (k := k); omega)
            refine c_push35 P.c0 (P.c1 (by have := evS_le (a := a) (b := b) (c := c) (st := st) (k := k); omega)) ?_
            show X (98, [some (.ref 34), some (.ref 8), some (.int (nI t)), some (.int a), some (.int b), some (.int c), some (.int (nI (4 + n))), some (.int (nI (4 + k))), some (.int (Int32.ofInt (st k))), some (.int x9), some (.int x10)], [], (hI (hI h 36 (h.1 35 1) a) 35 1 (h.1 35 1 + 1)))
            refine go hX 3 (gs := [True, True, True]) (z' := (20, [some (.ref 34), some (.ref 8), some (.int (nI t)), some (.int a), some (.int b), some (.int c), some (.int (nI (4 + n))), some (.int ((nI (4 + k)) + 1)), some (.int (Int32.ofInt (st k))), some (.int x9), some (.int x10)], [], (hI (hI h 36 (h.1 35 1) a) 35 1 (h.1 35 1 + 1)))) rfl ⟨trivial, trivial, trivial, trivial⟩ ?_
            rw [tx_1]
            refine ih (k + 1) (Nat.lt_succ_self k) (by omega) _ _ _ _ (Or.inr (Or.inr ⟨_, _, _, rfl, rfl, rfl⟩)) ((fr.st (Or.inr rfl)).st (Or.inl ⟨rfl, rfl⟩)) ?_
            have ev := (evS_nam (a := a) (b := b) (c := c) (nlt1 b4) (lt2 b5)).trans (by rw [show (if st k = 10000 then a else if st k = 10001 then b else c) = _ from if_pos (eq1 b17)])
            rw [ev]
            exact P18
          ·
            refine go hX 3 (gs := [True, True, True]) (z' := (if (Int32.ofInt (st k)) = 10001 then 88 else 93, [some (.ref 34), some (.ref 8), some (.int (nI t)), some (.int a), some (.int b), some (.int c), some (.int (nI (4 + n))), some (.int (nI (4 + k))), some (.int (Int32.ofInt (st k))), some (.int x9), some (.int x10)], [.ref 35], h)) rfl ⟨trivial, trivial, trivial, trivial⟩ ?_
            refine br (fun b19 => ?_) (fun b19 => ?_)
            ·
              refine go hX 2 (gs := [True, True]) (z' := (95, [some (.ref 34), some (.ref 8), some (.int (nI t)), some (.int a), some (.int b), some (.int c), some (.int (nI (4 + n))), some (.int (nI (4 + k))), some (.int (Int32.ofInt (st k))), some (.int x9), some (.int x10)], [.int b, .ref 35], h)) rfl ⟨trivial, trivial, trivial⟩ ?_
              refine cl hX 23 2 [.ref 35, .int b] [] rfl rfl rfl rfl ?_
              have P20 := P.up (v := b) (by have := evS_le (a := a) (b := b) (c := c) (st := st) (k := k); omega)
              refine c_push35 P.c0 (P.c1 (by have := evS_le (a := a) (b := b) (c := c) (st := st) (k := k); omega)) ?_
              show X (98, [some (.ref 34), some (.ref 8), some (.int (nI t)), some (.int a), some (.int b), some (.int c), some (.int (nI (4 + n))), some (.int (nI (4 + k))), some (.int (Int32.ofInt (st k))), some (.int x9), some (.int x10)], [], (hI (hI h 36 (h.1 35 1) b) 35 1 (h.1 35 1 + 1)))
              refine go hX 3 (gs := [True, True, True]) (z' := (20, [some (.ref 34), some (.ref 8), some (.int (nI t)), some (.int a), some (.int b), some (.int c), some (.int (nI (4 + n))), some (.int ((nI (4 + k)) + 1)), some (.int (Int32.ofInt (st k))), some (.int x9), some (.int x10)], [], (hI (hI h 36 (h.1 35 1) b) 35 1 (h.1 35 1 + 1)))) rfl ⟨trivial, trivial, trivial, trivial⟩ ?_
              rw [tx_1]
              refine ih (k + 1) (Nat.lt_succ_self k) (by omega) _ _ _ _ (Or.inr (Or.inr ⟨_, _, _, rfl, rfl, rfl⟩)) ((fr.st (Or.inr rfl)).st (Or.inl ⟨rfl, rfl⟩)) ?_
              have ev := (evS_nam (a := a) (b := b) (c := c) (nlt1 b4) (lt2 b5)).trans (by rw [show (if st k = 10000 then a else if st k = 10001 then b else c) = _ from (if_neg (ne1 b17)).trans (if_pos (eq2 b19))])
              rw [ev]
              exact P20
            ·
              refine go hX 1 (gs := [True]) (z' := (95, [some (.ref 34), some (.ref 8), some (.int (nI t)), some (.int a), some (.int b), some (.int c), some (.int (nI (4 + n))), some (.int (nI (4 + k))), some (.int (Int32.ofInt (st k))), some (.int x9), some (.int x10)], [.int c, .ref 35], h)) rfl ⟨trivial, trivial⟩ ?_
              refine cl hX 23 2 [.ref 35, .int c] [] rfl rfl rfl rfl ?_
              have P21 := P.up (v := c) (by have := evS_le (a := a) (b := b) (c := c) (st := st) (k := k); omega)
              refine c_push35 P.c0 (P.c1 (by have := evS_le (a := a) (b := b) (c := c) (st := st) (k := k); omega)) ?_
              show X (98, [some (.ref 34), some (.ref 8), some (.int (nI t)), some (.int a), some (.int b), some (.int c), some (.int (nI (4 + n))), some (.int (nI (4 + k))), some (.int (Int32.ofInt (st k))), some (.int x9), some (.int x10)], [], (hI (hI h 36 (h.1 35 1) c) 35 1 (h.1 35 1 + 1)))
              refine go hX 3 (gs := [True, True, True]) (z' := (20, [some (.ref 34), some (.ref 8), some (.int (nI t)), some (.int a), some (.int b), some (.int c), some (.int (nI (4 + n))), some (.int ((nI (4 + k)) + 1)), some (.int (Int32.ofInt (st k))), some (.int x9), some (.int x10)], [], (hI (hI h 36 (h.1 35 1) c) 35 1 (h.1 35 1 + 1)))) rfl ⟨trivial, trivial, trivial, trivial⟩ ?_
              rw [tx_1]
              refine ih (k + 1) (Nat.lt_succ_self k) (by omega) _ _ _ _ (Or.inr (Or.inr ⟨_, _, _, rfl, rfl, rfl⟩)) ((fr.st (Or.inr rfl)).st (Or.inl ⟨rfl, rfl⟩)) ?_
              have ev := (evS_nam (a := a) (b := b) (c := c) (nlt1 b4) (lt2 b5)).trans (by rw [show (if st k = 10000 then a else if st k = 10001 then b else c) = _ from (if_neg (ne1 b17)).trans (if_neg (ne2 b19))])
              rw [ev]
              exact P21
      ·
        refine go hX 3 (gs := [True, True, True]) (z' := (50, [some (.ref 34), some (.ref 8), some (.int (nI t)), some (.int a), some (.int b), some (.int c), some (.int (nI (4 + n))), some (.int (nI (4 + k))), some (.int (Int32.ofInt (st k))), some (.int x9), some (.int x10)], [.int (Int32.ofInt (st k)), .ref 35], h)) rfl ⟨trivial, trivial, trivial, trivial⟩ ?_
        refine cl hX 23 2 [.ref 35, .int (Int32.ofInt (st k))] [] rfl rfl rfl rfl ?_
        have P22 := P.up (v := (Int32.ofInt (st k))) (by have := evS_le (a := a) (b := b) (c := c) (st := st) (k := k); omega)
        refine c_push35 P.c0 (P.c1 (by have := evS_le (a := a) (b := b) (c := c) (st := st) (k := k); omega)) ?_
        show X (53, [some (.ref 34), some (.ref 8), some (.int (nI t)), some (.int a), some (.int b), some (.int c), some (.int (nI (4 + n))), some (.int (nI (4 + k))), some (.int (Int32.ofInt (st k))), some (.int x9), some (.int x10)], [], (hI (hI h 36 (h.1 35 1) (Int32.ofInt (st k))) 35 1 (h.1 35 1 + 1)))
        refine go hX 3 (gs := [True, True, True]) (z' := (20, [some (.ref 34), some (.ref 8), some (.int (nI t)), some (.int a), some (.int b), some (.int c), some (.int (nI (4 + n))), some (.int ((nI (4 + k)) + 1)), some (.int (Int32.ofInt (st k))), some (.int x9), some (.int x10)], [], (hI (hI h 36 (h.1 35 1) (Int32.ofInt (st k))) 35 1 (h.1 35 1 + 1)))) rfl ⟨trivial, trivial, trivial, trivial⟩ ?_
        rw [tx_1]
        refine ih (k + 1) (Nat.lt_succ_self k) (by omega) _ _ _ _ (Or.inr (Or.inr ⟨_, _, _, rfl, rfl, rfl⟩)) ((fr.st (Or.inr rfl)).st (Or.inl ⟨rfl, rfl⟩)) ?_
        have ev := evS_num (a := a) (b := b) (c := c) (lt1 b4)
        rw [ev]
        exact P22
theorem c_workOut {d : Nat} {Q : Option Value → Hp → Prop} {t tx n : Nat} {a b c : Int32} {h : Hp} {st : Nat → Int} (W : WfS st n) (ht : t < tx) (htx : tx ≤ 12) (etx : h.1 8 2 = nI tx) (hn : h.1 9 ((nI t * 100) + 3) = nI n) (hs : ∀ k, k < n → st k = (h.1 9 ((nI t * 100) + nI (4 + k))).toInt) (K : ∀ h' r, frV h h' → evS a b c st n = [r] → Q (some (.int r)) h') : Call (d + 3) 49 [.ref 34, .ref 8, .int (nI t), .int a, .int b, .int c] h Q := by
  have t0 : (0 : Int32) ≤ nI t := tx_0 t (by omega)
  have t1 : nI t < h.1 8 2 := by rw [etx]; exact (tx_lt (by omega) (by omega)).mpr ht
  have tm : h.1 8 2 ≤ 12 := by rw [etx]; exact (tx_le (b := 12) (by omega) (by decide)).mpr htx
  refine call_of (rfl : psM[49]? = some _) rfl rfl (rcvV rfl) (fun X hX => ?_)
  show X (0, [some (.ref 34), some (.ref 8), some (.int (nI t)), some (.int a), some (.int b), some (.int c), none, none, none, none, none], [], h)
  refine go hX 2 (gs := [True, True]) (z' := (4, [some (.ref 34), some (.ref 8), some (.int (nI t)), some (.int a), some (.int b), some (.int c), none, none, none, none, none], [.ref 35], h)) rfl ⟨trivial, trivial, trivial⟩ ?_
  refine cl hX 22 1 [.ref 35] [] rfl rfl rfl rfl ?_
  refine c_clear35 ?_
  show X (7, [some (.ref 34), some (.ref 8), some (.int (nI t)), some (.int a), some (.int b), some (.int c), none, none, none, none, none], [], (hI h 35 1 0))
  refine go hX 4 (gs := [True, True, True, True]) (z' := (11, [some (.ref 34), some (.ref 8), some (.int (nI t)), some (.int a), some (.int b), some (.int c), none, none, none, none, none], [.int 3, .int (nI t), .ref 8, .int 4], (hI h 35 1 0))) rfl ⟨trivial, trivial, trivial, trivial, trivial⟩ ?_
  refine cl hX 94 3 [.ref 8, .int (nI t), .int 3] [.int 4] rfl rfl rfl rfl ?_
  refine c_getX t0 t1 tm (by decide) (by decide) ?_
  rw [show (hI h 35 1 0).1 9 ((nI t * 100) + 3) = nI n from hn]
  show X (14, [some (.ref 34), some (.ref 8), some (.int (nI t)), some (.int a), some (.int b), some (.int c), none, none, none, none, none], [.int (nI n), .int 4], (hI h 35 1 0))
  refine go hX 4 (gs := [True, True, True, True]) (z' := (20, [some (.ref 34), some (.ref 8), some (.int (nI t)), some (.int a), some (.int b), some (.int c), some (.int (4 + (nI n))), some (.int 4), none, none, none], [], (hI h 35 1 0))) rfl ⟨trivial, trivial, trivial, trivial, trivial⟩ ?_
  rw [show (4 : Int32) + nI n = nI (4 + n) from nI_add 4 n]
  have P0 : Pv (hI h 35 1 0) (evS a b c st 0) := ⟨hI_eq, trivial, Nat.zero_le 96⟩
  exact lp_wo hX W ht htx etx hs K (Nat.zero_le n) (hI h 35 1 0) none none none (Or.inl ⟨rfl, rfl, rfl⟩) (frV_rf.st (Or.inl ⟨rfl, rfl⟩)) P0
