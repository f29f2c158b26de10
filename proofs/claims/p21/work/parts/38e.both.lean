/-! Both fillings: one and the same is found. -/
theorem srch_c {T : Nat → Int} {ok : Nat → Nat → (Nat → Nat) → Bool} : ∀ {r h : Nat} {g : Nat → Nat} {c s : Int} {b : Bst}, c ≤ (srch T ok r h g c s b).c
  | 0, h, g, c, s, b => by
    unfold srch
    split
    · exact Int.le_refl c
    · rename_i q
      unfold bet at q
      omega
  | r + 1, h, g, c, s, b => by
    unfold srch
    exact srch_c
theorem rfD0 {F : Fp} {nS : Nat} {h : Hp} (S : RfS F nS h) (z : ∀ k, k < 3 → h.1 74 (nI k) = 0 ∧ 0 ≤ F.C k) : RfD F (hI (hI h 65 10 (-1)) 65 11 0) (fun _ => 3) 0 ⟨-1, 0, fun _ => 3⟩ := by
  refine ⟨fun k hk => ?_, fun k hk => ?_, fun i hi => absurd hi (Nat.not_lt_zero i), ⟨?_, ?_, ?_⟩, ⟨?_, ?_, ?_⟩, fun q => ?_⟩
  · rw [hI_ne (by decide), hI_ne (by decide), (z k hk).1]
    rfl
  · have := (z k hk).2
    show 0 ≤ F.C k - ((0 : Nat) : Int)
    omega
  · rw [hI_j (by decide), hI_eq]
    rfl
  · show (-1 : Int) ≤ -1; decide
  · show (-1 : Int) ≤ 10; decide
  · rw [hI_eq]
    rfl
  · show (0 : Int) ≤ 0; decide
  · show (0 : Int) ≤ 200000; decide
  · exact absurd (show (0 : Int) ≤ -1 from q) (by decide)
theorem c_findB {d : Nat} {Q : Option Value → Hp → Prop} {F : Fp} {nS : Nat} {h : Hp} (S : RfS F nS h) (z : ∀ k, k < 3 → h.1 74 (nI k) = 0 ∧ 0 ≤ F.C k) (K : ∀ h', frR h h' → RfD F h' (fun _ => 3) 0 (srch F.T (okFi F) F.n 0 (fun _ => 3) 0 0 ⟨-1, 0, fun _ => 3⟩) → Q none h') : Call (d + F.n + 6) 192 [.ref 65] h Q := by
  refine call_of (rfl : psM[192]? = some _) rfl rfl (rcvV rfl) (fun X hX => ?_)
  show X (0, [some (.ref 65)], [], h)
  refine go hX 10 (gs := [True, True, True, True, True, True, True, True, True, True]) (z' := (14, [some (.ref 65)], [.int 0, .int 0, .int 0, .ref 65], (hI (hI h 65 10 (-1)) 65 11 0))) rfl ⟨trivial, trivial, trivial, trivial, trivial, trivial, trivial, trivial, trivial, trivial, trivial⟩ ?_
  refine cl hX 191 4 [.ref 65, .int 0, .int 0, .int 0] [] rfl rfl rfl rfl ?_
  have S1 := S.fr ((frR_rf (h := h)).st (o := 65) (j := 10) (v := -1) (Or.inl ⟨rfl, Or.inl rfl⟩))
  have S2 := S.fr (((frR_rf (h := h)).st (o := 65) (j := 10) (v := -1) (Or.inl ⟨rfl, Or.inl rfl⟩)).st (o := 65) (j := 11) (v := 0) (Or.inl ⟨rfl, Or.inr rfl⟩))
  have PL : SkC F nS F.n (d + F.n + 5) := @c_seek F nS F.n d
  refine PL (x := 0) (cI := 0) (sI := 0) (c := 0) (s := 0) (g := fun _ => 3) (b := ⟨-1, 0, fun _ => 3⟩) (Nat.zero_add _) S2 (rfD0 S z) rfl rfl (Int.le_refl 0) (by omega) (Int.le_refl 0) (by omega) (fun h3 f3 D3 => ?_)
  have kq := K h3 ((((frR_rf (h := h)).st (o := 65) (j := 10) (v := -1) (Or.inl ⟨rfl, Or.inl rfl⟩)).st (o := 65) (j := 11) (v := 0) (Or.inl ⟨rfl, Or.inr rfl⟩)).tr f3) D3
  show X (17, [some (.ref 65)], [], h3)
  refine rt_ hX (G := True) (r := none) rfl trivial ?_
  exact kq
