/-! By hand: pay and takes. -/
set_option maxRecDepth 100000 in
theorem takes_core {d : Nat} {h : Hp} {n : Nat} {t D : Int} {a0 a1 : Int32} (n10 : n ≤ 10) (en : h.1 4 2 = nI n) (en2 : h.1 66 2 = nI n) (t8 : t = (h.1 8 2).toInt) (t66 : t = (h.1 66 4).toInt) (t0 : 0 ≤ t) (t1 : t ≤ 12) (d1 : D = (h.1 1 5).toInt) (d2 : D = (h.1 66 0).toInt) (dz : 0 ≤ D) (dl : D ≤ 1999) (W : KC h 5 66 0 0) (R448 : KC h 9 448 0 0) (R464 : KC h 9 464 0 0) (S : KC h 15 0 0 t) (hR : ∀ q ∈ rgT, RgO h q) (R144 : RLO h 144 0 0) (R160 : RLO h 160 0 0) (R272 : RLO h 272 0 0) (R288 : RLO h 288 0 0) : ∃ (r : Int32) (hA hB : Hp), CRun (d + 6) 135 [.ref 0, .int a0, .int a1] h (some (.int r)) hA ∧ CRun (d + 6) 235 [.ref 65, .int a0, .int a1] h (some (.int r)) hB ∧ Frm wsT h (mxH true hA hB) := by
  have xm : h.1 4 2 ≤ 10 := by rw [en]; exact (tx_le (b := 10) (by omega) (by decide)).mpr n10
  have k0 : (0 : Int32).toInt = 0 := rfl
  have decH := hold_dec (f := 0) (g := 0) n10 en en2
  have in4 : (h.1 4 2).toInt = n := by rw [en, nI_i (by omega)]
  have hh : ov 35 36 h h = h := ov_self
  have hk : ov 79 80 h h = h := ov_self
  have bI := i64_bd (lo := 0) (hi := 2) (v := a1) (a := 0) (b := 2) rfl rfl
  have x1 : (0 ≤ a0 ∧ a0 ≤ h.1 66 2 - 1) → a0 < 10 := b_x10 n10 en2
  have st : ∀ (r : Int32), (Call (d + 6) 135 [.ref 0, .int a0, .int a1] h (fun r' h' => r' = some (.int r) ∧ ∃ g, h' = ov 35 36 h g)) → (Call (d + 6) 235 [.ref 65, .int a0, .int a1] h (fun r' h' => r' = some (.int r) ∧ okBp h h')) → ∃ (r : Int32) (hA hB : Hp), CRun (d + 6) 135 [.ref 0, .int a0, .int a1] h (some (.int r)) hA ∧ CRun (d + 6) 235 [.ref 65, .int a0, .int a1] h (some (.int r)) hB ∧ Frm wsT h (mxH true hA hB) := fun r cA cB => by
    obtain ⟨rA, hA, ⟨rfl, g, rfl⟩, kA⟩ := cA.det
    obtain ⟨rB, hB, ⟨rfl, fB⟩, kB⟩ := cB.det
    exact ⟨r, _, hB, fun Q q => kA Q q, fun Q q => kB Q q, frm_T fB⟩
  by_cases hv : (0 ≤ a0 ∧ a0 < h.1 4 2)
  case neg =>
    refine st (-1000000001) ?_ ?_
    · have c := c_takesA0 (d := d + 2) (h := h) (w := a1) (Q := fun r' h' => r' = some (.int (-1000000001)) ∧ ∃ g, h' = ov 35 36 h g) xm (fun z => hv z.1) ⟨rfl, h, hh.symm⟩
      exact c
    · exact c_takesB0 (d := d + 2) (h := h) (w := a1) x1 (fun z => hv ((decH _).mpr z.1)) ⟨rfl, by have q := okB_ov (h := h) (g := h); rw [hk] at q; exact q⟩
  have hH := hv
  have hx : 0 ≤ a0.toInt ∧ a0.toInt < (h.1 4 2).toInt := ⟨by have := hH.1; rw [Int32.le_iff_toInt_le, k0] at this; exact this, by have := hH.2; rw [Int32.lt_iff_toInt_lt] at this; exact this⟩
  obtain ⟨x, hxx, rfl⟩ : ∃ x : Nat, (x : Int) = a0.toInt ∧ a0 = nI x := ⟨a0.toInt.toNat, by omega, i_nI hx.1⟩
  have xn : x < n := by omega
  have x10 : x < 10 := by omega
  have hHB := (decH _).mp hH
  have x1B : (0 ≤ nI x ∧ nI x ≤ h.1 66 2 - 1) → nI x < (10 : Int32) := fun _ => (tx_lt (b := 10) (by omega) (by decide)).mpr x10
  by_cases hw : 0 ≤ a1 ∧ a1 ≤ 2
  case neg =>
    refine st (-1000000001) ?_ ?_
    · exact c_takesA0 (d := d + 2) (h := h) (w := a1) (Q := fun r' h' => r' = some (.int (-1000000001)) ∧ ∃ g, h' = ov 35 36 h g) xm (fun z => hw z.2) ⟨rfl, h, hh.symm⟩
    · exact c_takesB0 (d := d + 2) (h := h) (w := a1) x1 (fun z => hw (bI.mp z.2)) ⟨rfl, by have q := okB_ov (h := h) (g := h); rw [hk] at q; exact q⟩
  have c2 : h.1 5 ((nI x * 14) + 2) = h.1 66 ((40 + (16 * nI x)) + 2) := by
    rw [show (nI x * 14) + 2 = nI (2 + 14 * x) from ixA (f := 2) x10 (by decide), show (40 + (16 * nI x)) + 2 = nI (42 + 16 * x) from ixH (f := 2) x10 (by decide)]
    exact rowE (o1 := 5) (o2 := 66) (b1 := 2) (b2 := 42) (s1 := 14) (s2 := 16) (n := 10) R144 (Int.le_refl 0) rfl (by decide) (by decide) x10
  have c3 : h.1 5 ((nI x * 14) + 3) = h.1 66 ((40 + (16 * nI x)) + 3) := by
    rw [show (nI x * 14) + 3 = nI (3 + 14 * x) from ixA (f := 3) x10 (by decide), show (40 + (16 * nI x)) + 3 = nI (43 + 16 * x) from ixH (f := 3) x10 (by decide)]
    exact rowE (o1 := 5) (o2 := 66) (b1 := 3) (b2 := 43) (s1 := 14) (s2 := 16) (n := 10) R160 (Int.le_refl 0) rfl (by decide) (by decide) x10
  have q3 : 0 ≤ (h.1 66 ((40 + (16 * nI x)) + 3)).toInt ∧ (h.1 66 ((40 + (16 * nI x)) + 3)).toInt ≤ 9999 := by
    rw [show (40 + (16 * nI x)) + 3 = nI (43 + 16 * x) from ixH (f := 3) x10 (by decide)]
    exact hR (66, 43, 16, 10, 0, 9999) (by decide +kernel) (nI (43 + 16 * x)) x (by omega) (by dsimp only; omega) (by rw [nI_i (by omega)]; dsimp only; omega)
  have c10 : h.1 5 ((nI x * 14) + 10) = h.1 66 ((40 + (16 * nI x)) + 10) := by
    rw [show (nI x * 14) + 10 = nI (10 + 14 * x) from ixA (f := 10) x10 (by decide), show (40 + (16 * nI x)) + 10 = nI (50 + 16 * x) from ixH (f := 10) x10 (by decide)]
    exact rowE (o1 := 5) (o2 := 66) (b1 := 10) (b2 := 50) (s1 := 14) (s2 := 16) (n := 10) R272 (Int.le_refl 0) rfl (by decide) (by decide) x10
  have q10 : 0 ≤ (h.1 66 ((40 + (16 * nI x)) + 10)).toInt ∧ (h.1 66 ((40 + (16 * nI x)) + 10)).toInt ≤ 99999 := by
    rw [show (40 + (16 * nI x)) + 10 = nI (50 + 16 * x) from ixH (f := 10) x10 (by decide)]
    exact hR (66, 50, 16, 10, 0, 99999) (by decide +kernel) (nI (50 + 16 * x)) x (by omega) (by dsimp only; omega) (by rw [nI_i (by omega)]; dsimp only; omega)
  have c11 : h.1 5 ((nI x * 14) + 11) = h.1 66 ((40 + (16 * nI x)) + 11) := by
    rw [show (nI x * 14) + 11 = nI (11 + 14 * x) from ixA (f := 11) x10 (by decide), show (40 + (16 * nI x)) + 11 = nI (51 + 16 * x) from ixH (f := 11) x10 (by decide)]
    exact rowE (o1 := 5) (o2 := 66) (b1 := 11) (b2 := 51) (s1 := 14) (s2 := 16) (n := 10) R288 (Int.le_refl 0) rfl (by decide) (by decide) x10
  obtain ⟨r4, a40, a41, A4, B4⟩ := gv4 (d := d) (a := (h.1 5 ((nI x * 14) + 10))) (b := 0) t8 t66 t0 t1 d1 d2 dz dl W R448 R464 S hR
  obtain ⟨r2, a20, a21, A2, B2⟩ := gv2 (d := d) (a := (h.1 5 ((nI x * 14) + 10))) (b := (h.1 5 ((nI x * 14) + 3))) t8 t66 t0 t1 d1 d2 dz dl W R448 R464 S hR
  obtain ⟨r3, a30, a31, A3, B3⟩ := gv3 (d := d) (a := (h.1 5 ((nI x * 14) + 10))) (b := ((h.1 5 ((nI x * 14) + 2)) - (h.1 1 5))) t8 t66 t0 t1 d1 d2 dz dl W R448 R464 S hR
  have eT : ((h.1 5 ((nI x * 14) + 2)) - (h.1 1 5)) = ((h.1 66 ((40 + (16 * nI x)) + 2)) - (h.1 66 0)) := by rw [c2, show h.1 1 5 = h.1 66 0 from Int32.toInt_inj.mp (d1.symm.trans d2)]
  rw [c10] at B4
  rw [c10, c3] at B2
  rw [c10, eT] at B3
  have gA4 : ∀ (g : Hp) (Q : Option Value → Hp → Prop), (∀ g1, Q (some (.int r4)) (ov 35 36 h g1)) → Call (d + 4) 48 [.ref 34, .ref 1, .int 4, .int (h.1 5 ((nI x * 14) + 10)), .int 0, .int 0] (ov 35 36 h g) Q := fun g Q q => by obtain ⟨g1, c⟩ := A4 g; exact c Q (q g1)
  have gA2 : ∀ (g : Hp) (Q : Option Value → Hp → Prop), (∀ g1, Q (some (.int r2)) (ov 35 36 h g1)) → Call (d + 4) 48 [.ref 34, .ref 1, .int 2, .int (h.1 5 ((nI x * 14) + 10)), .int (h.1 5 ((nI x * 14) + 3)), .int 0] (ov 35 36 h g) Q := fun g Q q => by obtain ⟨g1, c⟩ := A2 g; exact c Q (q g1)
  have gA3 : ∀ (g : Hp) (Q : Option Value → Hp → Prop), (∀ g1, Q (some (.int r3)) (ov 35 36 h g1)) → Call (d + 4) 48 [.ref 34, .ref 1, .int 3, .int (h.1 5 ((nI x * 14) + 10)), .int ((h.1 5 ((nI x * 14) + 2)) - (h.1 1 5)), .int 0] (ov 35 36 h g) Q := fun g Q q => by obtain ⟨g1, c⟩ := A3 g; exact c Q (q g1)
  have gB4 : ∀ (g : Hp) (Q : Option Value → Hp → Prop), (∀ g1, Q (some (.int r4)) (ov 79 80 h g1)) → Call (d + 4) 231 [.ref 65, .int 4, .int (h.1 66 ((40 + (16 * nI x)) + 10)), .int 0, .int 0] (ov 79 80 h g) Q := fun g Q q => by obtain ⟨g1, c⟩ := B4 h g (fun _ _ _ => rfl) rfl; exact c Q (q g1)
  have gB2 : ∀ (g : Hp) (Q : Option Value → Hp → Prop), (∀ g1, Q (some (.int r2)) (ov 79 80 h g1)) → Call (d + 4) 231 [.ref 65, .int 2, .int (h.1 66 ((40 + (16 * nI x)) + 10)), .int (h.1 66 ((40 + (16 * nI x)) + 3)), .int 0] (ov 79 80 h g) Q := fun g Q q => by obtain ⟨g1, c⟩ := B2 h g (fun _ _ _ => rfl) rfl; exact c Q (q g1)
  have gB3 : ∀ (g : Hp) (v : Int32) (Q : Option Value → Hp → Prop), (∀ g1, Q (some (.int r3)) (hI (ov 79 80 h g1) 65 29 v)) → Call (d + 4) 231 [.ref 65, .int 3, .int (h.1 66 ((40 + (16 * nI x)) + 10)), .int ((h.1 66 ((40 + (16 * nI x)) + 2)) - (h.1 66 0)), .int 0] (hI (ov 79 80 h g) 65 29 v) Q := fun g v Q q => by
    obtain ⟨g1, c⟩ := B3 (hI h 65 29 v) g (fun o j n => by
      by_cases e : o = 65
      · subst e; exact hI_j (fun z => n ⟨rfl, z⟩)
      · exact hI_ne e) rfl
    have z := c Q
    rw [ov_65, ov_65] at z
    exact z (q g1)
  have cA : ∀ (Q : Option Value → Hp → Prop), (h.1 5 ((nI x * 14) + 11) = 1 → Q (some (.int (-1000000002))) h) → (¬ h.1 5 ((nI x * 14) + 11) = 1 → a1 = 0 → ∀ g1, Q (some (.int (shV (h.1 5 ((nI x * 14) + 10)) (h.1 5 ((nI x * 14) + 3)) r4 r2))) (ov 35 36 h g1)) → (¬ h.1 5 ((nI x * 14) + 11) = 1 → ¬ a1 = 0 → a1 = 1 → ∀ g1, Q (some (.int (shS (h.1 5 ((nI x * 14) + 10)) (h.1 5 ((nI x * 14) + 3)) r4 r2 r3))) (ov 35 36 h g1)) → (¬ h.1 5 ((nI x * 14) + 11) = 1 → ¬ a1 = 0 → ¬ a1 = 1 → ∀ g1, Q (some (.int ((h.1 5 ((nI x * 14) + 10)) - shV (h.1 5 ((nI x * 14) + 10)) (h.1 5 ((nI x * 14) + 3)) r4 r2 - shS (h.1 5 ((nI x * 14) + 10)) (h.1 5 ((nI x * 14) + 3)) r4 r2 r3))) (ov 35 36 h g1)) → Call (d + 6) 135 [.ref 0, .int (nI x), .int a1] h Q := fun Q kN q0 q1 q2 => by
    have c := c_takesA (d := d) (h := h) (g := h) (Q := Q) (x := nI x) (w := a1) xm gA4 gA2 gA3 (fun z => absurd ⟨hH, hw⟩ z) (fun _ f => by rw [hh]; exact kN f) (fun _ f => q0 f) (fun _ f => q1 f) (fun _ f => q2 f)
    rw [hh] at c
    exact c
  have cB : ∀ (Q : Option Value → Hp → Prop), (h.1 66 ((40 + (16 * nI x)) + 11) = 1 → Q (some (.int (-1000000002))) h) → (¬ h.1 66 ((40 + (16 * nI x)) + 11) = 1 → a1 = 0 → ∀ h1, okBp h h1 → Q (some (.int (reV (h.1 66 ((40 + (16 * nI x)) + 10)) (h.1 66 ((40 + (16 * nI x)) + 3)) r4 r2))) h1) → (¬ h.1 66 ((40 + (16 * nI x)) + 11) = 1 → ¬ a1 = 0 → a1 = 1 → ∀ h1, okBp h h1 → Q (some (.int (reS (h.1 66 ((40 + (16 * nI x)) + 10)) (h.1 66 ((40 + (16 * nI x)) + 3)) r4 r2 r3))) h1) → (¬ h.1 66 ((40 + (16 * nI x)) + 11) = 1 → ¬ a1 = 0 → ¬ a1 = 1 → ∀ h1, okBp h h1 → Q (some (.int ((h.1 66 ((40 + (16 * nI x)) + 10)) - reV (h.1 66 ((40 + (16 * nI x)) + 10)) (h.1 66 ((40 + (16 * nI x)) + 3)) r4 r2 - reS (h.1 66 ((40 + (16 * nI x)) + 10)) (h.1 66 ((40 + (16 * nI x)) + 3)) r4 r2 r3))) h1) → Call (d + 6) 235 [.ref 65, .int (nI x), .int a1] h Q := fun Q kN q0 q1 q2 => by
    have c := c_takesB (d := d) (h := h) (g := h) (Q := Q) (x := nI x) (w := a1) x1B gB4 gB2 gB3 (fun z => absurd ⟨hHB, bI.mpr hw⟩ z) (fun _ f => by rw [hk]; exact kN f) (fun _ f w0 g1 => q0 f w0 _ okB_3) (fun _ f w0 w1 g1 => q1 f w0 w1 _ okB_3) (fun _ f w0 w1 g1 => q2 f w0 w1 _ okB_3)
    rw [hk] at c
    exact c
  have cAB : h.1 5 ((nI x * 14) + 11) = 1 ↔ h.1 66 ((40 + (16 * nI x)) + 11) = 1 := by rw [c11]
  by_cases hf : h.1 5 ((nI x * 14) + 11) = 1
  · refine st (-1000000002) (cA _ (fun _ => ⟨rfl, h, hh.symm⟩) (fun z => absurd hf z) (fun z => absurd hf z) (fun z => absurd hf z)) (cB _ (fun _ => ⟨rfl, ?_⟩) (fun z => absurd (cAB.mp hf) z) (fun z => absurd (cAB.mp hf) z) (fun z => absurd (cAB.mp hf) z))
    have q := okB_ov (h := h) (g := h)
    rw [hk] at q
    exact q
  have hfB : ¬ h.1 66 ((40 + (16 * nI x)) + 11) = 1 := fun z => hf (cAB.mpr z)
  have e0 : shV (h.1 5 ((nI x * 14) + 10)) (h.1 5 ((nI x * 14) + 3)) r4 r2 = reV (h.1 66 ((40 + (16 * nI x)) + 10)) (h.1 66 ((40 + (16 * nI x)) + 3)) r4 r2 := by rw [shV_re, c10, c3]
  have e1 : shS (h.1 5 ((nI x * 14) + 10)) (h.1 5 ((nI x * 14) + 3)) r4 r2 r3 = reS (h.1 66 ((40 + (16 * nI x)) + 10)) (h.1 66 ((40 + (16 * nI x)) + 3)) r4 r2 r3 := by rw [shS_re, c10, c3]
  have e2 : (h.1 5 ((nI x * 14) + 10)) - shV (h.1 5 ((nI x * 14) + 10)) (h.1 5 ((nI x * 14) + 3)) r4 r2 - shS (h.1 5 ((nI x * 14) + 10)) (h.1 5 ((nI x * 14) + 3)) r4 r2 r3 = (h.1 66 ((40 + (16 * nI x)) + 10)) - reV (h.1 66 ((40 + (16 * nI x)) + 10)) (h.1 66 ((40 + (16 * nI x)) + 3)) r4 r2 - reS (h.1 66 ((40 + (16 * nI x)) + 10)) (h.1 66 ((40 + (16 * nI x)) + 3)) r4 r2 r3 := by rw [e0, e1, c10]
  by_cases w0 : a1 = 0
  · exact st (reV (h.1 66 ((40 + (16 * nI x)) + 10)) (h.1 66 ((40 + (16 * nI x)) + 3)) r4 r2) (cA _ (fun z => absurd z hf) (fun _ _ g1 => ⟨by rw [e0], g1, rfl⟩) (fun _ z => absurd w0 z) (fun _ z => absurd w0 z)) (cB _ (fun z => absurd z hfB) (fun _ _ h1 f1 => ⟨rfl, f1⟩) (fun _ z => absurd w0 z) (fun _ z => absurd w0 z))
  by_cases w1 : a1 = 1
  · exact st (reS (h.1 66 ((40 + (16 * nI x)) + 10)) (h.1 66 ((40 + (16 * nI x)) + 3)) r4 r2 r3) (cA _ (fun z => absurd z hf) (fun _ z => absurd z w0) (fun _ _ _ g1 => ⟨by rw [e1], g1, rfl⟩) (fun _ _ z => absurd w1 z)) (cB _ (fun z => absurd z hfB) (fun _ z => absurd z w0) (fun _ _ _ h1 f1 => ⟨rfl, f1⟩) (fun _ _ z => absurd w1 z))
  · exact st ((h.1 66 ((40 + (16 * nI x)) + 10)) - reV (h.1 66 ((40 + (16 * nI x)) + 10)) (h.1 66 ((40 + (16 * nI x)) + 3)) r4 r2 - reS (h.1 66 ((40 + (16 * nI x)) + 10)) (h.1 66 ((40 + (16 * nI x)) + 3)) r4 r2 r3) (cA _ (fun z => absurd z hf) (fun _ z => absurd z w0) (fun _ _ z => absurd z w1) (fun _ _ _ g1 => ⟨by rw [e2], g1, rfl⟩)) (cB _ (fun z => absurd z hfB) (fun _ z => absurd z w0) (fun _ _ z => absurd z w1) (fun _ _ _ h1 f1 => ⟨rfl, f1⟩))
