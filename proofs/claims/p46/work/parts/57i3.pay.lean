/-! By hand: pay and takes. -/
set_option maxRecDepth 100000 in
theorem pay_core {d : Nat} {h : Hp} {n : Nat} {t D : Int} {a0 : Int32} (n10 : n ≤ 10) (en : h.1 4 2 = nI n) (en2 : h.1 66 2 = nI n) (t8 : t = (h.1 8 2).toInt) (t66 : t = (h.1 66 4).toInt) (t0 : 0 ≤ t) (t1 : t ≤ 12) (d1 : D = (h.1 1 5).toInt) (d2 : D = (h.1 66 0).toInt) (dz : 0 ≤ D) (dl : D ≤ 1999) (W : KC h 5 66 0 0) (R448 : KC h 9 448 0 0) (R464 : KC h 9 464 0 0) (S : KC h 15 0 0 t) (hR : ∀ q ∈ rgT, RgO h q) (R144 : RLO h 144 0 0) (R160 : RLO h 160 0 0) (R176 : RLO h 176 0 0) (R192 : RLO h 192 0 0) (R272 : RLO h 272 0 0) (R288 : RLO h 288 0 0) : (∃ r : Int32, CRun (d + 6) 134 [.ref 0, .int a0] h (some (.int r)) h ∧ CRun (d + 6) 234 [.ref 65, .int a0] h (some (.int r)) h ∧ (r = -1000000001 ∨ r = -1000000002)) ∨ ∃ (x : Nat) (r v3 v5 v4 : Int32) (g hB : Hp), a0 = nI x ∧ x < n ∧ (0 ≤ v3.toInt ∧ v3.toInt ≤ 9999) ∧ (0 ≤ v5.toInt ∧ v5.toInt ≤ 99999) ∧ (0 ≤ v4.toInt ∧ v4.toInt ≤ 99999) ∧ okBp h hB ∧ CRun (d + 6) 134 [.ref 0, .int a0] h (some (.int r)) (hI (hI (hI (hI (ov 35 36 h g) 5 ((nI x * 14) + 3) v3) 5 ((nI x * 14) + 5) v5) 5 ((nI x * 14) + 4) v4) 5 ((nI x * 14) + 10) 0) ∧ CRun (d + 6) 234 [.ref 65, .int a0] h (some (.int r)) (hI (hI (hI (hI hB 66 ((40 + (16 * nI x)) + 3) v3) 66 ((40 + (16 * nI x)) + 5) v5) 66 ((40 + (16 * nI x)) + 4) v4) 66 ((40 + (16 * nI x)) + 10) 0) := by
  have xm : h.1 4 2 ≤ 10 := by rw [en]; exact (tx_le (b := 10) (by omega) (by decide)).mpr n10
  have k0 : (0 : Int32).toInt = 0 := rfl
  have decH := hold_dec (f := 0) (g := 0) n10 en en2
  have in4 : (h.1 4 2).toInt = n := by rw [en, nI_i (by omega)]
  have hh : ov 35 36 h h = h := ov_self
  have hk : ov 79 80 h h = h := ov_self
  have x1 : (0 ≤ a0 ∧ a0 ≤ h.1 66 2 - 1) → a0 < 10 := b_x10 n10 en2
  by_cases hH : (0 ≤ a0 ∧ a0 < h.1 4 2)
  case neg =>
    exact Or.inl ⟨-1000000001, fun Q q => c_payA0 (d := d + 2) xm hH q, fun Q q => c_payB0 (d := d + 2) x1 (fun z => hH ((decH _).mpr z)) q, Or.inl rfl⟩
  have hx : 0 ≤ a0.toInt ∧ a0.toInt < (h.1 4 2).toInt := ⟨by have := hH.1; rw [Int32.le_iff_toInt_le, k0] at this; exact this, by have := hH.2; rw [Int32.lt_iff_toInt_lt] at this; exact this⟩
  obtain ⟨x, hxx, rfl⟩ : ∃ x : Nat, (x : Int) = a0.toInt ∧ a0 = nI x := ⟨a0.toInt.toNat, by omega, i_nI hx.1⟩
  have xn : x < n := by omega
  have x10 : x < 10 := by omega
  have hHB := (decH _).mp hH
  have x1B : (0 ≤ nI x ∧ nI x ≤ h.1 66 2 - 1) → nI x < (10 : Int32) := fun _ => (tx_lt (b := 10) (by omega) (by decide)).mpr x10
  have c2 : h.1 5 ((nI x * 14) + 2) = h.1 66 ((40 + (16 * nI x)) + 2) := by
    rw [show (nI x * 14) + 2 = nI (2 + 14 * x) from ixA (f := 2) x10 (by decide), show (40 + (16 * nI x)) + 2 = nI (42 + 16 * x) from ixH (f := 2) x10 (by decide)]
    exact rowE (o1 := 5) (o2 := 66) (b1 := 2) (b2 := 42) (s1 := 14) (s2 := 16) (n := 10) R144 (Int.le_refl 0) rfl (by decide) (by decide) x10
  have c3 : h.1 5 ((nI x * 14) + 3) = h.1 66 ((40 + (16 * nI x)) + 3) := by
    rw [show (nI x * 14) + 3 = nI (3 + 14 * x) from ixA (f := 3) x10 (by decide), show (40 + (16 * nI x)) + 3 = nI (43 + 16 * x) from ixH (f := 3) x10 (by decide)]
    exact rowE (o1 := 5) (o2 := 66) (b1 := 3) (b2 := 43) (s1 := 14) (s2 := 16) (n := 10) R160 (Int.le_refl 0) rfl (by decide) (by decide) x10
  have q3 : 0 ≤ (h.1 66 ((40 + (16 * nI x)) + 3)).toInt ∧ (h.1 66 ((40 + (16 * nI x)) + 3)).toInt ≤ 9999 := by
    rw [show (40 + (16 * nI x)) + 3 = nI (43 + 16 * x) from ixH (f := 3) x10 (by decide)]
    exact hR (66, 43, 16, 10, 0, 9999) (by decide +kernel) (nI (43 + 16 * x)) x (by omega) (by dsimp only; omega) (by rw [nI_i (by omega)]; dsimp only; omega)
  have c4 : h.1 5 ((nI x * 14) + 4) = h.1 66 ((40 + (16 * nI x)) + 4) := by
    rw [show (nI x * 14) + 4 = nI (4 + 14 * x) from ixA (f := 4) x10 (by decide), show (40 + (16 * nI x)) + 4 = nI (44 + 16 * x) from ixH (f := 4) x10 (by decide)]
    exact rowE (o1 := 5) (o2 := 66) (b1 := 4) (b2 := 44) (s1 := 14) (s2 := 16) (n := 10) R176 (Int.le_refl 0) rfl (by decide) (by decide) x10
  have q4 : 0 ≤ (h.1 66 ((40 + (16 * nI x)) + 4)).toInt ∧ (h.1 66 ((40 + (16 * nI x)) + 4)).toInt ≤ 99999 := by
    rw [show (40 + (16 * nI x)) + 4 = nI (44 + 16 * x) from ixH (f := 4) x10 (by decide)]
    exact hR (66, 44, 16, 10, 0, 99999) (by decide +kernel) (nI (44 + 16 * x)) x (by omega) (by dsimp only; omega) (by rw [nI_i (by omega)]; dsimp only; omega)
  have c5 : h.1 5 ((nI x * 14) + 5) = h.1 66 ((40 + (16 * nI x)) + 5) := by
    rw [show (nI x * 14) + 5 = nI (5 + 14 * x) from ixA (f := 5) x10 (by decide), show (40 + (16 * nI x)) + 5 = nI (45 + 16 * x) from ixH (f := 5) x10 (by decide)]
    exact rowE (o1 := 5) (o2 := 66) (b1 := 5) (b2 := 45) (s1 := 14) (s2 := 16) (n := 10) R192 (Int.le_refl 0) rfl (by decide) (by decide) x10
  have q5 : 0 ≤ (h.1 66 ((40 + (16 * nI x)) + 5)).toInt ∧ (h.1 66 ((40 + (16 * nI x)) + 5)).toInt ≤ 99999 := by
    rw [show (40 + (16 * nI x)) + 5 = nI (45 + 16 * x) from ixH (f := 5) x10 (by decide)]
    exact hR (66, 45, 16, 10, 0, 99999) (by decide +kernel) (nI (45 + 16 * x)) x (by omega) (by dsimp only; omega) (by rw [nI_i (by omega)]; dsimp only; omega)
  have c10 : h.1 5 ((nI x * 14) + 10) = h.1 66 ((40 + (16 * nI x)) + 10) := by
    rw [show (nI x * 14) + 10 = nI (10 + 14 * x) from ixA (f := 10) x10 (by decide), show (40 + (16 * nI x)) + 10 = nI (50 + 16 * x) from ixH (f := 10) x10 (by decide)]
    exact rowE (o1 := 5) (o2 := 66) (b1 := 10) (b2 := 50) (s1 := 14) (s2 := 16) (n := 10) R272 (Int.le_refl 0) rfl (by decide) (by decide) x10
  have q10 : 0 ≤ (h.1 66 ((40 + (16 * nI x)) + 10)).toInt ∧ (h.1 66 ((40 + (16 * nI x)) + 10)).toInt ≤ 99999 := by
    rw [show (40 + (16 * nI x)) + 10 = nI (50 + 16 * x) from ixH (f := 10) x10 (by decide)]
    exact hR (66, 50, 16, 10, 0, 99999) (by decide +kernel) (nI (50 + 16 * x)) x (by omega) (by dsimp only; omega) (by rw [nI_i (by omega)]; dsimp only; omega)
  have c11 : h.1 5 ((nI x * 14) + 11) = h.1 66 ((40 + (16 * nI x)) + 11) := by
    rw [show (nI x * 14) + 11 = nI (11 + 14 * x) from ixA (f := 11) x10 (by decide), show (40 + (16 * nI x)) + 11 = nI (51 + 16 * x) from ixH (f := 11) x10 (by decide)]
    exact rowE (o1 := 5) (o2 := 66) (b1 := 11) (b2 := 51) (s1 := 14) (s2 := 16) (n := 10) R288 (Int.le_refl 0) rfl (by decide) (by decide) x10
  obtain ⟨r4, a40, a41, A4, B4⟩ := gv4 (d := d) (a := (h.1 5 ((nI x * 14) + 10))) (b := 0) t8 t66 t0 t1 d1 d2 dz dl W R448 R464 S hR
  obtain ⟨r2, a20, a21, A2, B2⟩ := gv2 (d := d) (a := (h.1 5 ((nI x * 14) + 10))) (b := (h.1 5 ((nI x * 14) + 3))) t8 t66 t0 t1 d1 d2 dz dl W R448 R464 S hR
  obtain ⟨r3, a30, a31, A3, B3⟩ := gv3 (d := d) (a := (h.1 5 ((nI x * 14) + 10))) (b := ((h.1 5 ((nI x * 14) + 2)) - (h.1 1 5))) t8 t66 t0 t1 d1 d2 dz dl W R448 R464 S hR
  have eT : ((h.1 5 ((nI x * 14) + 2)) - (h.1 1 5)) = ((h.1 66 ((40 + (16 * nI x)) + 2)) - (h.1 66 0)) := by rw [c2, show h.1 1 5 = h.1 66 0 from Int32.toInt_inj.mp (d1.symm.trans d2)]
  rw [c10] at B4
  rw [c10, c3] at B2
  rw [c10, eT] at B3
  have gA4 : ∀ (g : Hp) (Q : Option Value → Hp → Prop), (∀ g1, Q (some (.int r4)) (ov 35 36 h g1)) → Call (d + 4) 48 [.ref 34, .ref 1, .int 4, .int (h.1 5 ((nI x * 14) + 10)), .int 0, .int 0] (ov 35 36 h g) Q := fun g Q q => by obtain ⟨g1, c⟩ := A4 g; exact c Q (q g1)
  have gA2 : ∀ (g : Hp) (Q : Option Value → Hp → Prop), (∀ g1, Q (some (.int r2)) (ov 35 36 h g1)) → Call (d + 4) 48 [.ref 34, .ref 1, .int 2, .int (h.1 5 ((nI x * 14) + 10)), .int (h.1 5 ((nI x * 14) + 3)), .int 0] (ov 35 36 h g) Q := fun g Q q => by obtain ⟨g1, c⟩ := A2 g; exact c Q (q g1)
  have gA3 : ∀ (g : Hp) (Q : Option Value → Hp → Prop), (∀ g1, Q (some (.int r3)) (ov 35 36 h g1)) → Call (d + 4) 48 [.ref 34, .ref 1, .int 3, .int (h.1 5 ((nI x * 14) + 10)), .int ((h.1 5 ((nI x * 14) + 2)) - (h.1 1 5)), .int 0] (ov 35 36 h g) Q := fun g Q q => by obtain ⟨g1, c⟩ := A3 g; exact c Q (q g1)
  have gB4 : ∀ (g : Hp) (Q : Option Value → Hp → Prop), (∀ g1, Q (some (.int r4)) (ov 79 80 h g1)) → Call (d + 4) 231 [.ref 65, .int 4, .int (h.1 66 ((40 + (16 * nI x)) + 10)), .int 0, .int 0] (ov 79 80 h g) Q := fun g Q q => by obtain ⟨g1, c⟩ := B4 h g (fun _ _ _ => rfl) rfl; exact c Q (q g1)
  have gB2 : ∀ (g : Hp) (Q : Option Value → Hp → Prop), (∀ g1, Q (some (.int r2)) (ov 79 80 h g1)) → Call (d + 4) 231 [.ref 65, .int 2, .int (h.1 66 ((40 + (16 * nI x)) + 10)), .int (h.1 66 ((40 + (16 * nI x)) + 3)), .int 0] (ov 79 80 h g) Q := fun g Q q => by obtain ⟨g1, c⟩ := B2 h g (fun _ _ _ => rfl) rfl; exact c Q (q g1)
  have gB3 : ∀ (g : Hp) (v : Int32) (Q : Option Value → Hp → Prop), (∀ g1, Q (some (.int r3)) (hI (ov 79 80 h g1) 65 29 v)) → Call (d + 4) 231 [.ref 65, .int 3, .int (h.1 66 ((40 + (16 * nI x)) + 10)), .int ((h.1 66 ((40 + (16 * nI x)) + 2)) - (h.1 66 0)), .int 0] (hI (ov 79 80 h g) 65 29 v) Q := fun g v Q q => by
    obtain ⟨g1, c⟩ := B3 (hI h 65 29 v) g (fun o j n => by
      by_cases e : o = 65
      · subst e; exact hI_j (fun z => n ⟨rfl, z⟩)
      · exact hI_ne e) rfl
    have z := c Q
    rw [ov_65, ov_65] at z
    exact z (q g1)
  have cAB : h.1 5 ((nI x * 14) + 11) = 1 ↔ h.1 66 ((40 + (16 * nI x)) + 11) = 1 := by rw [c11]
  have cA : ∀ (Q : Option Value → Hp → Prop), (h.1 5 ((nI x * 14) + 11) = 1 → Q (some (.int (-1000000002))) h) → (¬ h.1 5 ((nI x * 14) + 11) = 1 → ∀ g1, Q (some (.int ((h.1 5 ((nI x * 14) + 10)) - shV (h.1 5 ((nI x * 14) + 10)) (h.1 5 ((nI x * 14) + 3)) r4 r2 - shS (h.1 5 ((nI x * 14) + 10)) (h.1 5 ((nI x * 14) + 3)) r4 r2 r3))) (hI (hI (hI (hI (ov 35 36 h g1) 5 ((nI x * 14) + 3) ((h.1 5 ((nI x * 14) + 3)) - (shV (h.1 5 ((nI x * 14) + 10)) (h.1 5 ((nI x * 14) + 3)) r4 r2))) 5 ((nI x * 14) + 5) (paP (h.1 5 ((nI x * 14) + 5)) (shS (h.1 5 ((nI x * 14) + 10)) (h.1 5 ((nI x * 14) + 3)) r4 r2 r3))) 5 ((nI x * 14) + 4) (paP (h.1 5 ((nI x * 14) + 4)) ((h.1 5 ((nI x * 14) + 10)) - shV (h.1 5 ((nI x * 14) + 10)) (h.1 5 ((nI x * 14) + 3)) r4 r2 - shS (h.1 5 ((nI x * 14) + 10)) (h.1 5 ((nI x * 14) + 3)) r4 r2 r3))) 5 ((nI x * 14) + 10) 0)) → Call (d + 6) 134 [.ref 0, .int (nI x)] h Q := fun Q kN kG => by
    have c := c_payA (d := d) (h := h) (g := h) (Q := Q) (x := nI x) xm gA4 gA2 gA3 (fun z => absurd hH z) (fun _ f => by rw [hh]; exact kN f) (fun _ f g1 => kG f g1)
    rw [hh] at c
    exact c
  have cB : ∀ (Q : Option Value → Hp → Prop), (h.1 66 ((40 + (16 * nI x)) + 11) = 1 → Q (some (.int (-1000000002))) h) → (¬ h.1 66 ((40 + (16 * nI x)) + 11) = 1 → ∀ g1, Q (some (.int ((h.1 66 ((40 + (16 * nI x)) + 10)) - reV (h.1 66 ((40 + (16 * nI x)) + 10)) (h.1 66 ((40 + (16 * nI x)) + 3)) r4 r2 - reS (h.1 66 ((40 + (16 * nI x)) + 10)) (h.1 66 ((40 + (16 * nI x)) + 3)) r4 r2 r3))) (hI (hI (hI (hI (hI (hI (hI (ov 79 80 h g1) 65 29 (reV (h.1 66 ((40 + (16 * nI x)) + 10)) (h.1 66 ((40 + (16 * nI x)) + 3)) r4 r2)) 65 30 (reS (h.1 66 ((40 + (16 * nI x)) + 10)) (h.1 66 ((40 + (16 * nI x)) + 3)) r4 r2 r3)) 65 31 ((h.1 66 ((40 + (16 * nI x)) + 10)) - reV (h.1 66 ((40 + (16 * nI x)) + 10)) (h.1 66 ((40 + (16 * nI x)) + 3)) r4 r2 - reS (h.1 66 ((40 + (16 * nI x)) + 10)) (h.1 66 ((40 + (16 * nI x)) + 3)) r4 r2 r3)) 66 ((40 + (16 * nI x)) + 3) ((h.1 66 ((40 + (16 * nI x)) + 3)) - (reV (h.1 66 ((40 + (16 * nI x)) + 10)) (h.1 66 ((40 + (16 * nI x)) + 3)) r4 r2))) 66 ((40 + (16 * nI x)) + 5) (geP (h.1 66 ((40 + (16 * nI x)) + 5)) (reS (h.1 66 ((40 + (16 * nI x)) + 10)) (h.1 66 ((40 + (16 * nI x)) + 3)) r4 r2 r3))) 66 ((40 + (16 * nI x)) + 4) (geP (h.1 66 ((40 + (16 * nI x)) + 4)) ((h.1 66 ((40 + (16 * nI x)) + 10)) - reV (h.1 66 ((40 + (16 * nI x)) + 10)) (h.1 66 ((40 + (16 * nI x)) + 3)) r4 r2 - reS (h.1 66 ((40 + (16 * nI x)) + 10)) (h.1 66 ((40 + (16 * nI x)) + 3)) r4 r2 r3))) 66 ((40 + (16 * nI x)) + 10) 0)) → Call (d + 6) 234 [.ref 65, .int (nI x)] h Q := fun Q kN kG => by
    have c := c_payB (d := d) (h := h) (g := h) (Q := Q) (x := nI x) x1B gB4 gB2 gB3 (fun z => absurd hHB z) (fun _ f => by rw [hk]; exact kN f) (fun _ f g1 => kG f g1)
    rw [hk] at c
    exact c
  by_cases hf : h.1 5 ((nI x * 14) + 11) = 1
  · exact Or.inl ⟨-1000000002, fun Q q => cA Q (fun _ => q) (fun z => absurd hf z), fun Q q => cB Q (fun _ => q) (fun z => absurd (cAB.mp hf) z), Or.inr rfl⟩
  have hfB : ¬ h.1 66 ((40 + (16 * nI x)) + 11) = 1 := fun z => hf (cAB.mpr z)
  have e0 : shV (h.1 5 ((nI x * 14) + 10)) (h.1 5 ((nI x * 14) + 3)) r4 r2 = reV (h.1 66 ((40 + (16 * nI x)) + 10)) (h.1 66 ((40 + (16 * nI x)) + 3)) r4 r2 := by rw [shV_re, c10, c3]
  have e1 : shS (h.1 5 ((nI x * 14) + 10)) (h.1 5 ((nI x * 14) + 3)) r4 r2 r3 = reS (h.1 66 ((40 + (16 * nI x)) + 10)) (h.1 66 ((40 + (16 * nI x)) + 3)) r4 r2 r3 := by rw [shS_re, c10, c3]
  have e2 : (h.1 5 ((nI x * 14) + 10)) - shV (h.1 5 ((nI x * 14) + 10)) (h.1 5 ((nI x * 14) + 3)) r4 r2 - shS (h.1 5 ((nI x * 14) + 10)) (h.1 5 ((nI x * 14) + 3)) r4 r2 r3 = (h.1 66 ((40 + (16 * nI x)) + 10)) - reV (h.1 66 ((40 + (16 * nI x)) + 10)) (h.1 66 ((40 + (16 * nI x)) + 3)) r4 r2 - reS (h.1 66 ((40 + (16 * nI x)) + 10)) (h.1 66 ((40 + (16 * nI x)) + 3)) r4 r2 r3 := by rw [e0, e1, c10]
  obtain ⟨y3, yS, yC⟩ := re_I (r4 := r4) (r2 := r2) (r3 := r3) q10.1 q10.2 q3.1 q3.2 a40 a41 a20 a21 a30 a31
  obtain ⟨p5, m5⟩ := paP_ge q5.1 q5.2 yS.1 (Int.le_trans yS.2 (by decide))
  obtain ⟨p4, m4⟩ := paP_ge q4.1 q4.2 yC.1 yC.2
  obtain ⟨rA, hA, ⟨g, rfl, rfl⟩, kA⟩ := (cA (fun r' h' => ∃ g, r' = some (.int ((h.1 5 ((nI x * 14) + 10)) - shV (h.1 5 ((nI x * 14) + 10)) (h.1 5 ((nI x * 14) + 3)) r4 r2 - shS (h.1 5 ((nI x * 14) + 10)) (h.1 5 ((nI x * 14) + 3)) r4 r2 r3)) ∧ h' = (hI (hI (hI (hI (ov 35 36 h g) 5 ((nI x * 14) + 3) ((h.1 5 ((nI x * 14) + 3)) - (shV (h.1 5 ((nI x * 14) + 10)) (h.1 5 ((nI x * 14) + 3)) r4 r2))) 5 ((nI x * 14) + 5) (paP (h.1 5 ((nI x * 14) + 5)) (shS (h.1 5 ((nI x * 14) + 10)) (h.1 5 ((nI x * 14) + 3)) r4 r2 r3))) 5 ((nI x * 14) + 4) (paP (h.1 5 ((nI x * 14) + 4)) ((h.1 5 ((nI x * 14) + 10)) - shV (h.1 5 ((nI x * 14) + 10)) (h.1 5 ((nI x * 14) + 3)) r4 r2 - shS (h.1 5 ((nI x * 14) + 10)) (h.1 5 ((nI x * 14) + 3)) r4 r2 r3))) 5 ((nI x * 14) + 10) 0)) (fun z => absurd z hf) (fun _ g1 => ⟨g1, rfl, rfl⟩)).det
  obtain ⟨rB, hB, ⟨g2, rfl, rfl⟩, kB⟩ := (cB (fun r' h' => ∃ g, r' = some (.int ((h.1 66 ((40 + (16 * nI x)) + 10)) - reV (h.1 66 ((40 + (16 * nI x)) + 10)) (h.1 66 ((40 + (16 * nI x)) + 3)) r4 r2 - reS (h.1 66 ((40 + (16 * nI x)) + 10)) (h.1 66 ((40 + (16 * nI x)) + 3)) r4 r2 r3)) ∧ h' = (hI (hI (hI (hI (hI (hI (hI (ov 79 80 h g) 65 29 (reV (h.1 66 ((40 + (16 * nI x)) + 10)) (h.1 66 ((40 + (16 * nI x)) + 3)) r4 r2)) 65 30 (reS (h.1 66 ((40 + (16 * nI x)) + 10)) (h.1 66 ((40 + (16 * nI x)) + 3)) r4 r2 r3)) 65 31 ((h.1 66 ((40 + (16 * nI x)) + 10)) - reV (h.1 66 ((40 + (16 * nI x)) + 10)) (h.1 66 ((40 + (16 * nI x)) + 3)) r4 r2 - reS (h.1 66 ((40 + (16 * nI x)) + 10)) (h.1 66 ((40 + (16 * nI x)) + 3)) r4 r2 r3)) 66 ((40 + (16 * nI x)) + 3) ((h.1 66 ((40 + (16 * nI x)) + 3)) - (reV (h.1 66 ((40 + (16 * nI x)) + 10)) (h.1 66 ((40 + (16 * nI x)) + 3)) r4 r2))) 66 ((40 + (16 * nI x)) + 5) (geP (h.1 66 ((40 + (16 * nI x)) + 5)) (reS (h.1 66 ((40 + (16 * nI x)) + 10)) (h.1 66 ((40 + (16 * nI x)) + 3)) r4 r2 r3))) 66 ((40 + (16 * nI x)) + 4) (geP (h.1 66 ((40 + (16 * nI x)) + 4)) ((h.1 66 ((40 + (16 * nI x)) + 10)) - reV (h.1 66 ((40 + (16 * nI x)) + 10)) (h.1 66 ((40 + (16 * nI x)) + 3)) r4 r2 - reS (h.1 66 ((40 + (16 * nI x)) + 10)) (h.1 66 ((40 + (16 * nI x)) + 3)) r4 r2 r3))) 66 ((40 + (16 * nI x)) + 10) 0)) (fun z => absurd z hfB) (fun _ g1 => ⟨g1, rfl, rfl⟩)).det
  rw [e2, e0, e1, c3, c5, c4, p5, p4] at kA
  exact Or.inr ⟨x, _, _, _, _, g, _, rfl, xn, y3, m5, m4, okB_3, fun Q q => kA Q q, fun Q q => kB Q q⟩
