/-! By hand: check. -/
set_option maxHeartbeats 4000000 in
set_option maxRecDepth 100000 in
theorem ck_all {d n m nh ns : Nat} {h H0 H1 H2 H3 : Hp} {H S T E X D : Int} (n30 : n ≤ 30) (n1 : 1 ≤ n) (m60 : m ≤ 60) (eH : (nh : Int) = H) (eS : (ns : Int) = S) (B : ckB H S T E X) (bD : (0 : Int) ≤ D ∧ D ≤ 999) (e0 : H0 = hI (hI h 0 11 0) 65 34 0) (ema : h.1 0 11 = nI m) (emb : h.1 65 34 = nI m) (hza : ¬ h.1 0 12 = 0) (hzb : ¬ h.1 65 3 = 0) (hw0 : ∀ j, j < 60 → h.1 64 (nI j) = h.1 82 (nI j))
    (cB : CRun (d + 6) 61 [.ref 23, .ref 12] H0 none H1) (F1 : Frm ckV H0 H1) (c1 : CRun (d + 6) 260 [.ref 65, .ref 66, .ref 68] H1 none H2) (e68 : ∀ j : Int32, 0 ≤ j.toInt → j.toInt < 3400 → H2.1 68 j = H1.1 66 j) (F2 : Frm [(0, 68, 0, 3399)] H1 H2) (c2 : CRun (d + 6) 260 [.ref 65, .ref 67, .ref 66] H2 none H3) (F3 : Frm [(0, 66, 0, 3399)] H2 H3) (R3 : ckR H3 H S T E X D) (hR3 : ∀ q ∈ rgT, RgO H3 q) :
    ∃ (r : Int32) (hA hB : Hp), CRun (d + 7) 151 [.ref 0, .int (nI n)] h (some (.int r)) hA ∧ CRun (d + 7) 261 [.ref 65, .int (nI n)] h (some (.int r)) hB ∧ Frm ckC h (mxH true hA hB) ∧ (∀ q ∈ rgT, RgO (mxH true hA hB) q) ∧ (mxH true hA hB).1 0 11 = 0 ∧ (mxH true hA hB).1 65 34 = 0 := by
  have sA1 : sS true [Value.ref 23, .ref 12] := (List.forall_mem_cons.mpr ⟨fun _ => rfl, List.forall_mem_cons.mpr ⟨fun _ => rfl, fun _ h => absurd h List.not_mem_nil⟩⟩)
  have sA2 : sS true [Value.ref 37, .ref 23] := (List.forall_mem_cons.mpr ⟨fun _ => rfl, List.forall_mem_cons.mpr ⟨fun _ => rfl, fun _ h => absurd h List.not_mem_nil⟩⟩)
  have sB1 : sS false [Value.ref 65] := (List.forall_mem_cons.mpr ⟨fun _ => rfl, fun _ h => absurd h List.not_mem_nil⟩)
  have sB3 : ∀ {a b : Nat}, sd a = false → sd b = false → sS false [Value.ref 65, .ref a, .ref b] := fun ha hb => List.forall_mem_cons.mpr ⟨fun _ => rfl, List.forall_mem_cons.mpr ⟨fun _ => ha, List.forall_mem_cons.mpr ⟨fun _ => hb, fun _ h => absurd h List.not_mem_nil⟩⟩⟩
  have bB := B
  obtain ⟨bH, bS, -⟩ := bB
  obtain ⟨Ks, k0, hR, hT⟩ := ck_row (N := n) (R := fun i K => ckR K H S T E X (D + (i : Int)) ∧ (∀ q ∈ rgT, RgO K q) ∧ Frm ckQ H3 K) (T := ckT d nh ns) (K0 := H3) (fun i K hi ⟨r, g, f⟩ => by
    obtain ⟨K', ⟨r', g', f'⟩, t'⟩ := ck_next (d := d) (nh := nh) (ns := ns) (i := i) (D0 := D) (by omega) r B (by omega) g f
    refine ⟨K', ⟨?_, g', f'⟩, t'⟩
    rw [show D + ((i + 1 : Nat) : Int) = D + (i : Int) + 1 by omega]
    exact r') ⟨by rw [show D + ((0 : Nat) : Int) = D by omega]; exact R3, hR3, Frm.rf⟩
  -- all that is written
  have F0 : Frm ckW h H0 := by
    rw [e0]
    have i1 : inW ckW 0 0 11 := ⟨(0, 0, 11, 11), by decide, rfl, rfl, by decide, by decide⟩
    have i2 : inW ckW 0 65 34 := ⟨(0, 65, 34, 34), by decide, rfl, rfl, by decide, by decide⟩
    refine ⟨fun o j q => ?_, fun _ _ _ => rfl, rfl⟩
    show (if o = 65 ∧ j = 34 then (0 : Int32) else if o = 0 ∧ j = 11 then 0 else h.1 o j) = h.1 o j
    rw [if_neg (fun z => q (by rw [z.1, z.2]; exact i2)), if_neg (fun z => q (by rw [z.1, z.2]; exact i1))]
  have G1 := ck_tr F0 F1 (by decide +kernel)
  have G2 := ck_tr G1 F2 (by decide +kernel)
  have G3 := ck_tr G2 F3 (by decide +kernel)
  have GK : ∀ i, i ≤ n → Frm ckW h (Ks i) := fun i hi => ck_tr G3 (hR i hi).2.2 (by decide +kernel)
  have sc0 : H0.2.2 = h.2.2 := F0.2.2
  have sc1 : H1.2.2 = h.2.2 := G1.2.2
  have sc2 : H2.2.2 = h.2.2 := G2.2.2
  have sc3 : H3.2.2 = h.2.2 := G3.2.2
  have scK : ∀ i, i ≤ n → (Ks i).2.2 = h.2.2 := fun i hi => (GK i hi).2.2
  -- each side's own heaps
  obtain ⟨As, hAs⟩ : ∃ As : Nat → Hp, As = fun i => mxH true (Ks i) h := ⟨_, rfl⟩
  obtain ⟨Bs, hBs⟩ : ∃ Bs : Nat → Hp, Bs = fun i => mxH false (Ks i) h := ⟨_, rfl⟩
  have a0 : mxH true H0 h = hI h 0 11 0 := by rw [e0, ck_hf (by decide), ← hI_mx (by decide), mx_self]
  have b0 : mxH false H0 h = hI h 65 34 0 := by rw [e0, ← hI_mx (by decide), ck_hf (by decide), mx_self]
  have o1 : mxH true H2 h = mxH true H1 h := by
    have q := (c1.off (s := false) (sB3 (by decide) (by decide))).1
    rw [q]
    exact ck_s (s := true) (sc2.trans sc1.symm)
  have o2 : mxH true H3 h = mxH true H2 h := by
    have q := (c2.off (s := false) (sB3 (by decide) (by decide))).1
    rw [q]
    exact ck_s (s := true) (sc3.trans sc2.symm)
  have o3 : mxH false H1 h = mxH false H0 h := by
    have q := (cB.off (s := true) sA1).1
    rw [q]
    exact ck_s (s := false) (sc1.trans sc0.symm)
  have A0 : As 0 = mxH true H1 h := by rw [hAs]; show mxH true (Ks 0) h = _; rw [k0, o2, o1]
  have B0 : Bs 0 = mxH false H3 h := by rw [hBs]; show mxH false (Ks 0) h = _; rw [k0]
  have rA := cB.mx (s := true) (K := h) sA1
  rw [a0, ← A0] at rA
  have rB1 := c1.mx (s := false) (K := h) (sB3 (by decide) (by decide))
  rw [o3, b0] at rB1
  have rB2 := c2.mx (s := false) (K := h) (sB3 (by decide) (by decide))
  rw [← B0] at rB2
  -- what is summed up
  obtain ⟨v, hv⟩ : ∃ v : Nat → Int32, v = fun j => if j % 2 = 0 then ckS (fun k => (Ks (j / 2 + 1)).1 66 ((40 + (16 * nI k)) + 10)) nh else ckS (fun k => (Ks (j / 2 + 1)).1 66 ((10 + (10 * nI k)) + 6)) ns := ⟨_, rfl⟩
  have v0 : ∀ i, v (2 * i) = ckS (fun k => (Ks (i + 1)).1 66 ((40 + (16 * nI k)) + 10)) nh := fun i => by
    rw [hv]
    dsimp only
    rw [if_pos (show 2 * i % 2 = 0 by omega), show 2 * i / 2 = i by omega]
  have v1 : ∀ i, v (2 * i + 1) = ckS (fun k => (Ks (i + 1)).1 66 ((10 + (10 * nI k)) + 6)) ns := fun i => by
    rw [hv]
    dsimp only
    rw [if_neg (show ¬ (2 * i + 1) % 2 = 0 by omega), show (2 * i + 1) / 2 = i by omega]
  have sAt : ∀ {X k : Hp} {o : Nat} {j : Int32}, sd o = true → (mxH true X k).1 o j = X.1 o j := fun e => mx_at e
  have k66 : ∀ i, i < n → ∀ gA gB : Hp, Ks (i + 1) = hI (hI (mxH true gA gB) 83 (nI (2 * i)) (ckS (fun k => (mxH true gA gB).1 66 ((40 + (16 * nI k)) + 10)) nh)) 83 (nI (2 * i + 1)) (ckS (fun k => (mxH true gA gB).1 66 ((10 + (10 * nI k)) + 6)) ns) → ∀ j : Int32, (Ks (i + 1)).1 66 j = (mxH true gA gB).1 66 j := fun i hi gA gB e j => by rw [e, hI_ne (by decide), hI_ne (by decide)]
  have hp : ∀ i, i < n → CRun (d + 6) 0 [.ref 37, .ref 23] (As i) none (As (i + 1)) := fun i hi => by
    obtain ⟨gA, gB, cA, -, eA, -, -, e⟩ := hT i hi
    have q := cA.mx (s := true) (K := h) sA2
    have z : As (i + 1) = mxH true gA h := by
      rw [hAs]
      show mxH true (Ks (i + 1)) h = _
      rw [e, ck_hf (by decide), ck_hf (by decide), mx_l]
    rw [z, hAs]
    exact q
  have hBr : ∀ i, i < n → ∃ g, CRun (d + 6) 247 [.ref 65] (Bs i) none g ∧ g.1 66 2 = nI nh ∧ g.1 66 1 = nI ns ∧ Bs (i + 1) = hI (hI g 83 (2 * (nI i)) (ckS (fun k => g.1 66 ((40 + (16 * nI k)) + 10)) nh)) 83 ((2 * (nI i)) + 1) (ckS (fun k => g.1 66 ((10 + (10 * nI k)) + 6)) ns) := fun i hi => by
    obtain ⟨gA, gB, -, cB', eA, eB, -, e⟩ := hT i hi
    have q := cB'.mx (s := false) (K := h) sB1
    have RR := (hR (i + 1) hi).1
    have x66 : ∀ j : Int32, (mxH false gB h).1 66 j = (mxH true gA gB).1 66 j := fun j => by rw [mx_at (by decide), mx_off (by decide)]
    have y66 := k66 i hi gA gB e
    refine ⟨mxH false gB h, by rw [hBs]; exact q, ?_, ?_, ?_⟩
    · rw [x66, ← y66]; exact cnt_n (eH) (RR.2.1)
    · rw [x66, ← y66]; exact cnt_n (eS) (RR.2.2.2.1)
    · rw [hBs]
      show mxH false (Ks (i + 1)) h = _
      rw [e, ck_2, ck_p, ← hI_mx (by decide), ← hI_mx (by decide), show mxH false (mxH true gA gB) h = mxH false gB h from ck_s (s := false) (eA.trans eB.symm)]
      rw [show (fun k => (mxH true gA gB).1 66 ((40 + (16 * nI k)) + 10)) = (fun k => (mxH false gB h).1 66 ((40 + (16 * nI k)) + 10)) from funext fun k => (x66 _).symm, show (fun k => (mxH true gA gB).1 66 ((10 + (10 * nI k)) + 6)) = (fun k => (mxH false gB h).1 66 ((10 + (10 * nI k)) + 6)) from funext fun k => (x66 _).symm]
  have h26 : ∀ i, i < n → (As (i + 1)).1 26 2 = nI nh := fun i hi => by
    have RR := (hR (i + 1) hi).1
    rw [hAs]
    show (mxH true (Ks (i + 1)) h).1 26 2 = _
    rw [sAt (by decide)]
    exact cnt_n eH (RR.1)
  have h24 : ∀ i, i < n → (As (i + 1)).1 24 2 = nI ns := fun i hi => by
    have RR := (hR (i + 1) hi).1
    rw [hAs]
    show (mxH true (Ks (i + 1)) h).1 24 2 = _
    rw [sAt (by decide)]
    exact cnt_n eS (RR.2.2.1)
  have hE : ∀ i, i < n → ckS (fun k => (As (i + 1)).1 27 ((nI k * 14) + 10)) nh = v (2 * i) := fun i hi => by
    have RR := (hR (i + 1) hi).1
    rw [v0, ← ck_sumE (show RLO (Ks (i + 1)) 280 0 0 from RR.2.2.2.2.2.2.2.2.2.2.2.2.2.2.2.2.2.2.2.2.2.2.2.2.2.2.2.2.2.2.2.2.2.2.2.2.2.1) (by omega)]
    refine ckS_ext fun k _ => ?_
    rw [hAs]
    exact sAt (by decide)
  have hM : ∀ i, i < n → ckS (fun k => (As (i + 1)).1 25 ((nI k * 8) + 6)) ns = v (2 * i + 1) := fun i hi => by
    have RR := (hR (i + 1) hi).1
    rw [v1, ← ck_sumM (show RLO (Ks (i + 1)) 88 0 0 from RR.2.2.2.2.2.2.2.2.2.2.2.2.2.2.2.2.2.2.2.2.2.2.2.2.2.1) (by omega)]
    refine ckS_ext fun k _ => ?_
    rw [hAs]
    exact sAt (by decide)
  have n64 : ∀ j : Int32, ¬ inW ckW 0 64 j := fun j => nwO (by decide +kernel)
  have n82 : ∀ j : Int32, ¬ inW ckW 0 82 j := fun j => nwO (by decide +kernel)
  have hwA : ∀ i, i < n → ∀ j, j < m → (As (i + 1)).1 64 (nI j) = h.1 82 (nI j) := fun i hi j hj => by
    rw [hAs]
    show (mxH true (Ks (i + 1)) h).1 64 (nI j) = _
    rw [sAt (by decide), (GK (i + 1) hi).1 64 _ (n64 _), hw0 j (by omega)]
  have hv83 : ∀ i, i ≤ n → ∀ j, j < 2 * i → (Ks i).1 83 (nI j) = v j := fun i => by
    induction i with
    | zero => exact fun _ j hj => absurd hj (by omega)
    | succ i ih =>
      intro hi j hj
      obtain ⟨gA, gB, -, -, -, -, e83, e⟩ := hT i hi
      have y66 := k66 i hi gA gB e
      by_cases q1 : j = 2 * i + 1
      · subst q1
        rw [v1, e, hI_eq]
        exact ckS_ext fun k _ => by rw [← e]; exact (y66 _).symm
      · by_cases q0 : j = 2 * i
        · subst q0
          rw [v0, e, hI_jn (ck_ne (by omega) (by omega) (by omega)), hI_eq]
          exact ckS_ext fun k _ => by rw [← e]; exact (y66 _).symm
        · rw [e, hI_jn (ck_ne (by omega) (by omega) q1), hI_jn (ck_ne (by omega) (by omega) q0), e83]
          exact ih (by omega) j (by omega)
  -- as it was
  obtain ⟨rE, hEE, ⟨rfl, x1, x2, x3, x4⟩, cE⟩ := (c_setA_68_66 (d := d + 5) (h := Ks n) (Q := fun r h' => r = none ∧ (∀ o j, o ≠ 66 → h'.1 o j = (Ks n).1 o j) ∧ (∀ j : Int32, 0 ≤ j.toInt → j.toInt < 3400 → h'.1 66 j = (Ks n).1 68 j) ∧ (∀ j : Int32, ¬ (0 ≤ j.toInt ∧ j.toInt < 3400) → h'.1 66 j = (Ks n).1 66 j) ∧ h'.2 = (Ks n).2) (fun h' y1 y2 y3 y4 => ⟨rfl, y1, y2, y3, y4⟩)).det
  have cE : CRun (d + 6) 260 [.ref 65, .ref 68, .ref 66] (Ks n) none hEE := fun Q q => cE Q q
  have rE' := cE.mx (s := false) (K := h) (sB3 (by decide) (by decide))
  obtain ⟨E, hE0⟩ : ∃ E : Hp, E = mxH false hEE h := ⟨_, rfl⟩
  have rE' : CRun (d + 6) 260 [.ref 65, .ref 68, .ref 66] (Bs n) none E := by rw [hBs, hE0]; exact rE'
  have eE : ∀ (o : Nat) (j : Int32), sd o = false → E.1 o j = hEE.1 o j := fun o j e => by rw [hE0]; exact mx_at e
  have hwB : ∀ j, j < m → E.1 82 (nI j) = h.1 82 (nI j) := fun j hj => by rw [eE 82 _ (by decide), x1 82 _ (by decide), (GK n (Nat.le_refl n)).1 82 _ (n82 _)]
  have hvB : ∀ j, j < 2 * n → E.1 83 (nI j) = v j := fun j hj => by rw [eE 83 _ (by decide), x1 83 _ (by decide)]; exact hv83 n (Nat.le_refl n) j hj
  obtain ⟨q0, p1, p2⟩ := ck_first (P := fun j => j < m ∧ j < 2 * n ∧ h.1 82 (nI j) = v j) (2 * n) (fun z => absurd z.2.1 (Nat.lt_irrefl _))
  have hn : 1 ≤ nI n ∧ nI n ≤ 30 := ⟨(tx_le (a := 1) (by decide) (by omega)).mpr n1, (tx_le (b := 30) (by omega) (by decide)).mpr n30⟩
  have kA := ck_A2 (d := d) (h := h) (Q := fun r h' => ∃ j, j ≤ n ∧ r = some (.int (ckA q0 m (2 * n))) ∧ h' = As j) n30 m60 (show nh ≤ 10 by omega) (show ns ≤ 3 by omega) hp h26 h24 hE hM hwA p1 p2 (fun j hj => ⟨j, hj, rfl, rfl⟩) ema hn hza rA
  have kB := ck_B2 (d := d) (h := h) (G := mxH false H2 h) (Q := fun r h' => r = some (.int (ckA q0 m (2 * n))) ∧ h' = E) n30 m60 (show nh ≤ 10 by omega) (show ns ≤ 3 by omega) hBr rE' hwB hvB p1 p2 ⟨rfl, rfl⟩ emb hn hzb rB1 rB2
  obtain ⟨rA', hA', ⟨j, hj, rfl, eA'⟩, cA'⟩ := kA.det
  obtain ⟨rB', hB', ⟨rfl, eB'⟩, cB'⟩ := kB.det
  have eM : mxH true hA' hB' = mxH true (Ks j) hEE := by
    rw [eA', eB', hE0, hAs]
    show mxH true (mxH true (Ks j) h) (mxH false hEE h) = _
    rw [mx_l]
    exact mx_rr (s := true)
  refine ⟨_, _, _, fun Q q => cA' Q q, fun Q q => cB' Q q, ?_, ?_, ?_, ?_⟩
  · rw [eM]
    have c66 : ∀ o (j : Int32), ¬ inW ckC 0 o j → ¬ (o = 66 ∧ 0 ≤ j.toInt ∧ j.toInt < 3400) → ¬ inW ckW 0 o j := fun o j q1 q2 ⟨w, hw, a1, a2, a3, a4⟩ => by
      rcases List.mem_append.mp (show w ∈ ckC ++ [(0, 66, 0, 3399)] from hw) with z | z
      · exact q1 ⟨w, z, a1, a2, a3, a4⟩
      · obtain rfl := List.mem_singleton.mp z
        exact q2 ⟨a2.symm, a3, Int.lt_of_le_of_lt a4 (by decide)⟩
    have cL : ∀ o (j : Int32), ¬ inW ckW 1 o j := fun o j => nwKp (by decide +kernel)
    refine ⟨fun o j' q => ?_, fun o j' q => ?_, scK j hj⟩
    · by_cases e : sd o = true
      · rw [mx_at e]
        exact (GK j hj).1 o j' (c66 o j' q (fun z => by rw [z.1] at e; exact absurd e (by decide)))
      · rw [mx_off e]
        by_cases e6 : o = 66
        · subst e6
          by_cases i6 : 0 ≤ j'.toInt ∧ j'.toInt < 3400
          · rw [x2 j' i6.1 i6.2, (hR n (Nat.le_refl n)).2.2.1 68 j' (nwO (by decide +kernel)), F3.1 68 j' (nwO (by decide +kernel)), e68 j' i6.1 i6.2, F1.1 66 j' (nwO (by decide +kernel)), e0, hI_ne (by decide), hI_ne (by decide)]
          · rw [x3 j' i6]
            exact (GK n (Nat.le_refl n)).1 66 j' (c66 66 j' q (fun z => i6 z.2))
        · rw [x1 o j' e6]
          exact (GK n (Nat.le_refl n)).1 o j' (c66 o j' q (fun z => e6 z.1))
    · by_cases e : sd o = true
      · rw [mx_atL e]
        exact (GK j hj).2.1 o j' (cL o j')
      · rw [mx_offL e, x4]
        exact (GK n (Nat.le_refl n)).2.1 o j' (cL o j')
  · rw [eM]
    exact fun q hq => RgO.mx ((hR j hj).2.1 q hq) (rg_copy (a := 68) (b := 66) (by decide +kernel) x1 x2 (hR n (Nat.le_refl n)).2.1 q hq)
  · rw [eM, mx_at (by decide)]
    have z : H0.1 0 11 = 0 := by rw [e0, hI_ne (by decide), hI_eq]
    rw [(hR j hj).2.2.1 0 11 (ck_nw (by decide +kernel)), F3.1 0 11 (ck_nw (by decide +kernel)), F2.1 0 11 (ck_nw (by decide +kernel)), F1.1 0 11 (ck_nw (by decide +kernel)), z]
  · rw [eM, mx_off (by decide), x1 65 34 (by decide)]
    have z : H0.1 65 34 = 0 := by rw [e0, hI_eq]
    rw [(hR n (Nat.le_refl n)).2.2.1 65 34 (ck_nw (by decide +kernel)), F3.1 65 34 (ck_nw (by decide +kernel)), F2.1 65 34 (ck_nw (by decide +kernel)), F1.1 65 34 (ck_nw (by decide +kernel)), z]
theorem ck_ti {a b : Int} (f1 : 0 ≤ 0 + (10 * a + (-1 * b + 0))) (f2 : 0 ≤ 0 + (-10 * a + (1 * b + 0))) : b = 10 * a := by omega
theorem ck_ze {a : Int32} {x : Int} (e : x = a.toInt) (b : (0 : Int) ≤ x ∧ x ≤ 1) : (a = 0 ∧ x = 0) ∨ (¬ a = 0 ∧ x = 1) := by
  have k0 : (0 : Int32).toInt = 0 := rfl
  by_cases q : a = 0
  · exact Or.inl ⟨q, by rw [e, q]; rfl⟩
  · refine Or.inr ⟨q, ?_⟩
    have : a.toInt ≠ 0 := fun z => q (Int32.toInt_inj.mp (z.trans k0.symm))
    omega
