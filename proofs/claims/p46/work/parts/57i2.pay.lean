/-! By hand: pay and takes. -/
set_option maxHeartbeats 4000000 in
set_option maxRecDepth 100000 in
theorem okP36 : PmOK rgT pm36 := by
  intro d hd ρ as bs h hlen hin hb hc hf hR
  have hd : 6 ≤ d := hd
  have hlen : as.length = 3 := hlen
  generalize hL : as ++ bs = L at hin
  have hin0 := hin
  obtain ⟨v0, s0, rfl, hin⟩ := hin
  rw [if_pos rfl] at hin
  obtain ⟨rfl, -, hin⟩ := hin
  obtain ⟨v1, s1, rfl, hin⟩ := hin
  rw [if_neg (by decide), if_pos rfl] at hin
  obtain ⟨g0, ⟨a0, rfl, e0⟩, hin⟩ := hin
  obtain ⟨v2, s2, rfl, hin⟩ := hin
  rw [if_neg (by decide), if_pos rfl] at hin
  obtain ⟨g1, ⟨a1, rfl, e1⟩, hin⟩ := hin
  obtain ⟨v3, s3, rfl, hin⟩ := hin
  rw [if_pos rfl] at hin
  obtain ⟨rfl, -, hin⟩ := hin
  obtain ⟨v4, s4, rfl, hin⟩ := hin
  rw [if_neg (by decide), if_pos rfl] at hin
  obtain ⟨g2, ⟨b2, rfl, e2⟩, hin⟩ := hin
  obtain ⟨v5, s5, rfl, hin⟩ := hin
  rw [if_neg (by decide), if_pos rfl] at hin
  obtain ⟨g3, ⟨b3, rfl, e3⟩, hin⟩ := hin
  cases hin
  obtain ⟨rfl, rfl⟩ := List.append_inj (show as ++ bs = [Value.ref 0, .int a0, .int a1] ++ [Value.ref 65, .int b2, .int b3] from hL) hlen
  have f0 : (0 : Int) ≤ 0 + (1 * ρ 0 + (-1 * ρ 2 + 0)) := hf _ (List.mem_of_getElem? (i := 0) rfl)
  have f1 : (0 : Int) ≤ 0 + (-1 * ρ 0 + (1 * ρ 2 + 0)) := hf _ (List.mem_of_getElem? (i := 1) rfl)
  have f2 : (0 : Int) ≤ 0 + (1 * ρ 1 + (-1 * ρ 3 + 0)) := hf _ (List.mem_of_getElem? (i := 2) rfl)
  have f3 : (0 : Int) ≤ 0 + (-1 * ρ 1 + (1 * ρ 3 + 0)) := hf _ (List.mem_of_getElem? (i := 3) rfl)
  have f4 : (0 : Int) ≤ 0 + (1 * ρ 4 + (-1 * ρ 5 + 0)) := hf _ (List.mem_of_getElem? (i := 4) rfl)
  have f5 : (0 : Int) ≤ 0 + (-1 * ρ 4 + (1 * ρ 5 + 0)) := hf _ (List.mem_of_getElem? (i := 5) rfl)
  have f6 : (0 : Int) ≤ 0 + (1 * ρ 6 + (-1 * ρ 7 + 0)) := hf _ (List.mem_of_getElem? (i := 6) rfl)
  have f7 : (0 : Int) ≤ 0 + (-1 * ρ 6 + (1 * ρ 7 + 0)) := hf _ (List.mem_of_getElem? (i := 7) rfl)
  have f8 : (0 : Int) ≤ 0 + (1 * ρ 8 + (-1 * ρ 9 + 0)) := hf _ (List.mem_of_getElem? (i := 8) rfl)
  have f9 : (0 : Int) ≤ 0 + (-1 * ρ 8 + (1 * ρ 9 + 0)) := hf _ (List.mem_of_getElem? (i := 9) rfl)
  have f10 : (0 : Int) ≤ 0 + (1 * ρ 6 + (-1 * ρ 17 + 0)) := hf _ (List.mem_of_getElem? (i := 10) rfl)
  have f11 : (0 : Int) ≤ 0 + (-1 * ρ 6 + (1 * ρ 17 + 0)) := hf _ (List.mem_of_getElem? (i := 11) rfl)
  have e0 : ρ 0 = a0.toInt := e0
  have e2 : ρ 2 = b2.toInt := e2
  have e1 : ρ 1 = a1.toInt := e1
  have e3 : ρ 3 = b3.toInt := e3
  obtain rfl : a0 = b2 := Int32.toInt_inj.mp (by omega)
  obtain rfl : a1 = b3 := Int32.toInt_inj.mp (by omega)
  have g0 : (-2147483648 : Int) ≤ ρ 0 ∧ ρ 0 ≤ 2147483647 := g0
  have g1 : (-2147483648 : Int) ≤ ρ 1 ∧ ρ 1 ≤ 2147483647 := g1
  have g2 : (-2147483648 : Int) ≤ ρ 2 ∧ ρ 2 ≤ 2147483647 := g2
  have g3 : (-2147483648 : Int) ≤ ρ 3 ∧ ρ 3 ≤ 2147483647 := g3
  have r4 : (0 : Int) ≤ ρ 4 ∧ ρ 4 ≤ 10 := hb (4, 0, 10) (List.mem_of_getElem? (i := 0) rfl)
  have c4 : ρ 4 = (h.1 4 2).toInt := hc_i (hc (0, 4, (2, []), leX 4) (List.mem_of_getElem? (i := 0) rfl)) rfl
  have r5 : (0 : Int) ≤ ρ 5 ∧ ρ 5 ≤ 10 := hb (5, 0, 10) (List.mem_of_getElem? (i := 1) rfl)
  have c5 : ρ 5 = (h.1 66 2).toInt := hc_i (hc (0, 66, (2, []), leX 5) (List.mem_of_getElem? (i := 1) rfl)) rfl
  have r6 : (0 : Int) ≤ ρ 6 ∧ ρ 6 ≤ 12 := hb (6, 0, 12) (List.mem_of_getElem? (i := 2) rfl)
  have c6 : ρ 6 = (h.1 8 2).toInt := hc_i (hc (0, 8, (2, []), leX 6) (List.mem_of_getElem? (i := 2) rfl)) rfl
  have r7 : (0 : Int) ≤ ρ 7 ∧ ρ 7 ≤ 12 := hb (7, 0, 12) (List.mem_of_getElem? (i := 3) rfl)
  have c7 : ρ 7 = (h.1 66 4).toInt := hc_i (hc (0, 66, (4, []), leX 7) (List.mem_of_getElem? (i := 3) rfl)) rfl
  have r8 : (0 : Int) ≤ ρ 8 ∧ ρ 8 ≤ 999 := hb (8, 0, 999) (List.mem_of_getElem? (i := 4) rfl)
  have c8 : ρ 8 = (h.1 1 5).toInt := hc_i (hc (0, 1, (5, []), leX 8) (List.mem_of_getElem? (i := 4) rfl)) rfl
  have r9 : (0 : Int) ≤ ρ 9 ∧ ρ 9 ≤ 999 := hb (9, 0, 999) (List.mem_of_getElem? (i := 5) rfl)
  have c9 : ρ 9 = (h.1 66 0).toInt := hc_i (hc (0, 66, (0, []), leX 9) (List.mem_of_getElem? (i := 5) rfl)) rfl
  have r10 : (0 : Int) ≤ ρ 10 ∧ ρ 10 ≤ 0 := hb (10, 0, 0) (List.mem_of_getElem? (i := 6) rfl)
  have c10 : KC h 5 66 0 (ρ 10) := kc_at (hc (5, 66, (0, []), leX 10) (List.mem_of_getElem? (i := 6) rfl))
  have r11 : (0 : Int) ≤ ρ 11 ∧ ρ 11 ≤ 0 := hb (11, 0, 0) (List.mem_of_getElem? (i := 7) rfl)
  have c11 : KC h 9 144 0 (ρ 11) := kc_at (hc (9, 144, (0, []), leX 11) (List.mem_of_getElem? (i := 7) rfl))
  have r12 : (0 : Int) ≤ ρ 12 ∧ ρ 12 ≤ 0 := hb (12, 0, 0) (List.mem_of_getElem? (i := 8) rfl)
  have c12 : KC h 9 160 0 (ρ 12) := kc_at (hc (9, 160, (0, []), leX 12) (List.mem_of_getElem? (i := 8) rfl))
  have r13 : (0 : Int) ≤ ρ 13 ∧ ρ 13 ≤ 0 := hb (13, 0, 0) (List.mem_of_getElem? (i := 9) rfl)
  have c13 : KC h 9 272 0 (ρ 13) := kc_at (hc (9, 272, (0, []), leX 13) (List.mem_of_getElem? (i := 9) rfl))
  have r14 : (0 : Int) ≤ ρ 14 ∧ ρ 14 ≤ 0 := hb (14, 0, 0) (List.mem_of_getElem? (i := 10) rfl)
  have c14 : KC h 9 288 0 (ρ 14) := kc_at (hc (9, 288, (0, []), leX 14) (List.mem_of_getElem? (i := 10) rfl))
  have r15 : (0 : Int) ≤ ρ 15 ∧ ρ 15 ≤ 0 := hb (15, 0, 0) (List.mem_of_getElem? (i := 11) rfl)
  have c15 : KC h 9 448 0 (ρ 15) := kc_at (hc (9, 448, (0, []), leX 15) (List.mem_of_getElem? (i := 11) rfl))
  have r16 : (0 : Int) ≤ ρ 16 ∧ ρ 16 ≤ 0 := hb (16, 0, 0) (List.mem_of_getElem? (i := 12) rfl)
  have c16 : KC h 9 464 0 (ρ 16) := kc_at (hc (9, 464, (0, []), leX 16) (List.mem_of_getElem? (i := 12) rfl))
  have r17 : (0 : Int) ≤ ρ 17 ∧ ρ 17 ≤ 12 := hb (17, 0, 12) (List.mem_of_getElem? (i := 13) rfl)
  have c17 : KC h 15 0 0 (ρ 17) := kc_at (hc (15, 0, (0, []), leX 17) (List.mem_of_getElem? (i := 13) rfl))
  have M0 := hand_M (rg := rgT) (s := pm36.2.2.1) (h := h) (ρ := ρ) (by decide +kernel) (by decide +kernel) hin0 hb hc hf hR
  obtain ⟨d', rfl⟩ : ∃ d', d = d' + 6 := ⟨d - 6, (Nat.sub_add_cancel hd).symm⟩
  obtain ⟨n, hn⟩ : ∃ n : Nat, (n : Int) = ρ 4 := ⟨(ρ 4).toNat, Int.toNat_of_nonneg r4.1⟩
  have n10 := cnt_le (m := 10) hn r4.2
  have en : h.1 4 2 = nI n := cnt_n hn c4
  have en2 : h.1 66 2 = nI n := cnt_n (hn.trans (eqI f4 f5)) c5
  have W0 : KC h 5 66 0 0 := by have q := c10; rw [show ρ 10 = 0 from Int.le_antisymm r10.2 r10.1] at q; exact q
  have K448 : KC h 9 448 0 0 := by have q := c15; rw [show ρ 15 = 0 from Int.le_antisymm r15.2 r15.1] at q; exact q
  have K464 : KC h 9 464 0 0 := by have q := c16; rw [show ρ 16 = 0 from Int.le_antisymm r16.2 r16.1] at q; exact q
  have R144 : RLO h 144 0 0 := by have q := c11; rw [show ρ 11 = 0 from Int.le_antisymm r11.2 r11.1] at q; exact q
  have R160 : RLO h 160 0 0 := by have q := c12; rw [show ρ 12 = 0 from Int.le_antisymm r12.2 r12.1] at q; exact q
  have R272 : RLO h 272 0 0 := by have q := c13; rw [show ρ 13 = 0 from Int.le_antisymm r13.2 r13.1] at q; exact q
  have R288 : RLO h 288 0 0 := by have q := c14; rw [show ρ 14 = 0 from Int.le_antisymm r14.2 r14.1] at q; exact q
  have S0 : KC h 15 0 0 (ρ 6) := by have q := c17; rw [show ρ 17 = ρ 6 from (eqI f10 f11).symm] at q; exact q
  obtain ⟨r, hA, hB, cA, cB, FR⟩ := takes_core (d := d') (h := h) (a0 := a0) (a1 := a1) n10 en en2 c6 ((eqI f6 f7).trans c7) r6.1 r6.2 c8 ((eqI f8 f9).trans c9) r8.1 (Int.le_trans r8.2 (by decide)) W0 K448 K464 S0 hR R144 R160 R272 R288
  have FR : Frm pm36.2.2.1.2.2.2.2.2.1 h (mxH true hA hB) := FR
  refine pm_mk (p := pm36) cA cB (List.forall_mem_cons.mpr ⟨fun _ => rfl, List.forall_mem_cons.mpr ⟨trivial, List.forall_mem_cons.mpr ⟨trivial, fun _ h => absurd h List.not_mem_nil⟩⟩⟩) (List.forall_mem_cons.mpr ⟨fun _ => rfl, List.forall_mem_cons.mpr ⟨trivial, List.forall_mem_cons.mpr ⟨trivial, fun _ h => absurd h List.not_mem_nil⟩⟩⟩) ?_
  refine ⟨rgV_sp (by decide +kernel) FR hR, FR, _, List.mem_of_getElem? (i := 0) rfl, updS ρ 18 r.toInt, upd_ag, ?_, ⟨r, rfl, ?_⟩, ⟨r, rfl, ?_⟩, fun c hc => absurd hc List.not_mem_nil, fun f hf => absurd hf List.not_mem_nil⟩
  · refine List.forall_mem_cons.mpr ⟨?_, fun _ h => absurd h List.not_mem_nil⟩
    show (-2147483648 : Int) ≤ updS ρ 18 r.toInt 18 ∧ updS ρ 18 r.toInt 18 ≤ 2147483647
    rw [updS_at]
    exact i32b r
  · show leV _ (leX 18) = _
    rw [leV_X, updS_at]
  · show leV _ (leX 18) = _
    rw [leV_X, updS_at]
