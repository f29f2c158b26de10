/-! By hand: pay and takes. -/
theorem wsT_sub : ∀ w ∈ wsT, w ∈ pm35.2.2.1.2.2.2.2.2.1 := List.forall_mem_cons.mpr ⟨List.mem_of_getElem? (i := 1) rfl, List.forall_mem_cons.mpr ⟨List.mem_of_getElem? (i := 2) rfl, List.forall_mem_cons.mpr ⟨List.mem_of_getElem? (i := 3) rfl, List.forall_mem_cons.mpr ⟨List.mem_of_getElem? (i := 5) rfl, List.forall_mem_cons.mpr ⟨List.mem_of_getElem? (i := 6) rfl, fun _ h => absurd h List.not_mem_nil⟩⟩⟩⟩⟩
set_option maxHeartbeats 4000000 in
set_option maxRecDepth 100000 in
theorem pay_end {ρ : Nat → Int} {h g hB : Hp} {n x : Nat} {r v3 v5 v4 : Int32} (M0 : Mo rgT pm35.2.2.1.2.2.2.2.2.1 h ρ (cnS pm35.2.2.1) h) (hR : ∀ q ∈ rgT, RgO h q) (ex : ρ 0 = (x : Int)) (hn : (n : Int) = ρ 2) (n10 : n ≤ 10) (xn : x < n) (b3 : 0 ≤ v3.toInt ∧ v3.toInt ≤ 9999) (b5 : 0 ≤ v5.toInt ∧ v5.toInt ≤ 99999) (b4 : 0 ≤ v4.toInt ∧ v4.toInt ≤ 99999) (ob : okBp h hB) : PmPost rgT pm35.2.2.1 pm35.2.2.2 ρ h (some (.int r)) (some (.int r)) (mxH true (hI (hI (hI (hI (ov 35 36 h g) 5 ((nI x * 14) + 3) v3) 5 ((nI x * 14) + 5) v5) 5 ((nI x * 14) + 4) v4) 5 ((nI x * 14) + 10) 0) (hI (hI (hI (hI hB 66 ((40 + (16 * nI x)) + 3) v3) 66 ((40 + (16 * nI x)) + 5) v5) 66 ((40 + (16 * nI x)) + 4) v4) 66 ((40 + (16 * nI x)) + 10) 0)) := by
  have x10 : x < 10 := by omega
  have F0 := frm_T (g := g) ob
  have eH : mxH true (hI (hI (hI (hI (ov 35 36 h g) 5 ((nI x * 14) + 3) v3) 5 ((nI x * 14) + 5) v5) 5 ((nI x * 14) + 4) v4) 5 ((nI x * 14) + 10) 0) (hI (hI (hI (hI hB 66 ((40 + (16 * nI x)) + 3) v3) 66 ((40 + (16 * nI x)) + 5) v5) 66 ((40 + (16 * nI x)) + 4) v4) 66 ((40 + (16 * nI x)) + 10) 0) = hI (hI (hI (hI (hI (hI (hI (hI (mxH true (ov 35 36 h g) hB) 5 ((nI x * 14) + 3) v3) 5 ((nI x * 14) + 5) v5) 5 ((nI x * 14) + 4) v4) 5 ((nI x * 14) + 10) 0) 66 ((40 + (16 * nI x)) + 3) v3) 66 ((40 + (16 * nI x)) + 5) v5) 66 ((40 + (16 * nI x)) + 4) v4) 66 ((40 + (16 * nI x)) + 10) 0 := by
    rw [mx_wB (by decide), mx_wB (by decide), mx_wB (by decide), mx_wB (by decide), ← hI_mx (s := true) (by decide), ← hI_mx (s := true) (by decide), ← hI_mx (s := true) (by decide), ← hI_mx (s := true) (by decide)]
  rw [eH]
  obtain ⟨K, hK⟩ : ∃ K, K = mxH true (ov 35 36 h g) hB := ⟨_, rfl⟩
  rw [← hK] at F0 ⊢
  have F1 : Frm pm35.2.2.1.2.2.2.2.2.1 h K := ⟨fun o j q => F0.1 o j (fun ⟨w, hw, z⟩ => q ⟨w, wsT_sub w hw, z⟩), fun o j _ => F0.2.1 o j (nwKp rfl), F0.2.2⟩
  have M1 := M0.kl F0 F1 (rgV_sp (vs := wsT) (by decide +kernel) F0 hR)
  have M2 := M1.ff [(0, 0, 9)] [(-1, [(0, -1), (2, 1)])] (List.forall_mem_cons.mpr ⟨⟨by decide +kernel, by show (0 : Int) ≤ ρ 0; omega, by show ρ 0 ≤ (9 : Int); omega⟩, fun _ h => absurd h List.not_mem_nil⟩) (List.forall_mem_cons.mpr ⟨⟨scB_S (by decide +kernel), by show (0 : Int) ≤ -1 + (-1 * ρ 0 + (1 * ρ 2 + 0)); omega⟩, fun _ h => absurd h List.not_mem_nil⟩)
  have M3 := ((M2.nw (x := v3.toInt) (l := 0) (u := 9999) b3.1 b3.2).nw (x := v5.toInt) (l := 0) (u := 99999) b5.1 b5.2).nw (x := v4.toInt) (l := 0) (u := 99999) b4.1 b4.2
  have n22 : (cnS pm35.2.2.1).1 = 38 := by decide +kernel
  obtain ⟨ρ', hρ⟩ : ∃ ρ', ρ' = updS (updS (updS ρ 38 v3.toInt) 39 v5.toInt) 40 v4.toInt := ⟨_, rfl⟩
  have M3 : Mo rgT pm35.2.2.1.2.2.2.2.2.1 h ρ' (nwS (nwS (nwS ((cnS pm35.2.2.1).1, ([(0, 0, 9)] ++ (cnS pm35.2.2.1).2.1.1, [(-1, [(0, -1), (2, 1)])] ++ (cnS pm35.2.2.1).2.1.2), kpL (cnS pm35.2.2.1).2.1 wsT (cnS pm35.2.2.1).2.2) 0 9999) 0 99999) 0 99999) K := by rw [hρ]; exact M3
  have ex' : ρ' 0 = (x : Int) := by rw [hρ, updS_lt (by decide), updS_lt (by decide), updS_lt (by decide)]; exact ex
  have z0 : ρ' 38 = v3.toInt := by rw [hρ, updS_lt (by decide), updS_lt (by decide), updS_at]
  have z1 : ρ' 39 = v5.toInt := by rw [hρ, updS_lt (by decide), updS_at]
  have z2 : ρ' 40 = v4.toInt := by rw [hρ, updS_at]
  have ag : Ag ρ ρ' 38 := fun k hk => by rw [hρ, updS_lt (by omega), updS_lt (by omega), updS_lt hk]
  have M4 := (M3.wr (o := 5) (i := (3, [(0, 14)])) (e := leX 38) (j := ((nI x * 14) + 3)) (v := v3) ⟨scB_S (by decide +kernel), by rw [show (nI x * 14) + 3 = nI (3 + 14 * x) from ixA (f := 3) x10 (by decide), nI_i (by omega)]; show (3 : Int) + (14 * ρ' 0 + 0) = _; omega⟩ ⟨leS_X (by decide +kernel), by rw [leV_X, z0]⟩ (by decide +kernel)).1
  have M5 := (M4.wr (o := 5) (i := (5, [(0, 14)])) (e := leX 39) (j := ((nI x * 14) + 5)) (v := v5) ⟨scB_S (by decide +kernel), by rw [show (nI x * 14) + 5 = nI (5 + 14 * x) from ixA (f := 5) x10 (by decide), nI_i (by omega)]; show (5 : Int) + (14 * ρ' 0 + 0) = _; omega⟩ ⟨leS_X (by decide +kernel), by rw [leV_X, z1]⟩ (by decide +kernel)).1
  have M6 := (M5.wr (o := 5) (i := (4, [(0, 14)])) (e := leX 40) (j := ((nI x * 14) + 4)) (v := v4) ⟨scB_S (by decide +kernel), by rw [show (nI x * 14) + 4 = nI (4 + 14 * x) from ixA (f := 4) x10 (by decide), nI_i (by omega)]; show (4 : Int) + (14 * ρ' 0 + 0) = _; omega⟩ ⟨leS_X (by decide +kernel), by rw [leV_X, z2]⟩ (by decide +kernel)).1
  have M7 := (M6.wr (o := 5) (i := (10, [(0, 14)])) (e := leC 0) (j := ((nI x * 14) + 10)) (v := 0) ⟨scB_S (by decide +kernel), by rw [show (nI x * 14) + 10 = nI (10 + 14 * x) from ixA (f := 10) x10 (by decide), nI_i (by omega)]; show (10 : Int) + (14 * ρ' 0 + 0) = _; omega⟩ ⟨leS_C, leV_C _ _⟩ (by decide +kernel)).1
  have M8 := (M7.wr (o := 66) (i := (43, [(0, 16)])) (e := leX 38) (j := ((40 + (16 * nI x)) + 3)) (v := v3) ⟨scB_S (by decide +kernel), by rw [show (40 + (16 * nI x)) + 3 = nI (43 + 16 * x) from ixH (f := 3) x10 (by decide), nI_i (by omega)]; show (43 : Int) + (16 * ρ' 0 + 0) = _; omega⟩ ⟨leS_X (by decide +kernel), by rw [leV_X, z0]⟩ (by decide +kernel)).1
  have M9 := (M8.wr (o := 66) (i := (45, [(0, 16)])) (e := leX 39) (j := ((40 + (16 * nI x)) + 5)) (v := v5) ⟨scB_S (by decide +kernel), by rw [show (40 + (16 * nI x)) + 5 = nI (45 + 16 * x) from ixH (f := 5) x10 (by decide), nI_i (by omega)]; show (45 : Int) + (16 * ρ' 0 + 0) = _; omega⟩ ⟨leS_X (by decide +kernel), by rw [leV_X, z1]⟩ (by decide +kernel)).1
  have M10 := (M9.wr (o := 66) (i := (44, [(0, 16)])) (e := leX 40) (j := ((40 + (16 * nI x)) + 4)) (v := v4) ⟨scB_S (by decide +kernel), by rw [show (40 + (16 * nI x)) + 4 = nI (44 + 16 * x) from ixH (f := 4) x10 (by decide), nI_i (by omega)]; show (44 : Int) + (16 * ρ' 0 + 0) = _; omega⟩ ⟨leS_X (by decide +kernel), by rw [leV_X, z2]⟩ (by decide +kernel)).1
  have M11 := (M10.wr (o := 66) (i := (50, [(0, 16)])) (e := leC 0) (j := ((40 + (16 * nI x)) + 10)) (v := 0) ⟨scB_S (by decide +kernel), by rw [show (40 + (16 * nI x)) + 10 = nI (50 + 16 * x) from ixH (f := 10) x10 (by decide), nI_i (by omega)]; show (50 : Int) + (16 * ρ' 0 + 0) = _; omega⟩ ⟨leS_C, leV_C _ _⟩ (by decide +kernel)).1
  have M12 := M11.nw (x := r.toInt) (l := -2147483648) (u := 2147483647) (i32b r).1 (i32b r).2
  refine hand_post (r := some (0, leX 41)) (r' := some (0, leX 41)) M12 (ag.tr (upd_ag (n := 41)) (by decide)) (by decide +kernel) (hand_r ⟨leS_X (by decide +kernel), ?_⟩) (hand_r ⟨leS_X (by decide +kernel), ?_⟩) (by decide +kernel)
  · rw [leV_X]
    unfold updS
    rw [if_pos (by decide +kernel)]
  · rw [leV_X]
    unfold updS
    rw [if_pos (by decide +kernel)]
