/-! By hand: both readers as a pair, what lies beside them. -/
theorem CRun.of {d m : Nat} {as : List Value} {h h' : Hp} {r : Option Value} {Q : Option Value → Hp → Prop} (k : CRun d m as h r h') (c : Call d m as h Q) : Q r h' := by
  obtain ⟨r1, h1, ⟨⟨rfl, rfl⟩, q⟩, -⟩ := ((k (fun r1 h1 => r1 = r ∧ h1 = h') ⟨rfl, rfl⟩).and c).det
  exact q
theorem i_nJ {v : Int32} (h0 : 0 ≤ v.toInt) : v = nI v.toInt.toNat := by
  apply Int32.toInt_inj.mp
  have := i32b v
  simp only [I32hi] at this
  rw [nI_i (by omega)]
  omega
/-- what the reference's side alone says -/
theorem kc_mxB {hA hB : Hp} {k : Nat} {x y : Int} (hk : k = 4 ∨ k = 5) (w : KC hB k 66 x y) : KC (mxH true hA hB) k 66 x y := by
  refine dep_cong (by omega) (fun o' j q => mx_off ?_) (fun e => by omega) w
  rcases hk with rfl | rfl
  · rcases q with rfl | ⟨rfl, -⟩
    · decide
    · decide
  · obtain ⟨rfl, -⟩ := q
    decide
theorem nJ_i {k : Nat} {x : Int} (hx : x = k) (hk : k < 2147483648) : (nI k).toInt = x := by rw [nI_i hk, hx]
theorem rl_read {h H : Hp} {r c : Nat} {x y : Int} (hc : c ≤ 2) (hr : r < 2000) (e : rlD r = some (0, (9, (c : Int), 100), (66, 600 + (c : Int), 200), 12, 0)) (hy : y ≤ 0) (w : RLO h r x y) (qa : ∀ j, H.1 9 j = h.1 9 j) (qb : ∀ t : Nat, t < 12 → H.1 66 (nI (600 + c + 200 * t)) = h.1 66 (nI (600 + c + 200 * t))) : RLO H r 0 0 := by
  obtain ⟨k, o1, b1, s1, o2, b2, s2, m, cv, e0, R⟩ := w
  rw [e] at e0
  cases e0
  refine ⟨_, _, _, _, _, _, _, _, _, e, fun t t0 t1 _ => ?_⟩
  have R := R t t0 t1 (Or.inr (by omega))
  rw [rlR0] at R ⊢
  have ei : Int32.ofInt (600 + (c : Int) + 200 * t) = nI (600 + c + 200 * t.toNat) := Int32.toInt_inj.mp (by rw [i32of (by omega) (by omega), nI_i (by omega)]; omega)
  have R : (h.1 9 (Int32.ofInt ((c : Int) + 100 * t))).toInt = (h.1 66 (Int32.ofInt (600 + (c : Int) + 200 * t))).toInt := R
  show (H.1 9 (Int32.ofInt ((c : Int) + 100 * t))).toInt = (H.1 66 (Int32.ofInt (600 + (c : Int) + 200 * t))).toInt
  rw [qa, ei, qb _ (by omega), ← ei]
  exact R
theorem rd_out {h h' : Hp} {tx c t : Nat} (f : frPB (adB tx) h h') (hc : c ≤ 2) (ht : t < 12) : h'.1 66 (nI (600 + c + 200 * t)) = h.1 66 (nI (600 + c + 200 * t)) := by
  refine f.1 66 _ (fun q => ?_)
  rcases q with ⟨q, -⟩ | ⟨-, k, hk, q⟩
  · exact absurd q (by decide)
  · have b := adB_b (tx := tx)
    have q := congrArg Int32.toInt q
    rw [nI_i (by omega), nI_i (by omega)] at q
    unfold adB at q
    split at q <;> omega
theorem sm_read {h H : Hp} {y : Int} {tx : Nat} (hy : y ≤ tx) (w : SMO h 0 y) (qa : ∀ i : Nat, i < 100 * tx → i < 1200 → H.1 9 (nI i) = h.1 9 (nI i)) (qb : ∀ i : Nat, 600 ≤ i → i < 600 + 200 * tx → i < 3000 → H.1 66 (nI i) = h.1 66 (nI i)) : SMO H 0 y := by
  intro t t0 t1 t2
  have a : ∀ i : Int, 0 ≤ i → i < 100 * (t + 1) → rlV H 0 (smC 0) i = rlV h 0 (smC 0) i := fun i i0 i1 => by
    show (H.1 9 (Int32.ofInt i)).toInt = (h.1 9 (Int32.ofInt i)).toInt
    have e : Int32.ofInt i = nI i.toNat := Int32.toInt_inj.mp (by rw [i32of (by omega) (by omega), nI_i (by omega)]; omega)
    rw [e, qa _ (by omega) (by omega)]
  have b : ∀ i : Int, 600 ≤ i → i < 600 + 200 * (t + 1) → rlV H 0 (bgR 0) i = rlV h 0 (bgR 0) i := fun i i0 i1 => by
    show (H.1 66 (Int32.ofInt i)).toInt = (h.1 66 (Int32.ofInt i)).toInt
    have e : Int32.ofInt i = nI i.toNat := Int32.toInt_inj.mp (by rw [i32of (by omega) (by omega), nI_i (by omega)]; omega)
    rw [e, qb _ (by omega) (by omega) (by omega)]
  obtain ⟨w1, w2, w3, w4, w5, w6⟩ := w t t0 t1 t2
  rw [a _ (by omega) (by omega), a _ (by omega) (by omega)]
  refine ⟨w1, w2, w3, w4, by rw [b _ (by omega) (by omega)]; exact w5, fun i i0 i1 => ?_⟩
  rw [a _ (by omega) (by omega), b _ (by omega) (by omega), b _ (by omega) (by omega)]
  exact w6 i i0 i1
theorem Frm.pb {h h' : Hp} {tx : Nat} (f : frPB (adB tx) h h') : Frm [(0, 65, 16, 26), (0, 66, 604, 2995), (0, 66, 3200, 3395)] h h' := by
  refine ⟨fun o j q => f.1 o j (fun z => q ?_), fun o j _ => by rw [f.2], by rw [f.2]⟩
  rcases z with ⟨rfl, z⟩ | ⟨rfl, k, hk, rfl⟩
  · refine ⟨_, List.mem_cons_self, rfl, rfl, ?_⟩
    rcases z with rfl | rfl | rfl | rfl | rfl | rfl | rfl | rfl | rfl | rfl | rfl <;> exact ⟨by decide, by decide⟩
  · unfold adB
    by_cases ht : tx < 12
    · rw [if_pos ht]
      refine ⟨_, List.mem_cons_of_mem _ List.mem_cons_self, rfl, rfl, ?_⟩
      rw [nI_i (by omega)]
      dsimp only
      omega
    · rw [if_neg ht]
      refine ⟨_, List.mem_cons_of_mem _ (List.mem_cons_of_mem _ List.mem_cons_self), rfl, rfl, ?_⟩
      rw [nI_i (by omega)]
      dsimp only
      omega
theorem rd_out2 {h h' : Hp} {tx : Nat} (f : frPB (adB tx) h h') {i : Nat} (h1 : i < 600 + 200 * tx) (h2 : i < 3000) : h'.1 66 (nI i) = h.1 66 (nI i) := by
  refine f.1 66 _ (fun q => ?_)
  rcases q with ⟨q, -⟩ | ⟨-, k, hk, q⟩
  · exact absurd q (by decide)
  · have b := adB_b (tx := tx)
    have q := congrArg Int32.toInt q
    rw [nI_i (by omega), nI_i (by omega)] at q
    unfold adB at q
    split at q <;> omega
theorem ukC {h : Hp} {ρ : Nat → Int} {k o : Nat} {y : Int} {n g : Nat} (w : KC h k o 0 y) (hg : g < n) (e : ρ g = y) : kcO ρ n h (k, o, leC 0, leX g) := ⟨leS_C, leS_X hg, by
  show KC h k o (leV ρ (leC 0)) (leV ρ (leX g))
  rw [leV_C, leV_X, e]
  exact w⟩
theorem ukN {h : Hp} {ρ : Nat → Int} {k o n : Nat} {y : Int} (w : KC h k o 0 y) : kcO ρ n h (k, o, leC 0, leC y) := ⟨leS_C, leS_C, by
  show KC h k o (leV ρ (leC 0)) (leV ρ (leC y))
  rw [leV_C, leV_C]
  exact w⟩
theorem ukI {h : Hp} {ρ : Nat → Int} {o n : Nat} {I : Int32} {i : Int} {e : LE} (hi : I.toInt = i) (he : GG ρ n e (h.1 o I).toInt) : kcO ρ n h (0, o, leC i, e) := ⟨leS_C, he.1, I, by show leV ρ (leC i) = _; rw [leV_C, hi], he.2⟩
set_option maxRecDepth 100000 in
theorem okP17 : PmOK rgT pm17 := by
  intro d hd ρ as bs h hlen hin hb hc hf hR
  have hd : 116 ≤ d := hd
  have hlen : as.length = 1 := hlen
  generalize hL : as ++ bs = L at hin
  have hin0 := hin
  obtain ⟨v0, s0, rfl, hin⟩ := hin
  rw [if_pos rfl] at hin
  obtain ⟨rfl, -, hin⟩ := hin
  obtain ⟨v1, s1, rfl, hin⟩ := hin
  rw [if_pos rfl] at hin
  obtain ⟨rfl, -, hin⟩ := hin
  cases hin
  obtain ⟨rfl, rfl⟩ := List.append_inj (show as ++ bs = [Value.ref 55] ++ [Value.ref 65] from hL) hlen
  have f0 : (0 : Int) ≤ 0 + (1 * ρ 0 + (-1 * ρ 1 + 0)) := hf _ (List.mem_of_getElem? (i := 0) rfl)
  have f1 : (0 : Int) ≤ 0 + (-1 * ρ 0 + (1 * ρ 1 + 0)) := hf _ (List.mem_of_getElem? (i := 1) rfl)
  have f2 : (0 : Int) ≤ 0 + (1 * ρ 2 + (-1 * ρ 14 + 0)) := hf _ (List.mem_of_getElem? (i := 2) rfl)
  have r0 : (0 : Int) ≤ ρ 0 ∧ ρ 0 ≤ 96 := hb (0, 0, 96) (List.mem_of_getElem? (i := 0) rfl)
  have c0 : ρ 0 = (h.1 53 1).toInt := hc_i (hc (0, 53, (1, []), leX 0) (List.mem_of_getElem? (i := 0) rfl)) rfl
  have r1 : (0 : Int) ≤ ρ 1 ∧ ρ 1 ≤ 96 := hb (1, 0, 96) (List.mem_of_getElem? (i := 1) rfl)
  have c1 : ρ 1 = (h.1 65 16).toInt := hc_i (hc (0, 65, (16, []), leX 1) (List.mem_of_getElem? (i := 1) rfl)) rfl
  have r2 : (0 : Int) ≤ ρ 2 ∧ ρ 2 ≤ 12 := hb (2, 0, 12) (List.mem_of_getElem? (i := 2) rfl)
  have c2 : ρ 2 = (h.1 66 4).toInt := hc_i (hc (0, 66, (4, []), leX 2) (List.mem_of_getElem? (i := 2) rfl)) rfl
  have r3 : (0 : Int) ≤ ρ 3 ∧ ρ 3 ≤ 0 := hb (3, 0, 0) (List.mem_of_getElem? (i := 3) rfl)
  have c3 : KC h 5 66 0 (ρ 3) := kc_at (hc (5, 66, (0, []), leX 3) (List.mem_of_getElem? (i := 3) rfl))
  have r4 : (0 : Int) ≤ ρ 4 ∧ ρ 4 ≤ 0 := hb (4, 0, 0) (List.mem_of_getElem? (i := 4) rfl)
  have c4 : KC h 9 2003 0 (ρ 4) := kc_at (hc (9, 2003, (0, []), leX 4) (List.mem_of_getElem? (i := 4) rfl))
  have r5 : (0 : Int) ≤ ρ 5 ∧ ρ 5 ≤ 0 := hb (5, 0, 0) (List.mem_of_getElem? (i := 5) rfl)
  have c5 : KC h 9 448 0 (ρ 5) := kc_at (hc (9, 448, (0, []), leX 5) (List.mem_of_getElem? (i := 5) rfl))
  have r6 : (0 : Int) ≤ ρ 6 ∧ ρ 6 ≤ 0 := hb (6, 0, 0) (List.mem_of_getElem? (i := 6) rfl)
  have c6 : KC h 9 464 0 (ρ 6) := kc_at (hc (9, 464, (0, []), leX 6) (List.mem_of_getElem? (i := 6) rfl))
  have r7 : (0 : Int) ≤ ρ 7 ∧ ρ 7 ≤ 0 := hb (7, 0, 0) (List.mem_of_getElem? (i := 7) rfl)
  have c7 : KC h 9 480 0 (ρ 7) := kc_at (hc (9, 480, (0, []), leX 7) (List.mem_of_getElem? (i := 7) rfl))
  have r8 : (0 : Int) ≤ ρ 8 ∧ ρ 8 ≤ 0 := hb (8, 0, 0) (List.mem_of_getElem? (i := 8) rfl)
  have c8 : KC h 9 512 0 (ρ 8) := kc_at (hc (9, 512, (0, []), leX 8) (List.mem_of_getElem? (i := 8) rfl))
  have r9 : (0 : Int) ≤ ρ 9 ∧ ρ 9 ≤ 0 := hb (9, 0, 0) (List.mem_of_getElem? (i := 9) rfl)
  have c9 : KC h 9 528 0 (ρ 9) := kc_at (hc (9, 528, (0, []), leX 9) (List.mem_of_getElem? (i := 9) rfl))
  have r10 : (0 : Int) ≤ ρ 10 ∧ ρ 10 ≤ 0 := hb (10, 0, 0) (List.mem_of_getElem? (i := 10) rfl)
  have c10 : KC h 9 544 0 (ρ 10) := kc_at (hc (9, 544, (0, []), leX 10) (List.mem_of_getElem? (i := 10) rfl))
  have r11 : (0 : Int) ≤ ρ 11 ∧ ρ 11 ≤ 0 := hb (11, 0, 0) (List.mem_of_getElem? (i := 11) rfl)
  have c11 : KC h 9 560 0 (ρ 11) := kc_at (hc (9, 560, (0, []), leX 11) (List.mem_of_getElem? (i := 11) rfl))
  have r12 : (0 : Int) ≤ ρ 12 ∧ ρ 12 ≤ 0 := hb (12, 0, 0) (List.mem_of_getElem? (i := 12) rfl)
  have c12 : KC h 14 8 0 (ρ 12) := kc_at (hc (14, 8, (0, []), leX 12) (List.mem_of_getElem? (i := 12) rfl))
  have r13 : (0 : Int) ≤ ρ 13 ∧ ρ 13 ≤ 0 := hb (13, 0, 0) (List.mem_of_getElem? (i := 13) rfl)
  have c13 : KC h 14 12 0 (ρ 13) := kc_at (hc (14, 12, (0, []), leX 13) (List.mem_of_getElem? (i := 13) rfl))
  have r14 : (0 : Int) ≤ ρ 14 ∧ ρ 14 ≤ 12 := hb (14, 0, 12) (List.mem_of_getElem? (i := 14) rfl)
  have c14 : KC h 15 0 0 (ρ 14) := kc_at (hc (15, 0, (0, []), leX 14) (List.mem_of_getElem? (i := 14) rfl))
  have M0 := hand_M (rg := rgT) (s := pm17.2.2.1) (h := h) (ρ := ρ) (by decide +kernel) (by decide +kernel) hin0 hb hc hf hR
  obtain ⟨n, hn⟩ : ∃ n : Nat, (n : Int) = ρ 1 := ⟨(ρ 1).toNat, by omega⟩
  obtain ⟨tx, htx⟩ : ∃ n : Nat, (n : Int) = ρ 2 := ⟨(ρ 2).toNat, by omega⟩
  have tB : TPB h n := ⟨by omega, by rw [i_nJ (v := h.1 65 16) (by omega)]; congr 1; omega⟩
  have ex : h.1 66 4 = nI tx := by rw [i_nJ (v := h.1 66 4) (by omega)]; congr 1; omega
  have R2 : ∀ p : Nat, p < 96 → (h.1 54 (nI p)).toInt = (h.1 78 (nI p)).toInt := fun p hp => by
    obtain ⟨k, o1, b1, s1, o2, bb2, s2, m, cv, e0, R⟩ := (show RLO h 2003 0 (ρ 4) from c4)
    have e1 : rlD 2003 = some (0, (54, 0, 1), (78, 0, 1), 96, 0) := rfl
    have e0 : rlD 2003 = some (k, (o1, b1, s1), (o2, bb2, s2), m, cv) := e0
    rw [e1] at e0
    cases e0
    have R := R p (by omega) (by omega) (Or.inr (by omega))
    rw [rlR0] at R
    have ei : Int32.ofInt (0 + 1 * (p : Int)) = nI p := Int32.toInt_inj.mp (by rw [i32of (by omega) (by omega), nI_i (by omega)]; omega)
    have R : (h.1 54 (Int32.ofInt (0 + 1 * (p : Int)))).toInt = (h.1 78 (Int32.ofInt (0 + 1 * (p : Int)))).toInt := R
    rw [ei] at R
    exact R
  have b54 : ∀ p : Nat, p < 96 → 0 ≤ (h.1 54 (nI p)).toInt ∧ (h.1 54 (nI p)).toInt ≤ 255 := fun p hp => hR (54, 0, 1, 96, 0, 255) (by decide +kernel) (nI p) p (by omega) (by dsimp only; omega) (by rw [nI_i (by omega)]; dsimp only; omega)
  have c255 : (255 : Int32).toInt = 255 := rfl
  have bB : BY (h.1 78) n := fun p hp => by
    have := b54 p (by omega)
    have := R2 p (by omega)
    exact ⟨by rw [ge0I]; omega, by rw [Int32.le_iff_toInt_le, c255]; omega⟩
  have tA : TP h n := ⟨by omega, by rw [i_nJ (v := h.1 53 1) (by omega)]; congr 1; omega⟩
  have bA : BY (h.1 54) n := fun p hp => by
    have := b54 p (by omega)
    exact ⟨by rw [ge0I]; omega, by rw [Int32.le_iff_toInt_le, c255]; omega⟩
  have e : ∀ p, p < n → h.1 54 (nI p) = h.1 78 (nI p) := fun p hp => Int32.toInt_inj.mp (R2 p (by omega))
  have W0 : ρ 3 = 0 := by omega
  have x0 : ρ 1 = (h.1 65 16).toInt := c1
  have ssA : sS true [Value.ref 55] := List.forall_mem_cons.mpr ⟨fun _ => rfl, fun _ h => absurd h List.not_mem_nil⟩
  have ssB : sS false [Value.ref 65] := List.forall_mem_cons.mpr ⟨fun _ => rfl, fun _ h => absurd h List.not_mem_nil⟩
  have SA := okRA d (by show 6 ≤ _; omega) (fun k => ρ ([].getD k 0)) [.ref 55] h ⟨_, _, rfl, by rw [if_pos rfl]; exact ⟨rfl, by decide, rfl⟩⟩ (fun _ h => absurd h List.not_mem_nil) (fun _ h => absurd h List.not_mem_nil) (fun _ h => absurd h List.not_mem_nil) hR
  have SB := okRB d (by show 116 ≤ _; omega) (fun k => ρ ([1, 2, 3].getD k 0)) [.ref 65] h ⟨_, _, rfl, by rw [if_pos rfl]; exact ⟨rfl, by decide, rfl⟩⟩ (List.forall_mem_cons.mpr ⟨by show (0 : Int) ≤ ρ 1 ∧ ρ 1 ≤ 96; omega, List.forall_mem_cons.mpr ⟨by show (0 : Int) ≤ ρ 2 ∧ ρ 2 ≤ 12; omega, List.forall_mem_cons.mpr ⟨by show (0 : Int) ≤ ρ 3 ∧ ρ 3 ≤ 0; omega, fun _ h => absurd h List.not_mem_nil⟩⟩⟩) (List.forall_mem_cons.mpr ⟨⟨16, leV_C _ 16, by show leV _ (leX 0) = _; rw [leV_X]; exact c1⟩, List.forall_mem_cons.mpr ⟨⟨4, leV_C _ 4, by show leV _ (leX 1) = _; rw [leV_X]; exact c2⟩, List.forall_mem_cons.mpr ⟨by show KC h 5 66 (leV _ (leC 0)) (leV _ (leX 2)); rw [leV_C, leV_X]; exact c3, fun _ h => absurd h List.not_mem_nil⟩⟩⟩) (fun _ h => absurd h List.not_mem_nil) hR
  obtain ⟨rA, hA, rB, hB, cA, cB, ⟨gA, wA, -⟩, ⟨gB, wB, oB, hoB, ρB, agB, bdB, rtB, kcB', fcB⟩, fa, en, H⟩ := rp_both (Nat.le_trans (by decide) hd) tA tB bA e ex (by omega) SA SB
  have FR : Frm pm17.2.2.1.2.2.2.2.2.1 h (mxH true hA hB) := Frm.mx wA wB (by decide) (by decide)
  have FX : Frm ([(0, 55, 3, 11), (0, 56, 1, 1), (0, 57, 0, 95), (0, 58, 1, 1), (0, 59, 0, 95), (0, 65, 16, 26), (0, 66, 604, 2995), (0, 66, 3200, 3395)] : List Wr) h (mxH true hA hB) := Frm.mx (wb := ([(0, 65, 16, 26), (0, 66, 604, 2995), (0, 66, 3200, 3395)] : List Wr)) wA (Frm.pb en.fr) (by decide) (by decide)
  have RG : ∀ q ∈ rgT, RgO (mxH true hA hB) q := fun q hq => RgO.mx (gA q hq) (gB q hq)
  have q9 : ∀ j, (mxH true hA hB).1 9 j = h.1 9 j := fun j => (mx_at (by decide)).trans (fa.1 9 j (by decide))
  have K448 : KC (mxH true hA hB) 9 448 0 0 := rl_read (c := 0) (by decide) (by decide) rfl (by show ρ 5 ≤ 0; omega) (show RLO h 448 0 (ρ 5) from c5) q9 (fun t ht => (mx_off (by decide)).trans (rd_out en.fr (by decide) ht))
  have K464 : KC (mxH true hA hB) 9 464 0 0 := rl_read (c := 1) (by decide) (by decide) rfl (by show ρ 6 ≤ 0; omega) (show RLO h 464 0 (ρ 6) from c6) q9 (fun t ht => (mx_off (by decide)).trans (rd_out en.fr (by decide) ht))
  have K480 : KC (mxH true hA hB) 9 480 0 0 := rl_read (c := 2) (by decide) (by decide) rfl (by show ρ 7 ≤ 0; omega) (show RLO h 480 0 (ρ 7) from c7) q9 (fun t ht => (mx_off (by decide)).trans (rd_out en.fr (by decide) ht))
  have KS : KC (mxH true hA hB) 15 0 0 (ρ 14) := sm_read (tx := tx) (by omega) (show SMO h 0 (ρ 14) from c14) (fun i _ _ => q9 _) (fun i _ h2 h3 => (mx_off (by decide)).trans (rd_out2 en.fr h2 h3))
  have K16 : ((mxH true hA hB).1 65 16).toInt = 0 := by show (hB.1 65 16).toInt = 0; rw [en.e16]; rfl
  have k5 : KC hB 5 66 0 0 := by
    rcases List.mem_cons.mp hoB with rfl | hoB
    · exact kcB' (5, 66, (0, []), (0, [])) (List.mem_of_getElem? (i := 0) rfl)
    rcases List.mem_cons.mp hoB with rfl | hoB
    · exact kcB' (5, 66, (0, []), (0, [])) (List.mem_of_getElem? (i := 3) rfl)
    rcases List.mem_cons.mp hoB with rfl | hoB
    · exact kcB' (5, 66, (0, []), (0, [])) (List.mem_of_getElem? (i := 3) rfl)
    cases hoB
  have K5 : KC (mxH true hA hB) 5 66 0 0 := kc_mxB (Or.inr rfl) k5
  have M1 := M0.kl FX FR RG
  rcases H with ⟨s, hs, rfl, rfl, e17⟩ | ⟨key, pr, out, hkey, rfl, rfl, e3, e4, e26, e56, -, e24, -, hlo⟩
  · -- both find a fault
    refine pm_mk (p := pm17) cA cB ssA ssB ?_
    have M2 := M1.nw (x := (s : Int)) (l := 0) (u := 96) (by omega) (by omega)
    obtain ⟨ρ', hρ⟩ : ∃ ρ' : Nat → Int, ρ' = updS ρ 15 (s : Int) := ⟨_, rfl⟩
    have M2 : Mo rgT pm17.2.2.1.2.2.2.2.2.1 h ρ' (nwS ((cnS pm17.2.2.1).1, (cnS pm17.2.2.1).2.1, kpL (cnS pm17.2.2.1).2.1 ([(0, 55, 3, 11), (0, 56, 1, 1), (0, 57, 0, 95), (0, 58, 1, 1), (0, 59, 0, 95), (0, 65, 16, 26), (0, 66, 604, 2995), (0, 66, 3200, 3395)] : List Wr) (cnS pm17.2.2.1).2.2) 0 96) (mxH true hA hB) := by rw [hρ]; exact M2
    have ag : Ag ρ ρ' 15 := fun k hk => by rw [hρ, updS_lt hk]
    have u : ρ' 15 = (s : Int) := by rw [hρ, updS_at]
    have M3 := (((((((M2.kc (ukI (I := 17) (o := 65) (i := 17) rfl (e := leX 15) ⟨leS_X (by decide +kernel), by rw [leV_X, u]; show _ = (hB.1 65 17).toInt; rw [e17, nI_i (by omega)]⟩)).kc (ukI (I := 16) (o := 65) (i := 16) rfl (e := leC 0) ⟨leS_C, by rw [leV_C, K16]⟩)).kc (ukN K5)).kc (ukN K448)).kc (ukN K464)).kc (ukN K480)).kc (ukC KS (g := 14) (by decide +kernel) (ag _ (by decide))))
    exact hand_post (r := some (0, leX 15)) (r' := some (0, leC (-1))) M3 ag (by decide +kernel) (hand_r ⟨leS_X (by decide +kernel), by rw [leV_X, u, nI_i (by omega)]⟩) (hand_r ⟨leS_C, leV_C _ _⟩) (by decide +kernel)
  · -- both read a text
    have k4 : KC hB 4 66 0 1 := by
      rcases List.mem_cons.mp hoB with rfl | hoB
      · obtain ⟨x, q1, q2⟩ := rtB
        cases q1
        have q2 : (-1 : Int) + 0 = (nI key).toInt := q2
        rw [nI_i (by omega)] at q2
        omega
      rcases List.mem_cons.mp hoB with rfl | hoB
      · exact kcB' (4, 66, (0, []), (1, [])) (List.mem_of_getElem? (i := 2) rfl)
      rcases List.mem_cons.mp hoB with rfl | hoB
      · exact kcB' (4, 66, (0, []), (1, [])) (List.mem_of_getElem? (i := 2) rfl)
      cases hoB
    have K4 : KC (mxH true hA hB) 4 66 0 1 := kc_mxB (Or.inl rfl) k4
    have pb := i32b (nI pr)
    refine pm_mk (p := pm17) cA cB ssA ssB ?_
    have go : ∀ (bs : List (Nat × Int × Int)) (A : LE), (∀ q ∈ bs, q.1 < 15 ∧ q.2.1 ≤ ρ q.1 ∧ ρ q.1 ≤ q.2.2) → (∀ ρ' : Nat → Int, Ag ρ ρ' 15 → GG ρ' 18 A (adB tx : Int)) → (∀ S, S = ((nwS (nwS (nwS ((cnS pm17.2.2.1).1, (bs ++ (cnS pm17.2.2.1).2.1.1, (cnS pm17.2.2.1).2.1.2), kpL (cnS pm17.2.2.1).2.1 ([(0, 55, 3, 11), (0, 56, 1, 1), (0, 57, 0, 95), (0, 58, 1, 1), (0, 59, 0, 95), (0, 65, 16, 26), (0, 66, 604, 2995), (0, 66, 3200, 3395)] : List Wr) (cnS pm17.2.2.1).2.2) 0 5) (-2147483648) 2147483647) 0 96) : Sx) → finP rgT pm17.2.2.1 pm17.2.2.2 (S.1, S.2.1, (15, 0, leC 0, leX 14) :: (9, 480, leC 0, leC 0) :: (9, 464, leC 0, leC 0) :: (9, 448, leC 0, leC 0) :: (5, 66, leC 0, leC 0) :: (4, 66, leC 0, leC 1) :: (0, 65, leC 16, leC 0) :: (0, 65, leC 25, A) :: (0, 65, leC 24, leX 17) :: (0, 65, leC 26, leX 16) :: (0, 56, leC 1, leX 17) :: (0, 55, leC 4, leX 16) :: (0, 55, leC 3, leX 15) :: S.2.2) (some (0, leC (-1000000005))) (some (0, leX 15)) = true) → PmPost rgT pm17.2.2.1 pm17.2.2.2 ρ h (some (.int (-1000000005))) (some (.int (nI key))) (mxH true hA hB) := fun bs A hbs hA' hfin => by
      have M2 := (((M1.fc bs hbs).nw (x := (key : Int)) (l := 0) (u := 5) (by omega) (by omega)).nw (x := (nI pr).toInt) (l := -2147483648) (u := 2147483647) pb.1 pb.2).nw (x := (out.length : Int)) (l := 0) (u := 96) (by omega) (by omega)
      obtain ⟨ρ', hρ⟩ : ∃ ρ' : Nat → Int, ρ' = updS (updS (updS ρ 15 (key : Int)) 16 (nI pr).toInt) 17 (out.length : Int) := ⟨_, rfl⟩
      have ag : Ag ρ ρ' 15 := fun k hk => by rw [hρ, updS_lt (by omega), updS_lt (by omega), updS_lt hk]
      have u1 : ρ' 15 = (key : Int) := by rw [hρ, updS_lt (by omega), updS_lt (by omega), updS_at]
      have u2 : ρ' 16 = (nI pr).toInt := by rw [hρ, updS_lt (by omega), updS_at]
      have u3 : ρ' 17 = (out.length : Int) := by rw [hρ, updS_at]
      obtain ⟨S, hS⟩ : ∃ S : Sx, S = nwS (nwS (nwS ((cnS pm17.2.2.1).1, (bs ++ (cnS pm17.2.2.1).2.1.1, (cnS pm17.2.2.1).2.1.2), kpL (cnS pm17.2.2.1).2.1 ([(0, 55, 3, 11), (0, 56, 1, 1), (0, 57, 0, 95), (0, 58, 1, 1), (0, 59, 0, 95), (0, 65, 16, 26), (0, 66, 604, 2995), (0, 66, 3200, 3395)] : List Wr) (cnS pm17.2.2.1).2.2) 0 5) (-2147483648) 2147483647) 0 96 := ⟨_, rfl⟩
      have M2 : Mo rgT pm17.2.2.1.2.2.2.2.2.1 h ρ' S (mxH true hA hB) := by rw [hρ, hS]; exact M2
      have S1 : S.1 = 18 := by rw [hS]; exact (by decide +kernel : (cnS pm17.2.2.1).1 + 1 + 1 + 1 = 18)
      have lt : ∀ k, k < 18 → k < S.1 := fun k hk => by rw [S1]; exact hk
      have M3 := M2.kc (ukI (I := 3) (i := 3) (o := 55) rfl (e := leX 15) ⟨leS_X (lt _ (by decide)), by rw [leV_X, u1]; show _ = (hA.1 55 3).toInt; rw [e3, nI_i (by omega)]⟩)
      have M3 := M3.kc (ukI (I := 4) (i := 4) (o := 55) rfl (e := leX 16) ⟨leS_X (lt _ (by decide)), by rw [leV_X, u2]; show _ = (hA.1 55 4).toInt; rw [e4]⟩)
      have M3 := M3.kc (ukI (I := 1) (i := 1) (o := 56) rfl (e := leX 17) ⟨leS_X (lt _ (by decide)), by rw [leV_X, u3]; show _ = (hA.1 56 1).toInt; rw [e56, nI_i (by omega)]⟩)
      have M3 := M3.kc (ukI (I := 26) (i := 26) (o := 65) rfl (e := leX 16) ⟨leS_X (lt _ (by decide)), by rw [leV_X, u2]; show _ = (hB.1 65 26).toInt; rw [e26]⟩)
      have M3 := M3.kc (ukI (I := 24) (i := 24) (o := 65) rfl (e := leX 17) ⟨leS_X (lt _ (by decide)), by rw [leV_X, u3]; show _ = (hB.1 65 24).toInt; rw [e24, nI_i (by omega)]⟩)
      have M3 := M3.kc (ukI (I := 25) (i := 25) (o := 65) rfl (e := A) (by
        have b := adB_b (tx := tx)
        have g := hA' ρ' ag
        rw [← S1] at g
        refine ⟨g.1, ?_⟩
        rw [g.2]
        show _ = (hB.1 65 25).toInt
        rw [en.e25, nI_i (by omega)]))
      have M3 := M3.kc (ukI (I := 16) (i := 16) (o := 65) rfl (e := leC 0) ⟨leS_C, by rw [leV_C, K16]⟩)
      have M3 := ((((M3.kc (ukN K4)).kc (ukN K5)).kc (ukN K448)).kc (ukN K464)).kc (ukN K480)
      have M3 := M3.kc (ukC KS (g := 14) (lt _ (by decide)) (ag _ (by decide)))
      exact hand_post (r := some (0, leC (-1000000005))) (r' := some (0, leX 15)) M3 ag (by show 15 ≤ S.1; rw [S1]; decide) (hand_r ⟨leS_C, leV_C _ _⟩) (hand_r ⟨leS_X (lt _ (by decide)), by rw [leV_X, u1, nI_i (by omega)]⟩) (hfin S hS)
    by_cases ht : tx < 12
    · refine go [(2, 0, 11)] (604, [(2, 200)]) (List.forall_mem_cons.mpr ⟨⟨by decide, by dsimp only; omega, by dsimp only; omega⟩, fun _ h => absurd h List.not_mem_nil⟩) (fun ρ' ag => ⟨scB_S (by decide), ?_⟩) (fun S hS => by rw [hS]; decide +kernel)
      show (604 : Int) + (200 * ρ' 2 + 0) = _
      unfold adB
      rw [if_pos ht, ag 2 (by decide)]
      omega
    · refine go [(2, 12, 12)] (3200, []) (List.forall_mem_cons.mpr ⟨⟨by decide, by dsimp only; omega, by dsimp only; omega⟩, fun _ h => absurd h List.not_mem_nil⟩) (fun ρ' ag => ⟨scB_S (by decide), ?_⟩) (fun S hS => by rw [hS]; decide +kernel)
      show (3200 : Int) + 0 = _
      unfold adB
      rw [if_neg ht]
      rfl
set_option maxRecDepth 100000 in
theorem ok_parse : SmOK rgT sm_parse := by
  intro d hd ρ as h hin hb hc hf hR
  have hd : 116 ≤ d := hd
  have hin0 := hin
  obtain ⟨v1, s1, rfl, hin⟩ := hin
  rw [if_pos rfl] at hin
  obtain ⟨rfl, -, hin⟩ := hin
  cases hin
  have f0 : (0 : Int) ≤ 0 + (1 * ρ 1 + (-1 * ρ 13 + 0)) := hf _ (List.mem_of_getElem? (i := 0) rfl)
  have r0 : (0 : Int) ≤ ρ 0 ∧ ρ 0 ≤ 96 := hb (0, 0, 96) (List.mem_of_getElem? (i := 0) rfl)
  have c0 : ρ 0 = (h.1 65 16).toInt := hc_i (hc (0, 65, (16, []), leX 0) (List.mem_of_getElem? (i := 0) rfl)) rfl
  have r1 : (0 : Int) ≤ ρ 1 ∧ ρ 1 ≤ 12 := hb (1, 0, 12) (List.mem_of_getElem? (i := 1) rfl)
  have c1 : ρ 1 = (h.1 66 4).toInt := hc_i (hc (0, 66, (4, []), leX 1) (List.mem_of_getElem? (i := 1) rfl)) rfl
  have r2 : (0 : Int) ≤ ρ 2 ∧ ρ 2 ≤ 0 := hb (2, 0, 0) (List.mem_of_getElem? (i := 2) rfl)
  have c2 : KC h 5 66 0 (ρ 2) := kc_at (hc (5, 66, (0, []), leX 2) (List.mem_of_getElem? (i := 2) rfl))
  have r3 : (0 : Int) ≤ ρ 3 ∧ ρ 3 ≤ 0 := hb (3, 0, 0) (List.mem_of_getElem? (i := 3) rfl)
  have c3 : KC h 9 2003 0 (ρ 3) := kc_at (hc (9, 2003, (0, []), leX 3) (List.mem_of_getElem? (i := 3) rfl))
  have r4 : (0 : Int) ≤ ρ 4 ∧ ρ 4 ≤ 0 := hb (4, 0, 0) (List.mem_of_getElem? (i := 4) rfl)
  have c4 : KC h 9 448 0 (ρ 4) := kc_at (hc (9, 448, (0, []), leX 4) (List.mem_of_getElem? (i := 4) rfl))
  have r5 : (0 : Int) ≤ ρ 5 ∧ ρ 5 ≤ 0 := hb (5, 0, 0) (List.mem_of_getElem? (i := 5) rfl)
  have c5 : KC h 9 464 0 (ρ 5) := kc_at (hc (9, 464, (0, []), leX 5) (List.mem_of_getElem? (i := 5) rfl))
  have r6 : (0 : Int) ≤ ρ 6 ∧ ρ 6 ≤ 0 := hb (6, 0, 0) (List.mem_of_getElem? (i := 6) rfl)
  have c6 : KC h 9 480 0 (ρ 6) := kc_at (hc (9, 480, (0, []), leX 6) (List.mem_of_getElem? (i := 6) rfl))
  have r7 : (0 : Int) ≤ ρ 7 ∧ ρ 7 ≤ 0 := hb (7, 0, 0) (List.mem_of_getElem? (i := 7) rfl)
  have c7 : KC h 9 512 0 (ρ 7) := kc_at (hc (9, 512, (0, []), leX 7) (List.mem_of_getElem? (i := 7) rfl))
  have r8 : (0 : Int) ≤ ρ 8 ∧ ρ 8 ≤ 0 := hb (8, 0, 0) (List.mem_of_getElem? (i := 8) rfl)
  have c8 : KC h 9 528 0 (ρ 8) := kc_at (hc (9, 528, (0, []), leX 8) (List.mem_of_getElem? (i := 8) rfl))
  have r9 : (0 : Int) ≤ ρ 9 ∧ ρ 9 ≤ 0 := hb (9, 0, 0) (List.mem_of_getElem? (i := 9) rfl)
  have c9 : KC h 9 544 0 (ρ 9) := kc_at (hc (9, 544, (0, []), leX 9) (List.mem_of_getElem? (i := 9) rfl))
  have r10 : (0 : Int) ≤ ρ 10 ∧ ρ 10 ≤ 0 := hb (10, 0, 0) (List.mem_of_getElem? (i := 10) rfl)
  have c10 : KC h 9 560 0 (ρ 10) := kc_at (hc (9, 560, (0, []), leX 10) (List.mem_of_getElem? (i := 10) rfl))
  have r11 : (0 : Int) ≤ ρ 11 ∧ ρ 11 ≤ 0 := hb (11, 0, 0) (List.mem_of_getElem? (i := 11) rfl)
  have c11 : KC h 14 8 0 (ρ 11) := kc_at (hc (14, 8, (0, []), leX 11) (List.mem_of_getElem? (i := 11) rfl))
  have r12 : (0 : Int) ≤ ρ 12 ∧ ρ 12 ≤ 0 := hb (12, 0, 0) (List.mem_of_getElem? (i := 12) rfl)
  have c12 : KC h 14 12 0 (ρ 12) := kc_at (hc (14, 12, (0, []), leX 12) (List.mem_of_getElem? (i := 12) rfl))
  have r13 : (0 : Int) ≤ ρ 13 ∧ ρ 13 ≤ 12 := hb (13, 0, 12) (List.mem_of_getElem? (i := 13) rfl)
  have c13 : KC h 15 0 0 (ρ 13) := kc_at (hc (15, 0, (0, []), leX 13) (List.mem_of_getElem? (i := 13) rfl))
  have M0 := hand_M (rg := rgT) (s := sm_parse) (h := h) (ρ := ρ) (by decide +kernel) (by decide +kernel) hin0 hb hc hf hR
  obtain ⟨n, hn⟩ : ∃ n : Nat, (n : Int) = ρ 0 := ⟨(ρ 0).toNat, by omega⟩
  obtain ⟨tx, htx⟩ : ∃ n : Nat, (n : Int) = ρ 1 := ⟨(ρ 1).toNat, by omega⟩
  have tB : TPB h n := ⟨by omega, by rw [i_nJ (v := h.1 65 16) (by omega)]; congr 1; omega⟩
  have ex : h.1 66 4 = nI tx := by rw [i_nJ (v := h.1 66 4) (by omega)]; congr 1; omega
  have R2 : ∀ p : Nat, p < 96 → (h.1 54 (nI p)).toInt = (h.1 78 (nI p)).toInt := fun p hp => by
    obtain ⟨k, o1, b1, s1, o2, bb2, s2, m, cv, e0, R⟩ := (show RLO h 2003 0 (ρ 3) from c3)
    have e1 : rlD 2003 = some (0, (54, 0, 1), (78, 0, 1), 96, 0) := rfl
    have e0 : rlD 2003 = some (k, (o1, b1, s1), (o2, bb2, s2), m, cv) := e0
    rw [e1] at e0
    cases e0
    have R := R p (by omega) (by omega) (Or.inr (by omega))
    rw [rlR0] at R
    have ei : Int32.ofInt (0 + 1 * (p : Int)) = nI p := Int32.toInt_inj.mp (by rw [i32of (by omega) (by omega), nI_i (by omega)]; omega)
    have R : (h.1 54 (Int32.ofInt (0 + 1 * (p : Int)))).toInt = (h.1 78 (Int32.ofInt (0 + 1 * (p : Int)))).toInt := R
    rw [ei] at R
    exact R
  have b54 : ∀ p : Nat, p < 96 → 0 ≤ (h.1 54 (nI p)).toInt ∧ (h.1 54 (nI p)).toInt ≤ 255 := fun p hp => hR (54, 0, 1, 96, 0, 255) (by decide +kernel) (nI p) p (by omega) (by dsimp only; omega) (by rw [nI_i (by omega)]; dsimp only; omega)
  have c255 : (255 : Int32).toInt = 255 := rfl
  have bB : BY (h.1 78) n := fun p hp => by
    have := b54 p (by omega)
    have := R2 p (by omega)
    exact ⟨by rw [ge0I]; omega, by rw [Int32.le_iff_toInt_le, c255]; omega⟩
  have SB := okRB d (by show 116 ≤ _; omega) (fun k => ρ ([0, 1, 2].getD k 0)) [.ref 65] h ⟨_, _, rfl, by rw [if_pos rfl]; exact ⟨rfl, by decide, rfl⟩⟩ (List.forall_mem_cons.mpr ⟨by show (0 : Int) ≤ ρ 0 ∧ ρ 0 ≤ 96; omega, List.forall_mem_cons.mpr ⟨by show (0 : Int) ≤ ρ 1 ∧ ρ 1 ≤ 12; omega, List.forall_mem_cons.mpr ⟨by show (0 : Int) ≤ ρ 2 ∧ ρ 2 ≤ 0; omega, fun _ h => absurd h List.not_mem_nil⟩⟩⟩) (List.forall_mem_cons.mpr ⟨⟨16, leV_C _ 16, by show leV _ (leX 0) = _; rw [leV_X]; exact c0⟩, List.forall_mem_cons.mpr ⟨⟨4, leV_C _ 4, by show leV _ (leX 1) = _; rw [leV_X]; exact c1⟩, List.forall_mem_cons.mpr ⟨by show KC h 5 66 (leV _ (leC 0)) (leV _ (leX 2)); rw [leV_C, leV_X]; exact c2, fun _ h => absurd h List.not_mem_nil⟩⟩⟩) (fun _ h => absurd h List.not_mem_nil) hR
  have hd' : 106 ≤ d := Nat.le_trans (by decide) hd
  obtain ⟨d', rfl⟩ : ∃ d', d = d' + 106 := ⟨d - 106, (Nat.sub_add_cancel hd').symm⟩
  have cB : Call (d' + 106) 224 [.ref 65] h (fun _ hB => EnB h hB (adB tx)) := by
    refine c_parse tB bB ex (by omega) (fun _ h' en _ => en) (fun key hkey _ r _ => ?_)
    cases r with
    | inr i => exact fun h' en _ => en
    | inl b => exact ⟨fun _ h' en _ _ _ => en, fun _ h' en _ => en⟩
  refine (cB.and SB).mono (fun rB hB H => ?_)
  obtain ⟨en, gB, wB, oB, hoB, ρB, agB, bdB, rtB, kcB', fcB⟩ := H
  have q9 : ∀ j, hB.1 9 j = h.1 9 j := fun j => en.fr.1 9 j (by
    rintro (⟨q, -⟩ | ⟨q, -⟩)
    · exact absurd q (by decide)
    · exact absurd q (by decide))
  have K448 : KC hB 9 448 0 0 := rl_read (c := 0) (by decide) (by decide) rfl (by show ρ 4 ≤ 0; omega) (show RLO h 448 0 (ρ 4) from c4) q9 (fun t ht => rd_out en.fr (by decide) ht)
  have K464 : KC hB 9 464 0 0 := rl_read (c := 1) (by decide) (by decide) rfl (by show ρ 5 ≤ 0; omega) (show RLO h 464 0 (ρ 5) from c5) q9 (fun t ht => rd_out en.fr (by decide) ht)
  have K480 : KC hB 9 480 0 0 := rl_read (c := 2) (by decide) (by decide) rfl (by show ρ 6 ≤ 0; omega) (show RLO h 480 0 (ρ 6) from c6) q9 (fun t ht => rd_out en.fr (by decide) ht)
  have KS : KC hB 15 0 0 (ρ 13) := sm_read (tx := tx) (by omega) (show SMO h 0 (ρ 13) from c13) (fun i _ _ => q9 _) (fun i _ h2 h3 => rd_out2 en.fr h2 h3)
  have K16 : (hB.1 65 16).toInt = 0 := by rw [en.e16]; rfl
  have b := adB_b (tx := tx)
  have K25 : (hB.1 65 25).toInt = (adB tx : Int) := by rw [en.e25, nI_i (by omega)]
  have M1 := M0.kl (Frm.pb en.fr) wB gB
  have k5 : KC hB 5 66 0 0 := by
    rcases List.mem_cons.mp hoB with rfl | hoB
    · exact kcB' (5, 66, (0, []), (0, [])) (List.mem_of_getElem? (i := 0) rfl)
    rcases List.mem_cons.mp hoB with rfl | hoB
    · exact kcB' (5, 66, (0, []), (0, [])) (List.mem_of_getElem? (i := 3) rfl)
    rcases List.mem_cons.mp hoB with rfl | hoB
    · exact kcB' (5, 66, (0, []), (0, [])) (List.mem_of_getElem? (i := 3) rfl)
    cases hoB
  -- a key was read
  have go : ∀ (x : Int32) (y : Int) (bs : List (Nat × Int × Int)) (A : LE), rB = some (.int x) → 0 ≤ x.toInt → x.toInt ≤ 5 → 0 ≤ y → y ≤ 96 → (hB.1 65 24).toInt = y → KC hB 4 66 0 1 → (∀ q ∈ bs, q.1 < 14 ∧ q.2.1 ≤ ρ q.1 ∧ ρ q.1 ≤ q.2.2) → (∀ ρ' : Nat → Int, Ag ρ ρ' 14 → GG ρ' 16 A (adB tx : Int)) → (∀ S, S = ((nwS (nwS ((cnS sm_parse).1, (bs ++ (cnS sm_parse).2.1.1, (cnS sm_parse).2.1.2), kpL (cnS sm_parse).2.1 ([(0, 65, 16, 26), (0, 66, 604, 2995), (0, 66, 3200, 3395)] : List Wr) (cnS sm_parse).2.2) 0 5) 0 96) : Sx) → finP rgT sm_parse (sm_parse.2.2.2.2.2.2.map fun o => o.2.1) (S.1, S.2.1, (15, 0, leC 0, leX 13) :: (9, 480, leC 0, leC 0) :: (9, 464, leC 0, leC 0) :: (9, 448, leC 0, leC 0) :: (5, 66, leC 0, leC 0) :: (4, 66, leC 0, leC 1) :: (0, 65, leC 16, leC 0) :: (0, 65, leC 25, A) :: (0, 65, leC 24, leX 15) :: S.2.2) (some (0, leX 14)) (some (0, leX 14)) = true) → ((∀ q ∈ rgT, RgO hB q) ∧ Frm sm_parse.2.2.2.2.2.1 h hB ∧ ∃ o ∈ sm_parse.2.2.2.2.2.2, ∃ ρ2, Ag ρ ρ2 (smG sm_parse) ∧ bdV ρ2 o.1 (smG sm_parse) ∧ rtV ρ2 o.2.1 rB ∧ (∀ c ∈ o.2.2.1, kcV ρ2 hB c) ∧ (∀ f ∈ o.2.2.2, 0 ≤ leV ρ2 f)) := fun x y bs A er x0 x5 y0 y96 e24 k4 hbs hA' hfin => by
    have M2 := ((M1.fc bs hbs).nw (x := x.toInt) (l := 0) (u := 5) x0 x5).nw (x := y) (l := 0) (u := 96) y0 y96
    obtain ⟨ρ', hρ⟩ : ∃ ρ' : Nat → Int, ρ' = updS (updS ρ 14 x.toInt) 15 y := ⟨_, rfl⟩
    have ag : Ag ρ ρ' 14 := fun k hk => by rw [hρ, updS_lt (by omega), updS_lt hk]
    have u1 : ρ' 14 = x.toInt := by rw [hρ, updS_lt (by omega), updS_at]
    have u2 : ρ' 15 = y := by rw [hρ, updS_at]
    obtain ⟨S, hS⟩ : ∃ S : Sx, S = nwS (nwS ((cnS sm_parse).1, (bs ++ (cnS sm_parse).2.1.1, (cnS sm_parse).2.1.2), kpL (cnS sm_parse).2.1 ([(0, 65, 16, 26), (0, 66, 604, 2995), (0, 66, 3200, 3395)] : List Wr) (cnS sm_parse).2.2) 0 5) 0 96 := ⟨_, rfl⟩
    have M2 : Mo rgT sm_parse.2.2.2.2.2.1 h ρ' S hB := by rw [hρ, hS]; exact M2
    have S1 : S.1 = 16 := by rw [hS]; exact (by decide +kernel : (cnS sm_parse).1 + 1 + 1 = 16)
    have lt : ∀ k, k < 16 → k < S.1 := fun k hk => by rw [S1]; exact hk
    have M3 := M2.kc (ukI (I := 24) (i := 24) (o := 65) rfl (e := leX 15) ⟨leS_X (lt _ (by decide)), by rw [leV_X, u2, e24]⟩)
    have M3 := M3.kc (ukI (I := 25) (i := 25) (o := 65) rfl (e := A) (by
      have g := hA' ρ' ag
      rw [← S1] at g
      exact ⟨g.1, g.2.trans K25.symm⟩))
    have M3 := M3.kc (ukI (I := 16) (i := 16) (o := 65) rfl (e := leC 0) ⟨leS_C, by rw [leV_C, K16]⟩)
    have M3 := ((((M3.kc (ukN k4)).kc (ukN k5)).kc (ukN K448)).kc (ukN K464)).kc (ukN K480)
    have M3 := M3.kc (ukC KS (g := 13) (lt _ (by decide)) (ag _ (by decide)))
    rw [er]
    exact hand_postS (r := some (0, leX 14)) M3 ag (by show 14 ≤ S.1; rw [S1]; decide) (hand_r ⟨leS_X (lt _ (by decide)), by rw [leV_X, u1]⟩) (hfin S hS)
  have ag1 : ρB 1 = ρ 1 := agB 1 (by decide)
  rcases List.mem_cons.mp hoB with rfl | hoB
  · obtain ⟨x, rfl, q2⟩ := rtB
    have q2 : (-1 : Int) + 0 = x.toInt := q2
    have cm : (-1 : Int32).toInt = -1 := rfl
    obtain rfl : x = -1 := Int32.toInt_inj.mp (by omega)
    have M3 := M1.kc (ukI (I := 16) (i := 16) (o := 65) rfl (e := leC 0) ⟨leS_C, by rw [leV_C, K16]⟩)
    have M3 := (((M3.kc (ukN k5)).kc (ukN K448)).kc (ukN K464)).kc (ukN K480)
    have M3 := M3.kc (ukC KS (g := 13) (by decide +kernel) rfl)
    exact hand_postS (r := some (0, leC (-1))) M3 Ag.rf (Nat.le_refl _) (hand_r ⟨leS_C, leV_C _ _⟩) (by decide +kernel)
  rcases List.mem_cons.mp hoB with rfl | hoB
  · obtain ⟨x, er, q2⟩ := rtB
    have q2 : (0 : Int) + (1 * ρB 3 + 0) = x.toInt := q2
    have b3 : (0 : Int) ≤ ρB 3 ∧ ρB 3 ≤ 5 := bdB (3, 0, 5) (List.mem_of_getElem? (i := 0) rfl)
    have b4 : (0 : Int) ≤ ρB 4 ∧ ρB 4 ≤ 96 := bdB (4, 0, 96) (List.mem_of_getElem? (i := 1) rfl)
    have e24 := hc_i (I := 24) (kcB' (0, 65, (24, []), (0, [(4, 1)])) (List.mem_of_getElem? (i := 0) rfl)) rfl
    have ff : (0 : Int) ≤ 11 + (-1 * ρB 1 + 0) := fcB _ (List.mem_of_getElem? (i := 0) rfl)
    refine go x (ρB 4) [(1, 0, 11)] (604, [(1, 200)]) er (by omega) (by omega) b4.1 b4.2 e24.symm (kcB' (4, 66, (0, []), (1, [])) (List.mem_of_getElem? (i := 2) rfl)) (List.forall_mem_cons.mpr ⟨⟨by decide, by dsimp only; omega, by dsimp only; omega⟩, fun _ h => absurd h List.not_mem_nil⟩) (fun ρ' ag => ⟨scB_S (by decide), ?_⟩) (fun S hS => by rw [hS]; decide +kernel)
    show (604 : Int) + (200 * ρ' 1 + 0) = _
    unfold adB
    rw [if_pos (by omega), ag 1 (by decide)]
    omega
  rcases List.mem_cons.mp hoB with rfl | hoB
  · obtain ⟨x, er, q2⟩ := rtB
    have q2 : (0 : Int) + (1 * ρB 3 + 0) = x.toInt := q2
    have b3 : (0 : Int) ≤ ρB 3 ∧ ρB 3 ≤ 5 := bdB (3, 0, 5) (List.mem_of_getElem? (i := 0) rfl)
    have b4 : (0 : Int) ≤ ρB 4 ∧ ρB 4 ≤ 96 := bdB (4, 0, 96) (List.mem_of_getElem? (i := 1) rfl)
    have e24 := hc_i (I := 24) (kcB' (0, 65, (24, []), (0, [(4, 1)])) (List.mem_of_getElem? (i := 0) rfl)) rfl
    have ff : (0 : Int) ≤ -12 + (1 * ρB 1 + 0) := fcB _ (List.mem_of_getElem? (i := 0) rfl)
    refine go x (ρB 4) [(1, 12, 12)] (3200, []) er (by omega) (by omega) b4.1 b4.2 e24.symm (kcB' (4, 66, (0, []), (1, [])) (List.mem_of_getElem? (i := 2) rfl)) (List.forall_mem_cons.mpr ⟨⟨by decide, by dsimp only; omega, by dsimp only; omega⟩, fun _ h => absurd h List.not_mem_nil⟩) (fun ρ' ag => ⟨scB_S (by decide), ?_⟩) (fun S hS => by rw [hS]; decide +kernel)
    show (3200 : Int) + 0 = _
    unfold adB
    rw [if_neg (by omega)]
    rfl
  cases hoB

