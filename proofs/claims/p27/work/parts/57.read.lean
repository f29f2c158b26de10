/-! By hand: both readers as a pair. -/
theorem i_nJ {v : Int32} (h0 : 0 ≤ v.toInt) : v = nI v.toInt.toNat := by
  apply Int32.toInt_inj.mp
  have := i32b v
  simp only [I32hi] at this
  rw [nI_i (by omega)]
  omega
theorem Frm.mx {wa wb ws : List Wr} {h hA hB : Hp} (a : Frm wa h hA) (b : Frm wb h hB) (sa : ∀ w ∈ wa, w ∈ ws) (sb : ∀ w ∈ wb, w ∈ ws) : Frm ws h (mxH true hA hB) := by
  refine ⟨fun o j q => ?_, fun o j q => ?_, a.2.2⟩
  · show (if sd o = true then hA.1 o j else hB.1 o j) = _
    split
    · exact a.1 o j (fun ⟨w, hw, r⟩ => q ⟨w, sa w hw, r⟩)
    · exact b.1 o j (fun ⟨w, hw, r⟩ => q ⟨w, sb w hw, r⟩)
  · show (if sd o = true then hA.2.1 o j else hB.2.1 o j) = _
    split
    · exact a.2.1 o j (fun ⟨w, hw, r⟩ => q ⟨w, sa w hw, r⟩)
    · exact b.2.1 o j (fun ⟨w, hw, r⟩ => q ⟨w, sb w hw, r⟩)
theorem RgO.mx {h k : Hp} {q : Rg} (a : RgO h q) (b : RgO k q) : RgO (mxH true h k) q := by
  intro j t t0 t1 hj
  show _ ≤ (if sd q.1 = true then h.1 q.1 j else k.1 q.1 j).toInt ∧ (if sd q.1 = true then h.1 q.1 j else k.1 q.1 j).toInt ≤ _
  split
  · exact a j t t0 t1 hj
  · exact b j t t0 t1 hj
theorem kcI {ρ : Nat → Int} {h : Hp} {o : Nat} (i : Int32) {k : Int} (hi : k = i.toInt) {e : LE} (he : leV ρ e = (h.1 o i).toInt) : kcV ρ h (0, o, (k, []), e) := ⟨i, by show k + 0 = _; omega, he⟩
/-- what the reference's side alone says -/
theorem kc_mxB {hA hB : Hp} {k : Nat} {x y : Int} (hk : k = 4 ∨ k = 5) (w : KC hB k 66 x y) : KC (mxH true hA hB) k 66 x y := by
  refine dep_cong (by omega) (fun o' j q => mx_off ?_) (fun e => by omega) w
  rcases hk with rfl | rfl
  · rcases q with rfl | ⟨rfl, -⟩
    · decide
    · decide
  · obtain ⟨rfl, -⟩ := q
    decide
theorem nJ_i {k : Nat} {x : Int} (hx : x = k) (hk : k < 2147483648) : (nI k).toInt = x := by rw [nI_i hk, hx]
theorem rl_read {h H : Hp} {r c : Nat} {x y : Int} (hc : c ≤ 2) (hr : r < 2000) (e : rlD r = some (0, (9, (c : Int), 100), (66, 600 + (c : Int), 200), 12, 0)) (hy : y ≤ 0) (w : RLO h r x y) (qa : ∀ j, H.1 9 j = h.1 9 j) (qb : ∀ t : Nat, t < 12 → H.1 66 (nI (600 + c + 200 * t)) = h.1 66 (nI (600 + c + 200 * t))) : RLO H r 0 0 := by
  obtain ⟨k, o1, b1, s1, o2, b2, s2, m, cv, e0, R⟩ := w
  rw [e] at e0
  cases e0
  refine ⟨_, _, _, _, _, _, _, _, _, e, fun t t0 t1 _ => ?_⟩
  have R := R t t0 t1 (Or.inr (by omega))
  rw [rlR0] at R ⊢
  have ei : Int32.ofInt (600 + (c : Int) + 200 * t) = nI (600 + c + 200 * t.toNat) := Int32.toInt_inj.mp (by rw [i32of (by omega) (by omega), nI_i (by omega)]; omega)
  have R : (h.1 9 (Int32.ofInt ((c : Int) + 100 * t))).toInt = (h.1 66 (Int32.ofInt (600 + (c : Int) + 200 * t))).toInt := R
  show (H.1 9 (Int32.ofInt ((c : Int) + 100 * t))).toInt = (H.1 66 (Int32.ofInt (600 + (c : Int) + 200 * t))).toInt
  rw [qa, ei, qb _ (by omega), ← ei]
  exact R
theorem rd_out {h h' : Hp} {tx c t : Nat} (f : frPB (adB tx) h h') (hc : c ≤ 2) (ht : t < 12) : h'.1 66 (nI (600 + c + 200 * t)) = h.1 66 (nI (600 + c + 200 * t)) := by
  refine f.1 66 _ (fun q => ?_)
  rcases q with ⟨q, -⟩ | ⟨-, k, hk, q⟩
  · exact absurd q (by decide)
  · have b := adB_b (tx := tx)
    have q := congrArg Int32.toInt q
    rw [nI_i (by omega), nI_i (by omega)] at q
    unfold adB at q
    split at q <;> omega
set_option maxRecDepth 100000 in
theorem ok_parse : SmOK rgT sm_parse := by
  intro d hd ρ as h hin hb hc hf hR
  obtain ⟨v1, s1, rfl, hin⟩ := hin
  rw [if_pos rfl] at hin
  obtain ⟨rfl, -, hin⟩ := hin
  cases hin
  obtain ⟨j2, p3, p4⟩ := hc (0, 65, (16, []), leX 0) (List.mem_of_getElem? (i := 0) rfl)
  obtain ⟨j3, p5, p6⟩ := hc (0, 66, (4, []), leX 1) (List.mem_of_getElem? (i := 1) rfl)
  have R := hc (9, 2003, (0, []), leX 3) (List.mem_of_getElem? (i := 3) rfl)
  have b0 := hb (0, 0, 96) (List.mem_of_getElem? (i := 0) rfl)
  have b1 := hb (1, 0, 12) (List.mem_of_getElem? (i := 1) rfl)
  have b4 := hb (3, 0, 0) (List.mem_of_getElem? (i := 3) rfl)
  dsimp only at b0 b1 b4 p4 p6
  rw [leV_X] at p4 p6
  have c4 : (4 : Int32).toInt = 4 := rfl
  have c16 : (16 : Int32).toInt = 16 := rfl
  obtain rfl : j2 = 16 := Int32.toInt_inj.mp (by rw [← p3]; show leV ρ (leC 16) = _; rw [leV_C, c16])
  obtain rfl : j3 = 4 := Int32.toInt_inj.mp (by rw [← p5]; show leV ρ (leC 4) = _; rw [leV_C, c4])
  obtain ⟨n, hn⟩ : ∃ n : Nat, (n : Int) = ρ 0 := ⟨(ρ 0).toNat, by omega⟩
  obtain ⟨tx, htx⟩ : ∃ n : Nat, (n : Int) = ρ 1 := ⟨(ρ 1).toNat, by omega⟩
  have tB : TPB h n := ⟨by omega, by rw [i_nJ (v := h.1 65 16) (by omega)]; congr 1; omega⟩
  have ex : h.1 66 4 = nI tx := by rw [i_nJ (v := h.1 66 4) (by omega)]; congr 1; omega
  have bB : BY (h.1 78) n := fun p hp => by
    obtain ⟨u1, u2⟩ := hR (54, 0, 1, 96, 0, 255) (by decide +kernel) (nI p) p (by omega) (by dsimp only; omega) (by rw [nI_i (by omega)]; dsimp only; omega)
    dsimp only at u1 u2
    obtain ⟨k, o1, b1, s1, o2, bb2, s2, m, cv, e0, R⟩ := R
    have e1 : rlD 2003 = some (0, (54, 0, 1), (78, 0, 1), 96, 0) := rfl
    have e0 : rlD 2003 = some (k, (o1, b1, s1), (o2, bb2, s2), m, cv) := e0
    rw [e1] at e0
    cases e0
    have R := R p (by omega) (by omega) (Or.inr (by rw [leV_X]; omega))
    rw [rlR0] at R
    have ei : ∀ q : Nat, Int32.ofInt (0 + 1 * (p : Int)) = nI p := fun _ => Int32.toInt_inj.mp (by rw [i32of (by omega) (by omega), nI_i (by omega)]; omega)
    have R : (h.1 54 (Int32.ofInt (0 + 1 * (p : Int)))).toInt = (h.1 78 (Int32.ofInt (0 + 1 * (p : Int)))).toInt := R
    rw [ei 0] at R
    have c255 : (255 : Int32).toInt = 255 := rfl
    exact ⟨by rw [ge0I]; omega, by rw [Int32.le_iff_toInt_le, c255]; omega⟩
  have SB' := okRB d (Nat.le_trans (by decide) hd) ρ [.ref 65] h ⟨_, _, rfl, by rw [if_pos rfl]; exact ⟨rfl, by decide, rfl⟩⟩ (fun q hq => by
    rcases List.mem_cons.mp hq with rfl | hq
    · exact hb (0, 0, 96) (List.mem_of_getElem? (i := 0) rfl)
    rcases List.mem_cons.mp hq with rfl | hq
    · exact hb (1, 0, 12) (List.mem_of_getElem? (i := 1) rfl)
    rcases List.mem_cons.mp hq with rfl | hq
    · exact hb (2, 0, 0) (List.mem_of_getElem? (i := 2) rfl)
    cases hq) (fun q hq => by
    rcases List.mem_cons.mp hq with rfl | hq
    · exact hc (0, 65, (16, []), leX 0) (List.mem_of_getElem? (i := 0) rfl)
    rcases List.mem_cons.mp hq with rfl | hq
    · exact hc (0, 66, (4, []), leX 1) (List.mem_of_getElem? (i := 1) rfl)
    rcases List.mem_cons.mp hq with rfl | hq
    · exact hc (5, 66, (0, []), leX 2) (List.mem_of_getElem? (i := 2) rfl)
    cases hq) (fun q hq => absurd hq List.not_mem_nil) hR
  have hd' : 106 ≤ d := Nat.le_trans (by decide) hd
  obtain ⟨d', rfl⟩ : ∃ d', d = d' + 106 := ⟨d - 106, by omega⟩
  have cB : Call (d' + 106) 224 [.ref 65] h (fun _ hB => EnB h hB (adB tx)) := by
    refine c_parse tB bB ex (by omega) (fun _ h' en _ => en) (fun key hkey _ r _ => ?_)
    cases r with
    | inr i => exact fun h' en _ => en
    | inl b => exact ⟨fun _ h' en _ _ _ => en, fun _ h' en _ => en⟩
  refine (cB.and SB').mono (fun rB hB H => ?_)
  obtain ⟨en, gB, wB, oB, hoB, ρB, agB, bdB, rtB, kcB', fcB⟩ := H
  have b4' := hb (4, 0, 0) (List.mem_of_getElem? (i := 4) rfl)
  dsimp only at b4'
  have R448 : ∀ ρ' : Nat → Int, kcV ρ' hB (9, 448, (0, []), (0, [])) := fun _ => rl_read (c := 0) (by decide) (by decide) rfl (by rw [leV_X]; omega) (hc (9, 448, (0, []), leX 4) (List.mem_of_getElem? (i := 4) rfl)) (fun j => en.fr.1 9 j (by
    rintro (⟨q, -⟩ | ⟨q, -⟩)
    · exact absurd q (by decide)
    · exact absurd q (by decide))) (fun t ht => rd_out en.fr (by decide) ht)
  have b5' := hb (5, 0, 0) (List.mem_of_getElem? (i := 5) rfl)
  dsimp only at b5'
  have R464 : ∀ ρ' : Nat → Int, kcV ρ' hB (9, 464, (0, []), (0, [])) := fun _ => rl_read (c := 1) (by decide) (by decide) rfl (by rw [leV_X]; omega) (hc (9, 464, (0, []), leX 5) (List.mem_of_getElem? (i := 5) rfl)) (fun j => en.fr.1 9 j (by
    rintro (⟨q, -⟩ | ⟨q, -⟩)
    · exact absurd q (by decide)
    · exact absurd q (by decide))) (fun t ht => rd_out en.fr (by decide) ht)
  have b6' := hb (6, 0, 0) (List.mem_of_getElem? (i := 6) rfl)
  dsimp only at b6'
  have R480 : ∀ ρ' : Nat → Int, kcV ρ' hB (9, 480, (0, []), (0, [])) := fun _ => rl_read (c := 2) (by decide) (by decide) rfl (by rw [leV_X]; omega) (hc (9, 480, (0, []), leX 6) (List.mem_of_getElem? (i := 6) rfl)) (fun j => en.fr.1 9 j (by
    rintro (⟨q, -⟩ | ⟨q, -⟩)
    · exact absurd q (by decide)
    · exact absurd q (by decide))) (fun t ht => rd_out en.fr (by decide) ht)
  obtain ⟨ρ', hρ⟩ : ∃ ρ' : Nat → Int, ρ' = fun k => if k < 7 then ρ k else ρB (k - 4) := ⟨_, rfl⟩
  have ag : Ag ρ ρ' 7 := fun k hk => by rw [hρ]; exact if_pos hk
  have v7 : ρ' 7 = ρB 3 := by rw [hρ]; rfl
  have v8 : ρ' 8 = ρB 4 := by rw [hρ]; rfl
  have v1 : ρ' 1 = ρB 1 := (ag 1 (by decide)).trans (agB 1 (by decide)).symm
  refine ⟨gB, wB, ?_⟩
  rcases List.mem_cons.mp hoB with rfl | hoB
  · refine ⟨_, List.mem_of_getElem? (i := 0) rfl, ρ', ag, fun q hq => absurd hq List.not_mem_nil, rtB, fun c hc' => ?_, fun f hf => absurd hf List.not_mem_nil⟩
    rcases List.mem_cons.mp hc' with rfl | hc'
    · exact kcB' (5, 66, (0, []), (0, [])) (List.mem_of_getElem? (i := 0) rfl)
    rcases List.mem_cons.mp hc' with rfl | hc'
    · exact kcB' (0, 65, (16, []), (0, [])) (List.mem_of_getElem? (i := 1) rfl)
    rcases List.mem_cons.mp hc' with rfl | hc'
    · exact R448 _
    rcases List.mem_cons.mp hc' with rfl | hc'
    · exact R464 _
    rcases List.mem_cons.mp hc' with rfl | hc'
    · exact R480 _
    cases hc'
  rcases List.mem_cons.mp hoB with rfl | hoB
  · refine ⟨_, List.mem_of_getElem? (i := 1) rfl, ρ', ag, fun q hq => ?_, ?_, fun c hc' => ?_, fun f hf' => ?_⟩
    · rcases List.mem_cons.mp hq with rfl | hq
      · show (0 : Int) ≤ ρ' 7 ∧ ρ' 7 ≤ 5
        rw [v7]
        exact bdB (3, 0, 5) (List.mem_of_getElem? (i := 0) rfl)
      rcases List.mem_cons.mp hq with rfl | hq
      · show (0 : Int) ≤ ρ' 8 ∧ ρ' 8 ≤ 96
        rw [v8]
        exact bdB (4, 0, 96) (List.mem_of_getElem? (i := 1) rfl)
      cases hq
    · obtain ⟨x, q1, q2⟩ := rtB
      refine ⟨x, q1, ?_⟩
      show (0 : Int) + (1 * ρ' 7 + 0) = _
      rw [v7]
      exact q2
    · rcases List.mem_cons.mp hc' with rfl | hc'
      · obtain ⟨j, a, b⟩ := kcB' (0, 65, (24, []), (0, [(4, 1)])) (List.mem_of_getElem? (i := 0) rfl)
        exact ⟨j, a, by show (0 : Int) + (1 * ρ' 8 + 0) = _; rw [v8]; exact b⟩
      rcases List.mem_cons.mp hc' with rfl | hc'
      · obtain ⟨j, a, b⟩ := kcB' (0, 65, (25, []), (604, [(1, 200)])) (List.mem_of_getElem? (i := 1) rfl)
        exact ⟨j, a, by show (604 : Int) + (200 * ρ' 1 + 0) = _; rw [v1]; exact b⟩
      rcases List.mem_cons.mp hc' with rfl | hc'
      · exact kcB' (4, 66, (0, []), (1, [])) (List.mem_of_getElem? (i := 2) rfl)
      rcases List.mem_cons.mp hc' with rfl | hc'
      · exact kcB' (5, 66, (0, []), (0, [])) (List.mem_of_getElem? (i := 3) rfl)
      rcases List.mem_cons.mp hc' with rfl | hc'
      · exact kcB' (0, 65, (16, []), (0, [])) (List.mem_of_getElem? (i := 4) rfl)
      rcases List.mem_cons.mp hc' with rfl | hc'
      · exact R448 _
      rcases List.mem_cons.mp hc' with rfl | hc'
      · exact R464 _
      rcases List.mem_cons.mp hc' with rfl | hc'
      · exact R480 _
      cases hc'
    · rcases List.mem_cons.mp hf' with rfl | hf'
      · show (0 : Int) ≤ 11 + (-1 * ρ' 1 + 0)
        rw [v1]
        exact fcB (11, [(1, (-1))]) (List.mem_of_getElem? (i := 0) rfl)
      cases hf'
  rcases List.mem_cons.mp hoB with rfl | hoB
  · refine ⟨_, List.mem_of_getElem? (i := 2) rfl, ρ', ag, fun q hq => ?_, ?_, fun c hc' => ?_, fun f hf' => ?_⟩
    · rcases List.mem_cons.mp hq with rfl | hq
      · show (0 : Int) ≤ ρ' 7 ∧ ρ' 7 ≤ 5
        rw [v7]
        exact bdB (3, 0, 5) (List.mem_of_getElem? (i := 0) rfl)
      rcases List.mem_cons.mp hq with rfl | hq
      · show (0 : Int) ≤ ρ' 8 ∧ ρ' 8 ≤ 96
        rw [v8]
        exact bdB (4, 0, 96) (List.mem_of_getElem? (i := 1) rfl)
      cases hq
    · obtain ⟨x, q1, q2⟩ := rtB
      refine ⟨x, q1, ?_⟩
      show (0 : Int) + (1 * ρ' 7 + 0) = _
      rw [v7]
      exact q2
    · rcases List.mem_cons.mp hc' with rfl | hc'
      · obtain ⟨j, a, b⟩ := kcB' (0, 65, (24, []), (0, [(4, 1)])) (List.mem_of_getElem? (i := 0) rfl)
        exact ⟨j, a, by show (0 : Int) + (1 * ρ' 8 + 0) = _; rw [v8]; exact b⟩
      rcases List.mem_cons.mp hc' with rfl | hc'
      · obtain ⟨j, a, b⟩ := kcB' (0, 65, (25, []), (3200, [])) (List.mem_of_getElem? (i := 1) rfl)
        exact ⟨j, a, b⟩
      rcases List.mem_cons.mp hc' with rfl | hc'
      · exact kcB' (4, 66, (0, []), (1, [])) (List.mem_of_getElem? (i := 2) rfl)
      rcases List.mem_cons.mp hc' with rfl | hc'
      · exact kcB' (5, 66, (0, []), (0, [])) (List.mem_of_getElem? (i := 3) rfl)
      rcases List.mem_cons.mp hc' with rfl | hc'
      · exact kcB' (0, 65, (16, []), (0, [])) (List.mem_of_getElem? (i := 4) rfl)
      rcases List.mem_cons.mp hc' with rfl | hc'
      · exact R448 _
      rcases List.mem_cons.mp hc' with rfl | hc'
      · exact R464 _
      rcases List.mem_cons.mp hc' with rfl | hc'
      · exact R480 _
      cases hc'
    · rcases List.mem_cons.mp hf' with rfl | hf'
      · show (0 : Int) ≤ -12 + (1 * ρ' 1 + 0)
        rw [v1]
        exact fcB ((-12), [(1, 1)]) (List.mem_of_getElem? (i := 0) rfl)
      cases hf'
  cases hoB
set_option maxRecDepth 100000 in
theorem okP0 : PmOK rgT pm0 := by
  intro d hd ρ as bs h hlen hin hb hc hf hR
  have hlen : as.length = 1 := hlen
  generalize hL : as ++ bs = L at hin
  obtain ⟨v1, s1, rfl, hin⟩ := hin
  rw [if_pos rfl] at hin
  obtain ⟨rfl, -, v2, s2, rfl, hin⟩ := hin
  rw [if_pos rfl] at hin
  obtain ⟨rfl, -, hin⟩ := hin
  cases hin
  obtain ⟨rfl, rfl⟩ := List.append_inj (show as ++ bs = [Value.ref 55] ++ [Value.ref 65] from hL) hlen
  have f0 : (0 : Int) ≤ 0 + (1 * ρ 0 + (-1 * ρ 1 + 0)) := hf _ (List.mem_of_getElem? (i := 0) rfl)
  have f1 : (0 : Int) ≤ 0 + (-1 * ρ 0 + (1 * ρ 1 + 0)) := hf _ (List.mem_of_getElem? (i := 1) rfl)
  obtain ⟨j1, p1, p2⟩ := hc (0, 53, (1, []), leX 0) (List.mem_of_getElem? (i := 0) rfl)
  obtain ⟨j2, p3, p4⟩ := hc (0, 65, (16, []), leX 1) (List.mem_of_getElem? (i := 1) rfl)
  obtain ⟨j3, p5, p6⟩ := hc (0, 66, (4, []), leX 2) (List.mem_of_getElem? (i := 2) rfl)
  have R := hc (9, 2003, (0, []), leX 4) (List.mem_of_getElem? (i := 4) rfl)
  have b0 := hb (0, 0, 96) (List.mem_of_getElem? (i := 0) rfl)
  have b2 := hb (2, 0, 12) (List.mem_of_getElem? (i := 2) rfl)
  have b4 := hb (4, 0, 0) (List.mem_of_getElem? (i := 4) rfl)
  dsimp only at b0 b2 b4 p2 p4 p6
  rw [leV_X] at p2 p4 p6
  have c1 : (1 : Int32).toInt = 1 := rfl
  have c4 : (4 : Int32).toInt = 4 := rfl
  have c16 : (16 : Int32).toInt = 16 := rfl
  obtain rfl : j1 = 1 := Int32.toInt_inj.mp (by rw [← p1]; show leV ρ (leC 1) = _; rw [leV_C, c1])
  obtain rfl : j2 = 16 := Int32.toInt_inj.mp (by rw [← p3]; show leV ρ (leC 16) = _; rw [leV_C, c16])
  obtain rfl : j3 = 4 := Int32.toInt_inj.mp (by rw [← p5]; show leV ρ (leC 4) = _; rw [leV_C, c4])
  obtain ⟨n, hn⟩ : ∃ n : Nat, (n : Int) = ρ 0 := ⟨(ρ 0).toNat, by omega⟩
  obtain ⟨tx, htx⟩ : ∃ n : Nat, (n : Int) = ρ 2 := ⟨(ρ 2).toNat, by omega⟩
  have tA : TP h n := ⟨by omega, by rw [i_nJ (v := h.1 53 1) (by omega)]; congr 1; omega⟩
  have tB : TPB h n := ⟨by omega, by rw [i_nJ (v := h.1 65 16) (by omega)]; congr 1; omega⟩
  have ex : h.1 66 4 = nI tx := by rw [i_nJ (v := h.1 66 4) (by omega)]; congr 1; omega
  have bA : BY (h.1 54) n := fun p hp => by
    obtain ⟨u1, u2⟩ := hR (54, 0, 1, 96, 0, 255) (by decide +kernel) (nI p) p (by omega) (by dsimp only; omega) (by rw [nI_i (by omega)]; dsimp only; omega)
    dsimp only at u1 u2
    have c255 : (255 : Int32).toInt = 255 := rfl
    exact ⟨by rw [ge0I]; exact u1, by rw [Int32.le_iff_toInt_le, c255]; exact u2⟩
  have e : ∀ p, p < n → h.1 54 (nI p) = h.1 78 (nI p) := fun p hp => by
    obtain ⟨k, o1, b1, s1, o2, bb2, s2, m, cv, e0, R⟩ := R
    have e1 : rlD 2003 = some (0, (54, 0, 1), (78, 0, 1), 96, 0) := rfl
    have e0 : rlD 2003 = some (k, (o1, b1, s1), (o2, bb2, s2), m, cv) := e0
    rw [e1] at e0
    cases e0
    have R := R p (by omega) (by omega) (Or.inr (by rw [leV_X]; omega))
    rw [rlR0] at R
    have ei : ∀ q : Nat, Int32.ofInt (0 + 1 * (p : Int)) = nI p := fun _ => Int32.toInt_inj.mp (by rw [i32of (by omega) (by omega), nI_i (by omega)]; omega)
    have R : (h.1 54 (Int32.ofInt (0 + 1 * (p : Int)))).toInt = (h.1 78 (Int32.ofInt (0 + 1 * (p : Int)))).toInt := R
    rw [ei 0] at R
    exact Int32.toInt_inj.mp R
  have SA := okRA d (Nat.le_trans (by decide) hd) ρ [.ref 55] h ⟨_, _, rfl, by rw [if_pos rfl]; exact ⟨rfl, by decide, rfl⟩⟩ (fun q hq => absurd hq List.not_mem_nil) (fun q hq => absurd hq List.not_mem_nil) (fun q hq => absurd hq List.not_mem_nil) hR
  have SB' := okRB d (Nat.le_trans (by decide) hd) (fun k => ρ (k + 1)) [.ref 65] h ⟨_, _, rfl, by rw [if_pos rfl]; exact ⟨rfl, by decide, rfl⟩⟩ (fun q hq => by
    rcases List.mem_cons.mp hq with rfl | hq
    · exact hb (1, 0, 96) (List.mem_of_getElem? (i := 1) rfl)
    rcases List.mem_cons.mp hq with rfl | hq
    · exact hb (2, 0, 12) (List.mem_of_getElem? (i := 2) rfl)
    rcases List.mem_cons.mp hq with rfl | hq
    · exact hb (3, 0, 0) (List.mem_of_getElem? (i := 3) rfl)
    cases hq) (fun q hq => by
    rcases List.mem_cons.mp hq with rfl | hq
    · exact hc (0, 65, (16, []), leX 1) (List.mem_of_getElem? (i := 1) rfl)
    rcases List.mem_cons.mp hq with rfl | hq
    · exact hc (0, 66, (4, []), leX 2) (List.mem_of_getElem? (i := 2) rfl)
    rcases List.mem_cons.mp hq with rfl | hq
    · exact hc (5, 66, (0, []), leX 3) (List.mem_of_getElem? (i := 3) rfl)
    cases hq) (fun q hq => absurd hq List.not_mem_nil) hR
  obtain ⟨rA, hA, rB, hB, cA, cB, ⟨gA, wA, -⟩, ⟨gB, wB, oB, hoB, ρB, agB, bdB, rtB, kcB', fcB⟩, fa, en, H⟩ := rp_both (Nat.le_trans (by decide) hd) tA tB bA e ex (by omega) SA SB'
  have vi : ∀ (s : Bool) (r : Int32) (v : Value), some (Value.int r) = some v → vS s v := fun s r v hv => by cases hv; trivial
  have FR : Frm pm0.2.2.1.2.2.2.2.2.1 h (mxH true hA hB) := Frm.mx wA wB (by decide) (by decide)
  have RG : ∀ q ∈ rgT, RgO (mxH true hA hB) q := fun q hq => RgO.mx (gA q hq) (gB q hq)
  have K5 : ∀ ρ' : Nat → Int, kcV ρ' hB (5, 66, (0, []), (0, [])) → kcV ρ' (mxH true hA hB) (5, 66, (0, []), (0, [])) := fun _ q => kc_mxB (Or.inr rfl) q
  have K4 : ∀ ρ' : Nat → Int, kcV ρ' hB (4, 66, (0, []), (1, [])) → kcV ρ' (mxH true hA hB) (4, 66, (0, []), (1, [])) := fun _ q => kc_mxB (Or.inl rfl) q
  have K16 : ∀ ρ' : Nat → Int, kcV ρ' (mxH true hA hB) (0, 65, (16, []), (0, [])) := fun ρ' => kcI 16 rfl (by show (0 : Int) + 0 = (hB.1 65 16).toInt; rw [en.e16]; rfl)
  have b5 := hb (5, 0, 0) (List.mem_of_getElem? (i := 5) rfl)
  dsimp only at b5
  have R448 : ∀ ρ' : Nat → Int, kcV ρ' (mxH true hA hB) (9, 448, (0, []), (0, [])) := fun _ => rl_read (c := 0) (by decide) (by decide) rfl (by rw [leV_X]; omega) (hc (9, 448, (0, []), leX 5) (List.mem_of_getElem? (i := 5) rfl)) (fun j => (mx_at (by decide)).trans (fa.1 9 j (by decide))) (fun t ht => (mx_off (by decide)).trans (rd_out en.fr (by decide) ht))
  have b6 := hb (6, 0, 0) (List.mem_of_getElem? (i := 6) rfl)
  dsimp only at b6
  have R464 : ∀ ρ' : Nat → Int, kcV ρ' (mxH true hA hB) (9, 464, (0, []), (0, [])) := fun _ => rl_read (c := 1) (by decide) (by decide) rfl (by rw [leV_X]; omega) (hc (9, 464, (0, []), leX 6) (List.mem_of_getElem? (i := 6) rfl)) (fun j => (mx_at (by decide)).trans (fa.1 9 j (by decide))) (fun t ht => (mx_off (by decide)).trans (rd_out en.fr (by decide) ht))
  have b7 := hb (7, 0, 0) (List.mem_of_getElem? (i := 7) rfl)
  dsimp only at b7
  have R480 : ∀ ρ' : Nat → Int, kcV ρ' (mxH true hA hB) (9, 480, (0, []), (0, [])) := fun _ => rl_read (c := 2) (by decide) (by decide) rfl (by rw [leV_X]; omega) (hc (9, 480, (0, []), leX 7) (List.mem_of_getElem? (i := 7) rfl)) (fun j => (mx_at (by decide)).trans (fa.1 9 j (by decide))) (fun t ht => (mx_off (by decide)).trans (rd_out en.fr (by decide) ht))
  rcases H with ⟨s, hs, rfl, rfl, e17⟩ | ⟨key, pr, out, hkey, rfl, rfl, e3, e4, e26, e56, -, e24, -, hlo⟩
  · -- both find a fault
    refine ⟨_, hA, _, hB, cA, cB, congrArg Prod.snd fa.2, congrArg Prod.snd en.fr.2, vi _ _, vi _ _, RG, FR, _, List.mem_of_getElem? (i := 0) rfl, updS ρ 8 s, upd_ag, ?_, ⟨_, rfl, ?_⟩, ⟨_, rfl, rfl⟩, ?_, fun f hf => absurd hf List.not_mem_nil⟩
    · intro q hq
      rcases List.mem_cons.mp hq with rfl | hq
      · show (0 : Int) ≤ updS ρ 8 s 8 ∧ updS ρ 8 s 8 ≤ 96
        unfold updS
        rw [if_pos rfl]
        omega
      cases hq
    · show leV (updS ρ 8 s) (leX 8) = _
      rw [leV_X, nI_i (by omega)]
      unfold updS
      rw [if_pos rfl]
    · have k5 : kcV (updS ρ 8 s) hB (5, 66, (0, []), (0, [])) := by
        rcases List.mem_cons.mp hoB with rfl | hoB
        · exact kcB' (5, 66, (0, []), (0, [])) (List.mem_of_getElem? (i := 0) rfl)
        rcases List.mem_cons.mp hoB with rfl | hoB
        · exact kcB' (5, 66, (0, []), (0, [])) (List.mem_of_getElem? (i := 3) rfl)
        rcases List.mem_cons.mp hoB with rfl | hoB
        · exact kcB' (5, 66, (0, []), (0, [])) (List.mem_of_getElem? (i := 3) rfl)
        cases hoB
      intro c hc'
      rcases List.mem_cons.mp hc' with rfl | hc'
      · refine kcI 17 rfl ?_
        show leV (updS ρ 8 s) (leX 8) = (hB.1 65 17).toInt
        rw [e17, leV_X, nI_i (by omega)]
        unfold updS
        rw [if_pos rfl]
      rcases List.mem_cons.mp hc' with rfl | hc'
      · exact K16 _
      rcases List.mem_cons.mp hc' with rfl | hc'
      · exact K5 _ k5
      rcases List.mem_cons.mp hc' with rfl | hc'
      · exact R448 _
      rcases List.mem_cons.mp hc' with rfl | hc'
      · exact R464 _
      rcases List.mem_cons.mp hc' with rfl | hc'
      · exact R480 _
      cases hc'
  · -- both read a text
    have kk : ∀ ρ' : Nat → Int, kcV ρ' hB (5, 66, (0, []), (0, [])) ∧ kcV ρ' hB (4, 66, (0, []), (1, [])) := fun ρ' => by
      rcases List.mem_cons.mp hoB with rfl | hoB
      · obtain ⟨x, q1, q2⟩ := rtB
        cases q1
        have q2 : (-1 : Int) + 0 = (nI key).toInt := q2
        rw [nI_i (by omega)] at q2
        omega
      rcases List.mem_cons.mp hoB with rfl | hoB
      · exact ⟨kcB' (5, 66, (0, []), (0, [])) (List.mem_of_getElem? (i := 3) rfl), kcB' (4, 66, (0, []), (1, [])) (List.mem_of_getElem? (i := 2) rfl)⟩
      rcases List.mem_cons.mp hoB with rfl | hoB
      · exact ⟨kcB' (5, 66, (0, []), (0, [])) (List.mem_of_getElem? (i := 3) rfl), kcB' (4, 66, (0, []), (1, [])) (List.mem_of_getElem? (i := 2) rfl)⟩
      cases hoB
    have u5 : updS (updS (updS ρ 8 key) 9 (nI pr).toInt) 10 out.length 8 = key := by unfold updS; rw [if_neg (by decide), if_neg (by decide), if_pos rfl]
    have u6 : updS (updS (updS ρ 8 key) 9 (nI pr).toInt) 10 out.length 9 = (nI pr).toInt := by unfold updS; rw [if_neg (by decide), if_pos rfl]
    have u7 : updS (updS (updS ρ 8 key) 9 (nI pr).toInt) 10 out.length 10 = out.length := by unfold updS; rw [if_pos rfl]
    have u2 : updS (updS (updS ρ 8 key) 9 (nI pr).toInt) 10 out.length 2 = ρ 2 := by unfold updS; rw [if_neg (by decide), if_neg (by decide), if_neg (by decide)]
    have ag : Ag ρ (updS (updS (updS ρ 8 key) 9 (nI pr).toInt) 10 out.length) 8 := fun k hk => by unfold updS; rw [if_neg (by omega), if_neg (by omega), if_neg (by omega)]
    generalize updS (updS (updS ρ 8 key) 9 (nI pr).toInt) 10 out.length = ρ' at u5 u6 u7 u2 ag
    have ln : out.length ≤ 96 := hlo
    have bd : bdV ρ' [((1, 0, 55, (3, [])), 0, 5), ((1, 0, 55, (4, [])), (-2147483648), 2147483647), ((1, 0, 56, (1, [])), 0, 96)] 8 := by
      intro q hq
      rcases List.mem_cons.mp hq with rfl | hq
      · show (0 : Int) ≤ ρ' 8 ∧ ρ' 8 ≤ 5
        omega
      rcases List.mem_cons.mp hq with rfl | hq
      · show (-2147483648 : Int) ≤ ρ' 9 ∧ ρ' 9 ≤ 2147483647
        rw [u6]
        exact i32b _
      rcases List.mem_cons.mp hq with rfl | hq
      · show (0 : Int) ≤ ρ' 10 ∧ ρ' 10 ≤ 96
        omega
      cases hq
    have rb : rtV ρ' (some (0, [(8, 1)])) (some (.int (nI key))) := ⟨_, rfl, by show leV ρ' (leX 8) = _; rw [leV_X, u5, nI_i (by omega)]⟩
    have kcs : ∀ A : LE, leV ρ' A = (adB tx : Int) → ∀ c ∈ ([(0, 55, (3, []), (0, [(8, 1)])), (0, 55, (4, []), (0, [(9, 1)])), (0, 56, (1, []), (0, [(10, 1)])), (0, 65, (26, []), (0, [(9, 1)])), (0, 65, (24, []), (0, [(10, 1)])), (0, 65, (25, []), A), (4, 66, (0, []), (1, [])), (0, 65, (16, []), (0, [])), (5, 66, (0, []), (0, [])), (9, 448, (0, []), (0, [])), (9, 464, (0, []), (0, [])), (9, 480, (0, []), (0, []))] : List Kc), kcV ρ' (mxH true hA hB) c := by
      intro A eA c hc'
      rcases List.mem_cons.mp hc' with rfl | hc'
      · refine kcI 3 rfl ?_
        show leV ρ' (leX 8) = (hA.1 55 3).toInt
        rw [leV_X, u5, e3, nI_i (by omega)]
      rcases List.mem_cons.mp hc' with rfl | hc'
      · refine kcI 4 rfl ?_
        show leV ρ' (leX 9) = (hA.1 55 4).toInt
        rw [leV_X, u6, e4]
      rcases List.mem_cons.mp hc' with rfl | hc'
      · refine kcI 1 rfl ?_
        show leV ρ' (leX 10) = (hA.1 56 1).toInt
        rw [leV_X, u7, e56, nI_i (by omega)]
      rcases List.mem_cons.mp hc' with rfl | hc'
      · refine kcI 26 rfl ?_
        show leV ρ' (leX 9) = (hB.1 65 26).toInt
        rw [leV_X, u6, e26]
      rcases List.mem_cons.mp hc' with rfl | hc'
      · refine kcI 24 rfl ?_
        show leV ρ' (leX 10) = (hB.1 65 24).toInt
        rw [leV_X, u7, e24, nI_i (by omega)]
      rcases List.mem_cons.mp hc' with rfl | hc'
      · refine kcI 25 rfl ?_
        show leV ρ' A = (hB.1 65 25).toInt
        have := adB_b (tx := tx)
        rw [eA, en.e25, nI_i (by omega)]
      rcases List.mem_cons.mp hc' with rfl | hc'
      · exact K4 _ (kk _).2
      rcases List.mem_cons.mp hc' with rfl | hc'
      · exact K16 _
      rcases List.mem_cons.mp hc' with rfl | hc'
      · exact K5 _ (kk _).1
      rcases List.mem_cons.mp hc' with rfl | hc'
      · exact R448 _
      rcases List.mem_cons.mp hc' with rfl | hc'
      · exact R464 _
      rcases List.mem_cons.mp hc' with rfl | hc'
      · exact R480 _
      cases hc'
    have nn : rtV ρ' (some ((-1000000005), [])) (some (.int (-1000000005))) := ⟨_, rfl, rfl⟩
    by_cases ht : tx < 12
    · refine ⟨_, hA, _, hB, cA, cB, congrArg Prod.snd fa.2, congrArg Prod.snd en.fr.2, vi _ _, vi _ _, RG, FR, _, List.mem_of_getElem? (i := 1) rfl, ρ', ag, bd, nn, rb, kcs (604, [(2, 200)]) ?_, fun f hf => ?_⟩
      · show (604 : Int) + (200 * ρ' 2 + 0) = _
        unfold adB
        rw [if_pos ht, u2]
        omega
      · rcases List.mem_cons.mp hf with rfl | hf
        · show (0 : Int) ≤ 11 + (-1 * ρ' 2 + 0)
          omega
        cases hf
    · refine ⟨_, hA, _, hB, cA, cB, congrArg Prod.snd fa.2, congrArg Prod.snd en.fr.2, vi _ _, vi _ _, RG, FR, _, List.mem_of_getElem? (i := 2) rfl, ρ', ag, bd, nn, rb, kcs (3200, []) ?_, fun f hf => ?_⟩
      · show (3200 : Int) + 0 = _
        unfold adB
        rw [if_neg ht]
        rfl
      · rcases List.mem_cons.mp hf with rfl | hf
        · show (0 : Int) ≤ -12 + (1 * ρ' 2 + 0)
          omega
        cases hf
