/-! By hand: check. -/
set_option maxRecDepth 100000 in
theorem ck_post {ρ : Nat → Int} {h H : Hp} {r : Int32} (M0 : Mo rgT pm64.2.2.1.2.2.2.2.2.1 h ρ (cnS pm64.2.2.1) h) (F : Frm ckC h H) (RG : ∀ q ∈ rgT, RgO H q) (z1 : H.1 0 11 = 0) (z2 : H.1 65 34 = 0) : PmPost rgT pm64.2.2.1 pm64.2.2.2 ρ h (some (.int r)) (some (.int r)) H := by
  have M1 := M0.kl F F RG
  have M2 := M1.kc (c := (0, 0, leC 11, leC 0)) ⟨leS_C, leS_C, ⟨11, leV_C _ _, by show leV ρ (leC 0) = _; rw [leV_C, z1]; rfl⟩⟩
  have M3 := M2.kc (c := (0, 65, leC 34, leC 0)) ⟨leS_C, leS_C, ⟨34, leV_C _ _, by show leV ρ (leC 0) = _; rw [leV_C, z2]; rfl⟩⟩
  have M4 := M3.nw (x := r.toInt) (l := -2147483648) (u := 2147483647) (i32b r).1 (i32b r).2
  have n22 : (cnS pm64.2.2.1).1 = 79 := by decide +kernel
  refine hand_post (r := some (0, leX 79)) (r' := some (0, leX 79)) M4 (upd_ag (n := 79)) (by decide +kernel) (hand_r ⟨leS_X (by decide +kernel), ?_⟩) (hand_r ⟨leS_X (by decide +kernel), ?_⟩) (by decide +kernel)
  · rw [leV_X]
    unfold updS
    rw [if_pos (by decide +kernel)]
  · rw [leV_X]
    unfold updS
    rw [if_pos (by decide +kernel)]
theorem ck_nn {a : Int32} (hn : 1 ≤ a ∧ a ≤ 30) : ∃ n : Nat, 1 ≤ n ∧ n ≤ 30 ∧ a = nI n := by
  obtain ⟨p, q⟩ := hn
  rw [Int32.le_iff_toInt_le] at p q
  have k1 : (1 : Int32).toInt = 1 := rfl
  have k3 : (30 : Int32).toInt = 30 := rfl
  exact ⟨a.toInt.toNat, by omega, by omega, i_nI (by omega)⟩
theorem ck_fC {h : Hp} : Frm ckC h (hI (hI h 0 11 0) 65 34 0) := by
  refine ⟨fun o j q => ?_, fun _ _ _ => rfl, rfl⟩
  show (if o = 65 ∧ j = 34 then (0 : Int32) else if o = 0 ∧ j = 11 then 0 else h.1 o j) = h.1 o j
  rw [if_neg (fun z => q ⟨(0, 65, 34, 34), by decide, rfl, z.1.symm, by rw [z.2]; decide, by rw [z.2]; decide⟩), if_neg (fun z => q ⟨(0, 0, 11, 11), by decide, rfl, z.1.symm, by rw [z.2]; decide, by rw [z.2]; decide⟩)]
theorem ck_rC {h : Hp} (hR : ∀ q ∈ rgT, RgO h q) : ∀ q ∈ rgT, RgO (hI (hI h 0 11 0) 65 34 0) q := by
  intro q hq j k a1 a2 a3
  show _ ≤ (if q.1 = 65 ∧ j = 34 then (0 : Int32) else if q.1 = 0 ∧ j = 11 then 0 else h.1 q.1 j).toInt ∧ (if q.1 = 65 ∧ j = 34 then (0 : Int32) else if q.1 = 0 ∧ j = 11 then 0 else h.1 q.1 j).toInt ≤ _
  have zz : ∀ q ∈ rgT, (q.1 = 65 ∨ q.1 = 0) → q.2.2.2.2.1 ≤ 0 ∧ 0 ≤ q.2.2.2.2.2 := by decide +kernel
  split
  · rename_i z; exact zz q hq (Or.inl z.1)
  · split
    · rename_i z; exact zz q hq (Or.inr z.1)
    · exact hR q hq j k a1 a2 a3
set_option maxHeartbeats 4000000 in
set_option maxRecDepth 100000 in
theorem okP64 : PmOK rgT pm64 := by
  intro d hd ρ as bs h hlen hin hb hc hf hR
  have hd : 7 ≤ d := hd
  have hlen : as.length = 2 := hlen
  generalize hL : as ++ bs = L at hin
  have hin0 := hin
  obtain ⟨v0, s0, rfl, hin⟩ := hin
  rw [if_pos rfl] at hin
  obtain ⟨rfl, -, hin⟩ := hin
  obtain ⟨v1, s1, rfl, hin⟩ := hin
  rw [if_neg (by decide), if_pos rfl] at hin
  obtain ⟨g0, ⟨a0, rfl, e0⟩, hin⟩ := hin
  obtain ⟨v2, s2, rfl, hin⟩ := hin
  rw [if_pos rfl] at hin
  obtain ⟨rfl, -, hin⟩ := hin
  obtain ⟨v3, s3, rfl, hin⟩ := hin
  rw [if_neg (by decide), if_pos rfl] at hin
  obtain ⟨g1, ⟨b1, rfl, e1⟩, hin⟩ := hin
  cases hin
  obtain ⟨rfl, rfl⟩ := List.append_inj (show as ++ bs = [Value.ref 0, .int a0] ++ [Value.ref 65, .int b1] from hL) hlen
  have f0 : (0 : Int) ≤ 0 + (1 * ρ 0 + (-1 * ρ 1 + 0)) := hf _ (List.mem_of_getElem? (i := 0) rfl)
  have f1 : (0 : Int) ≤ 0 + (-1 * ρ 0 + (1 * ρ 1 + 0)) := hf _ (List.mem_of_getElem? (i := 1) rfl)
  have e0 : ρ 0 = a0.toInt := e0
  have e1 : ρ 1 = b1.toInt := e1
  obtain rfl : a0 = b1 := Int32.toInt_inj.mp (by omega)
  have g0 : (-2147483648 : Int) ≤ ρ 0 ∧ ρ 0 ≤ 2147483647 := g0
  have g1 : (-2147483648 : Int) ≤ ρ 1 ∧ ρ 1 ≤ 2147483647 := g1
  have r2 : (0 : Int) ≤ ρ 2 ∧ ρ 2 ≤ 3 := hb (2, 0, 3) (List.mem_of_getElem? (i := 0) rfl)
  have c2 : ρ 2 = (h.1 13 2).toInt := hc_i (hc (0, 13, (2, []), leX 2) (List.mem_of_getElem? (i := 0) rfl)) rfl
  have r3 : (0 : Int) ≤ ρ 3 ∧ ρ 3 ≤ 3 := hb (3, 0, 3) (List.mem_of_getElem? (i := 1) rfl)
  have c3 : ρ 3 = (h.1 67 1).toInt := hc_i (hc (0, 67, (1, []), leX 3) (List.mem_of_getElem? (i := 1) rfl)) rfl
  have r4 : (0 : Int) ≤ ρ 4 ∧ ρ 4 ≤ 10 := hb (4, 0, 10) (List.mem_of_getElem? (i := 2) rfl)
  have c4 : ρ 4 = (h.1 15 2).toInt := hc_i (hc (0, 15, (2, []), leX 4) (List.mem_of_getElem? (i := 2) rfl)) rfl
  have r5 : (0 : Int) ≤ ρ 5 ∧ ρ 5 ≤ 10 := hb (5, 0, 10) (List.mem_of_getElem? (i := 3) rfl)
  have c5 : ρ 5 = (h.1 67 2).toInt := hc_i (hc (0, 67, (2, []), leX 5) (List.mem_of_getElem? (i := 3) rfl)) rfl
  have r6 : (0 : Int) ≤ ρ 6 ∧ ρ 6 ≤ 12 := hb (6, 0, 12) (List.mem_of_getElem? (i := 4) rfl)
  have c6 : ρ 6 = (h.1 19 2).toInt := hc_i (hc (0, 19, (2, []), leX 6) (List.mem_of_getElem? (i := 4) rfl)) rfl
  have r7 : (0 : Int) ≤ ρ 7 ∧ ρ 7 ≤ 12 := hb (7, 0, 12) (List.mem_of_getElem? (i := 5) rfl)
  have c7 : ρ 7 = (h.1 67 4).toInt := hc_i (hc (0, 67, (4, []), leX 7) (List.mem_of_getElem? (i := 5) rfl)) rfl
  have r8 : (0 : Int) ≤ ρ 8 ∧ ρ 8 ≤ 40 := hb (8, 0, 40) (List.mem_of_getElem? (i := 6) rfl)
  have c8 : ρ 8 = (h.1 21 2).toInt := hc_i (hc (0, 21, (2, []), leX 8) (List.mem_of_getElem? (i := 6) rfl)) rfl
  have r9 : (0 : Int) ≤ ρ 9 ∧ ρ 9 ≤ 40 := hb (9, 0, 40) (List.mem_of_getElem? (i := 7) rfl)
  have c9 : ρ 9 = (h.1 67 5).toInt := hc_i (hc (0, 67, (5, []), leX 9) (List.mem_of_getElem? (i := 7) rfl)) rfl
  have r10 : (0 : Int) ≤ ρ 10 ∧ ρ 10 ≤ 999 := hb (10, 0, 999) (List.mem_of_getElem? (i := 8) rfl)
  have c10 : ρ 10 = (h.1 12 5).toInt := hc_i (hc (0, 12, (5, []), leX 10) (List.mem_of_getElem? (i := 8) rfl)) rfl
  have r11 : (0 : Int) ≤ ρ 11 ∧ ρ 11 ≤ 999 := hb (11, 0, 999) (List.mem_of_getElem? (i := 9) rfl)
  have c11 : ρ 11 = (h.1 67 0).toInt := hc_i (hc (0, 67, (0, []), leX 11) (List.mem_of_getElem? (i := 9) rfl)) rfl
  have r12 : (0 : Int) ≤ ρ 12 ∧ ρ 12 ≤ 30 := hb (12, 0, 30) (List.mem_of_getElem? (i := 10) rfl)
  have c12 : ρ 12 = (h.1 17 2).toInt := hc_i (hc (0, 17, (2, []), leX 12) (List.mem_of_getElem? (i := 10) rfl)) rfl
  have r13 : (0 : Int) ≤ ρ 13 ∧ ρ 13 ≤ 30 := hb (13, 0, 30) (List.mem_of_getElem? (i := 11) rfl)
  have c13 : ρ 13 = (h.1 67 3).toInt := hc_i (hc (0, 67, (3, []), leX 13) (List.mem_of_getElem? (i := 11) rfl)) rfl
  have r14 : (0 : Int) ≤ ρ 14 ∧ ρ 14 ≤ 1 := hb (14, 0, 1) (List.mem_of_getElem? (i := 12) rfl)
  have c14 : ρ 14 = (h.1 0 12).toInt := hc_i (hc (0, 0, (12, []), leX 14) (List.mem_of_getElem? (i := 12) rfl)) rfl
  have r15 : (0 : Int) ≤ ρ 15 ∧ ρ 15 ≤ 1 := hb (15, 0, 1) (List.mem_of_getElem? (i := 13) rfl)
  have c15 : ρ 15 = (h.1 65 3).toInt := hc_i (hc (0, 65, (3, []), leX 15) (List.mem_of_getElem? (i := 13) rfl)) rfl
  have r16 : (0 : Int) ≤ ρ 16 ∧ ρ 16 ≤ 60 := hb (16, 0, 60) (List.mem_of_getElem? (i := 14) rfl)
  have c16 : ρ 16 = (h.1 0 11).toInt := hc_i (hc (0, 0, (11, []), leX 16) (List.mem_of_getElem? (i := 14) rfl)) rfl
  have r17 : (0 : Int) ≤ ρ 17 ∧ ρ 17 ≤ 60 := hb (17, 0, 60) (List.mem_of_getElem? (i := 15) rfl)
  have c17 : ρ 17 = (h.1 65 34).toInt := hc_i (hc (0, 65, (34, []), leX 17) (List.mem_of_getElem? (i := 15) rfl)) rfl
  have r18 : (0 : Int) ≤ ρ 18 ∧ ρ 18 ≤ 65535 := hb (18, 0, 65535) (List.mem_of_getElem? (i := 16) rfl)
  have c18 : ρ 18 = (h.1 12 6).toInt := hc_i (hc (0, 12, (6, []), leX 18) (List.mem_of_getElem? (i := 16) rfl)) rfl
  have r19 : (0 : Int) ≤ ρ 19 ∧ ρ 19 ≤ 65535 := hb (19, 0, 65535) (List.mem_of_getElem? (i := 17) rfl)
  have c19 : ρ 19 = (h.1 67 6).toInt := hc_i (hc (0, 67, (6, []), leX 19) (List.mem_of_getElem? (i := 17) rfl)) rfl
  have r20 : (0 : Int) ≤ ρ 20 ∧ ρ 20 ≤ 0 := hb (20, 0, 0) (List.mem_of_getElem? (i := 18) rfl)
  have c20 : KC h 14 1 0 (ρ 20) := kc_at (hc (14, 1, (0, []), leX 20) (List.mem_of_getElem? (i := 18) rfl))
  have r21 : (0 : Int) ≤ ρ 21 ∧ ρ 21 ≤ 0 := hb (21, 0, 0) (List.mem_of_getElem? (i := 19) rfl)
  have c21 : KC h 14 5 0 (ρ 21) := kc_at (hc (14, 5, (0, []), leX 21) (List.mem_of_getElem? (i := 19) rfl))
  have r22 : (0 : Int) ≤ ρ 22 ∧ ρ 22 ≤ 0 := hb (22, 0, 0) (List.mem_of_getElem? (i := 20) rfl)
  have c22 : KC h 14 9 0 (ρ 22) := kc_at (hc (14, 9, (0, []), leX 22) (List.mem_of_getElem? (i := 20) rfl))
  have r23 : (0 : Int) ≤ ρ 23 ∧ ρ 23 ≤ 0 := hb (23, 0, 0) (List.mem_of_getElem? (i := 21) rfl)
  have c23 : KC h 14 13 0 (ρ 23) := kc_at (hc (14, 13, (0, []), leX 23) (List.mem_of_getElem? (i := 21) rfl))
  have r24 : (0 : Int) ≤ ρ 24 ∧ ρ 24 ≤ 0 := hb (24, 0, 0) (List.mem_of_getElem? (i := 22) rfl)
  have c24 : KC h 5 67 0 (ρ 24) := kc_at (hc (5, 67, (0, []), leX 24) (List.mem_of_getElem? (i := 22) rfl))
  have r25 : (0 : Int) ≤ ρ 25 ∧ ρ 25 ≤ 0 := hb (25, 0, 0) (List.mem_of_getElem? (i := 23) rfl)
  have c25 : KC h 16 1 0 (ρ 25) := kc_at (hc (16, 1, (0, []), leX 25) (List.mem_of_getElem? (i := 23) rfl))
  have r26 : (-1 : Int) ≤ ρ 26 ∧ ρ 26 ≤ -1 := hb (26, (-1), (-1)) (List.mem_of_getElem? (i := 24) rfl)
  have c26 : KC h 17 1 0 (ρ 26) := kc_at (hc (17, 1, (0, []), leX 26) (List.mem_of_getElem? (i := 24) rfl))
  have r27 : (0 : Int) ≤ ρ 27 ∧ ρ 27 ≤ 0 := hb (27, 0, 0) (List.mem_of_getElem? (i := 25) rfl)
  have c27 : KC h 9 5 0 (ρ 27) := kc_at (hc (9, 5, (0, []), leX 27) (List.mem_of_getElem? (i := 25) rfl))
  have r28 : (0 : Int) ≤ ρ 28 ∧ ρ 28 ≤ 0 := hb (28, 0, 0) (List.mem_of_getElem? (i := 26) rfl)
  have c28 : KC h 9 21 0 (ρ 28) := kc_at (hc (9, 21, (0, []), leX 28) (List.mem_of_getElem? (i := 26) rfl))
  have r29 : (0 : Int) ≤ ρ 29 ∧ ρ 29 ≤ 0 := hb (29, 0, 0) (List.mem_of_getElem? (i := 27) rfl)
  have c29 : KC h 9 37 0 (ρ 29) := kc_at (hc (9, 37, (0, []), leX 29) (List.mem_of_getElem? (i := 27) rfl))
  have r30 : (0 : Int) ≤ ρ 30 ∧ ρ 30 ≤ 0 := hb (30, 0, 0) (List.mem_of_getElem? (i := 28) rfl)
  have c30 : KC h 9 53 0 (ρ 30) := kc_at (hc (9, 53, (0, []), leX 30) (List.mem_of_getElem? (i := 28) rfl))
  have r31 : (0 : Int) ≤ ρ 31 ∧ ρ 31 ≤ 0 := hb (31, 0, 0) (List.mem_of_getElem? (i := 29) rfl)
  have c31 : KC h 9 69 0 (ρ 31) := kc_at (hc (9, 69, (0, []), leX 31) (List.mem_of_getElem? (i := 29) rfl))
  have r32 : (0 : Int) ≤ ρ 32 ∧ ρ 32 ≤ 0 := hb (32, 0, 0) (List.mem_of_getElem? (i := 30) rfl)
  have c32 : KC h 9 85 0 (ρ 32) := kc_at (hc (9, 85, (0, []), leX 32) (List.mem_of_getElem? (i := 30) rfl))
  have r33 : (0 : Int) ≤ ρ 33 ∧ ρ 33 ≤ 0 := hb (33, 0, 0) (List.mem_of_getElem? (i := 31) rfl)
  have c33 : KC h 9 101 0 (ρ 33) := kc_at (hc (9, 101, (0, []), leX 33) (List.mem_of_getElem? (i := 31) rfl))
  have r34 : (0 : Int) ≤ ρ 34 ∧ ρ 34 ≤ 0 := hb (34, 0, 0) (List.mem_of_getElem? (i := 32) rfl)
  have c34 : KC h 9 117 0 (ρ 34) := kc_at (hc (9, 117, (0, []), leX 34) (List.mem_of_getElem? (i := 32) rfl))
  have r35 : (0 : Int) ≤ ρ 35 ∧ ρ 35 ≤ 0 := hb (35, 0, 0) (List.mem_of_getElem? (i := 33) rfl)
  have c35 : KC h 9 133 0 (ρ 35) := kc_at (hc (9, 133, (0, []), leX 35) (List.mem_of_getElem? (i := 33) rfl))
  have r36 : (0 : Int) ≤ ρ 36 ∧ ρ 36 ≤ 0 := hb (36, 0, 0) (List.mem_of_getElem? (i := 34) rfl)
  have c36 : KC h 9 149 0 (ρ 36) := kc_at (hc (9, 149, (0, []), leX 36) (List.mem_of_getElem? (i := 34) rfl))
  have r37 : (0 : Int) ≤ ρ 37 ∧ ρ 37 ≤ 0 := hb (37, 0, 0) (List.mem_of_getElem? (i := 35) rfl)
  have c37 : KC h 9 165 0 (ρ 37) := kc_at (hc (9, 165, (0, []), leX 37) (List.mem_of_getElem? (i := 35) rfl))
  have r38 : (0 : Int) ≤ ρ 38 ∧ ρ 38 ≤ 0 := hb (38, 0, 0) (List.mem_of_getElem? (i := 36) rfl)
  have c38 : KC h 9 181 0 (ρ 38) := kc_at (hc (9, 181, (0, []), leX 38) (List.mem_of_getElem? (i := 36) rfl))
  have r39 : (0 : Int) ≤ ρ 39 ∧ ρ 39 ≤ 0 := hb (39, 0, 0) (List.mem_of_getElem? (i := 37) rfl)
  have c39 : KC h 9 197 0 (ρ 39) := kc_at (hc (9, 197, (0, []), leX 39) (List.mem_of_getElem? (i := 37) rfl))
  have r40 : (0 : Int) ≤ ρ 40 ∧ ρ 40 ≤ 0 := hb (40, 0, 0) (List.mem_of_getElem? (i := 38) rfl)
  have c40 : KC h 9 213 0 (ρ 40) := kc_at (hc (9, 213, (0, []), leX 40) (List.mem_of_getElem? (i := 38) rfl))
  have r41 : (0 : Int) ≤ ρ 41 ∧ ρ 41 ≤ 0 := hb (41, 0, 0) (List.mem_of_getElem? (i := 39) rfl)
  have c41 : KC h 9 229 0 (ρ 41) := kc_at (hc (9, 229, (0, []), leX 41) (List.mem_of_getElem? (i := 39) rfl))
  have r42 : (0 : Int) ≤ ρ 42 ∧ ρ 42 ≤ 0 := hb (42, 0, 0) (List.mem_of_getElem? (i := 40) rfl)
  have c42 : KC h 9 245 0 (ρ 42) := kc_at (hc (9, 245, (0, []), leX 42) (List.mem_of_getElem? (i := 40) rfl))
  have r43 : (0 : Int) ≤ ρ 43 ∧ ρ 43 ≤ 0 := hb (43, 0, 0) (List.mem_of_getElem? (i := 41) rfl)
  have c43 : KC h 9 261 0 (ρ 43) := kc_at (hc (9, 261, (0, []), leX 43) (List.mem_of_getElem? (i := 41) rfl))
  have r44 : (0 : Int) ≤ ρ 44 ∧ ρ 44 ≤ 0 := hb (44, 0, 0) (List.mem_of_getElem? (i := 42) rfl)
  have c44 : KC h 9 277 0 (ρ 44) := kc_at (hc (9, 277, (0, []), leX 44) (List.mem_of_getElem? (i := 42) rfl))
  have r45 : (0 : Int) ≤ ρ 45 ∧ ρ 45 ≤ 0 := hb (45, 0, 0) (List.mem_of_getElem? (i := 43) rfl)
  have c45 : KC h 9 293 0 (ρ 45) := kc_at (hc (9, 293, (0, []), leX 45) (List.mem_of_getElem? (i := 43) rfl))
  have r46 : (0 : Int) ≤ ρ 46 ∧ ρ 46 ≤ 0 := hb (46, 0, 0) (List.mem_of_getElem? (i := 44) rfl)
  have c46 : KC h 9 309 0 (ρ 46) := kc_at (hc (9, 309, (0, []), leX 46) (List.mem_of_getElem? (i := 44) rfl))
  have r47 : (0 : Int) ≤ ρ 47 ∧ ρ 47 ≤ 0 := hb (47, 0, 0) (List.mem_of_getElem? (i := 45) rfl)
  have c47 : KC h 9 453 0 (ρ 47) := kc_at (hc (9, 453, (0, []), leX 47) (List.mem_of_getElem? (i := 45) rfl))
  have r48 : (0 : Int) ≤ ρ 48 ∧ ρ 48 ≤ 0 := hb (48, 0, 0) (List.mem_of_getElem? (i := 46) rfl)
  have c48 : KC h 9 469 0 (ρ 48) := kc_at (hc (9, 469, (0, []), leX 48) (List.mem_of_getElem? (i := 46) rfl))
  have r49 : (0 : Int) ≤ ρ 49 ∧ ρ 49 ≤ 0 := hb (49, 0, 0) (List.mem_of_getElem? (i := 47) rfl)
  have c49 : KC h 9 485 0 (ρ 49) := kc_at (hc (9, 485, (0, []), leX 49) (List.mem_of_getElem? (i := 47) rfl))
  have r50 : (0 : Int) ≤ ρ 50 ∧ ρ 50 ≤ 0 := hb (50, 0, 0) (List.mem_of_getElem? (i := 48) rfl)
  have c50 : KC h 9 517 0 (ρ 50) := kc_at (hc (9, 517, (0, []), leX 50) (List.mem_of_getElem? (i := 48) rfl))
  have r51 : (0 : Int) ≤ ρ 51 ∧ ρ 51 ≤ 0 := hb (51, 0, 0) (List.mem_of_getElem? (i := 49) rfl)
  have c51 : KC h 9 533 0 (ρ 51) := kc_at (hc (9, 533, (0, []), leX 51) (List.mem_of_getElem? (i := 49) rfl))
  have r52 : (0 : Int) ≤ ρ 52 ∧ ρ 52 ≤ 0 := hb (52, 0, 0) (List.mem_of_getElem? (i := 50) rfl)
  have c52 : KC h 9 549 0 (ρ 52) := kc_at (hc (9, 549, (0, []), leX 52) (List.mem_of_getElem? (i := 50) rfl))
  have r53 : (0 : Int) ≤ ρ 53 ∧ ρ 53 ≤ 0 := hb (53, 0, 0) (List.mem_of_getElem? (i := 51) rfl)
  have c53 : KC h 9 565 0 (ρ 53) := kc_at (hc (9, 565, (0, []), leX 53) (List.mem_of_getElem? (i := 51) rfl))
  have r54 : (0 : Int) ≤ ρ 54 ∧ ρ 54 ≤ 0 := hb (54, 0, 0) (List.mem_of_getElem? (i := 52) rfl)
  have c54 : KC h 9 325 0 (ρ 54) := kc_at (hc (9, 325, (0, []), leX 54) (List.mem_of_getElem? (i := 52) rfl))
  have r55 : (0 : Int) ≤ ρ 55 ∧ ρ 55 ≤ 0 := hb (55, 0, 0) (List.mem_of_getElem? (i := 53) rfl)
  have c55 : KC h 9 341 0 (ρ 55) := kc_at (hc (9, 341, (0, []), leX 55) (List.mem_of_getElem? (i := 53) rfl))
  have r56 : (0 : Int) ≤ ρ 56 ∧ ρ 56 ≤ 0 := hb (56, 0, 0) (List.mem_of_getElem? (i := 54) rfl)
  have c56 : KC h 9 357 0 (ρ 56) := kc_at (hc (9, 357, (0, []), leX 56) (List.mem_of_getElem? (i := 54) rfl))
  have r57 : (0 : Int) ≤ ρ 57 ∧ ρ 57 ≤ 0 := hb (57, 0, 0) (List.mem_of_getElem? (i := 55) rfl)
  have c57 : KC h 9 373 0 (ρ 57) := kc_at (hc (9, 373, (0, []), leX 57) (List.mem_of_getElem? (i := 55) rfl))
  have r58 : (0 : Int) ≤ ρ 58 ∧ ρ 58 ≤ 0 := hb (58, 0, 0) (List.mem_of_getElem? (i := 56) rfl)
  have c58 : KC h 9 389 0 (ρ 58) := kc_at (hc (9, 389, (0, []), leX 58) (List.mem_of_getElem? (i := 56) rfl))
  have r59 : (0 : Int) ≤ ρ 59 ∧ ρ 59 ≤ 0 := hb (59, 0, 0) (List.mem_of_getElem? (i := 57) rfl)
  have c59 : KC h 9 405 0 (ρ 59) := kc_at (hc (9, 405, (0, []), leX 59) (List.mem_of_getElem? (i := 57) rfl))
  have r60 : (0 : Int) ≤ ρ 60 ∧ ρ 60 ≤ 0 := hb (60, 0, 0) (List.mem_of_getElem? (i := 58) rfl)
  have c60 : KC h 9 421 0 (ρ 60) := kc_at (hc (9, 421, (0, []), leX 60) (List.mem_of_getElem? (i := 58) rfl))
  have r61 : (0 : Int) ≤ ρ 61 ∧ ρ 61 ≤ 0 := hb (61, 0, 0) (List.mem_of_getElem? (i := 59) rfl)
  have c61 : KC h 9 437 0 (ρ 61) := kc_at (hc (9, 437, (0, []), leX 61) (List.mem_of_getElem? (i := 59) rfl))
  have r62 : (0 : Int) ≤ ρ 62 ∧ ρ 62 ≤ 0 := hb (62, 0, 0) (List.mem_of_getElem? (i := 60) rfl)
  have c62 : KC h 9 2004 0 (ρ 62) := kc_at (hc (9, 2004, (0, []), leX 62) (List.mem_of_getElem? (i := 60) rfl))
  have r63 : (0 : Int) ≤ ρ 63 ∧ ρ 63 ≤ 0 := hb (63, 0, 0) (List.mem_of_getElem? (i := 61) rfl)
  have c63 : KC h 9 2007 0 (ρ 63) := kc_at (hc (9, 2007, (0, []), leX 63) (List.mem_of_getElem? (i := 61) rfl))
  have r64 : (0 : Int) ≤ ρ 64 ∧ ρ 64 ≤ 3 := hb (64, 0, 3) (List.mem_of_getElem? (i := 62) rfl)
  have c64 : KC h 11 68 0 (ρ 64) := kc_at (hc (11, 68, (0, []), leX 64) (List.mem_of_getElem? (i := 62) rfl))
  have r65 : (0 : Int) ≤ ρ 65 ∧ ρ 65 ≤ 10 := hb (65, 0, 10) (List.mem_of_getElem? (i := 63) rfl)
  have c65 : KC h 11 164 0 (ρ 65) := kc_at (hc (11, 164, (0, []), leX 65) (List.mem_of_getElem? (i := 63) rfl))
  have r66 : (0 : Int) ≤ ρ 66 ∧ ρ 66 ≤ 10 := hb (66, 0, 10) (List.mem_of_getElem? (i := 64) rfl)
  have c66 : KC h 11 180 0 (ρ 66) := kc_at (hc (11, 180, (0, []), leX 66) (List.mem_of_getElem? (i := 64) rfl))
  have r67 : (0 : Int) ≤ ρ 67 ∧ ρ 67 ≤ 10 := hb (67, 0, 10) (List.mem_of_getElem? (i := 65) rfl)
  have c67 : KC h 11 196 0 (ρ 67) := kc_at (hc (11, 196, (0, []), leX 67) (List.mem_of_getElem? (i := 65) rfl))
  have r68 : (0 : Int) ≤ ρ 68 ∧ ρ 68 ≤ 10 := hb (68, 0, 10) (List.mem_of_getElem? (i := 66) rfl)
  have c68 : KC h 11 212 0 (ρ 68) := kc_at (hc (11, 212, (0, []), leX 68) (List.mem_of_getElem? (i := 66) rfl))
  have r69 : (0 : Int) ≤ ρ 69 ∧ ρ 69 ≤ 10 := hb (69, 0, 10) (List.mem_of_getElem? (i := 67) rfl)
  have c69 : KC h 11 228 0 (ρ 69) := kc_at (hc (11, 228, (0, []), leX 69) (List.mem_of_getElem? (i := 67) rfl))
  have r70 : (0 : Int) ≤ ρ 70 ∧ ρ 70 ≤ 10 := hb (70, 0, 10) (List.mem_of_getElem? (i := 68) rfl)
  have c70 : KC h 11 276 0 (ρ 70) := kc_at (hc (11, 276, (0, []), leX 70) (List.mem_of_getElem? (i := 68) rfl))
  have r71 : (0 : Int) ≤ ρ 71 ∧ ρ 71 ≤ 10 := hb (71, 0, 10) (List.mem_of_getElem? (i := 69) rfl)
  have c71 : KC h 11 292 0 (ρ 71) := kc_at (hc (11, 292, (0, []), leX 71) (List.mem_of_getElem? (i := 69) rfl))
  have r72 : (0 : Int) ≤ ρ 72 ∧ ρ 72 ≤ 10 := hb (72, 0, 10) (List.mem_of_getElem? (i := 70) rfl)
  have c72 : KC h 11 308 0 (ρ 72) := kc_at (hc (11, 308, (0, []), leX 72) (List.mem_of_getElem? (i := 70) rfl))
  have r73 : (0 : Int) ≤ ρ 73 ∧ ρ 73 ≤ 3 := hb (73, 0, 3) (List.mem_of_getElem? (i := 71) rfl)
  have c73 : KC h 11 84 0 (ρ 73) := kc_at (hc (11, 84, (0, []), leX 73) (List.mem_of_getElem? (i := 71) rfl))
  have r74 : (0 : Int) ≤ ρ 74 ∧ ρ 74 ≤ 3 := hb (74, 0, 3) (List.mem_of_getElem? (i := 72) rfl)
  have c74 : KC h 11 100 0 (ρ 74) := kc_at (hc (11, 100, (0, []), leX 74) (List.mem_of_getElem? (i := 72) rfl))
  have r75 : (0 : Int) ≤ ρ 75 ∧ ρ 75 ≤ 30 := hb (75, 0, 30) (List.mem_of_getElem? (i := 73) rfl)
  have c75 : KC h 11 436 0 (ρ 75) := kc_at (hc (11, 436, (0, []), leX 75) (List.mem_of_getElem? (i := 73) rfl))
  have r76 : (0 : Int) ≤ ρ 76 ∧ ρ 76 ≤ 20000 := hb (76, 0, 20000) (List.mem_of_getElem? (i := 74) rfl)
  have c76 : KC h 14 17 0 (ρ 76) := kc_at (hc (14, 17, (0, []), leX 76) (List.mem_of_getElem? (i := 74) rfl))
  have r77 : (0 : Int) ≤ ρ 77 ∧ ρ 77 ≤ 10 := hb (77, 0, 10) (List.mem_of_getElem? (i := 75) rfl)
  have c77 : KC h 12 5 0 (ρ 77) := kc_at (hc (12, 5, (0, []), leX 77) (List.mem_of_getElem? (i := 75) rfl))
  have r78 : (0 : Int) ≤ ρ 78 ∧ ρ 78 ≤ 12 := hb (78, 0, 12) (List.mem_of_getElem? (i := 76) rfl)
  have c78 : KC h 15 5 0 (ρ 78) := kc_at (hc (15, 5, (0, []), leX 78) (List.mem_of_getElem? (i := 76) rfl))
  have M0 := hand_M (rg := rgT) (s := pm64.2.2.1) (h := h) (ρ := ρ) (by decide +kernel) (by decide +kernel) hin0 hb hc hf hR
  have f2 : (0 : Int) ≤ 0 + (1 * ρ 2 + (-1 * ρ 3 + 0)) := hf _ (List.mem_of_getElem? (i := 2) rfl)
  have f3 : (0 : Int) ≤ 0 + (-1 * ρ 2 + (1 * ρ 3 + 0)) := hf _ (List.mem_of_getElem? (i := 3) rfl)
  have f4 : (0 : Int) ≤ 0 + (1 * ρ 4 + (-1 * ρ 5 + 0)) := hf _ (List.mem_of_getElem? (i := 4) rfl)
  have f5 : (0 : Int) ≤ 0 + (-1 * ρ 4 + (1 * ρ 5 + 0)) := hf _ (List.mem_of_getElem? (i := 5) rfl)
  have f6 : (0 : Int) ≤ 0 + (1 * ρ 6 + (-1 * ρ 7 + 0)) := hf _ (List.mem_of_getElem? (i := 6) rfl)
  have f7 : (0 : Int) ≤ 0 + (-1 * ρ 6 + (1 * ρ 7 + 0)) := hf _ (List.mem_of_getElem? (i := 7) rfl)
  have f8 : (0 : Int) ≤ 0 + (1 * ρ 8 + (-1 * ρ 9 + 0)) := hf _ (List.mem_of_getElem? (i := 8) rfl)
  have f9 : (0 : Int) ≤ 0 + (-1 * ρ 8 + (1 * ρ 9 + 0)) := hf _ (List.mem_of_getElem? (i := 9) rfl)
  have f10 : (0 : Int) ≤ 0 + (1 * ρ 10 + (-1 * ρ 11 + 0)) := hf _ (List.mem_of_getElem? (i := 10) rfl)
  have f11 : (0 : Int) ≤ 0 + (-1 * ρ 10 + (1 * ρ 11 + 0)) := hf _ (List.mem_of_getElem? (i := 11) rfl)
  have f12 : (0 : Int) ≤ 0 + (1 * ρ 12 + (-1 * ρ 13 + 0)) := hf _ (List.mem_of_getElem? (i := 12) rfl)
  have f13 : (0 : Int) ≤ 0 + (-1 * ρ 12 + (1 * ρ 13 + 0)) := hf _ (List.mem_of_getElem? (i := 13) rfl)
  have f14 : (0 : Int) ≤ 0 + (1 * ρ 14 + (-1 * ρ 15 + 0)) := hf _ (List.mem_of_getElem? (i := 14) rfl)
  have f15 : (0 : Int) ≤ 0 + (-1 * ρ 14 + (1 * ρ 15 + 0)) := hf _ (List.mem_of_getElem? (i := 15) rfl)
  have f16 : (0 : Int) ≤ 0 + (1 * ρ 16 + (-1 * ρ 17 + 0)) := hf _ (List.mem_of_getElem? (i := 16) rfl)
  have f17 : (0 : Int) ≤ 0 + (-1 * ρ 16 + (1 * ρ 17 + 0)) := hf _ (List.mem_of_getElem? (i := 17) rfl)
  have f18 : (0 : Int) ≤ 0 + (1 * ρ 18 + (-1 * ρ 19 + 0)) := hf _ (List.mem_of_getElem? (i := 18) rfl)
  have f19 : (0 : Int) ≤ 0 + (-1 * ρ 18 + (1 * ρ 19 + 0)) := hf _ (List.mem_of_getElem? (i := 19) rfl)
  have f20 : (0 : Int) ≤ 0 + (1 * ρ 2 + (-1 * ρ 64 + 0)) := hf _ (List.mem_of_getElem? (i := 20) rfl)
  have f21 : (0 : Int) ≤ 0 + (-1 * ρ 2 + (1 * ρ 64 + 0)) := hf _ (List.mem_of_getElem? (i := 21) rfl)
  have f22 : (0 : Int) ≤ 0 + (1 * ρ 4 + (-1 * ρ 65 + 0)) := hf _ (List.mem_of_getElem? (i := 22) rfl)
  have f23 : (0 : Int) ≤ 0 + (-1 * ρ 4 + (1 * ρ 65 + 0)) := hf _ (List.mem_of_getElem? (i := 23) rfl)
  have f24 : (0 : Int) ≤ 0 + (1 * ρ 4 + (-1 * ρ 66 + 0)) := hf _ (List.mem_of_getElem? (i := 24) rfl)
  have f25 : (0 : Int) ≤ 0 + (-1 * ρ 4 + (1 * ρ 66 + 0)) := hf _ (List.mem_of_getElem? (i := 25) rfl)
  have f26 : (0 : Int) ≤ 0 + (1 * ρ 4 + (-1 * ρ 67 + 0)) := hf _ (List.mem_of_getElem? (i := 26) rfl)
  have f27 : (0 : Int) ≤ 0 + (-1 * ρ 4 + (1 * ρ 67 + 0)) := hf _ (List.mem_of_getElem? (i := 27) rfl)
  have f28 : (0 : Int) ≤ 0 + (1 * ρ 4 + (-1 * ρ 68 + 0)) := hf _ (List.mem_of_getElem? (i := 28) rfl)
  have f29 : (0 : Int) ≤ 0 + (-1 * ρ 4 + (1 * ρ 68 + 0)) := hf _ (List.mem_of_getElem? (i := 29) rfl)
  have f30 : (0 : Int) ≤ 0 + (1 * ρ 4 + (-1 * ρ 69 + 0)) := hf _ (List.mem_of_getElem? (i := 30) rfl)
  have f31 : (0 : Int) ≤ 0 + (-1 * ρ 4 + (1 * ρ 69 + 0)) := hf _ (List.mem_of_getElem? (i := 31) rfl)
  have f32 : (0 : Int) ≤ 0 + (1 * ρ 4 + (-1 * ρ 70 + 0)) := hf _ (List.mem_of_getElem? (i := 32) rfl)
  have f33 : (0 : Int) ≤ 0 + (-1 * ρ 4 + (1 * ρ 70 + 0)) := hf _ (List.mem_of_getElem? (i := 33) rfl)
  have f34 : (0 : Int) ≤ 0 + (1 * ρ 4 + (-1 * ρ 71 + 0)) := hf _ (List.mem_of_getElem? (i := 34) rfl)
  have f35 : (0 : Int) ≤ 0 + (-1 * ρ 4 + (1 * ρ 71 + 0)) := hf _ (List.mem_of_getElem? (i := 35) rfl)
  have f36 : (0 : Int) ≤ 0 + (1 * ρ 4 + (-1 * ρ 72 + 0)) := hf _ (List.mem_of_getElem? (i := 36) rfl)
  have f37 : (0 : Int) ≤ 0 + (-1 * ρ 4 + (1 * ρ 72 + 0)) := hf _ (List.mem_of_getElem? (i := 37) rfl)
  have f38 : (0 : Int) ≤ 0 + (1 * ρ 2 + (-1 * ρ 73 + 0)) := hf _ (List.mem_of_getElem? (i := 38) rfl)
  have f39 : (0 : Int) ≤ 0 + (-1 * ρ 2 + (1 * ρ 73 + 0)) := hf _ (List.mem_of_getElem? (i := 39) rfl)
  have f40 : (0 : Int) ≤ 0 + (1 * ρ 2 + (-1 * ρ 74 + 0)) := hf _ (List.mem_of_getElem? (i := 40) rfl)
  have f41 : (0 : Int) ≤ 0 + (-1 * ρ 2 + (1 * ρ 74 + 0)) := hf _ (List.mem_of_getElem? (i := 41) rfl)
  have f42 : (0 : Int) ≤ 0 + (1 * ρ 12 + (-1 * ρ 75 + 0)) := hf _ (List.mem_of_getElem? (i := 42) rfl)
  have f43 : (0 : Int) ≤ 0 + (-1 * ρ 12 + (1 * ρ 75 + 0)) := hf _ (List.mem_of_getElem? (i := 43) rfl)
  have f44 : (0 : Int) ≤ 0 + (10 * ρ 10 + (-1 * ρ 76 + 0)) := hf _ (List.mem_of_getElem? (i := 44) rfl)
  have f45 : (0 : Int) ≤ 0 + (-10 * ρ 10 + (1 * ρ 76 + 0)) := hf _ (List.mem_of_getElem? (i := 45) rfl)
  have f46 : (0 : Int) ≤ 0 + (1 * ρ 4 + (-1 * ρ 77 + 0)) := hf _ (List.mem_of_getElem? (i := 46) rfl)
  have f47 : (0 : Int) ≤ 0 + (-1 * ρ 4 + (1 * ρ 77 + 0)) := hf _ (List.mem_of_getElem? (i := 47) rfl)
  have f48 : (0 : Int) ≤ 0 + (1 * ρ 6 + (-1 * ρ 78 + 0)) := hf _ (List.mem_of_getElem? (i := 48) rfl)
  have f49 : (0 : Int) ≤ 0 + (-1 * ρ 6 + (1 * ρ 78 + 0)) := hf _ (List.mem_of_getElem? (i := 49) rfl)
  obtain ⟨d', rfl⟩ : ∃ d', d = d' + 7 := ⟨d - 7, (Nat.sub_add_cancel hd).symm⟩
  have sA : sS true [Value.ref 0, .int a0] := (List.forall_mem_cons.mpr ⟨fun _ => rfl, List.forall_mem_cons.mpr ⟨trivial, fun _ h => absurd h List.not_mem_nil⟩⟩)
  have sB : sS false [Value.ref 65, .int a0] := (List.forall_mem_cons.mpr ⟨fun _ => rfl, List.forall_mem_cons.mpr ⟨trivial, fun _ h => absurd h List.not_mem_nil⟩⟩)
  have mix : mxH true (hI h 0 11 0) (hI h 65 34 0) = hI (hI h 0 11 0) 65 34 0 := by rw [mx_wB (by decide), ← hI_mx (s := true) (by decide), mx_self]
  have z11 : (hI (hI h 0 11 0) 65 34 0).1 0 11 = 0 := by rw [hI_ne (by decide), hI_eq]
  have z34 : (hI (hI h 0 11 0) 65 34 0).1 65 34 = 0 := hI_eq
  have zH : ρ 14 = ρ 15 := (eqI f14 f15)
  by_cases hn : 1 ≤ a0 ∧ a0 ≤ 30
  case neg =>
    refine pm_mk (p := pm64) (rA := some (.int (-1000000001))) (rB := some (.int (-1000000001))) (fun Q q => ck_A0 (d := d') hn q) (fun Q q => ck_B0 (d := d') hn q) sA sB ?_
    rw [mix]
    exact ck_post M0 ck_fC (ck_rC hR) z11 z34
  have hA_ := ck_ze c14 r14
  have hB_ := ck_ze c15 r15
  rcases hA_ with ⟨ha, xa⟩ | ⟨ha, xa⟩
  · have hb : h.1 65 3 = 0 := by
      rcases hB_ with ⟨hb, -⟩ | ⟨-, xb⟩
      · exact hb
      · rw [xa, xb] at zH; exact absurd zH (by decide)
    refine pm_mk (p := pm64) (rA := some (.int (-1000000002))) (rB := some (.int (-1000000002))) (fun Q q => ck_A1 (d := d') hn ha q) (fun Q q => ck_B1 (d := d') hn hb q) sA sB ?_
    rw [mix]
    exact ck_post M0 ck_fC (ck_rC hR) z11 z34
  have hb : ¬ h.1 65 3 = 0 := by
    rcases hB_ with ⟨-, xb⟩ | ⟨hb, -⟩
    · rw [xa, xb] at zH; exact absurd zH (by decide)
    · exact hb
  have RW : RLO h 2004 0 0 := by have q := c62; rw [show ρ 62 = 0 from Int.le_antisymm r62.2 r62.1] at q; exact q
  obtain ⟨m, hm⟩ : ∃ m : Nat, (m : Int) = ρ 16 := ⟨(ρ 16).toNat, Int.toNat_of_nonneg r16.1⟩
  have m60 := cnt_le (m := 60) hm r16.2
  have ema : h.1 0 11 = nI m := cnt_n hm c16
  have emb : h.1 65 34 = nI m := cnt_n (hm.trans (eqI f16 f17)) c17
  obtain ⟨nh, hnh⟩ : ∃ m : Nat, (m : Int) = ρ 4 := ⟨(ρ 4).toNat, Int.toNat_of_nonneg r4.1⟩
  obtain ⟨ns, hns⟩ : ∃ m : Nat, (m : Int) = ρ 2 := ⟨(ρ 2).toNat, Int.toNat_of_nonneg r2.1⟩
  obtain ⟨n, n1, n30, rfl⟩ := ck_nn hn
  obtain ⟨H0, e0⟩ : ∃ H0, H0 = hI (hI h 0 11 0) 65 34 0 := ⟨_, rfl⟩
  obtain ⟨H1, H2, H3, cB, F1, c1, e68, F2, c2, F3, R3, hR3⟩ := ck_img (d' := d' + 0) e0 hR r2 c2 r3 c3 r4 c4 r5 c5 r6 c6 r7 c7 r8 c8 r9 c9 r10 c10 r11 c11 r12 c12 r13 c13 r14 c14 r15 c15 r18 c18 r19 c19 r20 c20 r21 c21 r22 c22 r23 c23 r24 c24 r25 c25 r26 c26 r27 c27 r28 c28 r29 c29 r30 c30 r31 c31 r32 c32 r33 c33 r34 c34 r35 c35 r36 c36 r37 c37 r38 c38 r39 c39 r40 c40 r41 c41 r42 c42 r43 c43 r44 c44 r45 c45 r46 c46 r47 c47 r48 c48 r49 c49 r50 c50 r51 c51 r52 c52 r53 c53 r54 c54 r55 c55 r56 c56 r57 c57 r58 c58 r59 c59 r60 c60 r61 c61 r62 c62 r63 c63 r64 c64 r65 c65 r66 c66 r67 c67 r68 c68 r69 c69 r70 c70 r71 c71 r72 c72 r73 c73 r74 c74 r75 c75 r76 c76 r77 c77 r78 c78 f0 f1 f2 f3 f4 f5 f6 f7 f8 f9 f10 f11 f12 f13 f14 f15 f16 f17 f18 f19 f20 f21 f22 f23 f24 f25 f26 f27 f28 f29 f30 f31 f32 f33 f34 f35 f36 f37 f38 f39 f40 f41 f42 f43 f44 f45 f46 f47 f48 f49
  obtain ⟨r, hA, hB, kA, kB, FF, RG, z1, z2⟩ := ck_all (d := d') n30 n1 m60 hnh hns ⟨r4, r2, r12, r8, r6⟩ r10 e0 ema emb ha hb (fun j hj => by have q := rowE (o1 := 64) (o2 := 82) (b1 := 0) (b2 := 0) (s1 := 1) (s2 := 1) (n := 60) RW (Int.le_refl 0) rfl (by decide) (by decide) hj; rw [Nat.one_mul, Nat.zero_add] at q; exact q) cB F1 c1 e68 F2 c2 F3 R3 hR3
  exact pm_mk (p := pm64) kA kB sA sB (ck_post M0 FF RG z1 z2)

