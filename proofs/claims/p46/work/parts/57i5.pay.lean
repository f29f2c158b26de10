/-! By hand: pay and takes. -/
set_option maxHeartbeats 4000000 in
set_option maxRecDepth 100000 in
theorem okP35 : PmOK rgT pm35 := by
  intro d hd ρ as bs h hlen hin hb hc hf hR
  have hd : 6 ≤ d := hd
  have hlen : as.length = 2 := hlen
  generalize hL : as ++ bs = L at hin
  have hin0 := hin
  obtain ⟨v0, s0, rfl, hin⟩ := hin
  rw [if_pos rfl] at hin
  obtain ⟨rfl, -, hin⟩ := hin
  obtain ⟨v1, s1, rfl, hin⟩ := hin
  rw [if_neg (by decide), if_pos rfl] at hin
  obtain ⟨g0, ⟨a0, rfl, e0⟩, hin⟩ := hin
  obtain ⟨v2, s2, rfl, hin⟩ := hin
  rw [if_pos rfl] at hin
  obtain ⟨rfl, -, hin⟩ := hin
  obtain ⟨v3, s3, rfl, hin⟩ := hin
  rw [if_neg (by decide), if_pos rfl] at hin
  obtain ⟨g1, ⟨b1, rfl, e1⟩, hin⟩ := hin
  cases hin
  obtain ⟨rfl, rfl⟩ := List.append_inj (show as ++ bs = [Value.ref 0, .int a0] ++ [Value.ref 65, .int b1] from hL) hlen
  have f0 : (0 : Int) ≤ 0 + (1 * ρ 0 + (-1 * ρ 1 + 0)) := hf _ (List.mem_of_getElem? (i := 0) rfl)
  have f1 : (0 : Int) ≤ 0 + (-1 * ρ 0 + (1 * ρ 1 + 0)) := hf _ (List.mem_of_getElem? (i := 1) rfl)
  have f2 : (0 : Int) ≤ 0 + (1 * ρ 2 + (-1 * ρ 3 + 0)) := hf _ (List.mem_of_getElem? (i := 2) rfl)
  have f3 : (0 : Int) ≤ 0 + (-1 * ρ 2 + (1 * ρ 3 + 0)) := hf _ (List.mem_of_getElem? (i := 3) rfl)
  have f4 : (0 : Int) ≤ 0 + (1 * ρ 4 + (-1 * ρ 5 + 0)) := hf _ (List.mem_of_getElem? (i := 4) rfl)
  have f5 : (0 : Int) ≤ 0 + (-1 * ρ 4 + (1 * ρ 5 + 0)) := hf _ (List.mem_of_getElem? (i := 5) rfl)
  have f6 : (0 : Int) ≤ 0 + (1 * ρ 6 + (-1 * ρ 7 + 0)) := hf _ (List.mem_of_getElem? (i := 6) rfl)
  have f7 : (0 : Int) ≤ 0 + (-1 * ρ 6 + (1 * ρ 7 + 0)) := hf _ (List.mem_of_getElem? (i := 7) rfl)
  have f8 : (0 : Int) ≤ 0 + (1 * ρ 2 + (-1 * ρ 27 + 0)) := hf _ (List.mem_of_getElem? (i := 8) rfl)
  have f9 : (0 : Int) ≤ 0 + (-1 * ρ 2 + (1 * ρ 27 + 0)) := hf _ (List.mem_of_getElem? (i := 9) rfl)
  have f10 : (0 : Int) ≤ 0 + (1 * ρ 2 + (-1 * ρ 28 + 0)) := hf _ (List.mem_of_getElem? (i := 10) rfl)
  have f11 : (0 : Int) ≤ 0 + (-1 * ρ 2 + (1 * ρ 28 + 0)) := hf _ (List.mem_of_getElem? (i := 11) rfl)
  have f12 : (0 : Int) ≤ 0 + (1 * ρ 2 + (-1 * ρ 29 + 0)) := hf _ (List.mem_of_getElem? (i := 12) rfl)
  have f13 : (0 : Int) ≤ 0 + (-1 * ρ 2 + (1 * ρ 29 + 0)) := hf _ (List.mem_of_getElem? (i := 13) rfl)
  have f14 : (0 : Int) ≤ 0 + (1 * ρ 2 + (-1 * ρ 30 + 0)) := hf _ (List.mem_of_getElem? (i := 14) rfl)
  have f15 : (0 : Int) ≤ 0 + (-1 * ρ 2 + (1 * ρ 30 + 0)) := hf _ (List.mem_of_getElem? (i := 15) rfl)
  have f16 : (0 : Int) ≤ 0 + (1 * ρ 2 + (-1 * ρ 31 + 0)) := hf _ (List.mem_of_getElem? (i := 16) rfl)
  have f17 : (0 : Int) ≤ 0 + (-1 * ρ 2 + (1 * ρ 31 + 0)) := hf _ (List.mem_of_getElem? (i := 17) rfl)
  have f18 : (0 : Int) ≤ 0 + (1 * ρ 2 + (-1 * ρ 32 + 0)) := hf _ (List.mem_of_getElem? (i := 18) rfl)
  have f19 : (0 : Int) ≤ 0 + (-1 * ρ 2 + (1 * ρ 32 + 0)) := hf _ (List.mem_of_getElem? (i := 19) rfl)
  have f20 : (0 : Int) ≤ 0 + (1 * ρ 2 + (-1 * ρ 33 + 0)) := hf _ (List.mem_of_getElem? (i := 20) rfl)
  have f21 : (0 : Int) ≤ 0 + (-1 * ρ 2 + (1 * ρ 33 + 0)) := hf _ (List.mem_of_getElem? (i := 21) rfl)
  have f22 : (0 : Int) ≤ 0 + (1 * ρ 2 + (-1 * ρ 34 + 0)) := hf _ (List.mem_of_getElem? (i := 22) rfl)
  have f23 : (0 : Int) ≤ 0 + (-1 * ρ 2 + (1 * ρ 34 + 0)) := hf _ (List.mem_of_getElem? (i := 23) rfl)
  have f24 : (0 : Int) ≤ 0 + (10 * ρ 6 + (-1 * ρ 35 + 0)) := hf _ (List.mem_of_getElem? (i := 24) rfl)
  have f25 : (0 : Int) ≤ 0 + (-10 * ρ 6 + (1 * ρ 35 + 0)) := hf _ (List.mem_of_getElem? (i := 25) rfl)
  have f26 : (0 : Int) ≤ 0 + (1 * ρ 2 + (-1 * ρ 36 + 0)) := hf _ (List.mem_of_getElem? (i := 26) rfl)
  have f27 : (0 : Int) ≤ 0 + (-1 * ρ 2 + (1 * ρ 36 + 0)) := hf _ (List.mem_of_getElem? (i := 27) rfl)
  have f28 : (0 : Int) ≤ 0 + (1 * ρ 4 + (-1 * ρ 37 + 0)) := hf _ (List.mem_of_getElem? (i := 28) rfl)
  have f29 : (0 : Int) ≤ 0 + (-1 * ρ 4 + (1 * ρ 37 + 0)) := hf _ (List.mem_of_getElem? (i := 29) rfl)
  have e0 : ρ 0 = a0.toInt := e0
  have e1 : ρ 1 = b1.toInt := e1
  obtain rfl : a0 = b1 := Int32.toInt_inj.mp (by omega)
  have g0 : (-2147483648 : Int) ≤ ρ 0 ∧ ρ 0 ≤ 2147483647 := g0
  have g1 : (-2147483648 : Int) ≤ ρ 1 ∧ ρ 1 ≤ 2147483647 := g1
  have r2 : (0 : Int) ≤ ρ 2 ∧ ρ 2 ≤ 10 := hb (2, 0, 10) (List.mem_of_getElem? (i := 0) rfl)
  have c2 : ρ 2 = (h.1 4 2).toInt := hc_i (hc (0, 4, (2, []), leX 2) (List.mem_of_getElem? (i := 0) rfl)) rfl
  have r3 : (0 : Int) ≤ ρ 3 ∧ ρ 3 ≤ 10 := hb (3, 0, 10) (List.mem_of_getElem? (i := 1) rfl)
  have c3 : ρ 3 = (h.1 66 2).toInt := hc_i (hc (0, 66, (2, []), leX 3) (List.mem_of_getElem? (i := 1) rfl)) rfl
  have r4 : (0 : Int) ≤ ρ 4 ∧ ρ 4 ≤ 12 := hb (4, 0, 12) (List.mem_of_getElem? (i := 2) rfl)
  have c4 : ρ 4 = (h.1 8 2).toInt := hc_i (hc (0, 8, (2, []), leX 4) (List.mem_of_getElem? (i := 2) rfl)) rfl
  have r5 : (0 : Int) ≤ ρ 5 ∧ ρ 5 ≤ 12 := hb (5, 0, 12) (List.mem_of_getElem? (i := 3) rfl)
  have c5 : ρ 5 = (h.1 66 4).toInt := hc_i (hc (0, 66, (4, []), leX 5) (List.mem_of_getElem? (i := 3) rfl)) rfl
  have r6 : (0 : Int) ≤ ρ 6 ∧ ρ 6 ≤ 999 := hb (6, 0, 999) (List.mem_of_getElem? (i := 4) rfl)
  have c6 : ρ 6 = (h.1 1 5).toInt := hc_i (hc (0, 1, (5, []), leX 6) (List.mem_of_getElem? (i := 4) rfl)) rfl
  have r7 : (0 : Int) ≤ ρ 7 ∧ ρ 7 ≤ 999 := hb (7, 0, 999) (List.mem_of_getElem? (i := 5) rfl)
  have c7 : ρ 7 = (h.1 66 0).toInt := hc_i (hc (0, 66, (0, []), leX 7) (List.mem_of_getElem? (i := 5) rfl)) rfl
  have r8 : (0 : Int) ≤ ρ 8 ∧ ρ 8 ≤ 0 := hb (8, 0, 0) (List.mem_of_getElem? (i := 6) rfl)
  have c8 : KC h 14 0 0 (ρ 8) := kc_at (hc (14, 0, (0, []), leX 8) (List.mem_of_getElem? (i := 6) rfl))
  have r9 : (0 : Int) ≤ ρ 9 ∧ ρ 9 ≤ 0 := hb (9, 0, 0) (List.mem_of_getElem? (i := 7) rfl)
  have c9 : KC h 5 66 0 (ρ 9) := kc_at (hc (5, 66, (0, []), leX 9) (List.mem_of_getElem? (i := 7) rfl))
  have r10 : (0 : Int) ≤ ρ 10 ∧ ρ 10 ≤ 0 := hb (10, 0, 0) (List.mem_of_getElem? (i := 8) rfl)
  have c10 : KC h 16 0 0 (ρ 10) := kc_at (hc (16, 0, (0, []), leX 10) (List.mem_of_getElem? (i := 8) rfl))
  have r11 : (-1 : Int) ≤ ρ 11 ∧ ρ 11 ≤ -1 := hb (11, (-1), (-1)) (List.mem_of_getElem? (i := 9) rfl)
  have c11 : KC h 17 0 0 (ρ 11) := kc_at (hc (17, 0, (0, []), leX 11) (List.mem_of_getElem? (i := 9) rfl))
  have r12 : (0 : Int) ≤ ρ 12 ∧ ρ 12 ≤ 0 := hb (12, 0, 0) (List.mem_of_getElem? (i := 10) rfl)
  have c12 : KC h 9 112 0 (ρ 12) := kc_at (hc (9, 112, (0, []), leX 12) (List.mem_of_getElem? (i := 10) rfl))
  have r13 : (0 : Int) ≤ ρ 13 ∧ ρ 13 ≤ 0 := hb (13, 0, 0) (List.mem_of_getElem? (i := 11) rfl)
  have c13 : KC h 9 128 0 (ρ 13) := kc_at (hc (9, 128, (0, []), leX 13) (List.mem_of_getElem? (i := 11) rfl))
  have r14 : (0 : Int) ≤ ρ 14 ∧ ρ 14 ≤ 0 := hb (14, 0, 0) (List.mem_of_getElem? (i := 12) rfl)
  have c14 : KC h 9 144 0 (ρ 14) := kc_at (hc (9, 144, (0, []), leX 14) (List.mem_of_getElem? (i := 12) rfl))
  have r15 : (0 : Int) ≤ ρ 15 ∧ ρ 15 ≤ 0 := hb (15, 0, 0) (List.mem_of_getElem? (i := 13) rfl)
  have c15 : KC h 9 160 0 (ρ 15) := kc_at (hc (9, 160, (0, []), leX 15) (List.mem_of_getElem? (i := 13) rfl))
  have r16 : (0 : Int) ≤ ρ 16 ∧ ρ 16 ≤ 0 := hb (16, 0, 0) (List.mem_of_getElem? (i := 14) rfl)
  have c16 : KC h 9 176 0 (ρ 16) := kc_at (hc (9, 176, (0, []), leX 16) (List.mem_of_getElem? (i := 14) rfl))
  have r17 : (0 : Int) ≤ ρ 17 ∧ ρ 17 ≤ 0 := hb (17, 0, 0) (List.mem_of_getElem? (i := 15) rfl)
  have c17 : KC h 9 192 0 (ρ 17) := kc_at (hc (9, 192, (0, []), leX 17) (List.mem_of_getElem? (i := 15) rfl))
  have r18 : (0 : Int) ≤ ρ 18 ∧ ρ 18 ≤ 0 := hb (18, 0, 0) (List.mem_of_getElem? (i := 16) rfl)
  have c18 : KC h 9 208 0 (ρ 18) := kc_at (hc (9, 208, (0, []), leX 18) (List.mem_of_getElem? (i := 16) rfl))
  have r19 : (0 : Int) ≤ ρ 19 ∧ ρ 19 ≤ 0 := hb (19, 0, 0) (List.mem_of_getElem? (i := 17) rfl)
  have c19 : KC h 9 224 0 (ρ 19) := kc_at (hc (9, 224, (0, []), leX 19) (List.mem_of_getElem? (i := 17) rfl))
  have r20 : (0 : Int) ≤ ρ 20 ∧ ρ 20 ≤ 0 := hb (20, 0, 0) (List.mem_of_getElem? (i := 18) rfl)
  have c20 : KC h 9 240 0 (ρ 20) := kc_at (hc (9, 240, (0, []), leX 20) (List.mem_of_getElem? (i := 18) rfl))
  have r21 : (0 : Int) ≤ ρ 21 ∧ ρ 21 ≤ 0 := hb (21, 0, 0) (List.mem_of_getElem? (i := 19) rfl)
  have c21 : KC h 9 256 0 (ρ 21) := kc_at (hc (9, 256, (0, []), leX 21) (List.mem_of_getElem? (i := 19) rfl))
  have r22 : (0 : Int) ≤ ρ 22 ∧ ρ 22 ≤ 0 := hb (22, 0, 0) (List.mem_of_getElem? (i := 20) rfl)
  have c22 : KC h 9 272 0 (ρ 22) := kc_at (hc (9, 272, (0, []), leX 22) (List.mem_of_getElem? (i := 20) rfl))
  have r23 : (0 : Int) ≤ ρ 23 ∧ ρ 23 ≤ 0 := hb (23, 0, 0) (List.mem_of_getElem? (i := 21) rfl)
  have c23 : KC h 9 288 0 (ρ 23) := kc_at (hc (9, 288, (0, []), leX 23) (List.mem_of_getElem? (i := 21) rfl))
  have r24 : (0 : Int) ≤ ρ 24 ∧ ρ 24 ≤ 0 := hb (24, 0, 0) (List.mem_of_getElem? (i := 22) rfl)
  have c24 : KC h 9 304 0 (ρ 24) := kc_at (hc (9, 304, (0, []), leX 24) (List.mem_of_getElem? (i := 22) rfl))
  have r25 : (0 : Int) ≤ ρ 25 ∧ ρ 25 ≤ 0 := hb (25, 0, 0) (List.mem_of_getElem? (i := 23) rfl)
  have c25 : KC h 9 448 0 (ρ 25) := kc_at (hc (9, 448, (0, []), leX 25) (List.mem_of_getElem? (i := 23) rfl))
  have r26 : (0 : Int) ≤ ρ 26 ∧ ρ 26 ≤ 0 := hb (26, 0, 0) (List.mem_of_getElem? (i := 24) rfl)
  have c26 : KC h 9 464 0 (ρ 26) := kc_at (hc (9, 464, (0, []), leX 26) (List.mem_of_getElem? (i := 24) rfl))
  have r27 : (0 : Int) ≤ ρ 27 ∧ ρ 27 ≤ 10 := hb (27, 0, 10) (List.mem_of_getElem? (i := 25) rfl)
  have c27 : KC h 11 160 0 (ρ 27) := kc_at (hc (11, 160, (0, []), leX 27) (List.mem_of_getElem? (i := 25) rfl))
  have r28 : (0 : Int) ≤ ρ 28 ∧ ρ 28 ≤ 10 := hb (28, 0, 10) (List.mem_of_getElem? (i := 26) rfl)
  have c28 : KC h 11 176 0 (ρ 28) := kc_at (hc (11, 176, (0, []), leX 28) (List.mem_of_getElem? (i := 26) rfl))
  have r29 : (0 : Int) ≤ ρ 29 ∧ ρ 29 ≤ 10 := hb (29, 0, 10) (List.mem_of_getElem? (i := 27) rfl)
  have c29 : KC h 11 192 0 (ρ 29) := kc_at (hc (11, 192, (0, []), leX 29) (List.mem_of_getElem? (i := 27) rfl))
  have r30 : (0 : Int) ≤ ρ 30 ∧ ρ 30 ≤ 10 := hb (30, 0, 10) (List.mem_of_getElem? (i := 28) rfl)
  have c30 : KC h 11 208 0 (ρ 30) := kc_at (hc (11, 208, (0, []), leX 30) (List.mem_of_getElem? (i := 28) rfl))
  have r31 : (0 : Int) ≤ ρ 31 ∧ ρ 31 ≤ 10 := hb (31, 0, 10) (List.mem_of_getElem? (i := 29) rfl)
  have c31 : KC h 11 224 0 (ρ 31) := kc_at (hc (11, 224, (0, []), leX 31) (List.mem_of_getElem? (i := 29) rfl))
  have r32 : (0 : Int) ≤ ρ 32 ∧ ρ 32 ≤ 10 := hb (32, 0, 10) (List.mem_of_getElem? (i := 30) rfl)
  have c32 : KC h 11 272 0 (ρ 32) := kc_at (hc (11, 272, (0, []), leX 32) (List.mem_of_getElem? (i := 30) rfl))
  have r33 : (0 : Int) ≤ ρ 33 ∧ ρ 33 ≤ 10 := hb (33, 0, 10) (List.mem_of_getElem? (i := 31) rfl)
  have c33 : KC h 11 288 0 (ρ 33) := kc_at (hc (11, 288, (0, []), leX 33) (List.mem_of_getElem? (i := 31) rfl))
  have r34 : (0 : Int) ≤ ρ 34 ∧ ρ 34 ≤ 10 := hb (34, 0, 10) (List.mem_of_getElem? (i := 32) rfl)
  have c34 : KC h 11 304 0 (ρ 34) := kc_at (hc (11, 304, (0, []), leX 34) (List.mem_of_getElem? (i := 32) rfl))
  have r35 : (0 : Int) ≤ ρ 35 ∧ ρ 35 ≤ 20000 := hb (35, 0, 20000) (List.mem_of_getElem? (i := 33) rfl)
  have c35 : KC h 14 16 0 (ρ 35) := kc_at (hc (14, 16, (0, []), leX 35) (List.mem_of_getElem? (i := 33) rfl))
  have r36 : (0 : Int) ≤ ρ 36 ∧ ρ 36 ≤ 10 := hb (36, 0, 10) (List.mem_of_getElem? (i := 34) rfl)
  have c36 : KC h 12 0 0 (ρ 36) := kc_at (hc (12, 0, (0, []), leX 36) (List.mem_of_getElem? (i := 34) rfl))
  have r37 : (0 : Int) ≤ ρ 37 ∧ ρ 37 ≤ 12 := hb (37, 0, 12) (List.mem_of_getElem? (i := 35) rfl)
  have c37 : KC h 15 0 0 (ρ 37) := kc_at (hc (15, 0, (0, []), leX 37) (List.mem_of_getElem? (i := 35) rfl))
  have M0 := hand_M (rg := rgT) (s := pm35.2.2.1) (h := h) (ρ := ρ) (by decide +kernel) (by decide +kernel) hin0 hb hc hf hR
  obtain ⟨d', rfl⟩ : ∃ d', d = d' + 6 := ⟨d - 6, (Nat.sub_add_cancel hd).symm⟩
  obtain ⟨n, hn⟩ : ∃ n : Nat, (n : Int) = ρ 2 := ⟨(ρ 2).toNat, Int.toNat_of_nonneg r2.1⟩
  have n10 := cnt_le (m := 10) hn r2.2
  have en : h.1 4 2 = nI n := cnt_n hn c2
  have en2 : h.1 66 2 = nI n := cnt_n (hn.trans (eqI f2 f3)) c3
  have W0 : KC h 5 66 0 0 := by have q := c9; rw [show ρ 9 = 0 from Int.le_antisymm r9.2 r9.1] at q; exact q
  have K448 : KC h 9 448 0 0 := by have q := c25; rw [show ρ 25 = 0 from Int.le_antisymm r25.2 r25.1] at q; exact q
  have K464 : KC h 9 464 0 0 := by have q := c26; rw [show ρ 26 = 0 from Int.le_antisymm r26.2 r26.1] at q; exact q
  have R144 : RLO h 144 0 0 := by have q := c14; rw [show ρ 14 = 0 from Int.le_antisymm r14.2 r14.1] at q; exact q
  have R160 : RLO h 160 0 0 := by have q := c15; rw [show ρ 15 = 0 from Int.le_antisymm r15.2 r15.1] at q; exact q
  have R176 : RLO h 176 0 0 := by have q := c16; rw [show ρ 16 = 0 from Int.le_antisymm r16.2 r16.1] at q; exact q
  have R192 : RLO h 192 0 0 := by have q := c17; rw [show ρ 17 = 0 from Int.le_antisymm r17.2 r17.1] at q; exact q
  have R272 : RLO h 272 0 0 := by have q := c22; rw [show ρ 22 = 0 from Int.le_antisymm r22.2 r22.1] at q; exact q
  have R288 : RLO h 288 0 0 := by have q := c23; rw [show ρ 23 = 0 from Int.le_antisymm r23.2 r23.1] at q; exact q
  have S0 : KC h 15 0 0 (ρ 4) := by have q := c37; rw [show ρ 37 = ρ 4 from (eqI f28 f29).symm] at q; exact q
  have ex0 : ρ 0 = a0.toInt := e0
  rcases pay_core (d := d') (h := h) (a0 := a0) n10 en en2 c4 ((eqI f4 f5).trans c5) r4.1 r4.2 c6 ((eqI f6 f7).trans c7) r6.1 (Int.le_trans r6.2 (by decide)) W0 K448 K464 S0 hR R144 R160 R176 R192 R272 R288 with ⟨r, cA, cB, hr⟩ | ⟨x, r, v3, v5, v4, g, hB, rfl, xn, b3, b5, b4, ob, cA, cB⟩
  · refine pm_mk (p := pm35) cA cB (List.forall_mem_cons.mpr ⟨fun _ => rfl, List.forall_mem_cons.mpr ⟨trivial, fun _ h => absurd h List.not_mem_nil⟩⟩) (List.forall_mem_cons.mpr ⟨fun _ => rfl, List.forall_mem_cons.mpr ⟨trivial, fun _ h => absurd h List.not_mem_nil⟩⟩) ?_
    rw [mx_self]
    rcases hr with rfl | rfl
    · exact hand_post M0 Ag.rf (Nat.le_refl _) (hand_r (e := leC (-1000000001)) ⟨leS_C, leV_C _ _⟩) (hand_r (e := leC (-1000000001)) ⟨leS_C, leV_C _ _⟩) (by decide +kernel)
    · exact hand_post M0 Ag.rf (Nat.le_refl _) (hand_r (e := leC (-1000000002)) ⟨leS_C, leV_C _ _⟩) (hand_r (e := leC (-1000000002)) ⟨leS_C, leV_C _ _⟩) (by decide +kernel)
  · refine pm_mk (p := pm35) cA cB (List.forall_mem_cons.mpr ⟨fun _ => rfl, List.forall_mem_cons.mpr ⟨trivial, fun _ h => absurd h List.not_mem_nil⟩⟩) (List.forall_mem_cons.mpr ⟨fun _ => rfl, List.forall_mem_cons.mpr ⟨trivial, fun _ h => absurd h List.not_mem_nil⟩⟩) ?_
    exact pay_end M0 hR (by rw [ex0, nI_i (Nat.lt_trans xn (Nat.lt_of_le_of_lt n10 (by decide)))]) hn n10 xn b3 b5 b4 ob

