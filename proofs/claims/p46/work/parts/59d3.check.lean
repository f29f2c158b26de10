/-! By hand: check. -/
set_option maxHeartbeats 4000000 in
set_option maxRecDepth 100000 in
theorem ck_img {ρ : Nat → Int} {h H0 : Hp} {d' : Nat} (e0 : H0 = hI (hI h 0 11 0) 65 34 0) (hR : ∀ q ∈ rgT, RgO h q) (r2 : (0 : Int) ≤ ρ 2 ∧ ρ 2 ≤ 3) (c2 : ρ 2 = (h.1 13 2).toInt) (r3 : (0 : Int) ≤ ρ 3 ∧ ρ 3 ≤ 3) (c3 : ρ 3 = (h.1 67 1).toInt) (r4 : (0 : Int) ≤ ρ 4 ∧ ρ 4 ≤ 10) (c4 : ρ 4 = (h.1 15 2).toInt) (r5 : (0 : Int) ≤ ρ 5 ∧ ρ 5 ≤ 10) (c5 : ρ 5 = (h.1 67 2).toInt) (r6 : (0 : Int) ≤ ρ 6 ∧ ρ 6 ≤ 12) (c6 : ρ 6 = (h.1 19 2).toInt) (r7 : (0 : Int) ≤ ρ 7 ∧ ρ 7 ≤ 12) (c7 : ρ 7 = (h.1 67 4).toInt) (r8 : (0 : Int) ≤ ρ 8 ∧ ρ 8 ≤ 40) (c8 : ρ 8 = (h.1 21 2).toInt) (r9 : (0 : Int) ≤ ρ 9 ∧ ρ 9 ≤ 40) (c9 : ρ 9 = (h.1 67 5).toInt) (r10 : (0 : Int) ≤ ρ 10 ∧ ρ 10 ≤ 999) (c10 : ρ 10 = (h.1 12 5).toInt) (r11 : (0 : Int) ≤ ρ 11 ∧ ρ 11 ≤ 999) (c11 : ρ 11 = (h.1 67 0).toInt) (r12 : (0 : Int) ≤ ρ 12 ∧ ρ 12 ≤ 30) (c12 : ρ 12 = (h.1 17 2).toInt) (r13 : (0 : Int) ≤ ρ 13 ∧ ρ 13 ≤ 30) (c13 : ρ 13 = (h.1 67 3).toInt) (r14 : (0 : Int) ≤ ρ 14 ∧ ρ 14 ≤ 1) (c14 : ρ 14 = (h.1 0 12).toInt) (r15 : (0 : Int) ≤ ρ 15 ∧ ρ 15 ≤ 1) (c15 : ρ 15 = (h.1 65 3).toInt) (r18 : (0 : Int) ≤ ρ 18 ∧ ρ 18 ≤ 65535) (c18 : ρ 18 = (h.1 12 6).toInt) (r19 : (0 : Int) ≤ ρ 19 ∧ ρ 19 ≤ 65535) (c19 : ρ 19 = (h.1 67 6).toInt) (r20 : (0 : Int) ≤ ρ 20 ∧ ρ 20 ≤ 0) (c20 : KC h 14 1 0 (ρ 20)) (r21 : (0 : Int) ≤ ρ 21 ∧ ρ 21 ≤ 0) (c21 : KC h 14 5 0 (ρ 21)) (r22 : (0 : Int) ≤ ρ 22 ∧ ρ 22 ≤ 0) (c22 : KC h 14 9 0 (ρ 22)) (r23 : (0 : Int) ≤ ρ 23 ∧ ρ 23 ≤ 0) (c23 : KC h 14 13 0 (ρ 23)) (r24 : (0 : Int) ≤ ρ 24 ∧ ρ 24 ≤ 0) (c24 : KC h 5 67 0 (ρ 24)) (r25 : (0 : Int) ≤ ρ 25 ∧ ρ 25 ≤ 0) (c25 : KC h 16 1 0 (ρ 25)) (r26 : (-1 : Int) ≤ ρ 26 ∧ ρ 26 ≤ -1) (c26 : KC h 17 1 0 (ρ 26)) (r27 : (0 : Int) ≤ ρ 27 ∧ ρ 27 ≤ 0) (c27 : KC h 9 5 0 (ρ 27)) (r28 : (0 : Int) ≤ ρ 28 ∧ ρ 28 ≤ 0) (c28 : KC h 9 21 0 (ρ 28)) (r29 : (0 : Int) ≤ ρ 29 ∧ ρ 29 ≤ 0) (c29 : KC h 9 37 0 (ρ 29)) (r30 : (0 : Int) ≤ ρ 30 ∧ ρ 30 ≤ 0) (c30 : KC h 9 53 0 (ρ 30)) (r31 : (0 : Int) ≤ ρ 31 ∧ ρ 31 ≤ 0) (c31 : KC h 9 69 0 (ρ 31)) (r32 : (0 : Int) ≤ ρ 32 ∧ ρ 32 ≤ 0) (c32 : KC h 9 85 0 (ρ 32)) (r33 : (0 : Int) ≤ ρ 33 ∧ ρ 33 ≤ 0) (c33 : KC h 9 101 0 (ρ 33)) (r34 : (0 : Int) ≤ ρ 34 ∧ ρ 34 ≤ 0) (c34 : KC h 9 117 0 (ρ 34)) (r35 : (0 : Int) ≤ ρ 35 ∧ ρ 35 ≤ 0) (c35 : KC h 9 133 0 (ρ 35)) (r36 : (0 : Int) ≤ ρ 36 ∧ ρ 36 ≤ 0) (c36 : KC h 9 149 0 (ρ 36)) (r37 : (0 : Int) ≤ ρ 37 ∧ ρ 37 ≤ 0) (c37 : KC h 9 165 0 (ρ 37)) (r38 : (0 : Int) ≤ ρ 38 ∧ ρ 38 ≤ 0) (c38 : KC h 9 181 0 (ρ 38)) (r39 : (0 : Int) ≤ ρ 39 ∧ ρ 39 ≤ 0) (c39 : KC h 9 197 0 (ρ 39)) (r40 : (0 : Int) ≤ ρ 40 ∧ ρ 40 ≤ 0) (c40 : KC h 9 213 0 (ρ 40)) (r41 : (0 : Int) ≤ ρ 41 ∧ ρ 41 ≤ 0) (c41 : KC h 9 229 0 (ρ 41)) (r42 : (0 : Int) ≤ ρ 42 ∧ ρ 42 ≤ 0) (c42 : KC h 9 245 0 (ρ 42)) (r43 : (0 : Int) ≤ ρ 43 ∧ ρ 43 ≤ 0) (c43 : KC h 9 261 0 (ρ 43)) (r44 : (0 : Int) ≤ ρ 44 ∧ ρ 44 ≤ 0) (c44 : KC h 9 277 0 (ρ 44)) (r45 : (0 : Int) ≤ ρ 45 ∧ ρ 45 ≤ 0) (c45 : KC h 9 293 0 (ρ 45)) (r46 : (0 : Int) ≤ ρ 46 ∧ ρ 46 ≤ 0) (c46 : KC h 9 309 0 (ρ 46)) (r47 : (0 : Int) ≤ ρ 47 ∧ ρ 47 ≤ 0) (c47 : KC h 9 453 0 (ρ 47)) (r48 : (0 : Int) ≤ ρ 48 ∧ ρ 48 ≤ 0) (c48 : KC h 9 469 0 (ρ 48)) (r49 : (0 : Int) ≤ ρ 49 ∧ ρ 49 ≤ 0) (c49 : KC h 9 485 0 (ρ 49)) (r50 : (0 : Int) ≤ ρ 50 ∧ ρ 50 ≤ 0) (c50 : KC h 9 517 0 (ρ 50)) (r51 : (0 : Int) ≤ ρ 51 ∧ ρ 51 ≤ 0) (c51 : KC h 9 533 0 (ρ 51)) (r52 : (0 : Int) ≤ ρ 52 ∧ ρ 52 ≤ 0) (c52 : KC h 9 549 0 (ρ 52)) (r53 : (0 : Int) ≤ ρ 53 ∧ ρ 53 ≤ 0) (c53 : KC h 9 565 0 (ρ 53)) (r54 : (0 : Int) ≤ ρ 54 ∧ ρ 54 ≤ 0) (c54 : KC h 9 325 0 (ρ 54)) (r55 : (0 : Int) ≤ ρ 55 ∧ ρ 55 ≤ 0) (c55 : KC h 9 341 0 (ρ 55)) (r56 : (0 : Int) ≤ ρ 56 ∧ ρ 56 ≤ 0) (c56 : KC h 9 357 0 (ρ 56)) (r57 : (0 : Int) ≤ ρ 57 ∧ ρ 57 ≤ 0) (c57 : KC h 9 373 0 (ρ 57)) (r58 : (0 : Int) ≤ ρ 58 ∧ ρ 58 ≤ 0) (c58 : KC h 9 389 0 (ρ 58)) (r59 : (0 : Int) ≤ ρ 59 ∧ ρ 59 ≤ 0) (c59 : KC h 9 405 0 (ρ 59)) (r60 : (0 : Int) ≤ ρ 60 ∧ ρ 60 ≤ 0) (c60 : KC h 9 421 0 (ρ 60)) (r61 : (0 : Int) ≤ ρ 61 ∧ ρ 61 ≤ 0) (c61 : KC h 9 437 0 (ρ 61)) (r62 : (0 : Int) ≤ ρ 62 ∧ ρ 62 ≤ 0) (c62 : KC h 9 2004 0 (ρ 62)) (r63 : (0 : Int) ≤ ρ 63 ∧ ρ 63 ≤ 0) (c63 : KC h 9 2007 0 (ρ 63)) (r64 : (0 : Int) ≤ ρ 64 ∧ ρ 64 ≤ 3) (c64 : KC h 11 68 0 (ρ 64)) (r65 : (0 : Int) ≤ ρ 65 ∧ ρ 65 ≤ 10) (c65 : KC h 11 164 0 (ρ 65)) (r66 : (0 : Int) ≤ ρ 66 ∧ ρ 66 ≤ 10) (c66 : KC h 11 180 0 (ρ 66)) (r67 : (0 : Int) ≤ ρ 67 ∧ ρ 67 ≤ 10) (c67 : KC h 11 196 0 (ρ 67)) (r68 : (0 : Int) ≤ ρ 68 ∧ ρ 68 ≤ 10) (c68 : KC h 11 212 0 (ρ 68)) (r69 : (0 : Int) ≤ ρ 69 ∧ ρ 69 ≤ 10) (c69 : KC h 11 228 0 (ρ 69)) (r70 : (0 : Int) ≤ ρ 70 ∧ ρ 70 ≤ 10) (c70 : KC h 11 276 0 (ρ 70)) (r71 : (0 : Int) ≤ ρ 71 ∧ ρ 71 ≤ 10) (c71 : KC h 11 292 0 (ρ 71)) (r72 : (0 : Int) ≤ ρ 72 ∧ ρ 72 ≤ 10) (c72 : KC h 11 308 0 (ρ 72)) (r73 : (0 : Int) ≤ ρ 73 ∧ ρ 73 ≤ 3) (c73 : KC h 11 84 0 (ρ 73)) (r74 : (0 : Int) ≤ ρ 74 ∧ ρ 74 ≤ 3) (c74 : KC h 11 100 0 (ρ 74)) (r75 : (0 : Int) ≤ ρ 75 ∧ ρ 75 ≤ 30) (c75 : KC h 11 436 0 (ρ 75)) (r76 : (0 : Int) ≤ ρ 76 ∧ ρ 76 ≤ 20000) (c76 : KC h 14 17 0 (ρ 76)) (r77 : (0 : Int) ≤ ρ 77 ∧ ρ 77 ≤ 10) (c77 : KC h 12 5 0 (ρ 77)) (r78 : (0 : Int) ≤ ρ 78 ∧ ρ 78 ≤ 12) (c78 : KC h 15 5 0 (ρ 78)) (f0 : (0 : Int) ≤ 0 + (1 * ρ 0 + (-1 * ρ 1 + 0))) (f1 : (0 : Int) ≤ 0 + (-1 * ρ 0 + (1 * ρ 1 + 0))) (f2 : (0 : Int) ≤ 0 + (1 * ρ 2 + (-1 * ρ 3 + 0))) (f3 : (0 : Int) ≤ 0 + (-1 * ρ 2 + (1 * ρ 3 + 0))) (f4 : (0 : Int) ≤ 0 + (1 * ρ 4 + (-1 * ρ 5 + 0))) (f5 : (0 : Int) ≤ 0 + (-1 * ρ 4 + (1 * ρ 5 + 0))) (f6 : (0 : Int) ≤ 0 + (1 * ρ 6 + (-1 * ρ 7 + 0))) (f7 : (0 : Int) ≤ 0 + (-1 * ρ 6 + (1 * ρ 7 + 0))) (f8 : (0 : Int) ≤ 0 + (1 * ρ 8 + (-1 * ρ 9 + 0))) (f9 : (0 : Int) ≤ 0 + (-1 * ρ 8 + (1 * ρ 9 + 0))) (f10 : (0 : Int) ≤ 0 + (1 * ρ 10 + (-1 * ρ 11 + 0))) (f11 : (0 : Int) ≤ 0 + (-1 * ρ 10 + (1 * ρ 11 + 0))) (f12 : (0 : Int) ≤ 0 + (1 * ρ 12 + (-1 * ρ 13 + 0))) (f13 : (0 : Int) ≤ 0 + (-1 * ρ 12 + (1 * ρ 13 + 0))) (f14 : (0 : Int) ≤ 0 + (1 * ρ 14 + (-1 * ρ 15 + 0))) (f15 : (0 : Int) ≤ 0 + (-1 * ρ 14 + (1 * ρ 15 + 0))) (f16 : (0 : Int) ≤ 0 + (1 * ρ 16 + (-1 * ρ 17 + 0))) (f17 : (0 : Int) ≤ 0 + (-1 * ρ 16 + (1 * ρ 17 + 0))) (f18 : (0 : Int) ≤ 0 + (1 * ρ 18 + (-1 * ρ 19 + 0))) (f19 : (0 : Int) ≤ 0 + (-1 * ρ 18 + (1 * ρ 19 + 0))) (f20 : (0 : Int) ≤ 0 + (1 * ρ 2 + (-1 * ρ 64 + 0))) (f21 : (0 : Int) ≤ 0 + (-1 * ρ 2 + (1 * ρ 64 + 0))) (f22 : (0 : Int) ≤ 0 + (1 * ρ 4 + (-1 * ρ 65 + 0))) (f23 : (0 : Int) ≤ 0 + (-1 * ρ 4 + (1 * ρ 65 + 0))) (f24 : (0 : Int) ≤ 0 + (1 * ρ 4 + (-1 * ρ 66 + 0))) (f25 : (0 : Int) ≤ 0 + (-1 * ρ 4 + (1 * ρ 66 + 0))) (f26 : (0 : Int) ≤ 0 + (1 * ρ 4 + (-1 * ρ 67 + 0))) (f27 : (0 : Int) ≤ 0 + (-1 * ρ 4 + (1 * ρ 67 + 0))) (f28 : (0 : Int) ≤ 0 + (1 * ρ 4 + (-1 * ρ 68 + 0))) (f29 : (0 : Int) ≤ 0 + (-1 * ρ 4 + (1 * ρ 68 + 0))) (f30 : (0 : Int) ≤ 0 + (1 * ρ 4 + (-1 * ρ 69 + 0))) (f31 : (0 : Int) ≤ 0 + (-1 * ρ 4 + (1 * ρ 69 + 0))) (f32 : (0 : Int) ≤ 0 + (1 * ρ 4 + (-1 * ρ 70 + 0))) (f33 : (0 : Int) ≤ 0 + (-1 * ρ 4 + (1 * ρ 70 + 0))) (f34 : (0 : Int) ≤ 0 + (1 * ρ 4 + (-1 * ρ 71 + 0))) (f35 : (0 : Int) ≤ 0 + (-1 * ρ 4 + (1 * ρ 71 + 0))) (f36 : (0 : Int) ≤ 0 + (1 * ρ 4 + (-1 * ρ 72 + 0))) (f37 : (0 : Int) ≤ 0 + (-1 * ρ 4 + (1 * ρ 72 + 0))) (f38 : (0 : Int) ≤ 0 + (1 * ρ 2 + (-1 * ρ 73 + 0))) (f39 : (0 : Int) ≤ 0 + (-1 * ρ 2 + (1 * ρ 73 + 0))) (f40 : (0 : Int) ≤ 0 + (1 * ρ 2 + (-1 * ρ 74 + 0))) (f41 : (0 : Int) ≤ 0 + (-1 * ρ 2 + (1 * ρ 74 + 0))) (f42 : (0 : Int) ≤ 0 + (1 * ρ 12 + (-1 * ρ 75 + 0))) (f43 : (0 : Int) ≤ 0 + (-1 * ρ 12 + (1 * ρ 75 + 0))) (f44 : (0 : Int) ≤ 0 + (10 * ρ 10 + (-1 * ρ 76 + 0))) (f45 : (0 : Int) ≤ 0 + (-10 * ρ 10 + (1 * ρ 76 + 0))) (f46 : (0 : Int) ≤ 0 + (1 * ρ 4 + (-1 * ρ 77 + 0))) (f47 : (0 : Int) ≤ 0 + (-1 * ρ 4 + (1 * ρ 77 + 0))) (f48 : (0 : Int) ≤ 0 + (1 * ρ 6 + (-1 * ρ 78 + 0))) (f49 : (0 : Int) ≤ 0 + (-1 * ρ 6 + (1 * ρ 78 + 0))) : ∃ H1 H2 H3 : Hp, CRun (d' + 6) 61 [.ref 23, .ref 12] H0 none H1 ∧ Frm ckV H0 H1 ∧ CRun (d' + 6) 260 [.ref 65, .ref 66, .ref 68] H1 none H2 ∧ (∀ j : Int32, 0 ≤ j.toInt → j.toInt < 3400 → H2.1 68 j = H1.1 66 j) ∧ Frm [(0, 68, 0, 3399)] H1 H2 ∧ CRun (d' + 6) 260 [.ref 65, .ref 67, .ref 66] H2 none H3 ∧ Frm [(0, 66, 0, 3399)] H2 H3 ∧ ckR H3 (ρ 4) (ρ 2) (ρ 12) (ρ 8) (ρ 6) (ρ 10) ∧ (∀ q ∈ rgT, RgO H3 q) := by
  have F0 : Frm [(0, 0, 11, 11), (0, 65, 34, 34)] h H0 := by
    rw [e0]
    refine ⟨fun o j q => ?_, fun _ _ _ => rfl, rfl⟩
    show (if o = 65 ∧ j = 34 then (0 : Int32) else if o = 0 ∧ j = 11 then 0 else h.1 o j) = h.1 o j
    rw [if_neg (fun z => q ⟨(0, 65, 34, 34), List.mem_of_getElem? (i := 1) rfl, rfl, z.1.symm, by rw [z.2]; decide, by rw [z.2]; decide⟩), if_neg (fun z => q ⟨(0, 0, 11, 11), List.mem_of_getElem? (i := 0) rfl, rfl, z.1.symm, by rw [z.2]; decide, by rw [z.2]; decide⟩)]
  have hR0 : ∀ q ∈ rgT, RgO H0 q := by
    rw [e0]
    intro q hq j k a1 a2 a3
    show _ ≤ (if q.1 = 65 ∧ j = 34 then (0 : Int32) else if q.1 = 0 ∧ j = 11 then 0 else h.1 q.1 j).toInt ∧ (if q.1 = 65 ∧ j = 34 then (0 : Int32) else if q.1 = 0 ∧ j = 11 then 0 else h.1 q.1 j).toInt ≤ _
    have zz : ∀ q ∈ rgT, (q.1 = 65 ∨ q.1 = 0) → q.2.2.2.2.1 ≤ 0 ∧ 0 ≤ q.2.2.2.2.2 := by decide +kernel
    split
    · rename_i z; exact zz q hq (Or.inl z.1)
    · split
      · rename_i z; exact zz q hq (Or.inr z.1)
      · exact hR q hq j k a1 a2 a3
  have k2 : ρ 2 = (H0.1 13 2).toInt := by rw [F0.1 13 2 (ck_nw (by decide +kernel))]; exact c2
  have k3 : ρ 3 = (H0.1 67 1).toInt := by rw [F0.1 67 1 (ck_nw (by decide +kernel))]; exact c3
  have k4 : ρ 4 = (H0.1 15 2).toInt := by rw [F0.1 15 2 (ck_nw (by decide +kernel))]; exact c4
  have k5 : ρ 5 = (H0.1 67 2).toInt := by rw [F0.1 67 2 (ck_nw (by decide +kernel))]; exact c5
  have k6 : ρ 6 = (H0.1 19 2).toInt := by rw [F0.1 19 2 (ck_nw (by decide +kernel))]; exact c6
  have k7 : ρ 7 = (H0.1 67 4).toInt := by rw [F0.1 67 4 (ck_nw (by decide +kernel))]; exact c7
  have k8 : ρ 8 = (H0.1 21 2).toInt := by rw [F0.1 21 2 (ck_nw (by decide +kernel))]; exact c8
  have k9 : ρ 9 = (H0.1 67 5).toInt := by rw [F0.1 67 5 (ck_nw (by decide +kernel))]; exact c9
  have k10 : ρ 10 = (H0.1 12 5).toInt := by rw [F0.1 12 5 (ck_nw (by decide +kernel))]; exact c10
  have k11 : ρ 11 = (H0.1 67 0).toInt := by rw [F0.1 67 0 (ck_nw (by decide +kernel))]; exact c11
  have k12 : ρ 12 = (H0.1 17 2).toInt := by rw [F0.1 17 2 (ck_nw (by decide +kernel))]; exact c12
  have k13 : ρ 13 = (H0.1 67 3).toInt := by rw [F0.1 67 3 (ck_nw (by decide +kernel))]; exact c13
  have k14 : ρ 14 = (H0.1 0 12).toInt := by rw [F0.1 0 12 (ck_nw (by decide +kernel))]; exact c14
  have k15 : ρ 15 = (H0.1 65 3).toInt := by rw [F0.1 65 3 (ck_nw (by decide +kernel))]; exact c15
  have k18 : ρ 18 = (H0.1 12 6).toInt := by rw [F0.1 12 6 (ck_nw (by decide +kernel))]; exact c18
  have k19 : ρ 19 = (H0.1 67 6).toInt := by rw [F0.1 67 6 (ck_nw (by decide +kernel))]; exact c19
  have k20 : KC H0 14 1 0 (ρ 20) := KC_fr (by decide) (by decide +kernel) F0 c20
  have k21 : KC H0 14 5 0 (ρ 21) := KC_fr (by decide) (by decide +kernel) F0 c21
  have k22 : KC H0 14 9 0 (ρ 22) := KC_fr (by decide) (by decide +kernel) F0 c22
  have k23 : KC H0 14 13 0 (ρ 23) := KC_fr (by decide) (by decide +kernel) F0 c23
  have k24 : KC H0 5 67 0 (ρ 24) := KC_fr (by decide) (by decide +kernel) F0 c24
  have k25 : KC H0 16 1 0 (ρ 25) := KC_fr (by decide) (by decide +kernel) F0 c25
  have k26 : KC H0 17 1 0 (ρ 26) := KC_fr (by decide) (by decide +kernel) F0 c26
  have k27 : KC H0 9 5 0 (ρ 27) := KC_fr (by decide) (by decide +kernel) F0 c27
  have k28 : KC H0 9 21 0 (ρ 28) := KC_fr (by decide) (by decide +kernel) F0 c28
  have k29 : KC H0 9 37 0 (ρ 29) := KC_fr (by decide) (by decide +kernel) F0 c29
  have k30 : KC H0 9 53 0 (ρ 30) := KC_fr (by decide) (by decide +kernel) F0 c30
  have k31 : KC H0 9 69 0 (ρ 31) := KC_fr (by decide) (by decide +kernel) F0 c31
  have k32 : KC H0 9 85 0 (ρ 32) := KC_fr (by decide) (by decide +kernel) F0 c32
  have k33 : KC H0 9 101 0 (ρ 33) := KC_fr (by decide) (by decide +kernel) F0 c33
  have k34 : KC H0 9 117 0 (ρ 34) := KC_fr (by decide) (by decide +kernel) F0 c34
  have k35 : KC H0 9 133 0 (ρ 35) := KC_fr (by decide) (by decide +kernel) F0 c35
  have k36 : KC H0 9 149 0 (ρ 36) := KC_fr (by decide) (by decide +kernel) F0 c36
  have k37 : KC H0 9 165 0 (ρ 37) := KC_fr (by decide) (by decide +kernel) F0 c37
  have k38 : KC H0 9 181 0 (ρ 38) := KC_fr (by decide) (by decide +kernel) F0 c38
  have k39 : KC H0 9 197 0 (ρ 39) := KC_fr (by decide) (by decide +kernel) F0 c39
  have k40 : KC H0 9 213 0 (ρ 40) := KC_fr (by decide) (by decide +kernel) F0 c40
  have k41 : KC H0 9 229 0 (ρ 41) := KC_fr (by decide) (by decide +kernel) F0 c41
  have k42 : KC H0 9 245 0 (ρ 42) := KC_fr (by decide) (by decide +kernel) F0 c42
  have k43 : KC H0 9 261 0 (ρ 43) := KC_fr (by decide) (by decide +kernel) F0 c43
  have k44 : KC H0 9 277 0 (ρ 44) := KC_fr (by decide) (by decide +kernel) F0 c44
  have k45 : KC H0 9 293 0 (ρ 45) := KC_fr (by decide) (by decide +kernel) F0 c45
  have k46 : KC H0 9 309 0 (ρ 46) := KC_fr (by decide) (by decide +kernel) F0 c46
  have k47 : KC H0 9 453 0 (ρ 47) := KC_fr (by decide) (by decide +kernel) F0 c47
  have k48 : KC H0 9 469 0 (ρ 48) := KC_fr (by decide) (by decide +kernel) F0 c48
  have k49 : KC H0 9 485 0 (ρ 49) := KC_fr (by decide) (by decide +kernel) F0 c49
  have k50 : KC H0 9 517 0 (ρ 50) := KC_fr (by decide) (by decide +kernel) F0 c50
  have k51 : KC H0 9 533 0 (ρ 51) := KC_fr (by decide) (by decide +kernel) F0 c51
  have k52 : KC H0 9 549 0 (ρ 52) := KC_fr (by decide) (by decide +kernel) F0 c52
  have k53 : KC H0 9 565 0 (ρ 53) := KC_fr (by decide) (by decide +kernel) F0 c53
  have k54 : KC H0 9 325 0 (ρ 54) := KC_fr (by decide) (by decide +kernel) F0 c54
  have k55 : KC H0 9 341 0 (ρ 55) := KC_fr (by decide) (by decide +kernel) F0 c55
  have k56 : KC H0 9 357 0 (ρ 56) := KC_fr (by decide) (by decide +kernel) F0 c56
  have k57 : KC H0 9 373 0 (ρ 57) := KC_fr (by decide) (by decide +kernel) F0 c57
  have k58 : KC H0 9 389 0 (ρ 58) := KC_fr (by decide) (by decide +kernel) F0 c58
  have k59 : KC H0 9 405 0 (ρ 59) := KC_fr (by decide) (by decide +kernel) F0 c59
  have k60 : KC H0 9 421 0 (ρ 60) := KC_fr (by decide) (by decide +kernel) F0 c60
  have k61 : KC H0 9 437 0 (ρ 61) := KC_fr (by decide) (by decide +kernel) F0 c61
  have k62 : KC H0 9 2004 0 (ρ 62) := KC_fr (by decide) (by decide +kernel) F0 c62
  have k63 : KC H0 9 2007 0 (ρ 63) := KC_fr (by decide) (by decide +kernel) F0 c63
  have k64 : KC H0 11 68 0 (ρ 64) := KC_fr (by decide) (by decide +kernel) F0 c64
  have k65 : KC H0 11 164 0 (ρ 65) := KC_fr (by decide) (by decide +kernel) F0 c65
  have k66 : KC H0 11 180 0 (ρ 66) := KC_fr (by decide) (by decide +kernel) F0 c66
  have k67 : KC H0 11 196 0 (ρ 67) := KC_fr (by decide) (by decide +kernel) F0 c67
  have k68 : KC H0 11 212 0 (ρ 68) := KC_fr (by decide) (by decide +kernel) F0 c68
  have k69 : KC H0 11 228 0 (ρ 69) := KC_fr (by decide) (by decide +kernel) F0 c69
  have k70 : KC H0 11 276 0 (ρ 70) := KC_fr (by decide) (by decide +kernel) F0 c70
  have k71 : KC H0 11 292 0 (ρ 71) := KC_fr (by decide) (by decide +kernel) F0 c71
  have k72 : KC H0 11 308 0 (ρ 72) := KC_fr (by decide) (by decide +kernel) F0 c72
  have k73 : KC H0 11 84 0 (ρ 73) := KC_fr (by decide) (by decide +kernel) F0 c73
  have k74 : KC H0 11 100 0 (ρ 74) := KC_fr (by decide) (by decide +kernel) F0 c74
  have k75 : KC H0 11 436 0 (ρ 75) := KC_fr (by decide) (by decide +kernel) F0 c75
  have k76 : KC H0 14 17 0 (ρ 76) := KC_fr (by decide) (by decide +kernel) F0 c76
  have k77 : KC H0 12 5 0 (ρ 77) := KC_fr (by decide) (by decide +kernel) F0 c77
  have k78 : KC H0 15 5 0 (ρ 78) := KC_fr (by decide) (by decide +kernel) F0 c78
  have KB := ok87 (d' + 6) (Nat.le_trans (show 2 ≤ 6 by decide) (Nat.le_add_left 6 _)) (fun k => ([ρ 10, ρ 18, ρ 2, ρ 4, ρ 12, ρ 6, ρ 8, ρ 27, ρ 28, ρ 29, ρ 30, ρ 31, ρ 32, ρ 33, ρ 34, ρ 35, ρ 36, ρ 37, ρ 38, ρ 39, ρ 40, ρ 41, ρ 42, ρ 43, ρ 44, ρ 45, ρ 46, ρ 54, ρ 55, ρ 56, ρ 57, ρ 58, ρ 59, ρ 60, ρ 61, ρ 47, ρ 48, ρ 49, ρ 50, ρ 51, ρ 52, ρ 53, ρ 64, ρ 73, ρ 74, ρ 65, ρ 66, ρ 67, ρ 68, ρ 69, ρ 70, ρ 71, ρ 72, ρ 75, ρ 77, ρ 78] : List Int).getD k 0) [.ref 23, .ref 12] H0 ⟨_, _, rfl, by rw [if_pos rfl]; exact ⟨rfl, by decide, ⟨_, _, rfl, by rw [if_pos rfl]; exact ⟨rfl, by decide, rfl⟩⟩⟩⟩ (List.forall_mem_cons.mpr ⟨⟨Int.le_trans (by decide) (r10).1, Int.le_trans (r10).2 (by decide)⟩, List.forall_mem_cons.mpr ⟨⟨Int.le_trans (by decide) (r18).1, Int.le_trans (r18).2 (by decide)⟩, List.forall_mem_cons.mpr ⟨r2, List.forall_mem_cons.mpr ⟨r4, List.forall_mem_cons.mpr ⟨r12, List.forall_mem_cons.mpr ⟨r6, List.forall_mem_cons.mpr ⟨r8, List.forall_mem_cons.mpr ⟨r27, List.forall_mem_cons.mpr ⟨r28, List.forall_mem_cons.mpr ⟨r29, List.forall_mem_cons.mpr ⟨r30, List.forall_mem_cons.mpr ⟨r31, List.forall_mem_cons.mpr ⟨r32, List.forall_mem_cons.mpr ⟨r33, List.forall_mem_cons.mpr ⟨r34, List.forall_mem_cons.mpr ⟨r35, List.forall_mem_cons.mpr ⟨r36, List.forall_mem_cons.mpr ⟨r37, List.forall_mem_cons.mpr ⟨r38, List.forall_mem_cons.mpr ⟨r39, List.forall_mem_cons.mpr ⟨r40, List.forall_mem_cons.mpr ⟨r41, List.forall_mem_cons.mpr ⟨r42, List.forall_mem_cons.mpr ⟨r43, List.forall_mem_cons.mpr ⟨r44, List.forall_mem_cons.mpr ⟨r45, List.forall_mem_cons.mpr ⟨r46, List.forall_mem_cons.mpr ⟨r54, List.forall_mem_cons.mpr ⟨r55, List.forall_mem_cons.mpr ⟨r56, List.forall_mem_cons.mpr ⟨r57, List.forall_mem_cons.mpr ⟨r58, List.forall_mem_cons.mpr ⟨r59, List.forall_mem_cons.mpr ⟨r60, List.forall_mem_cons.mpr ⟨r61, List.forall_mem_cons.mpr ⟨r47, List.forall_mem_cons.mpr ⟨r48, List.forall_mem_cons.mpr ⟨r49, List.forall_mem_cons.mpr ⟨r50, List.forall_mem_cons.mpr ⟨r51, List.forall_mem_cons.mpr ⟨r52, List.forall_mem_cons.mpr ⟨r53, List.forall_mem_cons.mpr ⟨r64, List.forall_mem_cons.mpr ⟨r73, List.forall_mem_cons.mpr ⟨r74, List.forall_mem_cons.mpr ⟨r65, List.forall_mem_cons.mpr ⟨r66, List.forall_mem_cons.mpr ⟨r67, List.forall_mem_cons.mpr ⟨r68, List.forall_mem_cons.mpr ⟨r69, List.forall_mem_cons.mpr ⟨r70, List.forall_mem_cons.mpr ⟨r71, List.forall_mem_cons.mpr ⟨r72, List.forall_mem_cons.mpr ⟨r75, List.forall_mem_cons.mpr ⟨r77, List.forall_mem_cons.mpr ⟨r78, fun _ h => absurd h List.not_mem_nil⟩⟩⟩⟩⟩⟩⟩⟩⟩⟩⟩⟩⟩⟩⟩⟩⟩⟩⟩⟩⟩⟩⟩⟩⟩⟩⟩⟩⟩⟩⟩⟩⟩⟩⟩⟩⟩⟩⟩⟩⟩⟩⟩⟩⟩⟩⟩⟩⟩⟩⟩⟩⟩⟩⟩⟩) (List.forall_mem_cons.mpr ⟨⟨5, leV_C _ 5, by show leV _ (leX 0) = _; rw [leV_X]; exact k10⟩, List.forall_mem_cons.mpr ⟨⟨6, leV_C _ 6, by show leV _ (leX 1) = _; rw [leV_X]; exact k18⟩, List.forall_mem_cons.mpr ⟨⟨2, leV_C _ 2, by show leV _ (leX 2) = _; rw [leV_X]; exact k2⟩, List.forall_mem_cons.mpr ⟨⟨2, leV_C _ 2, by show leV _ (leX 3) = _; rw [leV_X]; exact k4⟩, List.forall_mem_cons.mpr ⟨⟨2, leV_C _ 2, by show leV _ (leX 4) = _; rw [leV_X]; exact k12⟩, List.forall_mem_cons.mpr ⟨⟨2, leV_C _ 2, by show leV _ (leX 5) = _; rw [leV_X]; exact k6⟩, List.forall_mem_cons.mpr ⟨⟨2, leV_C _ 2, by show leV _ (leX 6) = _; rw [leV_X]; exact k8⟩, List.forall_mem_cons.mpr ⟨by show KC H0 9 5 (leV _ (leC 0)) (leV _ (leX 7)); rw [leV_C, leV_X]; exact k27, List.forall_mem_cons.mpr ⟨by show KC H0 9 21 (leV _ (leC 0)) (leV _ (leX 8)); rw [leV_C, leV_X]; exact k28, List.forall_mem_cons.mpr ⟨by show KC H0 9 37 (leV _ (leC 0)) (leV _ (leX 9)); rw [leV_C, leV_X]; exact k29, List.forall_mem_cons.mpr ⟨by show KC H0 9 53 (leV _ (leC 0)) (leV _ (leX 10)); rw [leV_C, leV_X]; exact k30, List.forall_mem_cons.mpr ⟨by show KC H0 9 69 (leV _ (leC 0)) (leV _ (leX 11)); rw [leV_C, leV_X]; exact k31, List.forall_mem_cons.mpr ⟨by show KC H0 9 85 (leV _ (leC 0)) (leV _ (leX 12)); rw [leV_C, leV_X]; exact k32, List.forall_mem_cons.mpr ⟨by show KC H0 9 101 (leV _ (leC 0)) (leV _ (leX 13)); rw [leV_C, leV_X]; exact k33, List.forall_mem_cons.mpr ⟨by show KC H0 9 117 (leV _ (leC 0)) (leV _ (leX 14)); rw [leV_C, leV_X]; exact k34, List.forall_mem_cons.mpr ⟨by show KC H0 9 133 (leV _ (leC 0)) (leV _ (leX 15)); rw [leV_C, leV_X]; exact k35, List.forall_mem_cons.mpr ⟨by show KC H0 9 149 (leV _ (leC 0)) (leV _ (leX 16)); rw [leV_C, leV_X]; exact k36, List.forall_mem_cons.mpr ⟨by show KC H0 9 165 (leV _ (leC 0)) (leV _ (leX 17)); rw [leV_C, leV_X]; exact k37, List.forall_mem_cons.mpr ⟨by show KC H0 9 181 (leV _ (leC 0)) (leV _ (leX 18)); rw [leV_C, leV_X]; exact k38, List.forall_mem_cons.mpr ⟨by show KC H0 9 197 (leV _ (leC 0)) (leV _ (leX 19)); rw [leV_C, leV_X]; exact k39, List.forall_mem_cons.mpr ⟨by show KC H0 9 213 (leV _ (leC 0)) (leV _ (leX 20)); rw [leV_C, leV_X]; exact k40, List.forall_mem_cons.mpr ⟨by show KC H0 9 229 (leV _ (leC 0)) (leV _ (leX 21)); rw [leV_C, leV_X]; exact k41, List.forall_mem_cons.mpr ⟨by show KC H0 9 245 (leV _ (leC 0)) (leV _ (leX 22)); rw [leV_C, leV_X]; exact k42, List.forall_mem_cons.mpr ⟨by show KC H0 9 261 (leV _ (leC 0)) (leV _ (leX 23)); rw [leV_C, leV_X]; exact k43, List.forall_mem_cons.mpr ⟨by show KC H0 9 277 (leV _ (leC 0)) (leV _ (leX 24)); rw [leV_C, leV_X]; exact k44, List.forall_mem_cons.mpr ⟨by show KC H0 9 293 (leV _ (leC 0)) (leV _ (leX 25)); rw [leV_C, leV_X]; exact k45, List.forall_mem_cons.mpr ⟨by show KC H0 9 309 (leV _ (leC 0)) (leV _ (leX 26)); rw [leV_C, leV_X]; exact k46, List.forall_mem_cons.mpr ⟨by show KC H0 9 325 (leV _ (leC 0)) (leV _ (leX 27)); rw [leV_C, leV_X]; exact k54, List.forall_mem_cons.mpr ⟨by show KC H0 9 341 (leV _ (leC 0)) (leV _ (leX 28)); rw [leV_C, leV_X]; exact k55, List.forall_mem_cons.mpr ⟨by show KC H0 9 357 (leV _ (leC 0)) (leV _ (leX 29)); rw [leV_C, leV_X]; exact k56, List.forall_mem_cons.mpr ⟨by show KC H0 9 373 (leV _ (leC 0)) (leV _ (leX 30)); rw [leV_C, leV_X]; exact k57, List.forall_mem_cons.mpr ⟨by show KC H0 9 389 (leV _ (leC 0)) (leV _ (leX 31)); rw [leV_C, leV_X]; exact k58, List.forall_mem_cons.mpr ⟨by show KC H0 9 405 (leV _ (leC 0)) (leV _ (leX 32)); rw [leV_C, leV_X]; exact k59, List.forall_mem_cons.mpr ⟨by show KC H0 9 421 (leV _ (leC 0)) (leV _ (leX 33)); rw [leV_C, leV_X]; exact k60, List.forall_mem_cons.mpr ⟨by show KC H0 9 437 (leV _ (leC 0)) (leV _ (leX 34)); rw [leV_C, leV_X]; exact k61, List.forall_mem_cons.mpr ⟨by show KC H0 9 453 (leV _ (leC 0)) (leV _ (leX 35)); rw [leV_C, leV_X]; exact k47, List.forall_mem_cons.mpr ⟨by show KC H0 9 469 (leV _ (leC 0)) (leV _ (leX 36)); rw [leV_C, leV_X]; exact k48, List.forall_mem_cons.mpr ⟨by show KC H0 9 485 (leV _ (leC 0)) (leV _ (leX 37)); rw [leV_C, leV_X]; exact k49, List.forall_mem_cons.mpr ⟨by show KC H0 9 517 (leV _ (leC 0)) (leV _ (leX 38)); rw [leV_C, leV_X]; exact k50, List.forall_mem_cons.mpr ⟨by show KC H0 9 533 (leV _ (leC 0)) (leV _ (leX 39)); rw [leV_C, leV_X]; exact k51, List.forall_mem_cons.mpr ⟨by show KC H0 9 549 (leV _ (leC 0)) (leV _ (leX 40)); rw [leV_C, leV_X]; exact k52, List.forall_mem_cons.mpr ⟨by show KC H0 9 565 (leV _ (leC 0)) (leV _ (leX 41)); rw [leV_C, leV_X]; exact k53, List.forall_mem_cons.mpr ⟨by show KC H0 11 68 (leV _ (leC 0)) (leV _ (leX 42)); rw [leV_C, leV_X]; exact k64, List.forall_mem_cons.mpr ⟨by show KC H0 11 84 (leV _ (leC 0)) (leV _ (leX 43)); rw [leV_C, leV_X]; exact k73, List.forall_mem_cons.mpr ⟨by show KC H0 11 100 (leV _ (leC 0)) (leV _ (leX 44)); rw [leV_C, leV_X]; exact k74, List.forall_mem_cons.mpr ⟨by show KC H0 11 164 (leV _ (leC 0)) (leV _ (leX 45)); rw [leV_C, leV_X]; exact k65, List.forall_mem_cons.mpr ⟨by show KC H0 11 180 (leV _ (leC 0)) (leV _ (leX 46)); rw [leV_C, leV_X]; exact k66, List.forall_mem_cons.mpr ⟨by show KC H0 11 196 (leV _ (leC 0)) (leV _ (leX 47)); rw [leV_C, leV_X]; exact k67, List.forall_mem_cons.mpr ⟨by show KC H0 11 212 (leV _ (leC 0)) (leV _ (leX 48)); rw [leV_C, leV_X]; exact k68, List.forall_mem_cons.mpr ⟨by show KC H0 11 228 (leV _ (leC 0)) (leV _ (leX 49)); rw [leV_C, leV_X]; exact k69, List.forall_mem_cons.mpr ⟨by show KC H0 11 276 (leV _ (leC 0)) (leV _ (leX 50)); rw [leV_C, leV_X]; exact k70, List.forall_mem_cons.mpr ⟨by show KC H0 11 292 (leV _ (leC 0)) (leV _ (leX 51)); rw [leV_C, leV_X]; exact k71, List.forall_mem_cons.mpr ⟨by show KC H0 11 308 (leV _ (leC 0)) (leV _ (leX 52)); rw [leV_C, leV_X]; exact k72, List.forall_mem_cons.mpr ⟨by show KC H0 11 436 (leV _ (leC 0)) (leV _ (leX 53)); rw [leV_C, leV_X]; exact k75, List.forall_mem_cons.mpr ⟨by show KC H0 12 5 (leV _ (leC 0)) (leV _ (leX 54)); rw [leV_C, leV_X]; exact k77, List.forall_mem_cons.mpr ⟨by show KC H0 15 5 (leV _ (leC 0)) (leV _ (leX 55)); rw [leV_C, leV_X]; exact k78, fun _ h => absurd h List.not_mem_nil⟩⟩⟩⟩⟩⟩⟩⟩⟩⟩⟩⟩⟩⟩⟩⟩⟩⟩⟩⟩⟩⟩⟩⟩⟩⟩⟩⟩⟩⟩⟩⟩⟩⟩⟩⟩⟩⟩⟩⟩⟩⟩⟩⟩⟩⟩⟩⟩⟩⟩⟩⟩⟩⟩⟩⟩) (fun _ h => absurd h List.not_mem_nil) hR0
  obtain ⟨rB, H1, ⟨hR1, F1, oB, hoB, ρB, agB, -, rtB, kcB, -⟩, cB⟩ := KB.det
  obtain rfl := List.mem_singleton.mp hoB
  obtain rfl : rB = none := rtB
  have F1 : Frm ckV H0 H1 := F1
  have l0 : ρ 10 = (H1.1 23 5).toInt := ck_kz (I := 5) ((by have q := ck_k1 (kcB _ (List.mem_of_getElem? (i := 0) rfl)); rw [show ρB 0 = ρ 10 from agB 0 (by decide), Int.zero_add] at q; exact q)) rfl
  have l1 : ρ 18 = (H1.1 23 6).toInt := ck_kz (I := 6) ((by have q := ck_k1 (kcB _ (List.mem_of_getElem? (i := 1) rfl)); rw [show ρB 1 = ρ 18 from agB 1 (by decide), Int.zero_add] at q; exact q)) rfl
  have l2 : ρ 2 = (H1.1 24 2).toInt := ck_kz (I := 2) ((by have q := ck_k1 (kcB _ (List.mem_of_getElem? (i := 2) rfl)); rw [show ρB 2 = ρ 2 from agB 2 (by decide), Int.zero_add] at q; exact q)) rfl
  have l3 : ρ 4 = (H1.1 26 2).toInt := ck_kz (I := 2) ((by have q := ck_k1 (kcB _ (List.mem_of_getElem? (i := 3) rfl)); rw [show ρB 3 = ρ 4 from agB 3 (by decide), Int.zero_add] at q; exact q)) rfl
  have l4 : ρ 12 = (H1.1 28 2).toInt := ck_kz (I := 2) ((by have q := ck_k1 (kcB _ (List.mem_of_getElem? (i := 4) rfl)); rw [show ρB 4 = ρ 12 from agB 4 (by decide), Int.zero_add] at q; exact q)) rfl
  have l5 : ρ 6 = (H1.1 30 2).toInt := ck_kz (I := 2) ((by have q := ck_k1 (kcB _ (List.mem_of_getElem? (i := 5) rfl)); rw [show ρB 5 = ρ 6 from agB 5 (by decide), Int.zero_add] at q; exact q)) rfl
  have l6 : ρ 8 = (H1.1 32 2).toInt := ck_kz (I := 2) ((by have q := ck_k1 (kcB _ (List.mem_of_getElem? (i := 6) rfl)); rw [show ρB 6 = ρ 8 from agB 6 (by decide), Int.zero_add] at q; exact q)) rfl
  have l7 : KC H1 9 9 0 (0) := ck_k0 (kcB _ (List.mem_of_getElem? (i := 7) rfl))
  have l8 : KC H1 9 25 0 (0) := ck_k0 (kcB _ (List.mem_of_getElem? (i := 8) rfl))
  have l9 : KC H1 9 41 0 (0) := ck_k0 (kcB _ (List.mem_of_getElem? (i := 9) rfl))
  have l10 : KC H1 9 57 0 (0) := ck_k0 (kcB _ (List.mem_of_getElem? (i := 10) rfl))
  have l11 : KC H1 9 73 0 (0) := ck_k0 (kcB _ (List.mem_of_getElem? (i := 11) rfl))
  have l12 : KC H1 9 89 0 (0) := ck_k0 (kcB _ (List.mem_of_getElem? (i := 12) rfl))
  have l13 : KC H1 9 105 0 (0) := ck_k0 (kcB _ (List.mem_of_getElem? (i := 13) rfl))
  have l14 : KC H1 9 121 0 (0) := ck_k0 (kcB _ (List.mem_of_getElem? (i := 14) rfl))
  have l15 : KC H1 9 137 0 (0) := ck_k0 (kcB _ (List.mem_of_getElem? (i := 15) rfl))
  have l16 : KC H1 9 153 0 (0) := ck_k0 (kcB _ (List.mem_of_getElem? (i := 16) rfl))
  have l17 : KC H1 9 169 0 (0) := ck_k0 (kcB _ (List.mem_of_getElem? (i := 17) rfl))
  have l18 : KC H1 9 185 0 (0) := ck_k0 (kcB _ (List.mem_of_getElem? (i := 18) rfl))
  have l19 : KC H1 9 201 0 (0) := ck_k0 (kcB _ (List.mem_of_getElem? (i := 19) rfl))
  have l20 : KC H1 9 217 0 (0) := ck_k0 (kcB _ (List.mem_of_getElem? (i := 20) rfl))
  have l21 : KC H1 9 233 0 (0) := ck_k0 (kcB _ (List.mem_of_getElem? (i := 21) rfl))
  have l22 : KC H1 9 249 0 (0) := ck_k0 (kcB _ (List.mem_of_getElem? (i := 22) rfl))
  have l23 : KC H1 9 265 0 (0) := ck_k0 (kcB _ (List.mem_of_getElem? (i := 23) rfl))
  have l24 : KC H1 9 281 0 (0) := ck_k0 (kcB _ (List.mem_of_getElem? (i := 24) rfl))
  have l25 : KC H1 9 297 0 (0) := ck_k0 (kcB _ (List.mem_of_getElem? (i := 25) rfl))
  have l26 : KC H1 9 313 0 (0) := ck_k0 (kcB _ (List.mem_of_getElem? (i := 26) rfl))
  have l27 : KC H1 9 329 0 (0) := ck_k0 (kcB _ (List.mem_of_getElem? (i := 27) rfl))
  have l28 : KC H1 9 345 0 (0) := ck_k0 (kcB _ (List.mem_of_getElem? (i := 28) rfl))
  have l29 : KC H1 9 361 0 (0) := ck_k0 (kcB _ (List.mem_of_getElem? (i := 29) rfl))
  have l30 : KC H1 9 377 0 (0) := ck_k0 (kcB _ (List.mem_of_getElem? (i := 30) rfl))
  have l31 : KC H1 9 393 0 (0) := ck_k0 (kcB _ (List.mem_of_getElem? (i := 31) rfl))
  have l32 : KC H1 9 409 0 (0) := ck_k0 (kcB _ (List.mem_of_getElem? (i := 32) rfl))
  have l33 : KC H1 9 425 0 (0) := ck_k0 (kcB _ (List.mem_of_getElem? (i := 33) rfl))
  have l34 : KC H1 9 441 0 (0) := ck_k0 (kcB _ (List.mem_of_getElem? (i := 34) rfl))
  have l35 : KC H1 9 457 0 (0) := ck_k0 (kcB _ (List.mem_of_getElem? (i := 35) rfl))
  have l36 : KC H1 9 473 0 (0) := ck_k0 (kcB _ (List.mem_of_getElem? (i := 36) rfl))
  have l37 : KC H1 9 489 0 (0) := ck_k0 (kcB _ (List.mem_of_getElem? (i := 37) rfl))
  have l38 : KC H1 9 521 0 (0) := ck_k0 (kcB _ (List.mem_of_getElem? (i := 38) rfl))
  have l39 : KC H1 9 537 0 (0) := ck_k0 (kcB _ (List.mem_of_getElem? (i := 39) rfl))
  have l40 : KC H1 9 553 0 (0) := ck_k0 (kcB _ (List.mem_of_getElem? (i := 40) rfl))
  have l41 : KC H1 9 569 0 (0) := ck_k0 (kcB _ (List.mem_of_getElem? (i := 41) rfl))
  have l42 : KC H1 11 72 0 (ρ 64) := (by have q := ck_k1 (kcB _ (List.mem_of_getElem? (i := 42) rfl)); rw [show ρB 42 = ρ 64 from agB 42 (by decide), Int.zero_add] at q; exact q)
  have l43 : KC H1 11 88 0 (ρ 73) := (by have q := ck_k1 (kcB _ (List.mem_of_getElem? (i := 43) rfl)); rw [show ρB 43 = ρ 73 from agB 43 (by decide), Int.zero_add] at q; exact q)
  have l44 : KC H1 11 104 0 (ρ 74) := (by have q := ck_k1 (kcB _ (List.mem_of_getElem? (i := 44) rfl)); rw [show ρB 44 = ρ 74 from agB 44 (by decide), Int.zero_add] at q; exact q)
  have l45 : KC H1 11 168 0 (ρ 65) := (by have q := ck_k1 (kcB _ (List.mem_of_getElem? (i := 45) rfl)); rw [show ρB 45 = ρ 65 from agB 45 (by decide), Int.zero_add] at q; exact q)
  have l46 : KC H1 11 184 0 (ρ 66) := (by have q := ck_k1 (kcB _ (List.mem_of_getElem? (i := 46) rfl)); rw [show ρB 46 = ρ 66 from agB 46 (by decide), Int.zero_add] at q; exact q)
  have l47 : KC H1 11 200 0 (ρ 67) := (by have q := ck_k1 (kcB _ (List.mem_of_getElem? (i := 47) rfl)); rw [show ρB 47 = ρ 67 from agB 47 (by decide), Int.zero_add] at q; exact q)
  have l48 : KC H1 11 216 0 (ρ 68) := (by have q := ck_k1 (kcB _ (List.mem_of_getElem? (i := 48) rfl)); rw [show ρB 48 = ρ 68 from agB 48 (by decide), Int.zero_add] at q; exact q)
  have l49 : KC H1 11 232 0 (ρ 69) := (by have q := ck_k1 (kcB _ (List.mem_of_getElem? (i := 49) rfl)); rw [show ρB 49 = ρ 69 from agB 49 (by decide), Int.zero_add] at q; exact q)
  have l50 : KC H1 11 280 0 (ρ 70) := (by have q := ck_k1 (kcB _ (List.mem_of_getElem? (i := 50) rfl)); rw [show ρB 50 = ρ 70 from agB 50 (by decide), Int.zero_add] at q; exact q)
  have l51 : KC H1 11 296 0 (ρ 71) := (by have q := ck_k1 (kcB _ (List.mem_of_getElem? (i := 51) rfl)); rw [show ρB 51 = ρ 71 from agB 51 (by decide), Int.zero_add] at q; exact q)
  have l52 : KC H1 11 312 0 (ρ 72) := (by have q := ck_k1 (kcB _ (List.mem_of_getElem? (i := 52) rfl)); rw [show ρB 52 = ρ 72 from agB 52 (by decide), Int.zero_add] at q; exact q)
  have l53 : KC H1 11 440 0 (ρ 75) := (by have q := ck_k1 (kcB _ (List.mem_of_getElem? (i := 53) rfl)); rw [show ρB 53 = ρ 75 from agB 53 (by decide), Int.zero_add] at q; exact q)
  have l54 : KC H1 12 9 0 (ρ 77) := (by have q := ck_k1 (kcB _ (List.mem_of_getElem? (i := 54) rfl)); rw [show ρB 54 = ρ 77 from agB 54 (by decide), Int.zero_add] at q; exact q)
  have l55 : KC H1 15 9 0 (ρ 78) := (by have q := ck_k1 (kcB _ (List.mem_of_getElem? (i := 55) rfl)); rw [show ρB 55 = ρ 78 from agB 55 (by decide), Int.zero_add] at q; exact q)
  have u11 : ρ 11 = (H1.1 67 0).toInt := by rw [F1.1 67 0 (ck_nw (by decide +kernel))]; exact k11
  have u3 : ρ 3 = (H1.1 67 1).toInt := by rw [F1.1 67 1 (ck_nw (by decide +kernel))]; exact k3
  have u5 : ρ 5 = (H1.1 67 2).toInt := by rw [F1.1 67 2 (ck_nw (by decide +kernel))]; exact k5
  have u13 : ρ 13 = (H1.1 67 3).toInt := by rw [F1.1 67 3 (ck_nw (by decide +kernel))]; exact k13
  have u7 : ρ 7 = (H1.1 67 4).toInt := by rw [F1.1 67 4 (ck_nw (by decide +kernel))]; exact k7
  have u9 : ρ 9 = (H1.1 67 5).toInt := by rw [F1.1 67 5 (ck_nw (by decide +kernel))]; exact k9
  have u19 : ρ 19 = (H1.1 67 6).toInt := by rw [F1.1 67 6 (ck_nw (by decide +kernel))]; exact k19
  have u24 : KC H1 5 67 0 (ρ 24) := KC_fr (by decide) (by decide +kernel) F1 k24
  have u63 : KC H1 9 2007 0 (ρ 63) := KC_fr (by decide) (by decide +kernel) F1 k63
  have u20 : KC H1 14 1 0 (ρ 20) := KC_fr (by decide) (by decide +kernel) F1 k20
  have u21 : KC H1 14 5 0 (ρ 21) := KC_fr (by decide) (by decide +kernel) F1 k21
  have u22 : KC H1 14 9 0 (ρ 22) := KC_fr (by decide) (by decide +kernel) F1 k22
  have u23 : KC H1 14 13 0 (ρ 23) := KC_fr (by decide) (by decide +kernel) F1 k23
  have u76 : KC H1 14 17 0 (ρ 76) := KC_fr (by decide) (by decide +kernel) F1 k76
  have u25 : KC H1 16 1 0 (ρ 25) := KC_fr (by decide) (by decide +kernel) F1 k25
  have u26 : KC H1 17 1 0 (ρ 26) := KC_fr (by decide) (by decide +kernel) F1 k26
  obtain ⟨rS, H2, ⟨rfl, y1, y2, y3, y4⟩, cS⟩ := (c_setA_66_68 (d := d' + 5) (h := H1) (Q := fun r h' => r = none ∧ (∀ o j, o ≠ 68 → h'.1 o j = H1.1 o j) ∧ (∀ j : Int32, 0 ≤ j.toInt → j.toInt < 3400 → h'.1 68 j = H1.1 66 j) ∧ (∀ j : Int32, ¬ (0 ≤ j.toInt ∧ j.toInt < 3400) → h'.1 68 j = H1.1 68 j) ∧ h'.2 = H1.2) (fun h' z1 z2 z3 z4 => ⟨rfl, z1, z2, z3, z4⟩)).det
  have F2 : Frm [(0, 68, 0, 3399)] H1 H2 := by
    refine ⟨fun o j q => ?_, fun o j _ => by rw [y4], by rw [y4]⟩
    by_cases e : o = 68
    · subst e
      exact y3 j (fun z => q ⟨_, List.mem_singleton.mpr rfl, rfl, rfl, z.1, Int.le_of_lt_add_one z.2⟩)
    · exact y1 o j e
  have hR2 : ∀ q ∈ rgT, RgO H2 q := rg_copy (a := 66) (b := 68) (by decide +kernel) y1 y2 hR1
  have wl0 : ρ 10 = (H2.1 23 5).toInt := by rw [F2.1 23 5 (ck_nw (by decide +kernel))]; exact l0
  have wl2 : ρ 2 = (H2.1 24 2).toInt := by rw [F2.1 24 2 (ck_nw (by decide +kernel))]; exact l2
  have wl3 : ρ 4 = (H2.1 26 2).toInt := by rw [F2.1 26 2 (ck_nw (by decide +kernel))]; exact l3
  have wl4 : ρ 12 = (H2.1 28 2).toInt := by rw [F2.1 28 2 (ck_nw (by decide +kernel))]; exact l4
  have wl5 : ρ 6 = (H2.1 30 2).toInt := by rw [F2.1 30 2 (ck_nw (by decide +kernel))]; exact l5
  have wl6 : ρ 8 = (H2.1 32 2).toInt := by rw [F2.1 32 2 (ck_nw (by decide +kernel))]; exact l6
  have wu11 : ρ 11 = (H2.1 67 0).toInt := by rw [F2.1 67 0 (ck_nw (by decide +kernel))]; exact u11
  have wu3 : ρ 3 = (H2.1 67 1).toInt := by rw [F2.1 67 1 (ck_nw (by decide +kernel))]; exact u3
  have wu5 : ρ 5 = (H2.1 67 2).toInt := by rw [F2.1 67 2 (ck_nw (by decide +kernel))]; exact u5
  have wu13 : ρ 13 = (H2.1 67 3).toInt := by rw [F2.1 67 3 (ck_nw (by decide +kernel))]; exact u13
  have wu7 : ρ 7 = (H2.1 67 4).toInt := by rw [F2.1 67 4 (ck_nw (by decide +kernel))]; exact u7
  have wu9 : ρ 9 = (H2.1 67 5).toInt := by rw [F2.1 67 5 (ck_nw (by decide +kernel))]; exact u9
  have wu19 : ρ 19 = (H2.1 67 6).toInt := by rw [F2.1 67 6 (ck_nw (by decide +kernel))]; exact u19
  have wl44 : KC H2 11 104 0 (ρ 74) := KC_fr (by decide) (by decide +kernel) F2 l44
  have wl45 : KC H2 11 168 0 (ρ 65) := KC_fr (by decide) (by decide +kernel) F2 l45
  have wl46 : KC H2 11 184 0 (ρ 66) := KC_fr (by decide) (by decide +kernel) F2 l46
  have wl47 : KC H2 11 200 0 (ρ 67) := KC_fr (by decide) (by decide +kernel) F2 l47
  have wl48 : KC H2 11 216 0 (ρ 68) := KC_fr (by decide) (by decide +kernel) F2 l48
  have wl49 : KC H2 11 232 0 (ρ 69) := KC_fr (by decide) (by decide +kernel) F2 l49
  have wl50 : KC H2 11 280 0 (ρ 70) := KC_fr (by decide) (by decide +kernel) F2 l50
  have wl51 : KC H2 11 296 0 (ρ 71) := KC_fr (by decide) (by decide +kernel) F2 l51
  have wl52 : KC H2 11 312 0 (ρ 72) := KC_fr (by decide) (by decide +kernel) F2 l52
  have wl53 : KC H2 11 440 0 (ρ 75) := KC_fr (by decide) (by decide +kernel) F2 l53
  have wl42 : KC H2 11 72 0 (ρ 64) := KC_fr (by decide) (by decide +kernel) F2 l42
  have wl43 : KC H2 11 88 0 (ρ 73) := KC_fr (by decide) (by decide +kernel) F2 l43
  have wl54 : KC H2 12 9 0 (ρ 77) := KC_fr (by decide) (by decide +kernel) F2 l54
  have wu20 : KC H2 14 1 0 (ρ 20) := KC_fr (by decide) (by decide +kernel) F2 u20
  have wu23 : KC H2 14 13 0 (ρ 23) := KC_fr (by decide) (by decide +kernel) F2 u23
  have wu76 : KC H2 14 17 0 (ρ 76) := KC_fr (by decide) (by decide +kernel) F2 u76
  have wu21 : KC H2 14 5 0 (ρ 21) := KC_fr (by decide) (by decide +kernel) F2 u21
  have wu22 : KC H2 14 9 0 (ρ 22) := KC_fr (by decide) (by decide +kernel) F2 u22
  have wl55 : KC H2 15 9 0 (ρ 78) := KC_fr (by decide) (by decide +kernel) F2 l55
  have wu25 : KC H2 16 1 0 (ρ 25) := KC_fr (by decide) (by decide +kernel) F2 u25
  have wu26 : KC H2 17 1 0 (ρ 26) := KC_fr (by decide) (by decide +kernel) F2 u26
  have wu24 : KC H2 5 67 0 (ρ 24) := KC_fr (by decide) (by decide +kernel) F2 u24
  have wl13 : KC H2 9 105 0 (0) := KC_fr (by decide) (by decide +kernel) F2 l13
  have wl14 : KC H2 9 121 0 (0) := KC_fr (by decide) (by decide +kernel) F2 l14
  have wl15 : KC H2 9 137 0 (0) := KC_fr (by decide) (by decide +kernel) F2 l15
  have wl16 : KC H2 9 153 0 (0) := KC_fr (by decide) (by decide +kernel) F2 l16
  have wl17 : KC H2 9 169 0 (0) := KC_fr (by decide) (by decide +kernel) F2 l17
  have wl18 : KC H2 9 185 0 (0) := KC_fr (by decide) (by decide +kernel) F2 l18
  have wu63 : KC H2 9 2007 0 (ρ 63) := KC_fr (by decide) (by decide +kernel) F2 u63
  have wl19 : KC H2 9 201 0 (0) := KC_fr (by decide) (by decide +kernel) F2 l19
  have wl20 : KC H2 9 217 0 (0) := KC_fr (by decide) (by decide +kernel) F2 l20
  have wl21 : KC H2 9 233 0 (0) := KC_fr (by decide) (by decide +kernel) F2 l21
  have wl22 : KC H2 9 249 0 (0) := KC_fr (by decide) (by decide +kernel) F2 l22
  have wl8 : KC H2 9 25 0 (0) := KC_fr (by decide) (by decide +kernel) F2 l8
  have wl23 : KC H2 9 265 0 (0) := KC_fr (by decide) (by decide +kernel) F2 l23
  have wl24 : KC H2 9 281 0 (0) := KC_fr (by decide) (by decide +kernel) F2 l24
  have wl25 : KC H2 9 297 0 (0) := KC_fr (by decide) (by decide +kernel) F2 l25
  have wl26 : KC H2 9 313 0 (0) := KC_fr (by decide) (by decide +kernel) F2 l26
  have wl27 : KC H2 9 329 0 (0) := KC_fr (by decide) (by decide +kernel) F2 l27
  have wl28 : KC H2 9 345 0 (0) := KC_fr (by decide) (by decide +kernel) F2 l28
  have wl29 : KC H2 9 361 0 (0) := KC_fr (by decide) (by decide +kernel) F2 l29
  have wl30 : KC H2 9 377 0 (0) := KC_fr (by decide) (by decide +kernel) F2 l30
  have wl31 : KC H2 9 393 0 (0) := KC_fr (by decide) (by decide +kernel) F2 l31
  have wl32 : KC H2 9 409 0 (0) := KC_fr (by decide) (by decide +kernel) F2 l32
  have wl9 : KC H2 9 41 0 (0) := KC_fr (by decide) (by decide +kernel) F2 l9
  have wl33 : KC H2 9 425 0 (0) := KC_fr (by decide) (by decide +kernel) F2 l33
  have wl34 : KC H2 9 441 0 (0) := KC_fr (by decide) (by decide +kernel) F2 l34
  have wl35 : KC H2 9 457 0 (0) := KC_fr (by decide) (by decide +kernel) F2 l35
  have wl36 : KC H2 9 473 0 (0) := KC_fr (by decide) (by decide +kernel) F2 l36
  have wl37 : KC H2 9 489 0 (0) := KC_fr (by decide) (by decide +kernel) F2 l37
  have wl38 : KC H2 9 521 0 (0) := KC_fr (by decide) (by decide +kernel) F2 l38
  have wl39 : KC H2 9 537 0 (0) := KC_fr (by decide) (by decide +kernel) F2 l39
  have wl40 : KC H2 9 553 0 (0) := KC_fr (by decide) (by decide +kernel) F2 l40
  have wl41 : KC H2 9 569 0 (0) := KC_fr (by decide) (by decide +kernel) F2 l41
  have wl10 : KC H2 9 57 0 (0) := KC_fr (by decide) (by decide +kernel) F2 l10
  have wl11 : KC H2 9 73 0 (0) := KC_fr (by decide) (by decide +kernel) F2 l11
  have wl12 : KC H2 9 89 0 (0) := KC_fr (by decide) (by decide +kernel) F2 l12
  have wl7 : KC H2 9 9 0 (0) := KC_fr (by decide) (by decide +kernel) F2 l7
  have KT := ok_setAside_67_66t (d' + 6) (Nat.le_trans (show 1 ≤ 6 by decide) (Nat.le_add_left 6 _)) (fun k => ([ρ 11, ρ 3, ρ 5, ρ 13, ρ 7, ρ 9, ρ 19, ρ 24, 0, 0, 0, 0, 0, 0, 0, 0, 0, 0, 0, 0, 0, 0, 0, 0, 0, 0, 0, 0, 0, 0, 0, 0, 0, 0, 0, 0, 0, 0, 0, 0, 0, 0, 0, ρ 63, ρ 77, ρ 20, ρ 21, ρ 22, ρ 23, ρ 76, ρ 25, ρ 26, ρ 78] : List Int).getD k 0) [.ref 65, .ref 67, .ref 66] H2 ⟨_, _, rfl, by rw [if_pos rfl]; exact ⟨rfl, by decide, ⟨_, _, rfl, by rw [if_pos rfl]; exact ⟨rfl, by decide, ⟨_, _, rfl, by rw [if_pos rfl]; exact ⟨rfl, by decide, rfl⟩⟩⟩⟩⟩⟩ (List.forall_mem_cons.mpr ⟨⟨Int.le_trans (by decide) (r11).1, Int.le_trans (r11).2 (by decide)⟩, List.forall_mem_cons.mpr ⟨⟨Int.le_trans (by decide) (r3).1, Int.le_trans (r3).2 (by decide)⟩, List.forall_mem_cons.mpr ⟨⟨Int.le_trans (by decide) (r5).1, Int.le_trans (r5).2 (by decide)⟩, List.forall_mem_cons.mpr ⟨⟨Int.le_trans (by decide) (r13).1, Int.le_trans (r13).2 (by decide)⟩, List.forall_mem_cons.mpr ⟨⟨Int.le_trans (by decide) (r7).1, Int.le_trans (r7).2 (by decide)⟩, List.forall_mem_cons.mpr ⟨⟨Int.le_trans (by decide) (r9).1, Int.le_trans (r9).2 (by decide)⟩, List.forall_mem_cons.mpr ⟨⟨Int.le_trans (by decide) (r19).1, Int.le_trans (r19).2 (by decide)⟩, List.forall_mem_cons.mpr ⟨r24, List.forall_mem_cons.mpr ⟨⟨Int.le_refl _, Int.le_refl _⟩, List.forall_mem_cons.mpr ⟨⟨Int.le_refl _, Int.le_refl _⟩, List.forall_mem_cons.mpr ⟨⟨Int.le_refl _, Int.le_refl _⟩, List.forall_mem_cons.mpr ⟨⟨Int.le_refl _, Int.le_refl _⟩, List.forall_mem_cons.mpr ⟨⟨Int.le_refl _, Int.le_refl _⟩, List.forall_mem_cons.mpr ⟨⟨Int.le_refl _, Int.le_refl _⟩, List.forall_mem_cons.mpr ⟨⟨Int.le_refl _, Int.le_refl _⟩, List.forall_mem_cons.mpr ⟨⟨Int.le_refl _, Int.le_refl _⟩, List.forall_mem_cons.mpr ⟨⟨Int.le_refl _, Int.le_refl _⟩, List.forall_mem_cons.mpr ⟨⟨Int.le_refl _, Int.le_refl _⟩, List.forall_mem_cons.mpr ⟨⟨Int.le_refl _, Int.le_refl _⟩, List.forall_mem_cons.mpr ⟨⟨Int.le_refl _, Int.le_refl _⟩, List.forall_mem_cons.mpr ⟨⟨Int.le_refl _, Int.le_refl _⟩, List.forall_mem_cons.mpr ⟨⟨Int.le_refl _, Int.le_refl _⟩, List.forall_mem_cons.mpr ⟨⟨Int.le_refl _, Int.le_refl _⟩, List.forall_mem_cons.mpr ⟨⟨Int.le_refl _, Int.le_refl _⟩, List.forall_mem_cons.mpr ⟨⟨Int.le_refl _, Int.le_refl _⟩, List.forall_mem_cons.mpr ⟨⟨Int.le_refl _, Int.le_refl _⟩, List.forall_mem_cons.mpr ⟨⟨Int.le_refl _, Int.le_refl _⟩, List.forall_mem_cons.mpr ⟨⟨Int.le_refl _, Int.le_refl _⟩, List.forall_mem_cons.mpr ⟨⟨Int.le_refl _, Int.le_refl _⟩, List.forall_mem_cons.mpr ⟨⟨Int.le_refl _, Int.le_refl _⟩, List.forall_mem_cons.mpr ⟨⟨Int.le_refl _, Int.le_refl _⟩, List.forall_mem_cons.mpr ⟨⟨Int.le_refl _, Int.le_refl _⟩, List.forall_mem_cons.mpr ⟨⟨Int.le_refl _, Int.le_refl _⟩, List.forall_mem_cons.mpr ⟨⟨Int.le_refl _, Int.le_refl _⟩, List.forall_mem_cons.mpr ⟨⟨Int.le_refl _, Int.le_refl _⟩, List.forall_mem_cons.mpr ⟨⟨Int.le_refl _, Int.le_refl _⟩, List.forall_mem_cons.mpr ⟨⟨Int.le_refl _, Int.le_refl _⟩, List.forall_mem_cons.mpr ⟨⟨Int.le_refl _, Int.le_refl _⟩, List.forall_mem_cons.mpr ⟨⟨Int.le_refl _, Int.le_refl _⟩, List.forall_mem_cons.mpr ⟨⟨Int.le_refl _, Int.le_refl _⟩, List.forall_mem_cons.mpr ⟨⟨Int.le_refl _, Int.le_refl _⟩, List.forall_mem_cons.mpr ⟨⟨Int.le_refl _, Int.le_refl _⟩, List.forall_mem_cons.mpr ⟨⟨Int.le_refl _, Int.le_refl _⟩, List.forall_mem_cons.mpr ⟨r63, List.forall_mem_cons.mpr ⟨r77, List.forall_mem_cons.mpr ⟨r20, List.forall_mem_cons.mpr ⟨r21, List.forall_mem_cons.mpr ⟨r22, List.forall_mem_cons.mpr ⟨r23, List.forall_mem_cons.mpr ⟨r76, List.forall_mem_cons.mpr ⟨r25, List.forall_mem_cons.mpr ⟨r26, List.forall_mem_cons.mpr ⟨r78, fun _ h => absurd h List.not_mem_nil⟩⟩⟩⟩⟩⟩⟩⟩⟩⟩⟩⟩⟩⟩⟩⟩⟩⟩⟩⟩⟩⟩⟩⟩⟩⟩⟩⟩⟩⟩⟩⟩⟩⟩⟩⟩⟩⟩⟩⟩⟩⟩⟩⟩⟩⟩⟩⟩⟩⟩⟩⟩⟩) (List.forall_mem_cons.mpr ⟨⟨0, leV_C _ 0, by show leV _ (leX 0) = _; rw [leV_X]; exact wu11⟩, List.forall_mem_cons.mpr ⟨⟨1, leV_C _ 1, by show leV _ (leX 1) = _; rw [leV_X]; exact wu3⟩, List.forall_mem_cons.mpr ⟨⟨2, leV_C _ 2, by show leV _ (leX 2) = _; rw [leV_X]; exact wu5⟩, List.forall_mem_cons.mpr ⟨⟨3, leV_C _ 3, by show leV _ (leX 3) = _; rw [leV_X]; exact wu13⟩, List.forall_mem_cons.mpr ⟨⟨4, leV_C _ 4, by show leV _ (leX 4) = _; rw [leV_X]; exact wu7⟩, List.forall_mem_cons.mpr ⟨⟨5, leV_C _ 5, by show leV _ (leX 5) = _; rw [leV_X]; exact wu9⟩, List.forall_mem_cons.mpr ⟨⟨6, leV_C _ 6, by show leV _ (leX 6) = _; rw [leV_X]; exact wu19⟩, List.forall_mem_cons.mpr ⟨by show KC H2 5 67 (leV _ (leC 0)) (leV _ (leX 7)); rw [leV_C, leV_X]; exact wu24, List.forall_mem_cons.mpr ⟨by show KC H2 9 9 (leV _ (leC 0)) (leV _ (leX 8)); rw [leV_C, leV_X]; exact wl7, List.forall_mem_cons.mpr ⟨by show KC H2 9 25 (leV _ (leC 0)) (leV _ (leX 9)); rw [leV_C, leV_X]; exact wl8, List.forall_mem_cons.mpr ⟨by show KC H2 9 41 (leV _ (leC 0)) (leV _ (leX 10)); rw [leV_C, leV_X]; exact wl9, List.forall_mem_cons.mpr ⟨by show KC H2 9 57 (leV _ (leC 0)) (leV _ (leX 11)); rw [leV_C, leV_X]; exact wl10, List.forall_mem_cons.mpr ⟨by show KC H2 9 73 (leV _ (leC 0)) (leV _ (leX 12)); rw [leV_C, leV_X]; exact wl11, List.forall_mem_cons.mpr ⟨by show KC H2 9 89 (leV _ (leC 0)) (leV _ (leX 13)); rw [leV_C, leV_X]; exact wl12, List.forall_mem_cons.mpr ⟨by show KC H2 9 105 (leV _ (leC 0)) (leV _ (leX 14)); rw [leV_C, leV_X]; exact wl13, List.forall_mem_cons.mpr ⟨by show KC H2 9 121 (leV _ (leC 0)) (leV _ (leX 15)); rw [leV_C, leV_X]; exact wl14, List.forall_mem_cons.mpr ⟨by show KC H2 9 137 (leV _ (leC 0)) (leV _ (leX 16)); rw [leV_C, leV_X]; exact wl15, List.forall_mem_cons.mpr ⟨by show KC H2 9 153 (leV _ (leC 0)) (leV _ (leX 17)); rw [leV_C, leV_X]; exact wl16, List.forall_mem_cons.mpr ⟨by show KC H2 9 169 (leV _ (leC 0)) (leV _ (leX 18)); rw [leV_C, leV_X]; exact wl17, List.forall_mem_cons.mpr ⟨by show KC H2 9 185 (leV _ (leC 0)) (leV _ (leX 19)); rw [leV_C, leV_X]; exact wl18, List.forall_mem_cons.mpr ⟨by show KC H2 9 201 (leV _ (leC 0)) (leV _ (leX 20)); rw [leV_C, leV_X]; exact wl19, List.forall_mem_cons.mpr ⟨by show KC H2 9 217 (leV _ (leC 0)) (leV _ (leX 21)); rw [leV_C, leV_X]; exact wl20, List.forall_mem_cons.mpr ⟨by show KC H2 9 233 (leV _ (leC 0)) (leV _ (leX 22)); rw [leV_C, leV_X]; exact wl21, List.forall_mem_cons.mpr ⟨by show KC H2 9 249 (leV _ (leC 0)) (leV _ (leX 23)); rw [leV_C, leV_X]; exact wl22, List.forall_mem_cons.mpr ⟨by show KC H2 9 265 (leV _ (leC 0)) (leV _ (leX 24)); rw [leV_C, leV_X]; exact wl23, List.forall_mem_cons.mpr ⟨by show KC H2 9 281 (leV _ (leC 0)) (leV _ (leX 25)); rw [leV_C, leV_X]; exact wl24, List.forall_mem_cons.mpr ⟨by show KC H2 9 297 (leV _ (leC 0)) (leV _ (leX 26)); rw [leV_C, leV_X]; exact wl25, List.forall_mem_cons.mpr ⟨by show KC H2 9 313 (leV _ (leC 0)) (leV _ (leX 27)); rw [leV_C, leV_X]; exact wl26, List.forall_mem_cons.mpr ⟨by show KC H2 9 329 (leV _ (leC 0)) (leV _ (leX 28)); rw [leV_C, leV_X]; exact wl27, List.forall_mem_cons.mpr ⟨by show KC H2 9 345 (leV _ (leC 0)) (leV _ (leX 29)); rw [leV_C, leV_X]; exact wl28, List.forall_mem_cons.mpr ⟨by show KC H2 9 361 (leV _ (leC 0)) (leV _ (leX 30)); rw [leV_C, leV_X]; exact wl29, List.forall_mem_cons.mpr ⟨by show KC H2 9 377 (leV _ (leC 0)) (leV _ (leX 31)); rw [leV_C, leV_X]; exact wl30, List.forall_mem_cons.mpr ⟨by show KC H2 9 393 (leV _ (leC 0)) (leV _ (leX 32)); rw [leV_C, leV_X]; exact wl31, List.forall_mem_cons.mpr ⟨by show KC H2 9 409 (leV _ (leC 0)) (leV _ (leX 33)); rw [leV_C, leV_X]; exact wl32, List.forall_mem_cons.mpr ⟨by show KC H2 9 425 (leV _ (leC 0)) (leV _ (leX 34)); rw [leV_C, leV_X]; exact wl33, List.forall_mem_cons.mpr ⟨by show KC H2 9 441 (leV _ (leC 0)) (leV _ (leX 35)); rw [leV_C, leV_X]; exact wl34, List.forall_mem_cons.mpr ⟨by show KC H2 9 457 (leV _ (leC 0)) (leV _ (leX 36)); rw [leV_C, leV_X]; exact wl35, List.forall_mem_cons.mpr ⟨by show KC H2 9 473 (leV _ (leC 0)) (leV _ (leX 37)); rw [leV_C, leV_X]; exact wl36, List.forall_mem_cons.mpr ⟨by show KC H2 9 489 (leV _ (leC 0)) (leV _ (leX 38)); rw [leV_C, leV_X]; exact wl37, List.forall_mem_cons.mpr ⟨by show KC H2 9 521 (leV _ (leC 0)) (leV _ (leX 39)); rw [leV_C, leV_X]; exact wl38, List.forall_mem_cons.mpr ⟨by show KC H2 9 537 (leV _ (leC 0)) (leV _ (leX 40)); rw [leV_C, leV_X]; exact wl39, List.forall_mem_cons.mpr ⟨by show KC H2 9 553 (leV _ (leC 0)) (leV _ (leX 41)); rw [leV_C, leV_X]; exact wl40, List.forall_mem_cons.mpr ⟨by show KC H2 9 569 (leV _ (leC 0)) (leV _ (leX 42)); rw [leV_C, leV_X]; exact wl41, List.forall_mem_cons.mpr ⟨by show KC H2 9 2007 (leV _ (leC 0)) (leV _ (leX 43)); rw [leV_C, leV_X]; exact wu63, List.forall_mem_cons.mpr ⟨by show KC H2 12 9 (leV _ (leC 0)) (leV _ (leX 44)); rw [leV_C, leV_X]; exact wl54, List.forall_mem_cons.mpr ⟨by show KC H2 14 1 (leV _ (leC 0)) (leV _ (leX 45)); rw [leV_C, leV_X]; exact wu20, List.forall_mem_cons.mpr ⟨by show KC H2 14 5 (leV _ (leC 0)) (leV _ (leX 46)); rw [leV_C, leV_X]; exact wu21, List.forall_mem_cons.mpr ⟨by show KC H2 14 9 (leV _ (leC 0)) (leV _ (leX 47)); rw [leV_C, leV_X]; exact wu22, List.forall_mem_cons.mpr ⟨by show KC H2 14 13 (leV _ (leC 0)) (leV _ (leX 48)); rw [leV_C, leV_X]; exact wu23, List.forall_mem_cons.mpr ⟨by show KC H2 14 17 (leV _ (leC 0)) (leV _ (leX 49)); rw [leV_C, leV_X]; exact wu76, List.forall_mem_cons.mpr ⟨by show KC H2 16 1 (leV _ (leC 0)) (leV _ (leX 50)); rw [leV_C, leV_X]; exact wu25, List.forall_mem_cons.mpr ⟨by show KC H2 17 1 (leV _ (leC 0)) (leV _ (leX 51)); rw [leV_C, leV_X]; exact wu26, List.forall_mem_cons.mpr ⟨by show KC H2 15 9 (leV _ (leC 0)) (leV _ (leX 52)); rw [leV_C, leV_X]; exact wl55, fun _ h => absurd h List.not_mem_nil⟩⟩⟩⟩⟩⟩⟩⟩⟩⟩⟩⟩⟩⟩⟩⟩⟩⟩⟩⟩⟩⟩⟩⟩⟩⟩⟩⟩⟩⟩⟩⟩⟩⟩⟩⟩⟩⟩⟩⟩⟩⟩⟩⟩⟩⟩⟩⟩⟩⟩⟩⟩⟩) (fun _ h => absurd h List.not_mem_nil) hR2
  obtain ⟨rT, H3, ⟨hR3, F3, oT, hoT, ρT, agT, -, rtT, kcT, -⟩, cT⟩ := KT.det
  obtain rfl := List.mem_singleton.mp hoT
  obtain rfl : rT = none := rtT
  have F3 : Frm [(0, 66, 0, 3399)] H2 H3 := F3
  have x0 : ρ 11 = (H3.1 66 0).toInt := ck_kz (I := 0) ((by have q := ck_k1 (kcT _ (List.mem_of_getElem? (i := 0) rfl)); rw [show ρT 0 = ρ 11 from agT 0 (by decide), Int.zero_add] at q; exact q)) rfl
  have x1 : ρ 3 = (H3.1 66 1).toInt := ck_kz (I := 1) ((by have q := ck_k1 (kcT _ (List.mem_of_getElem? (i := 1) rfl)); rw [show ρT 1 = ρ 3 from agT 1 (by decide), Int.zero_add] at q; exact q)) rfl
  have x2 : ρ 5 = (H3.1 66 2).toInt := ck_kz (I := 2) ((by have q := ck_k1 (kcT _ (List.mem_of_getElem? (i := 2) rfl)); rw [show ρT 2 = ρ 5 from agT 2 (by decide), Int.zero_add] at q; exact q)) rfl
  have x3 : ρ 13 = (H3.1 66 3).toInt := ck_kz (I := 3) ((by have q := ck_k1 (kcT _ (List.mem_of_getElem? (i := 3) rfl)); rw [show ρT 3 = ρ 13 from agT 3 (by decide), Int.zero_add] at q; exact q)) rfl
  have x4 : ρ 7 = (H3.1 66 4).toInt := ck_kz (I := 4) ((by have q := ck_k1 (kcT _ (List.mem_of_getElem? (i := 4) rfl)); rw [show ρT 4 = ρ 7 from agT 4 (by decide), Int.zero_add] at q; exact q)) rfl
  have x5 : ρ 9 = (H3.1 66 5).toInt := ck_kz (I := 5) ((by have q := ck_k1 (kcT _ (List.mem_of_getElem? (i := 5) rfl)); rw [show ρT 5 = ρ 9 from agT 5 (by decide), Int.zero_add] at q; exact q)) rfl
  have x6 : ρ 19 = (H3.1 66 6).toInt := ck_kz (I := 6) ((by have q := ck_k1 (kcT _ (List.mem_of_getElem? (i := 6) rfl)); rw [show ρT 6 = ρ 19 from agT 6 (by decide), Int.zero_add] at q; exact q)) rfl
  have x7 : KC H3 5 66 0 (0) := ck_k0 (kcT _ (List.mem_of_getElem? (i := 7) rfl))
  have x8 : KC H3 9 8 0 (0) := ck_k0 (kcT _ (List.mem_of_getElem? (i := 8) rfl))
  have x9 : KC H3 9 24 0 (0) := ck_k0 (kcT _ (List.mem_of_getElem? (i := 9) rfl))
  have x10 : KC H3 9 40 0 (0) := ck_k0 (kcT _ (List.mem_of_getElem? (i := 10) rfl))
  have x11 : KC H3 9 56 0 (0) := ck_k0 (kcT _ (List.mem_of_getElem? (i := 11) rfl))
  have x12 : KC H3 9 72 0 (0) := ck_k0 (kcT _ (List.mem_of_getElem? (i := 12) rfl))
  have x13 : KC H3 9 88 0 (0) := ck_k0 (kcT _ (List.mem_of_getElem? (i := 13) rfl))
  have x14 : KC H3 9 104 0 (0) := ck_k0 (kcT _ (List.mem_of_getElem? (i := 14) rfl))
  have x15 : KC H3 9 120 0 (0) := ck_k0 (kcT _ (List.mem_of_getElem? (i := 15) rfl))
  have x16 : KC H3 9 136 0 (0) := ck_k0 (kcT _ (List.mem_of_getElem? (i := 16) rfl))
  have x17 : KC H3 9 152 0 (0) := ck_k0 (kcT _ (List.mem_of_getElem? (i := 17) rfl))
  have x18 : KC H3 9 168 0 (0) := ck_k0 (kcT _ (List.mem_of_getElem? (i := 18) rfl))
  have x19 : KC H3 9 184 0 (0) := ck_k0 (kcT _ (List.mem_of_getElem? (i := 19) rfl))
  have x20 : KC H3 9 200 0 (0) := ck_k0 (kcT _ (List.mem_of_getElem? (i := 20) rfl))
  have x21 : KC H3 9 216 0 (0) := ck_k0 (kcT _ (List.mem_of_getElem? (i := 21) rfl))
  have x22 : KC H3 9 232 0 (0) := ck_k0 (kcT _ (List.mem_of_getElem? (i := 22) rfl))
  have x23 : KC H3 9 248 0 (0) := ck_k0 (kcT _ (List.mem_of_getElem? (i := 23) rfl))
  have x24 : KC H3 9 264 0 (0) := ck_k0 (kcT _ (List.mem_of_getElem? (i := 24) rfl))
  have x25 : KC H3 9 280 0 (0) := ck_k0 (kcT _ (List.mem_of_getElem? (i := 25) rfl))
  have x26 : KC H3 9 296 0 (0) := ck_k0 (kcT _ (List.mem_of_getElem? (i := 26) rfl))
  have x27 : KC H3 9 312 0 (0) := ck_k0 (kcT _ (List.mem_of_getElem? (i := 27) rfl))
  have x28 : KC H3 9 328 0 (0) := ck_k0 (kcT _ (List.mem_of_getElem? (i := 28) rfl))
  have x29 : KC H3 9 344 0 (0) := ck_k0 (kcT _ (List.mem_of_getElem? (i := 29) rfl))
  have x30 : KC H3 9 360 0 (0) := ck_k0 (kcT _ (List.mem_of_getElem? (i := 30) rfl))
  have x31 : KC H3 9 376 0 (0) := ck_k0 (kcT _ (List.mem_of_getElem? (i := 31) rfl))
  have x32 : KC H3 9 392 0 (0) := ck_k0 (kcT _ (List.mem_of_getElem? (i := 32) rfl))
  have x33 : KC H3 9 408 0 (0) := ck_k0 (kcT _ (List.mem_of_getElem? (i := 33) rfl))
  have x34 : KC H3 9 424 0 (0) := ck_k0 (kcT _ (List.mem_of_getElem? (i := 34) rfl))
  have x35 : KC H3 9 440 0 (0) := ck_k0 (kcT _ (List.mem_of_getElem? (i := 35) rfl))
  have x36 : KC H3 9 456 0 (0) := ck_k0 (kcT _ (List.mem_of_getElem? (i := 36) rfl))
  have x37 : KC H3 9 472 0 (0) := ck_k0 (kcT _ (List.mem_of_getElem? (i := 37) rfl))
  have x38 : KC H3 9 488 0 (0) := ck_k0 (kcT _ (List.mem_of_getElem? (i := 38) rfl))
  have x39 : KC H3 9 520 0 (0) := ck_k0 (kcT _ (List.mem_of_getElem? (i := 39) rfl))
  have x40 : KC H3 9 536 0 (0) := ck_k0 (kcT _ (List.mem_of_getElem? (i := 40) rfl))
  have x41 : KC H3 9 552 0 (0) := ck_k0 (kcT _ (List.mem_of_getElem? (i := 41) rfl))
  have x42 : KC H3 9 568 0 (0) := ck_k0 (kcT _ (List.mem_of_getElem? (i := 42) rfl))
  have x43 : KC H3 9 2005 0 (0) := ck_k0 (kcT _ (List.mem_of_getElem? (i := 43) rfl))
  have x44 : KC H3 12 8 0 (ρ 77) := (by have q := ck_k1 (kcT _ (List.mem_of_getElem? (i := 44) rfl)); rw [show ρT 44 = ρ 77 from agT 44 (by decide), Int.zero_add] at q; exact q)
  have x45 : KC H3 14 0 0 (ρ 20) := (by have q := ck_k1 (kcT _ (List.mem_of_getElem? (i := 45) rfl)); rw [show ρT 45 = ρ 20 from agT 45 (by decide), Int.zero_add] at q; exact q)
  have x46 : KC H3 14 4 0 (ρ 21) := (by have q := ck_k1 (kcT _ (List.mem_of_getElem? (i := 46) rfl)); rw [show ρT 46 = ρ 21 from agT 46 (by decide), Int.zero_add] at q; exact q)
  have x47 : KC H3 14 8 0 (ρ 22) := (by have q := ck_k1 (kcT _ (List.mem_of_getElem? (i := 47) rfl)); rw [show ρT 47 = ρ 22 from agT 47 (by decide), Int.zero_add] at q; exact q)
  have x48 : KC H3 14 12 0 (ρ 23) := (by have q := ck_k1 (kcT _ (List.mem_of_getElem? (i := 48) rfl)); rw [show ρT 48 = ρ 23 from agT 48 (by decide), Int.zero_add] at q; exact q)
  have x49 : KC H3 14 16 0 (ρ 76) := (by have q := ck_k1 (kcT _ (List.mem_of_getElem? (i := 49) rfl)); rw [show ρT 49 = ρ 76 from agT 49 (by decide), Int.zero_add] at q; exact q)
  have x50 : KC H3 16 0 0 (ρ 25) := (by have q := ck_k1 (kcT _ (List.mem_of_getElem? (i := 50) rfl)); rw [show ρT 50 = ρ 25 from agT 50 (by decide), Int.zero_add] at q; exact q)
  have x51 : KC H3 17 0 0 (ρ 26) := (by have q := ck_k1 (kcT _ (List.mem_of_getElem? (i := 51) rfl)); rw [show ρT 51 = ρ 26 from agT 51 (by decide), Int.zero_add] at q; exact q)
  have x52 : KC H3 15 8 0 (ρ 78) := (by have q := ck_k1 (kcT _ (List.mem_of_getElem? (i := 52) rfl)); rw [show ρT 52 = ρ 78 from agT 52 (by decide), Int.zero_add] at q; exact q)
  have ywl3 : ρ 4 = (H3.1 26 2).toInt := by rw [F3.1 26 2 (ck_nw (by decide +kernel))]; exact wl3
  have ywl2 : ρ 2 = (H3.1 24 2).toInt := by rw [F3.1 24 2 (ck_nw (by decide +kernel))]; exact wl2
  have ywl5 : ρ 6 = (H3.1 30 2).toInt := by rw [F3.1 30 2 (ck_nw (by decide +kernel))]; exact wl5
  have ywl0 : ρ 10 = (H3.1 23 5).toInt := by rw [F3.1 23 5 (ck_nw (by decide +kernel))]; exact wl0
  have ywl6 : ρ 8 = (H3.1 32 2).toInt := by rw [F3.1 32 2 (ck_nw (by decide +kernel))]; exact wl6
  have ywl4 : ρ 12 = (H3.1 28 2).toInt := by rw [F3.1 28 2 (ck_nw (by decide +kernel))]; exact wl4
  have ywl42 : KC H3 11 72 0 (ρ 64) := KC_fr (by decide) (by decide +kernel) F3 wl42
  have ywl45 : KC H3 11 168 0 (ρ 65) := KC_fr (by decide) (by decide +kernel) F3 wl45
  have ywl46 : KC H3 11 184 0 (ρ 66) := KC_fr (by decide) (by decide +kernel) F3 wl46
  have ywl47 : KC H3 11 200 0 (ρ 67) := KC_fr (by decide) (by decide +kernel) F3 wl47
  have ywl48 : KC H3 11 216 0 (ρ 68) := KC_fr (by decide) (by decide +kernel) F3 wl48
  have ywl49 : KC H3 11 232 0 (ρ 69) := KC_fr (by decide) (by decide +kernel) F3 wl49
  have ywl50 : KC H3 11 280 0 (ρ 70) := KC_fr (by decide) (by decide +kernel) F3 wl50
  have ywl51 : KC H3 11 296 0 (ρ 71) := KC_fr (by decide) (by decide +kernel) F3 wl51
  have ywl52 : KC H3 11 312 0 (ρ 72) := KC_fr (by decide) (by decide +kernel) F3 wl52
  have ywl43 : KC H3 11 88 0 (ρ 73) := KC_fr (by decide) (by decide +kernel) F3 wl43
  have ywl44 : KC H3 11 104 0 (ρ 74) := KC_fr (by decide) (by decide +kernel) F3 wl44
  have ywl53 : KC H3 11 440 0 (ρ 75) := KC_fr (by decide) (by decide +kernel) F3 wl53
  exact ⟨H1, H2, H3, fun Q q => cB Q q, F1, fun Q q => cS Q q, y2, F2, fun Q q => cT Q q, F3, ⟨ywl3,
    (by have q := x2; rw [show ρ 5 = ρ 4 from (eqI f4 f5).symm] at q; exact q),
    ywl2,
    (by have q := x1; rw [show ρ 3 = ρ 2 from (eqI f2 f3).symm] at q; exact q),
    ywl5,
    (by have q := x4; rw [show ρ 7 = ρ 6 from (eqI f6 f7).symm] at q; exact q),
    ywl0,
    (by have q := x0; rw [show ρ 11 = ρ 10 from (eqI f10 f11).symm] at q; exact q),
    ywl6,
    (by have q := x5; rw [show ρ 9 = ρ 8 from (eqI f8 f9).symm] at q; exact q),
    x7,
    (by have q := x45; rw [show ρ 20 = 0 from Int.le_antisymm r20.2 r20.1] at q; exact q),
    (by have q := x49; rw [show ρ 76 = 10 * ρ 10 from ck_ti f44 f45] at q; exact q),
    (by have q := x50; rw [show ρ 25 = 0 from Int.le_antisymm r25.2 r25.1] at q; exact q),
    (by have q := x51; rw [show ρ 26 = -1 from Int.le_antisymm r26.2 r26.1] at q; exact q),
    (by have q := x44; rw [show ρ 77 = ρ 4 from (eqI f46 f47).symm] at q; exact q),
    ywl4,
    (by have q := x3; rw [show ρ 13 = ρ 12 from (eqI f12 f13).symm] at q; exact q),
    (by have q := x46; rw [show ρ 21 = 0 from Int.le_antisymm r21.2 r21.1] at q; exact q),
    (by have q := x52; rw [show ρ 78 = ρ 6 from (eqI f48 f49).symm] at q; exact q),
    x8,
    x9,
    x10,
    x11,
    x12,
    x13,
    x14,
    x15,
    x16,
    x17,
    x18,
    x19,
    x20,
    x21,
    x22,
    x23,
    x24,
    x25,
    x26,
    x27,
    x28,
    x29,
    x30,
    x31,
    x32,
    x33,
    x34,
    x35,
    x39,
    x40,
    x41,
    x42,
    x43,
    x36,
    x37,
    (by have q := ywl42; rw [show ρ 64 = ρ 2 from (eqI f20 f21).symm] at q; exact q),
    (by have q := ywl45; rw [show ρ 65 = ρ 4 from (eqI f22 f23).symm] at q; exact q),
    (by have q := ywl46; rw [show ρ 66 = ρ 4 from (eqI f24 f25).symm] at q; exact q),
    (by have q := ywl47; rw [show ρ 67 = ρ 4 from (eqI f26 f27).symm] at q; exact q),
    (by have q := ywl48; rw [show ρ 68 = ρ 4 from (eqI f28 f29).symm] at q; exact q),
    (by have q := ywl49; rw [show ρ 69 = ρ 4 from (eqI f30 f31).symm] at q; exact q),
    (by have q := ywl50; rw [show ρ 70 = ρ 4 from (eqI f32 f33).symm] at q; exact q),
    (by have q := ywl51; rw [show ρ 71 = ρ 4 from (eqI f34 f35).symm] at q; exact q),
    (by have q := ywl52; rw [show ρ 72 = ρ 4 from (eqI f36 f37).symm] at q; exact q),
    (by have q := ywl43; rw [show ρ 73 = ρ 2 from (eqI f38 f39).symm] at q; exact q),
    (by have q := ywl44; rw [show ρ 74 = ρ 2 from (eqI f40 f41).symm] at q; exact q),
    (by have q := ywl53; rw [show ρ 75 = ρ 12 from (eqI f42 f43).symm] at q; exact q)⟩, hR3⟩
