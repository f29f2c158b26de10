/-! Every step of what is known is one of the small machine. -/
section AX
variable {rg : List Rg} {ws : List Wr} {h0 h : Hp} {ρ : Nat → Int} {S : Sx} {X : Cf → Prop} {i : Instr} {a b : Nat} {v : Int32} {w : Int64} {sw : List (Int32 × Nat)} {pc : Nat} {ls : List (Option AV)} {st : List AV} {lc : Lc} {sc : List Value} {L : List Cc}
theorem av_i {n : Nat} {e : LE} {x : Int32} (g : GG ρ n e x.toInt) : av ρ n (0, e) (.int x) := ⟨x, rfl, g⟩
theorem av_r {n : Nat} {e : LE} {x : Nat} (g : e = (Int.ofNat x, [])) : av ρ n (2, e) (.ref x) := ⟨x, rfl, g⟩
theorem axMm_sp {mx : Bool} {e1 e2 : LE} {x y v : Int32} {pc' : Nat} {r : List AV} {sr : List Value} (M : Mo rg ws h0 ρ S h) (g1 : GG ρ S.1 e1 x.toInt) (g2 : GG ρ S.1 e2 y.toInt) (hv : v = if mx = true then (if x < y then y else x) else (if y < x then y else x)) (hL : LR ρ S.1 ls lc) (hS : SR ρ S.1 r sr) (K : Kn rg ws h0 ρ S.1 X (axMm mx pc' S e1 e2 ls r)) : X (pc', lc, .int v :: sr, h) := by
  have gd : GG ρ S.1 (leSub e1 e2) (x.toInt - y.toInt) := g1.sub g2
  have lt1 : x < y ↔ x.toInt < y.toInt := Int32.lt_iff_toInt_lt
  have lt2 : y < x ↔ y.toInt < x.toInt := Int32.lt_iff_toInt_lt
  unfold axMm at K
  by_cases he : en S.2.1 (leSub e2 e1) = true
  · rw [if_pos he] at K
    have q := en_sp M.1 he
    rw [(g2.sub g1).2] at q
    have hv' : GG ρ S.1 (if mx = true then e2 else e1) v.toInt := by
      subst hv
      cases mx
      · show GG ρ S.1 e1 (if y < x then y else x).toInt
        rw [if_neg (fun q => by rw [lt2] at q; omega)]
        exact g1
      · show GG ρ S.1 e2 (if x < y then y else x).toInt
        split
        · exact g2
        · rename_i q
          rw [lt1] at q
          rw [show x = y from Int32.toInt_inj.mp (by omega)]
          exact g2
    exact oDb_sp (st := (0, if mx = true then e2 else e1) :: r) (sc := .int v :: sr) M hL (SR.cons (av_i hv') hS) ⟨_, rfl, M.1⟩ K (fun c hc => hc)
  rw [if_neg he] at K
  by_cases hc : y.toInt ≤ x.toInt
  · have hv' : GG ρ S.1 (if mx = true then e1 else e2) v.toInt := by
      subst hv
      cases mx
      · show GG ρ S.1 e2 (if y < x then y else x).toInt
        split
        · exact g2
        · rename_i q
          rw [lt2] at q
          rw [show x = y from Int32.toInt_inj.mp (by omega)]
          exact g2
      · show GG ρ S.1 e1 (if x < y then y else x).toInt
        rw [if_neg (fun q => by rw [lt1] at q; omega)]
        exact g1
    exact oDb_sp (st := (0, if mx = true then e1 else e2) :: r) (sc := .int v :: sr) M hL (SR.cons (av_i hv') hS) (adG_sp M.1 gd.1 (by rw [gd.2]; omega)) K (fun c hc => List.mem_append_left _ hc)
  · have hv' : GG ρ S.1 (if mx = true then e2 else e1) v.toInt := by
      subst hv
      cases mx
      · show GG ρ S.1 e1 (if y < x then y else x).toInt
        rw [if_neg (fun q => by rw [lt2] at q; omega)]
        exact g1
      · show GG ρ S.1 e2 (if x < y then y else x).toInt
        rw [if_pos (lt1.mpr (by omega))]
        exact g2
    exact oDb_sp (st := (0, if mx = true then e2 else e1) :: r) (sc := .int v :: sr) M hL (SR.cons (av_i hv') hS) (adG_sp M.1 (leS_K (leS_sc gd.1)) (by rw [leV_K, leV_sc, gd.2]; omega)) K (fun c hc => List.mem_append_right _ hc)
theorem exv_sp (M : Mo rg ws h0 ρ S h) {e : LE} {v : Int32} (hs : leS S.1 e) (hv : v.toInt = (leV ρ e).bmod 4294967296) : RS rg ws h0 h ρ S (exv S e) v.toInt := by
  unfold exv
  split
  · rename_i g
    have g := inR32_sp M.1 g
    exact RS.rf M ⟨hs, by rw [hv, Int.bmod_eq_of_le] <;> omega⟩
  · exact pur_sp M hs (i32b v).1 (i32b v).2 hv (fun y q => by
      have q : y = (leV ρ e).bmod 4294967296 := q
      rw [q, hv])
theorem opq_sp {q : Nat} {e1 e2 : LE} {x y : Int32} {R : Sx × LE} (M : Mo rg ws h0 ρ S h) (g1 : GG ρ S.1 e1 x.toInt) (g2 : GG ρ S.1 e2 y.toInt) (hR : RS rg ws h0 h ρ S R (opI q x y).toInt) : RS rg ws h0 h ρ S (opq q S e1 e2 R) (opI q x y).toInt := by
  have n1 := nrm_G M.1 g1
  have n2 := nrm_G M.1 g2
  have kS : leS S.1 (leA (nrm S.2.1 e1) (leSc 1099511627776 (nrm S.2.1 e2))) := leS_add n1.1 (leS_sc n2.1)
  have kV : leV ρ (leA (nrm S.2.1 e1) (leSc 1099511627776 (nrm S.2.1 e2))) = x.toInt + 1099511627776 * y.toInt := by rw [leV_add, leV_sc, n1.2, n2.2]
  unfold opq
  dsimp only
  split
  · rename_i z hz
    obtain ⟨-, b, a', b', e, e'⟩ := M.2.1 _ (kcF_sp hz)
    dsimp only at b e e'
    rw [kV] at e
    have bx := i32b x
    have bY := i32b y
    have ba := i32b a'
    have bb := i32b b'
    simp only [I32lo, I32hi] at bx bY ba bb
    obtain rfl : a' = x := Int32.toInt_inj.mp (by omega)
    obtain rfl : b' = y := Int32.toInt_inj.mp (by omega)
    exact RS.rf M ⟨b, e'⟩
  · obtain ⟨ρ', a1, a2, M', g⟩ := hR
    refine ⟨ρ', a1, a2, M'.kc (c := (13, q, _, R.2)) ⟨leS_mono kS a2, g.1, x, y, ?_, g.2⟩, g⟩
    dsimp only
    rw [leV_ext kS a1, kV]
theorem or_z0 {x : Int32} : x ||| 0 = x := by
  apply Int32.toBitVec_inj.mp
  simp
theorem boV_or {e1 e2 : LE} {x y : Int32} {R : Sx × LE} (M : Mo rg ws h0 ρ S h) (g1 : GG ρ S.1 e1 x.toInt) (g2 : GG ρ S.1 e2 y.toInt) (hR : RS rg ws h0 h ρ S R (x ||| y).toInt) : RS rg ws h0 h ρ S (boV .ior S e1 e2 R) (x ||| y).toInt := by
  show RS rg ws h0 h ρ S (if leEq (nrm S.2.1 e2) (leC 0) = true then (S, e1) else opq 0 S e1 e2 R) (x ||| y).toInt
  split
  · rename_i hz
    have n2 := nrm_G M.1 g2
    have y0 : y = 0 := Int32.toInt_inj.mp (by rw [← n2.2, leEq_eq hz, leV_C]; rfl)
    rw [y0, or_z0]
    exact RS.rf M g1
  · exact opq_sp (q := 0) M g1 g2 hR
theorem boV_mul {e1 e2 : LE} {x y : Int32} {R : Sx × LE} (M : Mo rg ws h0 ρ S h) (g1 : GG ρ S.1 e1 x.toInt) (g2 : GG ρ S.1 e2 y.toInt) (hR : RS rg ws h0 h ρ S R (x * y).toInt) : RS rg ws h0 h ρ S (boV .imul S e1 e2 R) (x * y).toInt := by
  have n1 := nrm_G M.1 g1
  have n2 := nrm_G M.1 g2
  unfold boV
  dsimp only
  split
  · rename_i hc
    have : y.toInt = (nrm S.2.1 e2).1 := by rw [← n2.2]; simp [leV, hc, leT]
    refine exv_sp M (leS_sc g1.1) ?_
    rw [leV_sc, g1.2, ← this, Int.mul_comm, Int32.toInt_mul]
  · split
    · rename_i hc
      have : x.toInt = (nrm S.2.1 e1).1 := by rw [← n1.2]; simp [leV, hc, leT]
      refine exv_sp M (leS_sc g2.1) ?_
      rw [leV_sc, g2.2, ← this, Int32.toInt_mul]
    · exact opq_sp (q := 6) M g1 g2 hR
theorem boV_rem {e1 e2 : LE} {x y : Int32} {R : Sx × LE} (M : Mo rg ws h0 ρ S h) (g1 : GG ρ S.1 e1 x.toInt) (g2 : GG ρ S.1 e2 y.toInt) (hR : RS rg ws h0 h ρ S R (x - x / y * y).toInt) : RS rg ws h0 h ρ S (boV .irem S e1 e2 R) (x - x / y * y).toInt := by
  have n1 := nrm_G M.1 g1
  have n2 := nrm_G M.1 g2
  show RS rg ws h0 h ρ S (if _ then _ else opq 8 S e1 e2 R) (x - x / y * y).toInt
  split
  · rename_i hc
    simp only [Bool.and_eq_true, List.isEmpty_iff] at hc
    obtain ⟨c1, c2, c3, c4⟩ := hc
    have c3 := ile_le c3
    have c4 := ile_le c4
    have v1 : x.toInt = (nrm S.2.1 e1).1 := by rw [← n1.2]; simp [leV, c1, leT]
    have v2 : y.toInt = (nrm S.2.1 e2).1 := by rw [← n2.2]; simp [leV, c2, leT]
    refine RS.rf M ⟨leS_C, ?_⟩
    rw [leV_C, rem_e (by omega) (by omega), v1, v2]
  · exact opq_sp (q := 8) M g1 g2 hR
theorem axB_sp {j : Instr} {f : Int32 → Int32 → Int32} (M : Mo rg ws h0 ρ S h) (hL : LR ρ S.1 ls lc) (hS : SR ρ S.1 st sc) (hf : ∀ (e1 e2 : LE) (x y : Int32) (R : Sx × LE), GG ρ S.1 e1 x.toInt → GG ρ S.1 e2 y.toInt → bo j S e1 e2 = some R → RS rg ws h0 h ρ S R (f x y).toInt ∧ (∀ (r : List Value), sc = .int y :: .int x :: r → X (pc + 1, lc, .int (f x y) :: r, h) → X (pc, lc, sc, h))) (hV : ∀ (e1 e2 : LE) (x y : Int32) (R : Sx × LE), GG ρ S.1 e1 x.toInt → GG ρ S.1 e2 y.toInt → RS rg ws h0 h ρ S R (f x y).toInt → RS rg ws h0 h ρ S (boV j S e1 e2 R) (f x y).toInt) (hx : axB j pc S ls st = some L) (K : Kn rg ws h0 ρ S.1 X L) : X (pc, lc, sc, h) := by
  unfold axB at hx
  split at hx
  · replace hS := hS.j
    obtain ⟨y, r, rfl, g2, hS⟩ := hS
    replace hS := hS.j
    obtain ⟨x, r, rfl, g1, hS⟩ := hS
    split at hx
    · rename_i R hR
      cases hx
      obtain ⟨q, hX⟩ := hf _ _ x y R g1 g2 hR
      refine hX r rfl (kI ?_ hL hS K)
      split
      · exact hV _ _ x y R g1 g2 q
      · exact q
    · cases hx
  · cases hx
theorem cp_sp {sp dp n : LE} {x y z : Int32} {l k m : Nat} (F : Fa ρ m S.2.1) (h1 : GG ρ m sp x.toInt) (h2 : GG ρ m dp y.toInt) (h3 : GG ρ m n z.toInt) (g : cpO S.2.1 sp dp n l k = true) : cpG x y z l k ∧ 0 ≤ y.toInt ∧ 0 ≤ z.toInt ∧ y.toInt + z.toInt ≤ 4000 := by
  simp only [cpO, Bool.and_eq_true] at g
  obtain ⟨⟨⟨⟨⟨⟨g1, g2⟩, g3⟩, g4⟩, g5⟩, g6⟩, g7⟩ := g
  have e1 := en_sp F g1
  have e2 := en_sp F g2
  have e3 := en_sp F g3
  have e4 := en2_sp F g4
  have e5 := en2_sp F g5
  have e6 := Nat.le_of_ble_eq_true g6
  have e7 := Nat.le_of_ble_eq_true g7
  rw [h1.2] at e1
  rw [h2.2] at e2
  rw [h3.2] at e3
  rw [leV_K, leV_sc, leV_add, h1.2, h3.2] at e4
  rw [leV_K, leV_sc, leV_add, h2.2, h3.2] at e5
  have nl := nI_i (n := l) (by omega)
  have nk := nI_i (n := k) (by omega)
  have sl : (nI l - z).toInt = l - z.toInt := by rw [Int32.toInt_sub, nl, b32] <;> omega
  have sk : (nI k - z).toInt = k - z.toInt := by rw [Int32.toInt_sub, nk, b32] <;> omega
  refine ⟨⟨ge0I.mpr e1, ge0I.mpr e2, ge0I.mpr e3, ?_, ?_, ?_, ?_⟩, e2, e3, by omega⟩
  · rw [Int32.le_iff_toInt_le, nl]; omega
  · rw [Int32.le_iff_toInt_le, sl]; omega
  · rw [Int32.le_iff_toInt_le, nk]; omega
  · rw [Int32.le_iff_toInt_le, sk]; omega
theorem cp_src {sp dp n : LE} {x z : Int32} {l k m : Nat} (F : Fa ρ m S.2.1) (h1 : GG ρ m sp x.toInt) (h3 : GG ρ m n z.toInt) (g : cpO S.2.1 sp dp n l k = true) : 0 ≤ x.toInt ∧ x.toInt + z.toInt ≤ 4000 := by
  simp only [cpO, Bool.and_eq_true] at g
  obtain ⟨⟨⟨⟨⟨⟨g1, g2⟩, g3⟩, g4⟩, g5⟩, g6⟩, g7⟩ := g
  have e1 := en_sp F g1
  have e4 := en2_sp F g4
  have e6 := Nat.le_of_ble_eq_true g6
  rw [h1.2] at e1
  rw [leV_K, leV_sc, leV_add, h1.2, h3.2] at e4
  exact ⟨e1, by omega⟩
theorem cpW {k d m : Nat} {dp n : LE} {y z : Int32} (F : Fa ρ m S.2.1) (h2 : GG ρ m dp y.toInt) (h3 : GG ρ m n z.toInt) (g : okC2 ws S.2.1 k d dp n = true) (j : Int32) (h4 : y.toInt ≤ j.toInt) (h5 : j.toInt < y.toInt + z.toInt) : inW ws k d j := by
  simp only [okC2, List.any_eq_true, Bool.and_eq_true] at g
  obtain ⟨w, hw, ⟨⟨g1, g2⟩, g3⟩, g4⟩ := g
  have e3 := en_sp F g3
  have e4 := en2_sp F g4
  rw [leV_K, h2.2] at e3
  rw [leV_K, leV_sc, leV_add, h2.2, h3.2] at e4
  exact ⟨w, hw, beqT g1, beqT g2, by omega, by omega⟩
theorem rng {y z j : Int32} (h1 : 0 ≤ y.toInt) (h2 : 0 ≤ z.toInt) (h3 : y.toInt + z.toInt ≤ 4000) : (y ≤ j ∧ j < y + z) ↔ (y.toInt ≤ j.toInt ∧ j.toInt < y.toInt + z.toInt) := by
  have : (y + z).toInt = y.toInt + z.toInt := by rw [Int32.toInt_add, b32] <;> omega
  rw [Int32.le_iff_toInt_le, Int32.lt_iff_toInt_lt, this]
theorem rlSm_sp {r r' s d ls : Nat} (g : rlSm r r' s d ls = true) : ∃ (b1 s1 : Int) (o2 : Nat) (b2 s2 n : Int) (cv : Nat), rlD r = some (0, (s, b1, s1), (o2, b2, s2), n, cv) ∧ rlD r' = some (0, (d, b1, s1), (o2, b2, s2), n, cv) ∧ b1 + s1 * (n - 1) + 1 ≤ ls := by
  unfold rlSm at g
  split at g
  · rename_i k o1 b1 s1 o2 b2 s2 n cv k' o1' b1' s1' o2' b2' s2' n' cv' h1 h2
    simp only [Bool.and_eq_true] at g
    obtain ⟨⟨⟨⟨⟨⟨⟨⟨⟨⟨⟨g1, g2⟩, g3⟩, g4⟩, g5⟩, g6⟩, g7⟩, g8⟩, g9⟩, g10⟩, g11⟩, g12⟩ := g
    have g6 := iz_eq g6
    have g7 := iz_eq g7
    have g8 := iz_eq g8
    have g9 := iz_eq g9
    have g10 := iz_eq g10
    have e1 : k = 0 := Nat.eq_of_beq_eq_true g1
    have e2 : k' = 0 := Nat.eq_of_beq_eq_true g2
    have e3 : o1 = s := Nat.eq_of_beq_eq_true g3
    have e4 : o1' = d := Nat.eq_of_beq_eq_true g4
    have e5 : o2 = o2' := Nat.eq_of_beq_eq_true g5
    have e6 : b1' = b1 := by omega
    have e7 : s1' = s1 := by omega
    have e8 : b2' = b2 := by omega
    have e9 : s2' = s2 := by omega
    have e10 : n' = n := by omega
    have e11 : cv = cv' := Nat.eq_of_beq_eq_true g11
    subst e1 e2 e3 e4 e5 e6 e7 e8 e9 e10 e11
    exact ⟨_, _, _, _, _, _, _, h1, h2, ile_le g12⟩
  · cases g
theorem cpR_sp {m : Nat} {sp dp n : LE} {x y z : Int32} {s d : Nat} {c' : Kc} (F : Fa ρ m S.2.1) (Kc' : ∀ c ∈ S.2.2, kcO ρ m h c) (h1 : GG ρ m sp x.toInt) (h2 : GG ρ m dp y.toInt) (h3 : GG ρ m n z.toInt) (hc : c' ∈ cpR S sp dp n s d) : kcO ρ m (hC h s x d y z) c' := by
  unfold cpR at hc
  split at hc
  · rename_i hq
    simp only [Bool.and_eq_true] at hq
    obtain ⟨⟨⟨q1, q2⟩, q3⟩, q4⟩ := hq
    have q4 := Nat.le_of_ble_eq_true q4
    have x0 : x = 0 := Int32.toInt_inj.mp (by rw [← h1.2, leEq_eq q1, leV_C]; rfl)
    have y0 : y = 0 := Int32.toInt_inj.mp (by rw [← h2.2, leEq_eq q2, leV_C]; rfl)
    have z0 : z.toInt = (oP s : Int) := by rw [← h3.2, leEq_eq q3, leV_C]
    subst x0 y0
    obtain ⟨c, hcm, hc⟩ := List.mem_flatMap.mp hc
    unfold cpR1 at hc
    split at hc
    · rename_i hk
      rw [Bool.and_eq_true] at hk
      obtain ⟨r', hr, rfl⟩ := List.mem_map.mp hc
      unfold rlTo at hr
      split at hr
      · obtain ⟨-, hr⟩ := List.mem_filter.mp hr
        obtain ⟨b1, s1, o2, b2, s2, nn, cv, e1, e2, e3⟩ := rlSm_sp hr
        obtain ⟨ck, co, cx, cy⟩ := c
        have h9 : ck = 9 := Nat.eq_of_beq_eq_true hk.1
        subst h9
        obtain ⟨-, -, k', o1', b1', s1', o2', b2', s2', n', cv', hd, K⟩ := Kc' _ hcm
        dsimp only at hd K hk e1 e2 e3
        rw [e1] at hd
        cases hd
        have hf := en_sp F hk.2
        rw [leV_sub] at hf
        obtain ⟨d0, d1, d2, d3, d4, d5, d6⟩ := rlD_ok e2
        refine ⟨leS_C, leS_C, 0, d, b1, s1, o2, b2, s2, nn, cv, e2, fun t t0 t1 _ => ?_⟩
        have := K t t0 t1 (by omega)
        have h4 := Int.mul_nonneg (Int.le_of_lt d2) t0
        have h5 := Int.mul_le_mul_of_nonneg_left (show t ≤ nn - 1 by omega) (Int.le_of_lt d2)
        have ei : (Int32.ofInt (b1 + s1 * t)).toInt = b1 + s1 * t := i32of (by omega) (by omega)
        have ed : rlV (hC h s 0 d 0 z) 0 d (b1 + s1 * t) = rlV h 0 s (b1 + s1 * t) := by
          show (if d = d ∧ 0 ≤ Int32.ofInt (b1 + s1 * t) ∧ Int32.ofInt (b1 + s1 * t) < 0 + z then h.1 s (0 + (Int32.ofInt (b1 + s1 * t) - 0)) else h.1 d (Int32.ofInt (b1 + s1 * t))).toInt = (h.1 s (Int32.ofInt (b1 + s1 * t))).toInt
          rw [if_pos ⟨rfl, by rw [Int32.le_iff_toInt_le, ei]; show (0 : Int) ≤ _; omega, by rw [Int32.zero_add, Int32.lt_iff_toInt_lt, ei, z0]; omega⟩, Int32.sub_zero, Int32.zero_add]
        have eo : rlV (hC h s 0 d 0 z) 0 o2 (b2 + s2 * t) = rlV h 0 o2 (b2 + s2 * t) := by
          show ((hC h s 0 d 0 z).1 o2 _).toInt = _
          rw [hC_rowne (fun q => d0 q.symm)]
          rfl
        rw [ed, eo]
        exact this
      · cases hr
    · split at hc
      · rename_i hk
        obtain ⟨r', hr, rfl⟩ := List.mem_map.mp hc
        unfold rlTo at hr
        split at hr
        · obtain ⟨-, hr⟩ := List.mem_filter.mp hr
          obtain ⟨b1, s1, o2, b2, s2, nn, cv, e1, e2, e3⟩ := rlSm_sp hr
          obtain ⟨ck, co, cx, cy⟩ := c
          have h11 : ck = 11 := Nat.eq_of_beq_eq_true hk
          subst h11
          obtain ⟨kx, ky, o1', b1', s1', o2', b2', s2', n', cv', hd, K⟩ := Kc' _ hcm
          dsimp only at hd K e1 e2 e3 kx ky
          rw [e1] at hd
          cases hd
          obtain ⟨d0, d1, d2, d3, d4, d5, d6⟩ := rlD_ok e2
          refine ⟨kx, ky, d, b1, s1, o2, b2, s2, nn, cv, e2, fun t t0 t1 t2 => ?_⟩
          have := K t t0 t1 t2
          have h4 := Int.mul_nonneg (Int.le_of_lt d2) t0
          have h5 := Int.mul_le_mul_of_nonneg_left (show t ≤ nn - 1 by omega) (Int.le_of_lt d2)
          have ei : (Int32.ofInt (b1 + s1 * t)).toInt = b1 + s1 * t := i32of (by omega) (by omega)
          have ed : rlV (hC h s 0 d 0 z) 0 d (b1 + s1 * t) = rlV h 0 s (b1 + s1 * t) := by
            show (if d = d ∧ 0 ≤ Int32.ofInt (b1 + s1 * t) ∧ Int32.ofInt (b1 + s1 * t) < 0 + z then h.1 s (0 + (Int32.ofInt (b1 + s1 * t) - 0)) else h.1 d (Int32.ofInt (b1 + s1 * t))).toInt = (h.1 s (Int32.ofInt (b1 + s1 * t))).toInt
            rw [if_pos ⟨rfl, by rw [Int32.le_iff_toInt_le, ei]; show (0 : Int) ≤ _; omega, by rw [Int32.zero_add, Int32.lt_iff_toInt_lt, ei, z0]; omega⟩, Int32.sub_zero, Int32.zero_add]
          rw [ed]
          exact this
        · cases hr
      · split at hc
        · rename_i hk
          simp only [Bool.and_eq_true] at hk
          obtain ⟨hk, hs, hl⟩ := hk
          obtain ⟨q, hq, rfl⟩ := List.mem_map.mp hc
          obtain ⟨hq1, hq2⟩ := List.mem_filter.mp hq
          have hq2 := Nat.eq_of_beq_eq_true hq2
          have hs := Nat.eq_of_beq_eq_true hs
          have hl := Nat.eq_of_beq_eq_true hl
          have hq3 : q < 3 := by
            simp only [List.mem_cons, List.not_mem_nil, or_false] at hq1
            omega
          obtain ⟨ck, co, cx, cy⟩ := c
          have h12 : ck = 12 := Nat.eq_of_beq_eq_true hk
          subst h12
          obtain ⟨kx, ky, w1, w2⟩ := Kc' _ hcm
          dsimp only at w1 w2 hs kx ky
          have e1 : bgC (4 * q + co % 4) = d := by unfold bgC; omega
          have e2 : bgR (4 * q + co % 4) = bgR co := by unfold bgR; omega
          refine ⟨kx, ky, by dsimp only; omega, fun a b a0 a1 b0 b1 => ?_⟩
          dsimp only
          rw [e1, e2]
          have ei : (Int32.ofInt (12 + 14 * a)).toInt = 12 + 14 * a := i32of (by omega) (by omega)
          have ed : rlV (hC h s 0 d 0 z) 0 d (12 + 14 * a) = rlV h 0 (bgC co) (12 + 14 * a) := by
            rw [← hs]
            show (if d = d ∧ 0 ≤ Int32.ofInt (12 + 14 * a) ∧ Int32.ofInt (12 + 14 * a) < 0 + z then h.1 s (0 + (Int32.ofInt (12 + 14 * a) - 0)) else h.1 d (Int32.ofInt (12 + 14 * a))).toInt = (h.1 s (Int32.ofInt (12 + 14 * a))).toInt
            rw [if_pos ⟨rfl, by rw [Int32.le_iff_toInt_le, ei]; show (0 : Int) ≤ _; omega, by rw [Int32.zero_add, Int32.lt_iff_toInt_lt, ei, z0, hl]; omega⟩, Int32.sub_zero, Int32.zero_add]
          have er : ∀ x : Int, rlV (hC h s 0 d 0 z) 0 (bgR co) x = rlV h 0 (bgR co) x := fun x => by
            show ((hC h s 0 d 0 z).1 (bgR co) _).toInt = _
            rw [hC_rowne (fun q => by unfold bgR at q; omega)]
            rfl
          rw [ed, er, er]
          exact w2 a b a0 a1 b0 b1
        · split at hc
          · rename_i hk
            simp only [Bool.and_eq_true] at hk
            obtain ⟨hk, hs, hl⟩ := hk
            obtain ⟨q, hq, rfl⟩ := List.mem_map.mp hc
            obtain ⟨hq1, hq2⟩ := List.mem_filter.mp hq
            have hq2 := Nat.eq_of_beq_eq_true hq2
            have hs := Nat.eq_of_beq_eq_true hs
            have hl := Nat.eq_of_beq_eq_true hl
            have hq3 : q < 3 := by
              simp only [List.mem_cons, List.not_mem_nil, or_false] at hq1
              omega
            obtain ⟨ck, co, cx, cy⟩ := c
            have h15 : ck = 15 := Nat.eq_of_beq_eq_true hk
            subst h15
            obtain ⟨kx, ky, K⟩ := Kc' _ hcm
            have K : SMO h co (leV ρ cy) := K
            dsimp only at hs kx ky
            have e1 : smC (4 * q + co % 4) = d := by unfold smC; omega
            have e2 : bgR (4 * q + co % 4) = bgR co := by unfold bgR; omega
            refine ⟨kx, ky, fun t t0 t1 t2 => ?_⟩
            dsimp only
            rw [e1, e2]
            have er : ∀ x : Int, rlV (hC h s 0 d 0 z) 0 (bgR co) x = rlV h 0 (bgR co) x := fun x => by
              show ((hC h s 0 d 0 z).1 (bgR co) _).toInt = _
              rw [hC_rowne (fun q => by unfold bgR at q; omega)]
              rfl
            have ed : ∀ x : Int, 0 ≤ x → x < 1200 → rlV (hC h s 0 d 0 z) 0 d x = rlV h 0 (smC co) x := fun x x0 x1 => by
              have ei : (Int32.ofInt x).toInt = x := i32of (by omega) (by omega)
              rw [← hs]
              show (if d = d ∧ 0 ≤ Int32.ofInt x ∧ Int32.ofInt x < 0 + z then h.1 s (0 + (Int32.ofInt x - 0)) else h.1 d (Int32.ofInt x)).toInt = (h.1 s (Int32.ofInt x)).toInt
              rw [if_pos ⟨rfl, by rw [Int32.le_iff_toInt_le, ei]; show (0 : Int) ≤ _; omega, by rw [Int32.zero_add, Int32.lt_iff_toInt_lt, ei, z0, hl]; omega⟩, Int32.sub_zero, Int32.zero_add]
            obtain ⟨w1, w2, w3, w4, w5, w6⟩ := K t t0 t1 t2
            rw [ed _ (by omega) (by omega), ed _ (by omega) (by omega), er]
            refine ⟨w1, w2, w3, w4, w5, fun i i0 i1 => ?_⟩
            rw [ed _ (by omega) (by omega), er, er]
            exact w6 i i0 i1
          · cases hc
  · cases hc
theorem hCL_z {s d : Nat} {x y : Int32} (hy : 0 ≤ y.toInt) (hb : y.toInt ≤ 4000) : hCL h s x d y 0 = h := by
  refine Prod.ext rfl (Prod.ext ?_ rfl)
  funext a b
  show (if a = d ∧ y ≤ b ∧ b < y + 0 then _ else h.2.1 a b) = h.2.1 a b
  rw [if_neg]
  rintro ⟨-, q1, q2⟩
  rw [Int32.add_zero, Int32.lt_iff_toInt_lt] at q2
  rw [Int32.le_iff_toInt_le] at q1
  omega
theorem hCL_s {s d m : Nat} {x y : Int32} (hy : 0 ≤ y.toInt) (hb : y.toInt + m + 1 ≤ 4000) : hCL h s x d y (nI (m + 1)) = hL (hCL h s x d y (nI m)) d (y + nI m) (h.2.1 s (x + nI m)) := by
  have e1 : (nI (m + 1)).toInt = m + 1 := by rw [nI_i (by omega)]; omega
  have e0 : (nI m).toInt = m := nI_i (by omega)
  have r1 := fun j => rng (y := y) (z := nI (m + 1)) (j := j) hy (by omega) (by omega)
  have r0 := fun j => rng (y := y) (z := nI m) (j := j) hy (by omega) (by omega)
  have ey : (y + nI m).toInt = y.toInt + m := by rw [Int32.toInt_add, e0, b32] <;> omega
  refine Prod.ext rfl (Prod.ext ?_ rfl)
  funext a b
  show (if a = d ∧ y ≤ b ∧ b < y + nI (m + 1) then h.2.1 s (x + (b - y)) else h.2.1 a b) = (if a = d ∧ b = y + nI m then h.2.1 s (x + nI m) else if a = d ∧ y ≤ b ∧ b < y + nI m then h.2.1 s (x + (b - y)) else h.2.1 a b)
  by_cases ha : a = d
  · by_cases hbm : b = y + nI m
    · rw [if_pos ⟨ha, (r1 b).mpr (by rw [hbm, ey, e1]; omega)⟩, if_pos ⟨ha, hbm⟩, hbm]
      congr 2
      rw [Int32.add_comm y, Int32.add_sub_cancel]
    · have hne : b.toInt ≠ y.toInt + m := fun q => hbm (Int32.toInt_inj.mp (by rw [ey]; exact q))
      rw [if_neg (c := a = d ∧ b = y + nI m) (fun q => hbm q.2)]
      by_cases hr : y.toInt ≤ b.toInt ∧ b.toInt < y.toInt + m
      · rw [if_pos ⟨ha, (r1 b).mpr (by rw [e1]; omega)⟩, if_pos ⟨ha, (r0 b).mpr (by rw [e0]; exact hr)⟩]
      · rw [if_neg (fun q => hr (by have := (r1 b).mp q.2; rw [e1] at this; omega)), if_neg (fun q => hr (by have := (r0 b).mp q.2; rw [e0] at this; exact this))]
  · rw [if_neg (fun q => ha q.1), if_neg (fun q => ha q.1), if_neg (fun q => ha q.1)]
/-- the values that are read -/
noncomputable def vsL (ρ : Nat → Int) (n : Nat) (h : Hp) (s : Nat) (x : Int32) : List LE → Nat → Prop
  | [], _ => True
  | e :: r, k => GG ρ n e (h.2.1 s (x + nI k)).toInt ∧ vsL ρ n h s x r (k + 1)
theorem vsL.ext {ρ ρ' : Nat → Int} {n m : Nat} {s : Nat} {x : Int32} : ∀ {l : List LE} {k : Nat}, vsL ρ n h s x l k → Ag ρ ρ' n → n ≤ m → vsL ρ' m h s x l k
  | [], _, _, _, _ => trivial
  | _ :: _, _, q, g, hm => ⟨q.1.ext g hm, vsL.ext q.2 g hm⟩
theorem cpV_len {s : Nat} {sp : LE} : ∀ {n k : Nat} {S : Sx}, (cpV S s sp n k).2.length = n
  | 0, _, _ => rfl
  | n + 1, k, S => by
    show ((cpV _ s sp n (k + 1)).2.length + 1) = n + 1
    rw [cpV_len]
theorem addI {x : Int32} {k : Nat} (h1 : 0 ≤ x.toInt) (h2 : x.toInt + k ≤ 4000) : (x + nI k).toInt = x.toInt + k := by
  rw [Int32.toInt_add, nI_i (by omega), b32] <;> omega
theorem cpV_sp {s : Nat} {sp : LE} {x : Int32} : ∀ (n k : Nat) {S : Sx} {ρ : Nat → Int}, Mo rg ws h0 ρ S h → GG ρ S.1 sp x.toInt → 0 ≤ x.toInt → x.toInt + k + n ≤ 4000 → ∃ ρ', Ag ρ ρ' S.1 ∧ S.1 ≤ (cpV S s sp n k).1.1 ∧ Mo rg ws h0 ρ' (cpV S s sp n k).1 h ∧ vsL ρ' (cpV S s sp n k).1.1 h s x (cpV S s sp n k).2 k
  | 0, _, S, ρ, M, _, _, _ => ⟨ρ, Ag.rf, Nat.le_refl _, M, trivial⟩
  | n + 1, k, S, ρ, M, g, x0, xb => by
    have gk : GG ρ S.1 (leK sp k) (x + nI k).toInt := by rw [addI x0 (by omega)]; exact g.k _
    obtain ⟨ρ1, a1, a2, M1, v1⟩ := rdL_sp (o := s) M (nrm_G M.1 gk)
    obtain ⟨ρ2, b1, b2, M2, v2⟩ := cpV_sp n (k + 1) M1 (g.ext a1 a2) x0 (by omega)
    exact ⟨ρ2, a1.tr b1 a2, Nat.le_trans a2 b2, M2, v1.ext b1 b2, v2⟩
theorem cpU_sp {s d : Nat} {dp : LE} {x y : Int32} {h : Hp} (y0 : 0 ≤ y.toInt) : ∀ {l : List LE} {k : Nat} {S S' : Sx} {ρ : Nat → Int}, Mo rg ws h0 ρ S (hCL h s x d y (nI k)) → GG ρ S.1 dp y.toInt → vsL ρ S.1 h s x l k → y.toInt + k + l.length ≤ 4000 → cpU ws d dp S l k = some S' → S'.1 = S.1 ∧ Mo rg ws h0 ρ S' (hCL h s x d y (nI (k + l.length)))
  | [], k, S, S', ρ, M, _, _, _, q => by cases q; exact ⟨rfl, M⟩
  | e :: r, k, S, S', ρ, M, g, v, hb, q => by
    unfold cpU at q
    split at q
    · rename_i S1 hS1
      simp only [List.length_cons] at hb
      have gk : GG ρ S.1 (leK dp k) (y + nI k).toInt := by rw [addI y0 (by omega)]; exact g.k _
      obtain ⟨e1, M1⟩ := wrL_sp M (nrm_G M.1 gk) v.1 hS1
      rw [← hCL_s (m := k) y0 (by omega)] at M1
      obtain ⟨e2, M2⟩ := cpU_sp y0 (k := k + 1) M1 (by rw [e1]; exact g) (by rw [e1]; exact v.2) (by omega) q
      refine ⟨e2.trans e1, ?_⟩
      rw [show k + (e :: r).length = k + 1 + r.length by simp; omega]
      exact M2
    · cases q
theorem axCp_sp (hX : ∀ (s d : Nat) (x y z : Int32) (r : List Value) (h' : Hp), sc = .int z :: .int y :: .ref d :: .int x :: .ref s :: r → d < 1000 → s < 1000 → cpG x y z (oP s) (oP d) → (oK d = 0 ∧ oK s = 0 ∧ h' = hC h s x d y z ∨ oK d = 1 ∧ oK s = 1 ∧ h' = hCL h s x d y z) → X (pc + 3, lc, r, h') → X (pc, lc, sc, h)) (M : Mo rg ws h0 ρ S h) (hL : LR ρ S.1 ls lc) (hS : SR ρ S.1 st sc) (hx : axCp rg ws pc S ls st = some L) (K : Kn rg ws h0 ρ S.1 X L) : X (pc, lc, sc, h) := by
  unfold axCp at hx
  split at hx
  · rename_i n0 dp0 d q1 sp0 s q2 t0
    replace hS := hS.j
    obtain ⟨z, r, rfl, g3, hS⟩ := hS
    replace hS := hS.j
    obtain ⟨y, r, rfl, g2, hS⟩ := hS
    replace hS := hS.rr
    obtain ⟨r, rfl, hS⟩ := hS
    replace hS := hS.j
    obtain ⟨x, r, rfl, g1, hS⟩ := hS
    replace hS := hS.rr
    obtain ⟨r, rfl, hS⟩ := hS
    obtain ⟨F, Kc, R, W⟩ := M
    split at hx
    · rename_i hq
      simp only [Bool.and_eq_true] at hq
      obtain ⟨⟨hd, hs⟩, hc⟩ := hq
      obtain ⟨c1, c2, c3, c4⟩ := cp_sp F g1 g2 g3 hc
      split at hx
      · rename_i hk
        simp only [Bool.and_eq_true] at hk
        split at hx
        · rename_i hw
          cases hx
          simp only [Bool.and_eq_true, List.all_eq_true] at hw
          refine hX s d x y z r _ rfl (bltT hd) (bltT hs) c1 (Or.inl ⟨beqT hk.1, beqT hk.2, rfl⟩) (kS (S' := (S.1, S.2.1, cpR S sp0 dp0 n0 s d ++ kpL S.2.1 [(0, d, I64lo, I64hi)] S.2.2)) rfl ⟨F, ?_, ?_, ?_⟩ hL hS K)
          · intro c hc
            rcases List.mem_append.mp hc with hc | hc
            · exact cpR_sp F Kc g1 g2 g3 hc
            refine kpL_sp (h' := hC h s x d y z) F Kc ⟨fun o j hn => ?_, fun o j hn => rfl, rfl⟩ c hc
            show (if o = d ∧ y ≤ j ∧ j < y + z then _ else h.1 o j) = _
            rw [if_neg]
            rintro ⟨rfl, -⟩
            exact hn ⟨_, List.mem_cons_self, rfl, rfl, by show I64lo ≤ j.toInt; have := i32b j; simp only [I32lo] at this; show -9223372036854775808 ≤ j.toInt; omega, by have := i32b j; simp only [I32hi] at this; show j.toInt ≤ 9223372036854775807; omega⟩
          · intro q hq j' k k0 k1 hj
            have hne : q.1 ≠ d := nbeq (by simpa using hw.2 q hq)
            have hR := R q hq j' k k0 k1 hj
            rw [hC_rowne hne]
            exact hR
          · refine ⟨fun o j hn => ?_, W.2.1, W.2.2⟩
            show (if o = d ∧ y ≤ j ∧ j < y + z then _ else h.1 o j) = _
            rw [if_neg]
            · exact W.1 o j hn
            · rintro ⟨rfl, q⟩
              rw [rng c2 c3 c4] at q
              exact hn (cpW F g2 g3 hw.1 j q.1 q.2)
        · cases hx
      · split at hx
        · rename_i hk
          simp only [Bool.and_eq_true] at hk
          split at hx
          · rename_i hn
            simp only [Bool.and_eq_true] at hn
            have p0 := ile_le hn.1.2
            have p1 := ile_le hn.2
            have g3n := nrm_G F g3
            generalize nrm S.2.1 n0 = nn at hn p0 p1 g3n hx
            have hz : z.toInt = nn.1 := by rw [← g3n.2]; simp [leV, show nn.2 = [] by simpa using hn.1.1, leT]
            dsimp only at hx
            split at hx
            · rename_i S' hS'
              cases hx
              have M0 : Mo rg ws h0 ρ S h := ⟨F, Kc, R, W⟩
              obtain ⟨q0, q1⟩ := cp_src F g1 g3 hc
              obtain ⟨ρ1, a1, a2, M1, hv⟩ := cpV_sp (s := s) nn.1.toNat 0 M0 g1 q0 (by omega)
              have hzn : z = nI (0 + nn.1.toNat) := Int32.toInt_inj.mp (by rw [hz, nI_i (by omega)]; omega)
              rw [← hCL_z (h := h) (s := s) (d := d) (x := x) (y := y) c2 (by omega)] at M1
              obtain ⟨s1, M2⟩ := cpU_sp (k := 0) c2 M1 (g2.ext a1 a2) hv (by rw [cpV_len]; omega) hS'
              rw [cpV_len, ← hzn] at M2
              have le2 : S.1 ≤ S'.1 := by rw [s1]; exact a2
              exact hX s d x y z r _ rfl (bltT hd) (bltT hs) c1 (Or.inr ⟨beqT hk.1, beqT hk.2, rfl⟩) (K _ List.mem_cons_self ρ1 _ a1 le2 ⟨M2, rfl, hL.ext a1 le2, hS.ext a1 le2⟩)
            · cases hx
          split at hx
          · rename_i hw
            cases hx
            refine hX s d x y z r _ rfl (bltT hd) (bltT hs) c1 (Or.inr ⟨beqT hk.1, beqT hk.2, rfl⟩) (kS (S' := (S.1, S.2.1, kpL S.2.1 [(1, d, I64lo, I64hi)] S.2.2)) rfl ⟨F, ?_, R, ?_⟩ hL hS K)
            · refine kpL_sp F Kc ⟨fun o j hn => rfl, fun o j hn => ?_, rfl⟩
              show (if o = d ∧ y ≤ j ∧ j < y + z then _ else h.2.1 o j) = _
              rw [if_neg]
              rintro ⟨rfl, -⟩
              exact hn ⟨_, List.mem_cons_self, rfl, rfl, by have := i32b j; simp only [I32lo] at this; show -9223372036854775808 ≤ j.toInt; omega, by have := i32b j; simp only [I32hi] at this; show j.toInt ≤ 9223372036854775807; omega⟩
            · refine ⟨W.1, fun o j hn => ?_, W.2.2⟩
              show (if o = d ∧ y ≤ j ∧ j < y + z then _ else h.2.1 o j) = _
              rw [if_neg]
              · exact W.2.1 o j hn
              · rintro ⟨rfl, q⟩
                rw [rng c2 c3 c4] at q
                exact hn (cpW F g2 g3 hw j q.1 q.2)
          · cases hx
        · cases hx
    · cases hx
  · cases hx
theorem ubF_sp (M : Mo rg ws h0 ρ S h) {D : Db} (F : Fa ρ S.1 D) {u c : Kc} (hu : kcO ρ S.1 h u) (hc : kcO ρ S.1 h c) : ∀ q ∈ ubF S D u c, leS S.1 q ∧ 0 ≤ leV ρ q := by
  intro q hq
  unfold ubF at hq
  split at hq
  case isFalse => cases hq
  rename_i h14
  obtain ⟨uk, uo, ui, ue⟩ := u
  obtain ⟨ck, co, cx, cy⟩ := c
  simp only [Bool.and_eq_true] at h14
  obtain ⟨g1, g2, g3⟩ := h14
  obtain rfl : ck = 14 := Nat.eq_of_beq_eq_true g1
  obtain rfl : uk = 0 := Nat.eq_of_beq_eq_true g2
  obtain rfl : uo = ubR co := Nat.eq_of_beq_eq_true g3
  obtain ⟨-, ky, b, s, n, c1, w, c2, hd, K⟩ := hc
  obtain ⟨ui', ue', ju, j1, j2⟩ := hu
  dsimp only at hq hd K ky ui' ue' j1 j2
  rw [hd] at hq
  dsimp only at hq
  split at hq
  case h_2 => cases hq
  rename_i e0 N1 he0 hN1
  obtain ⟨s0, v0⟩ := rlE_sp (ρ := ρ) he0 ui'
  split at hq
  case isFalse => cases hq
  rename_i gg
  simp only [Bool.and_eq_true, Bool.not_eq_true'] at gg
  obtain ⟨w1, p1, p2, p3⟩ := gg
  have w1 := nbeq w1
  have p1 := en_sp F p1
  have p2 := en_sp F p2
  have p3 := en2_sp F p3
  rw [leV_K, leV_sc] at p2
  rw [leV_K, leV_sub, kcR M hN1 (leV_C ρ c1)] at p3
  have U := K (leV ρ e0) p1 (by omega) (by omega)
  have ev : leV ρ ue = rlV h 0 (ubR co) (b + s * leV ρ e0) := by
    rw [j2, ← v0, j1]
    show _ = (h.1 _ (Int32.ofInt ju.toInt)).toInt
    rw [Int32.ofInt_toInt]
  rw [← ev] at U
  have w3 := (ubL_ok _ (List.mem_of_getElem? hd)).2.2.2.2.2.2.2.2
  dsimp only at w3
  split at hq
  · rename_i w2
    have U := U.2.2.1 (Nat.eq_of_beq_eq_true w2)
    rcases List.mem_cons.mp hq with rfl | hq
    · exact ⟨ue', U.1⟩
    rcases List.mem_cons.mp hq with rfl | hq
    · exact ⟨leS_sub ky ue', by rw [leV_sub]; omega⟩
    cases hq
  · rename_i w2
    have w2 : w ≠ 2 := fun z => w2 (by rw [z]; rfl)
    split at hq
    case h_2 => cases hq
    rename_i N2 hN2
    have s2 := (M.2.1 _ (kcF_sp hN2)).2.1
    split at hq
    case isFalse => cases hq
    rename_i p
    rcases List.mem_cons.mp hq with rfl | hq
    · refine ⟨leS_K (leS_sub s2 ue'), ?_⟩
      rw [leV_K, leV_sub, kcR M hN2 (leV_C ρ c2)]
      rw [Bool.or_eq_true] at p
      rcases (show w = 0 ∨ w = 3 by omega) with z | z
      · have := U.1 z
        omega
      · rcases p with p | p
        · have := Nat.eq_of_beq_eq_true p
          omega
        · have p := en_sp F p
          rw [leV_K, leV_sc] at p
          have := U.2.2.2 z
          omega
    cases hq
theorem ubN_sp (M : Mo rg ws h0 ρ S h) {D : Db} (F : Fa ρ S.1 D) {u c : Kc} (hu : kcO ρ S.1 h u) (hc : kcO ρ S.1 h c) (g : ubN S D u c = true) : leV ρ u.2.2.2 ≠ 0 := by
  unfold ubN at g
  obtain ⟨uk, uo, ui, ue⟩ := u
  obtain ⟨ck, co, cx, cy⟩ := c
  simp only [Bool.and_eq_true] at g
  obtain ⟨g1, g2, g3, g⟩ := g
  obtain rfl : ck = 14 := Nat.eq_of_beq_eq_true g1
  obtain rfl : uk = 0 := Nat.eq_of_beq_eq_true g2
  obtain rfl : uo = ubR co := Nat.eq_of_beq_eq_true g3
  obtain ⟨-, ky, b, s, n, c1, w, c2, hd, K⟩ := hc
  obtain ⟨ui', ue', ju, j1, j2⟩ := hu
  dsimp only at g hd K ky ui' ue' j1 j2 ⊢
  rw [hd] at g
  dsimp only at g
  split at g
  case h_2 => cases g
  rename_i e0 N1 he0 hN1
  obtain ⟨s0, v0⟩ := rlE_sp (ρ := ρ) he0 ui'
  simp only [Bool.and_eq_true] at g
  obtain ⟨w1, p1, p2, p3⟩ := g
  have p1 := en_sp F p1
  have p2 := en_sp F p2
  have p3 := en2_sp F p3
  rw [leV_K, leV_sc] at p2
  rw [leV_K, leV_sub, kcR M hN1 (leV_C ρ c1)] at p3
  have U := (K (leV ρ e0) p1 (by omega) (by omega)).2.1 (Nat.eq_of_beq_eq_true w1)
  have ev : leV ρ ue = rlV h 0 (ubR co) (b + s * leV ρ e0) := by
    rw [j2, ← v0, j1]
    show _ = (h.1 _ (Int32.ofInt ju.toInt)).toInt
    rw [Int32.ofInt_toInt]
  rw [ev]
  exact U
theorem ubA_sp {n : Nat} : ∀ {l : List LE} {D : Db}, Fa ρ n D → (∀ q ∈ l, leS n q ∧ 0 ≤ leV ρ q) → Fa ρ n (ubA D l)
  | [], _, F, _ => F
  | q :: r, D, F, H => by
    obtain ⟨D', h1, F'⟩ := adG_sp F (H q List.mem_cons_self).1 (H q List.mem_cons_self).2
    unfold ubA
    rw [h1]
    exact ubA_sp F' (fun q hq => H q (List.mem_cons_of_mem _ hq))
theorem ubD_sp (M : Mo rg ws h0 ρ S h) {u : Kc} (hu : kcO ρ S.1 h u) : ∀ {l : List Kc} {D : Db}, (∀ c ∈ l, kcO ρ S.1 h c) → Fa ρ S.1 D → Fa ρ S.1 (ubD S u l D)
  | [], _, _, F => F
  | c :: r, D, H, F => by
    unfold ubD
    exact ubD_sp M hu (fun c hc => H c (List.mem_cons_of_mem _ hc)) (ubA_sp F (ubF_sp M F hu (H c List.mem_cons_self)))
theorem ubS_sp (M : Mo rg ws h0 ρ S h) : ∃ S' ∈ ubS S, S'.1 = S.1 ∧ Mo rg ws h0 ρ S' h := by
  unfold ubS
  split
  · rename_i u u2 r hS
    have hu := M.2.1 u (by rw [hS]; exact List.mem_cons_self)
    have hu2 := M.2.1 u2 (by rw [hS]; exact List.mem_cons_of_mem _ List.mem_cons_self)
    dsimp only
    have FD : Fa ρ S.1 (ubD S u2 S.2.2 (ubD S u S.2.2 S.2.1)) := ubD_sp M hu2 M.2.1 (ubD_sp M hu M.2.1 M.1)
    generalize ubD S u2 S.2.2 (ubD S u S.2.2 S.2.1) = D at FD
    have two : ∀ {v : Kc}, kcO ρ S.1 h v → leV ρ v.2.2.2 ≠ 0 → ∃ S' ∈ ((match adG D (leK v.2.2.2 (-1)) with
      | some D' => [(S.1, D', S.2.2)]
      | none => []) ++ (match adG D (leK (leSc (-1) v.2.2.2) (-1)) with
      | some D' => [(S.1, D', S.2.2)]
      | none => []) : List Sx), S'.1 = S.1 ∧ Mo rg ws h0 ρ S' h := fun {v} hv hne => by
      rcases (show 0 < leV ρ v.2.2.2 ∨ leV ρ v.2.2.2 < 0 by omega) with q | q
      · obtain ⟨D', h1, F'⟩ := adG_sp FD (e := leK v.2.2.2 (-1)) (leS_K hv.2.1) (by rw [leV_K]; omega)
        rw [h1]
        exact ⟨_, List.mem_append_left _ List.mem_cons_self, rfl, M.db F'⟩
      · obtain ⟨D', h1, F'⟩ := adG_sp FD (e := leK (leSc (-1) v.2.2.2) (-1)) (leS_K (leS_sc hv.2.1)) (by rw [leV_K, leV_sc]; omega)
        rw [h1]
        exact ⟨_, List.mem_append_right _ List.mem_cons_self, rfl, M.db F'⟩
    split
    · rename_i g
      obtain ⟨c, hc, g⟩ := List.any_eq_true.mp g
      exact two hu (ubN_sp M FD hu (M.2.1 c hc) g)
    · split
      · rename_i g
        obtain ⟨c, hc, g⟩ := List.any_eq_true.mp g
        exact two hu2 (ubN_sp M FD hu2 (M.2.1 c hc) g)
      · exact ⟨_, List.mem_cons_self, rfl, M.db FD⟩
  · exact ⟨_, List.mem_cons_self, rfl, M⟩
theorem kUB {R : Sx × LE} {x : Int32} {pc' : Nat} {r : List AV} {sr : List Value} (q : RS rg ws h0 h ρ S R x.toInt) (hL : LR ρ S.1 ls lc) (hS : SR ρ S.1 r sr) (K : Kn rg ws h0 ρ S.1 X (ubK R pc' ls r)) : X (pc', lc, .int x :: sr, h) := by
  obtain ⟨ρ', g, hn, M, e⟩ := q
  unfold ubK at K
  split at K
  · obtain ⟨S', hS', e1, M'⟩ := ubS_sp M
    exact K _ (List.mem_map.mpr ⟨S', hS', rfl⟩) ρ' _ g (by show S.1 ≤ S'.1; rw [e1]; exact hn) ⟨M', rfl, by show LR ρ' S'.1 _ _; rw [e1]; exact hL.ext g hn, ⟨_, _, rfl, ⟨x, rfl, by show GG ρ' S'.1 _ _; rw [e1]; exact e⟩, by show SR ρ' S'.1 _ _; rw [e1]; exact hS.ext g hn⟩⟩
  · exact K _ List.mem_cons_self ρ' _ g hn ⟨M, rfl, hL.ext g hn, ⟨_, _, rfl, ⟨x, rfl, e⟩, hS.ext g hn⟩⟩
theorem kPI {p : Nat} {x : Int32} {R : Sx × LE} {r : List AV} {sr : List Value} (q : RS rg ws h0 h ρ S R x.toInt) (hL : LR ρ S.1 ls lc) (hS : SR ρ S.1 r sr) (hx : pI R p ls r = some L) (K : Kn rg ws h0 ρ S.1 X L) : X (p, lc, .int x :: sr, h) := by
  cases hx; exact kI q hL hS K
theorem kPL {p : Nat} {x : Int64} {R : Sx × LE} {r : List AV} {sr : List Value} (q : RS rg ws h0 h ρ S R x.toInt) (hL : LR ρ S.1 ls lc) (hS : SR ρ S.1 r sr) (hx : pL R p ls r = some L) (K : Kn rg ws h0 ρ S.1 X L) : X (p, lc, .long x :: sr, h) := by
  cases hx; exact kL q hL hS K
theorem ax_sp (hX : ∀ (G : Prop) (z' : Cf), stI i a b v w sw pc lc sc h = some (G, z') → G → X z' → X (pc, lc, sc, h)) (M : Mo rg ws h0 ρ S h) (hL : LR ρ S.1 ls lc) (hS : SR ρ S.1 st sc) (hx : ax rg ws i a b v w sw pc S ls st = some L) (K : Kn rg ws h0 ρ S.1 X L) : X (pc, lc, sc, h) := by
  have tp : ∀ x : Int32, RS rg ws h0 h ρ S (topI S I32lo I32hi) x.toInt := fun x => topI_sp M (i32b x).1 (i32b x).2
  have tq : ∀ x : Int64, RS rg ws h0 h ρ S (topI S I64lo I64hi) x.toInt := fun x => topI_sp M (i64b x).1 (i64b x).2
  have cI : ∀ x : Int32, RS rg ws h0 h ρ S (S, leC x.toInt) x.toInt := fun x => RS.rf M GG.c
  have cL : ∀ x : Int64, RS rg ws h0 h ρ S (S, leC x.toInt) x.toInt := fun x => RS.rf M GG.c
  rw [ax_O] at hx
  unfold axO at hx
  split at hx
  · exact ld_sp (fun v hv ⟨e, he⟩ x => hX True _ (by obtain ⟨y, rfl, -⟩ := he; show fLdI _ _ _ _ _ _ = _; unfold fLdI; rw [hv]) trivial x) M hL hS hx K
  · exact ld_sp (fun v hv ⟨e, he⟩ x => hX True _ (by obtain ⟨y, rfl, -⟩ := he; show fLdI _ _ _ _ _ _ = _; unfold fLdI; rw [hv]) trivial x) M hL hS hx K
  · exact ld_sp (fun v hv ⟨e, he⟩ x => hX True _ (by obtain ⟨y, rfl, -⟩ := he; show fLdA _ _ _ _ _ _ = _; unfold fLdA; rw [hv]) trivial x) M hL hS hx K
  · exact ld_sp (fun v hv ⟨e, he⟩ x => hX True _ (by obtain ⟨y, rfl, -⟩ := he; show fLdA _ _ _ _ _ _ = _; unfold fLdA; rw [hv]) trivial x) M hL hS hx K
  · exact ld_sp (fun v hv ⟨e, he⟩ x => hX True _ (by obtain ⟨y, rfl, -⟩ := he; show fLdL _ _ _ _ _ _ = _; unfold fLdL; rw [hv]) trivial x) M hL hS hx K
  · exact ld_sp (fun v hv ⟨e, he⟩ x => hX True _ (by obtain ⟨y, rfl, -⟩ := he; show fLdL _ _ _ _ _ _ = _; unfold fLdL; rw [hv]) trivial x) M hL hS hx K
  · unfold axIs at hx
    split at hx
    · replace hS := hS.j
      obtain ⟨x, r, rfl, g, hS⟩ := hS
      exact st_sp (fun z' hz k => hX True _ hz trivial k) Ag.rf (Nat.le_refl _) M hL hS g hx K
    · cases hx
  · unfold axIs at hx
    split at hx
    · replace hS := hS.j
      obtain ⟨x, r, rfl, g, hS⟩ := hS
      exact st_sp (fun z' hz k => hX True _ hz trivial k) Ag.rf (Nat.le_refl _) M hL hS g hx K
    · cases hx
  · exact hX True _ rfl trivial (kPI (cI v) hL hS hx K)
  · exact hX True _ rfl trivial (kPI (cI v) hL hS hx K)
  · exact hX True _ rfl trivial (kPI (cI v) hL hS hx K)
  · exact hX True _ rfl trivial (kPL (cL w) hL hS hx K)
  · split at hx
    · rename_i ha
      exact hX True _ (by show (if a = 0 then _ else _) = _; rw [if_pos ha]) trivial (kPI (cI v) hL hS hx K)
    · rename_i ha
      cases hx
      exact hX True _ (by show (if a = 0 then _ else _) = _; rw [if_neg ha]) trivial (kS rfl M hL (SR.cons (a := (2, (Int.ofNat a, []))) ⟨a, rfl, rfl⟩ hS) K)
  · exact hX True _ rfl trivial (kPI (cI v) hL hS hx K)
  · exact hX True _ rfl trivial (kPL (cL w) hL hS hx K)
  · exact axB_sp (j := .iadd) (f := fun x y => x + y) M hL hS (fun e1 e2 x y R g1 g2 hb => ⟨(bo_sp M g1 g2 hb).1 rfl, fun r hr k => by subst hr; exact hX True _ rfl trivial k⟩) (fun e1 e2 x y R g1 g2 _ => exv_sp M (leS_add g1.1 g2.1) (by rw [leV_add, g1.2, g2.2, Int32.toInt_add])) hx K
  · exact axB_sp (j := .isub) (f := fun x y => x - y) M hL hS (fun e1 e2 x y R g1 g2 hb => ⟨(bo_sp M g1 g2 hb).2.1 rfl, fun r hr k => by subst hr; exact hX True _ rfl trivial k⟩) (fun e1 e2 x y R g1 g2 _ => exv_sp M (leS_sub g1.1 g2.1) (by rw [leV_sub, g1.2, g2.2, Int32.toInt_sub])) hx K
  · exact axB_sp (j := .imul) (f := fun x y => x * y) M hL hS (fun e1 e2 x y R g1 g2 hb => ⟨(bo_sp M g1 g2 hb).2.2.1 rfl, fun r hr k => by subst hr; exact hX True _ rfl trivial k⟩) (fun e1 e2 x y R g1 g2 q => boV_mul M g1 g2 q) hx K
  · exact axB_sp (j := .iand) (f := fun x y => x &&& y) M hL hS (fun e1 e2 x y R g1 g2 hb => ⟨(bo_sp M g1 g2 hb).2.2.2.1 rfl, fun r hr k => by subst hr; exact hX True _ rfl trivial k⟩) (fun e1 e2 x y R g1 g2 q => opq_sp (q := 1) M g1 g2 q) hx K
  · exact axB_sp (j := .ior) (f := fun x y => x ||| y) M hL hS (fun e1 e2 x y R g1 g2 hb => ⟨(bo_sp M g1 g2 hb).2.2.2.2.1 _ (by simp), fun r hr k => by subst hr; exact hX True _ rfl trivial k⟩) (fun e1 e2 x y R g1 g2 q => boV_or M g1 g2 q) hx K
  · exact axB_sp (j := .ixor) (f := fun x y => x ^^^ y) M hL hS (fun e1 e2 x y R g1 g2 hb => ⟨(bo_sp M g1 g2 hb).2.2.2.2.1 _ (by simp), fun r hr k => by subst hr; exact hX True _ rfl trivial k⟩) (fun e1 e2 x y R g1 g2 q => opq_sp (q := 2) M g1 g2 q) hx K
  · exact axB_sp (j := .ishl) (f := fun x y => x <<< (y &&& 31)) M hL hS (fun e1 e2 x y R g1 g2 hb => ⟨(bo_sp M g1 g2 hb).2.2.2.2.1 _ (by simp), fun r hr k => by subst hr; exact hX True _ rfl trivial k⟩) (fun e1 e2 x y R g1 g2 q => opq_sp (q := 3) M g1 g2 q) hx K
  · exact axB_sp (j := .ishr) (f := fun x y => x >>> (y &&& 31)) M hL hS (fun e1 e2 x y R g1 g2 hb => ⟨(bo_sp M g1 g2 hb).2.2.2.2.1 _ (by simp), fun r hr k => by subst hr; exact hX True _ rfl trivial k⟩) (fun e1 e2 x y R g1 g2 q => opq_sp (q := 4) M g1 g2 q) hx K
  · exact axB_sp (j := .iushr) (f := fun x y => (x.toUInt32 >>> (y.toUInt32 &&& Int32.toUInt32 31)).toInt32) M hL hS (fun e1 e2 x y R g1 g2 hb => ⟨(bo_sp M g1 g2 hb).2.2.2.2.1 _ (by simp), fun r hr k => by subst hr; exact hX True _ rfl trivial k⟩) (fun e1 e2 x y R g1 g2 q => opq_sp (q := 5) M g1 g2 q) hx K
  · exact axB_sp (j := .idiv) (f := fun x y => x / y) M hL hS (fun e1 e2 x y R g1 g2 hb => ⟨(bo_sp M g1 g2 hb).2.2.2.2.1 _ (by simp), fun r hr k => by subst hr; exact hX _ _ rfl ((bo_sp M g1 g2 hb).2.2.2.2.2.2 (Or.inl rfl)) k⟩) (fun e1 e2 x y R g1 g2 q => opq_sp (q := 7) M g1 g2 q) hx K
  · exact axB_sp (j := .irem) (f := fun x y => x - x / y * y) M hL hS (fun e1 e2 x y R g1 g2 hb => ⟨(bo_sp M g1 g2 hb).2.2.2.2.2.1 rfl, fun r hr k => by subst hr; exact hX _ _ rfl ((bo_sp M g1 g2 hb).2.2.2.2.2.2 (Or.inr rfl)) k⟩) (fun e1 e2 x y R g1 g2 q => boV_rem M g1 g2 q) hx K
  · split at hx
    · replace hS := hS.j
      obtain ⟨x, r, rfl, g, hS⟩ := hS
      refine hX True _ rfl trivial (kPI (exa_sp M (leS_sc g.1) (fun q1 q2 => ?_)) hL hS hx K)
      rw [leV_sc, g.2] at q1 q2 ⊢
      rw [Int32.toInt_neg, b32] <;> omega
    · cases hx
  · split at hx
    · replace hS := hS.j
      obtain ⟨x, r, rfl, g, hS⟩ := hS
      refine hX True _ rfl trivial (kPI (ex8_sp M g.1 ?_) hL hS hx K)
      rw [Int8.toInt_toInt32, g.2, Int32.toInt_toInt8]
    · cases hx
  · split at hx
    · replace hS := hS.j
      obtain ⟨x, r, rfl, g, hS⟩ := hS
      refine hX True _ rfl trivial (kPI (ex16_sp M g.1 ?_) hL hS hx K)
      rw [Int16.toInt_toInt32, g.2, Int32.toInt_toInt16]
    · cases hx
  · split at hx
    · replace hS := hS.j
      obtain ⟨x, r, rfl, g, hS⟩ := hS
      have e : ((x.toUInt32 % 65536).toInt32).toInt = ((x.toUInt32.toNat % 65536 : Nat) : Int) := by
        have : (x.toUInt32 % 65536).toNat = x.toUInt32.toNat % 65536 := by rw [UInt32.toNat_mod]; rfl
        show ((x.toUInt32 % 65536).toBitVec).toInt = _
        have e2 : (x.toUInt32 % 65536).toBitVec.toNat = x.toUInt32.toNat % 65536 := this
        rw [BitVec.toInt_eq_toNat_cond, e2, if_pos (by omega)]
      refine hX True _ rfl trivial (kPI (topI_sp M ?_ ?_) hL hS hx K)
      · rw [e]; omega
      · rw [e]; omega
    · cases hx
  · split at hx
    · replace hS := hS.j
      obtain ⟨x, r, rfl, g, hS⟩ := hS
      exact hX True _ rfl trivial (kPL (x := x.toInt64) (RS.rf M (by rw [Int32.toInt_toInt64]; exact g)) hL hS hx K)
    · cases hx
  · split at hx
    · replace hS := hS.l
      obtain ⟨x, r, rfl, g, hS⟩ := hS
      refine hX True _ rfl trivial (kPI (exi_sp M g.1 ?_) hL hS hx K)
      rw [g.2, Int64.toInt_toInt32]
    · cases hx
  · split at hx
    · replace hS := hS.l
      obtain ⟨y, r, rfl, g2, hS⟩ := hS
      replace hS := hS.l
      obtain ⟨x, r, rfl, g1, hS⟩ := hS
      refine hX True _ rfl trivial (kPL (exw_sp M (leS_add g1.1 g2.1) ?_) hL hS hx K)
      rw [leV_add, g1.2, g2.2, Int64.toInt_add]
    · cases hx
  · split at hx
    · replace hS := hS.l
      obtain ⟨y, r, rfl, g2, hS⟩ := hS
      replace hS := hS.l
      obtain ⟨x, r, rfl, g1, hS⟩ := hS
      refine hX True _ rfl trivial (kPL (exw_sp M (leS_sub g1.1 g2.1) ?_) hL hS hx K)
      rw [leV_sub, g1.2, g2.2, Int64.toInt_sub]
    · cases hx
  · split at hx
    · replace hS := hS.l
      obtain ⟨y, r, rfl, g2, hS⟩ := hS
      replace hS := hS.l
      obtain ⟨x, r, rfl, g1, hS⟩ := hS
      exact hX True _ rfl trivial (kPL (lmu_sp M g1 g2) hL hS hx K)
    · cases hx
  · split at hx
    · replace hS := hS.j
      obtain ⟨y, r, rfl, g2, hS⟩ := hS
      replace hS := hS.l
      obtain ⟨x, r, rfl, g1, hS⟩ := hS
      exact hX True _ rfl trivial (kPL (exs_sp M g1 g2) hL hS hx K)
    · cases hx
  · split at hx
    · replace hS := hS.j
      obtain ⟨y, r, rfl, g2, hS⟩ := hS
      replace hS := hS.l
      obtain ⟨x, r, rfl, g1, hS⟩ := hS
      exact hX True _ rfl trivial (kPL (exr_sp M g1 g2) hL hS hx K)
    · cases hx
  · split at hx
    · replace hS := hS.l
      obtain ⟨y, r, rfl, g2, hS⟩ := hS
      replace hS := hS.l
      obtain ⟨x, r, rfl, g1, hS⟩ := hS
      cases hx
      exact hX True _ rfl trivial (kS rfl M hL (SR.cons (a := (3, _)) ⟨x, y, rfl, g1.sub g2⟩ hS) K)
    · cases hx
  · split at hx
    · rename_i k q e hk
      obtain ⟨x, hv, g⟩ := hL.j hk
      have hR := exa_sp M (e := leK e v.toInt) (v := x + v) (leS_K g.1) (fun q1 q2 => by
        rw [leV_K, g.2] at q1 q2 ⊢
        rw [Int32.toInt_add, b32 q1 q2])
      obtain ⟨ρ', a1, a2, a3, a4⟩ := hR
      exact st_sp (x := x + v) (fun z' hz k => hX True _ (by unfold stI; dsimp only; rw [hv]; exact hz) trivial k) a1 a2 a3 (hL.ext a1 a2) (hS.ext a1 a2) a4 hx K
    · cases hx
  · split at hx
    · replace hS := hS.j
      obtain ⟨x, r, rfl, g, hS⟩ := hS
      cases hx
      exact hX True _ fIf_e trivial (if0_sp M hL hS g K)
    · replace hS := hS.c
      obtain ⟨x, y, r, rfl, g, hS⟩ := hS
      cases hx
      by_cases hic : icF = true
      · rw [if_pos hic] at K
        exact hX True _ fIfc_e trivial (if0_sp M hL hS g K)
      · rw [if_neg hic] at K
        exact hX True _ fIfc_e trivial (if_sp M hL hS g K)
    · cases hx
  · split at hx
    · replace hS := hS.j
      obtain ⟨y, r, rfl, g2, hS⟩ := hS
      replace hS := hS.j
      obtain ⟨x, r, rfl, g1, hS⟩ := hS
      cases hx
      by_cases hic : icF = true
      · rw [if_pos hic] at K
        exact hX True _ fIc_e trivial (if0_sp M hL hS (g1.sub g2) K)
      · rw [if_neg hic] at K
        exact hX True _ fIc_e trivial (if_sp M hL hS (g1.sub g2) K)
    · cases hx
  · cases hx
    exact hX True _ rfl trivial (kS rfl M hL hS K)
  · split at hx
    · obtain ⟨x, r, rfl, g, hS⟩ := hS.r
      cases hx
      exact hX True _ rfl trivial (kS rfl M hL hS K)
    · cases hx
  · split at hx
    · obtain ⟨x, r, rfl, g, hS⟩ := hS.r
      cases hx
      exact hX True _ rfl trivial (kS rfl M hL hS K)
    · cases hx
  · split at hx
    · rename_i x q0 t0
      replace hS := hS.rr
      obtain ⟨r, rfl, hS⟩ := hS
      split at hx
      · rename_i hc
        split at hx
        · rename_i c hf
          exact hX True _ (by simp only [stI, fGf, gfv, hc, if_true, hf]) trivial (kPI (cI c) hL hS hx K)
        · rename_i c hf
          cases hx
          exact hX True _ (by simp only [stI, fGf, gfv, hc, if_true, hf]) trivial (kS rfl M hL (SR.cons (a := (2, (Int.ofNat c, []))) ⟨c, rfl, rfl⟩ hS) K)
        · rename_i hf
          exact hX True _ (by simp only [stI, fGf, gfv, hc, if_true, hf]) trivial (kPI (rdI_sp M GG.c) hL hS hx K)
        · cases hx
      · cases hx
    · cases hx
  · split at hx
    · rename_i e0 x q0 t0
      replace hS := hS.j
      obtain ⟨y, r, rfl, g2, hS⟩ := hS
      replace hS := hS.rr
      obtain ⟨r, rfl, hS⟩ := hS
      split at hx
      · rename_i hc
        split at hx
        · rename_i hf
          split at hx
          · rename_i hz
            split at hx
            · rename_i S' hw
              cases hx
              obtain ⟨n1, M1⟩ := wrI_sp M GG.c g2 hw
              refine hX (pfG a b y) _ (by simp only [stI, fPf, hc, if_true, hf]) ?_ (kS n1 M1 hL hS K)
              unfold pfG
              split
              · rename_i hzf
                rw [hzf] at hz
                simp only [Bool.not_true, Bool.false_or, Bool.and_eq_true] at hz
                have e1 := en_sp M.1 hz.1
                have e2 := en_sp M.1 hz.2
                rw [g2.2] at e1
                rw [leV_K, leV_sc, g2.2] at e2
                rcases (show y.toInt = 0 ∨ y.toInt = 1 by omega) with q | q
                · exact Or.inl (Int32.toInt_inj.mp q)
                · exact Or.inr (Int32.toInt_inj.mp q)
              · trivial
            · cases hx
          · cases hx
        · cases hx
      · cases hx
    · cases hx
  · cases hx
    exact hX True _ rfl trivial (kS rfl M hL (SR.cons (a := (2, (Int.ofNat a, []))) ⟨a, rfl, rfl⟩ hS) K)
  · split at hx
    · rename_i x q0 t0
      replace hS := hS.rr
      obtain ⟨r, rfl, hS⟩ := hS
      split at hx
      · rename_i hc
        have st0 : ∀ t, aln h x = t → stI .arraylength a b v w sw pc lc (.ref x :: r) h = some (True, pc + 1, lc, .int (nI t) :: r, h) := fun t ht => by
          simp only [stI, fAl]
          rw [if_pos hc, ht]
        split at hx
        · rename_i hlt
          split at hx
          · rename_i hp
            refine hX True _ (st0 (oP x) (by unfold aln; rw [if_pos (bltT hlt)])) trivial (kPI (RS.rf M ?_) hL hS hx K)
            rw [nI_i (by have := Nat.le_of_ble_eq_true hp; omega)]
            exact GG.c
          · cases hx
        · rename_i hlt
          have hge : ¬ x < 1000 := fun q => hlt (Nat.ble_eq_true_of_le q)
          split at hx
          · rename_i h13
            cases beqT h13
            split at hx
            · rename_i e he
              split at hx
              · rename_i hp
                have gk : GG ρ S.1 e (h.2.2.1 : Int) := ⟨(M.2.1 _ (kcF_sp he)).2.1, (M.2.1 _ (kcF_sp he)).2.2⟩
                have := en_sp M.1 hp
                rw [leV_K, leV_sc, gk.2] at this
                refine hX True _ (st0 h.2.2.1 (by unfold aln; rw [if_neg hge, if_pos rfl])) trivial (kPI (RS.rf M ?_) hL hS hx K)
                rw [nI_i (by omega)]
                exact gk
              · cases hx
            · cases hx
          · rename_i h13
            have h13 : x ≠ 1300 := fun q => h13 (by rw [q]; rfl)
            refine hX True _ (st0 (roT x).length (by unfold aln; rw [if_neg hge, if_neg h13])) trivial (kPI (RS.rf M ?_) hL hS hx K)
            have : (roT x).length ≤ 6 := by
              unfold roT
              repeat' split
              all_goals decide
            rw [nI_i (by omega)]
            exact GG.c
      · cases hx
    · cases hx
  · split at hx
    · rename_i j0 x q0 t0
      replace hS := hS.j
      obtain ⟨j, r, rfl, gj, hS⟩ := hS
      replace hS := hS.rr
      obtain ⟨r, rfl, hS⟩ := hS
      split at hx
      · rename_i hc
        have st0 : ibd j (aln h x) → X (pc + 1, lc, .int (agt h x j) :: r, h) → X (pc, lc, .int j :: .ref x :: r, h) := fun q k => hX _ _ (by simp only [stI, fIal]; rw [if_pos hc]) q k
        split at hx
        · rename_i hlt
          split at hx
          · rename_i hb
            obtain ⟨b1, -, -⟩ := bdI_sp M.1 gj hb
            refine st0 (by unfold aln; rw [if_pos (bltT hlt)]; exact b1) ?_
            unfold agt
            rw [if_pos (bltT hlt)]
            split at hx
            · rename_i Lr hr
              cases hx
              split at hr
              · obtain ⟨R, hR, q⟩ := rdC_sp M (nrm_G M.1 gj) hr
                exact kUB q hL hS (fun c hc => K c (List.mem_flatMap.mpr ⟨R, hR, hc⟩))
              · cases hr
            · cases hx
              exact kUB (rdI_sp M (nrm_G M.1 gj)) hL hS K
          · cases hx
        · rename_i hlt
          have hge : ¬ x < 1000 := fun q => hlt (Nat.ble_eq_true_of_le q)
          split at hx
          · rename_i h13
            cases beqT h13
            split at hx
            · rename_i e he
              split at hx
              · rename_i hp
                simp only [Bool.and_eq_true] at hp
                have gk : GG ρ S.1 e (h.2.2.1 : Int) := ⟨(M.2.1 _ (kcF_sp he)).2.1, (M.2.1 _ (kcF_sp he)).2.2⟩
                have e1 := en_sp M.1 hp.1.1
                have e2 := en2_sp M.1 hp.1.2
                have e3 := en_sp M.1 hp.2
                rw [gj.2] at e1
                rw [leV_K, leV_sub, gk.2, gj.2] at e2
                rw [leV_K, leV_sc, gk.2] at e3
                refine st0 ?_ ?_
                · unfold aln
                  rw [if_neg hge, if_pos rfl]
                  refine ⟨ge0I.mpr e1, ?_⟩
                  rw [Int32.lt_iff_toInt_lt, nI_i (by omega)]
                  omega
                · unfold agt
                  rw [if_neg hge, if_pos rfl]
                  exact kPI (rdT_sp M gj) hL hS hx K
              · cases hx
            · cases hx
          · rename_i h13
            have h13 : x ≠ 1300 := fun q => h13 (by rw [q]; rfl)
            split at hx
            · rename_i hb
              cases hx
              obtain ⟨b1, b2, b3⟩ := bdI_sp M.1 gj hb
              refine st0 (by unfold aln; rw [if_neg hge, if_neg h13]; exact b1) ?_
              unfold agt
              rw [if_neg hge, if_neg h13]
              have hm : j.toInt = ((j.toNatClampNeg : Nat) : Int) := by
                have : j.toNatClampNeg = j.toInt.toNat := rfl
                omega
              exact tb_sp M hL hS gj (by omega) (by omega) K
            · cases hx
      · cases hx
    · cases hx
  · split at hx
    · rename_i j0 x q0 t0
      replace hS := hS.j
      obtain ⟨j, r, rfl, gj, hS⟩ := hS
      replace hS := hS.rr
      obtain ⟨r, rfl, hS⟩ := hS
      split at hx
      · rename_i hc
        simp only [Bool.and_eq_true] at hc
        refine hX _ _ (by simp only [stI, fBal]; rw [if_pos ⟨bltT hc.1.1, beqT hc.1.2⟩]) (bdI_sp M.1 gj hc.2).1 (kPI (rdI_sp M (nrm_G M.1 gj)) hL hS hx K)
      · cases hx
    · cases hx
  · split at hx
    · rename_i j0 x q0 t0
      replace hS := hS.j
      obtain ⟨j, r, rfl, gj, hS⟩ := hS
      replace hS := hS.rr
      obtain ⟨r, rfl, hS⟩ := hS
      split at hx
      · rename_i hc
        simp only [Bool.and_eq_true] at hc
        refine hX _ _ (by simp only [stI, fLal]; rw [if_pos ⟨bltT hc.1.1, beqT hc.1.2⟩]) (bdI_sp M.1 gj hc.2).1 (kPL (rdL_sp M (nrm_G M.1 gj)) hL hS hx K)
      · cases hx
    · cases hx
  · split at hx
    · rename_i e0 j0 x q0 t0
      replace hS := hS.j
      obtain ⟨y, r, rfl, gy, hS⟩ := hS
      replace hS := hS.j
      obtain ⟨j, r, rfl, gj, hS⟩ := hS
      replace hS := hS.rr
      obtain ⟨r, rfl, hS⟩ := hS
      split at hx
      · rename_i hc
        simp only [Bool.and_eq_true] at hc
        split at hx
        · rename_i S' hw
          cases hx
          obtain ⟨n1, M1⟩ := wrI_sp M (nrm_G M.1 gj) gy hw
          exact hX _ _ (by simp only [stI, fIas]; rw [if_pos ⟨bltT hc.1.1, beqT hc.1.2⟩]) (bdI_sp M.1 gj hc.2).1 (kS n1 M1 hL hS K)
        · cases hx
      · cases hx
    · cases hx
  · split at hx
    · rename_i e0 j0 x q0 t0
      replace hS := hS.j
      obtain ⟨y, r, rfl, gy, hS⟩ := hS
      replace hS := hS.j
      obtain ⟨j, r, rfl, gj, hS⟩ := hS
      replace hS := hS.rr
      obtain ⟨r, rfl, hS⟩ := hS
      split at hx
      · rename_i hc
        simp only [Bool.and_eq_true] at hc
        obtain ⟨⟨⟨⟨c1, c2⟩, c3⟩, c4⟩, c5⟩ := hc
        have e1 := en_sp M.1 c4
        have e2 := en_sp M.1 c5
        rw [gy.2] at e1
        rw [leV_K, leV_sc, gy.2] at e2
        have hB : isB y := by
          rcases (show y.toInt = 0 ∨ y.toInt = 1 by omega) with q | q
          · exact Or.inl (Int32.toInt_inj.mp q)
          · exact Or.inr (Int32.toInt_inj.mp q)
        split at hx
        · rename_i S' hw
          cases hx
          obtain ⟨n1, M1⟩ := wrI_sp M (nrm_G M.1 gj) gy hw
          exact hX (ibd j (oP x) ∧ isB y) _ (by simp only [stI, fBas]; rw [if_pos ⟨bltT c1, beqT c2⟩]) ⟨(bdI_sp M.1 gj c3).1, hB⟩ (kS n1 M1 hL hS K)
        · cases hx
      · cases hx
    · cases hx
  · split at hx
    · rename_i e0 j0 x q0 t0
      replace hS := hS.l
      obtain ⟨y, r, rfl, gy, hS⟩ := hS
      replace hS := hS.j
      obtain ⟨j, r, rfl, gj, hS⟩ := hS
      replace hS := hS.rr
      obtain ⟨r, rfl, hS⟩ := hS
      split at hx
      · rename_i hc
        simp only [Bool.and_eq_true] at hc
        split at hx
        · rename_i S' hw
          cases hx
          obtain ⟨n1, M1⟩ := wrL_sp M (nrm_G M.1 gj) gy hw
          exact hX _ _ (by simp only [stI, fLas]; rw [if_pos ⟨bltT hc.1.1, beqT hc.1.2⟩]) (bdI_sp M.1 gj hc.2).1 (kS n1 M1 hL hS K)
        · cases hx
      · cases hx
    · cases hx
  · split at hx
    · replace hS := hS.j
      obtain ⟨x, r, rfl, g, hS⟩ := hS
      cases hx
      exact hX True _ rfl trivial (kS rfl M hL (SR.cons (av_i g) (SR.cons (av_i g) hS)) K)
    · obtain ⟨x, r, rfl, g, hS⟩ := hS.r
      cases hx
      exact hX True _ rfl trivial (kS rfl M hL (SR.cons (av_r g) (SR.cons (av_r g) hS)) K)
    · cases hx
  · split at hx
    · replace hS := hS.j
      obtain ⟨x, r, rfl, g, hS⟩ := hS
      cases hx
      exact hX True _ rfl trivial (kS rfl M hL hS K)
    · obtain ⟨x, r, rfl, g, hS⟩ := hS.r
      cases hx
      exact hX True _ rfl trivial (kS rfl M hL hS K)
    · cases hx
  · split at hx
    · replace hS := hS.j
      obtain ⟨x, r, rfl, g, hS⟩ := hS
      obtain ⟨y, r, rfl, g2, hS⟩ := hS.r
      cases hx
      exact hX True _ rfl trivial (kS rfl M hL (SR.cons (av_i g) (SR.cons (av_r g2) (SR.cons (av_i g) (SR.cons (av_r g2) hS)))) K)
    · cases hx
  · split at hx
    · replace hS := hS.j
      obtain ⟨x, r, rfl, g, hS⟩ := hS
      cases hx
      exact hX True _ rfl trivial (sw_sp M M.1 hL hS g K)
    · cases hx
  · split at hx
    · replace hS := hS.j
      obtain ⟨x, r, rfl, g, hS⟩ := hS
      cases hx
      exact hX True _ rfl trivial (sw_sp M M.1 hL hS g K)
    · cases hx
  · split at hx
    · cases hx
    · rename_i ha
      split at hx
      · rename_i e2 e1 r0
        have hS0 := hS
        replace hS := hS.j
        obtain ⟨y, r1, rfl, g2, hS⟩ := hS
        replace hS := hS.j
        obtain ⟨x, r, rfl, g1, hS⟩ := hS
        split at hx
        · rename_i hc
          have hcc : Nat.ble (r.map fun v => v.category).sum 16 = true := by rw [catS_sp hS]; exact hc
          have st0 : ∀ G z', fLib a lc pc (.int y :: .int x :: r) h = some (G, z') → G → X z' → X (pc, lc, .int y :: .int x :: r, h) := fun G z' q => hX G z' (by simp only [stI]; rw [if_neg ha]; exact q)
          have hne : ¬ Nat.ble (r.map fun v => v.category).sum 16 = false := by rw [hcc]; decide
          split at hx
          · rename_i h1
            split at hx
            · cases hx
              exact st0 True _ (by simp only [fLib]; rw [if_neg hne, if_pos h1]) trivial (axMm_sp (mx := true) (v := if x < y then y else x) M g1 g2 (if_pos rfl).symm hL hS K)
            split at hx
            · rename_i R hR
              refine st0 True _ (by simp only [fLib]; rw [if_neg hne, if_pos h1]) trivial (kPI (mmx_sp M g1 g2 hR) hL hS hx K)
            · cases hx
          · rename_i h1
            split at hx
            · rename_i h2
              split at hx
              · cases hx
                exact st0 True _ (by simp only [fLib]; rw [if_neg hne, if_neg h1, if_pos h2]) trivial (axMm_sp (mx := false) (v := if y < x then y else x) M g1 g2 (if_neg (by decide)).symm hL hS K)
              split at hx
              · rename_i R hR
                refine st0 True _ (by simp only [fLib]; rw [if_neg hne, if_neg h1, if_pos h2]) trivial (kPI (mmn_sp M g1 g2 hR) hL hS hx K)
              · cases hx
            · rename_i h2
              split at hx
              · rename_i h3
                refine axCp_sp (fun s d x' y' z' r' h' e0 hd hs hg ho k => ?_) M hL hS0 hx K
                cases e0
                have hd' : d < 1000 := hd
                rcases ho with ⟨o1, o2, rfl⟩ | ⟨o1, o2, rfl⟩
                · exact st0 _ _ (by simp only [fLib]; rw [if_neg hne, if_neg h1, if_neg h2, if_pos h3, if_pos ⟨hd, hs, o1, o2⟩]) hg k
                · exact st0 _ _ (by simp only [fLib]; rw [if_neg hne, if_neg h1, if_neg h2, if_pos h3, if_neg (by rw [o1]; simp), if_pos ⟨hd, hs, o1, o2⟩]) hg k
              · cases hx
        · cases hx
      · cases hx
  · cases hx
end AX
