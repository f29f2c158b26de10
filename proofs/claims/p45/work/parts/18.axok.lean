/-! Every step of what is known is one of the small machine. -/
section AX
variable {rg : List Rg} {ws : List Wr} {h0 h : Hp} {ρ : Nat → Int} {S : Sx} {X : Cf → Prop} {i : Instr} {a b : Nat} {v : Int32} {w : Int64} {sw : List (Int32 × Nat)} {pc : Nat} {ls : List (Option AV)} {st : List AV} {lc : Lc} {sc : List Value} {L : List Cc}
theorem av_i {n : Nat} {e : LE} {x : Int32} (g : GG ρ n e x.toInt) : av ρ n (0, e) (.int x) := ⟨x, rfl, g⟩
theorem av_r {n : Nat} {e : LE} {x : Nat} (g : e = (Int.ofNat x, [])) : av ρ n (2, e) (.ref x) := ⟨x, rfl, g⟩
theorem axB_sp {j : Instr} {f : Int32 → Int32 → Int32} (M : Mo rg ws h0 ρ S h) (hL : LR ρ S.1 ls lc) (hS : SR ρ S.1 st sc) (hf : ∀ (e1 e2 : LE) (x y : Int32) (R : Sx × LE), GG ρ S.1 e1 x.toInt → GG ρ S.1 e2 y.toInt → bo j S e1 e2 = some R → RS rg ws h0 h ρ S R (f x y).toInt ∧ (∀ (r : List Value), sc = .int y :: .int x :: r → X (pc + 1, lc, .int (f x y) :: r, h) → X (pc, lc, sc, h))) (hx : axB j pc S ls st = some L) (K : Kn rg ws h0 ρ S.1 X L) : X (pc, lc, sc, h) := by
  unfold axB at hx
  split at hx
  · replace hS := hS.j
    obtain ⟨y, r, rfl, g2, hS⟩ := hS
    replace hS := hS.j
    obtain ⟨x, r, rfl, g1, hS⟩ := hS
    split at hx
    · rename_i R hR
      cases hx
      obtain ⟨q, hX⟩ := hf _ _ x y R g1 g2 hR
      exact hX r rfl (kI q hL hS K)
    · cases hx
  · cases hx
theorem cp_sp {sp dp n : LE} {x y z : Int32} {l k m : Nat} (F : Fa ρ m S.2.1) (h1 : GG ρ m sp x.toInt) (h2 : GG ρ m dp y.toInt) (h3 : GG ρ m n z.toInt) (g : cpO S.2.1 sp dp n l k = true) : cpG x y z l k ∧ 0 ≤ y.toInt ∧ 0 ≤ z.toInt ∧ y.toInt + z.toInt ≤ 4000 := by
  simp only [cpO, Bool.and_eq_true] at g
  obtain ⟨⟨⟨⟨⟨⟨g1, g2⟩, g3⟩, g4⟩, g5⟩, g6⟩, g7⟩ := g
  have e1 := en_sp F g1
  have e2 := en_sp F g2
  have e3 := en_sp F g3
  have e4 := en2_sp F g4
  have e5 := en2_sp F g5
  have e6 := Nat.le_of_ble_eq_true g6
  have e7 := Nat.le_of_ble_eq_true g7
  rw [h1.2] at e1
  rw [h2.2] at e2
  rw [h3.2] at e3
  rw [leV_K, leV_sc, leV_add, h1.2, h3.2] at e4
  rw [leV_K, leV_sc, leV_add, h2.2, h3.2] at e5
  have nl := nI_i (n := l) (by omega)
  have nk := nI_i (n := k) (by omega)
  have sl : (nI l - z).toInt = l - z.toInt := by rw [Int32.toInt_sub, nl, b32] <;> omega
  have sk : (nI k - z).toInt = k - z.toInt := by rw [Int32.toInt_sub, nk, b32] <;> omega
  refine ⟨⟨ge0I.mpr e1, ge0I.mpr e2, ge0I.mpr e3, ?_, ?_, ?_, ?_⟩, e2, e3, by omega⟩
  · rw [Int32.le_iff_toInt_le, nl]; omega
  · rw [Int32.le_iff_toInt_le, sl]; omega
  · rw [Int32.le_iff_toInt_le, nk]; omega
  · rw [Int32.le_iff_toInt_le, sk]; omega
theorem cpW {k d m : Nat} {dp n : LE} {y z : Int32} (F : Fa ρ m S.2.1) (h2 : GG ρ m dp y.toInt) (h3 : GG ρ m n z.toInt) (g : okC2 ws S.2.1 k d dp n = true) (j : Int32) (h4 : y.toInt ≤ j.toInt) (h5 : j.toInt < y.toInt + z.toInt) : inW ws k d j := by
  simp only [okC2, List.any_eq_true, Bool.and_eq_true] at g
  obtain ⟨w, hw, ⟨⟨g1, g2⟩, g3⟩, g4⟩ := g
  have e3 := en_sp F g3
  have e4 := en2_sp F g4
  rw [leV_K, h2.2] at e3
  rw [leV_K, leV_sc, leV_add, h2.2, h3.2] at e4
  exact ⟨w, hw, beqT g1, beqT g2, by omega, by omega⟩
theorem rng {y z j : Int32} (h1 : 0 ≤ y.toInt) (h2 : 0 ≤ z.toInt) (h3 : y.toInt + z.toInt ≤ 4000) : (y ≤ j ∧ j < y + z) ↔ (y.toInt ≤ j.toInt ∧ j.toInt < y.toInt + z.toInt) := by
  have : (y + z).toInt = y.toInt + z.toInt := by rw [Int32.toInt_add, b32] <;> omega
  rw [Int32.le_iff_toInt_le, Int32.lt_iff_toInt_lt, this]
theorem axCp_sp (hX : ∀ (s d : Nat) (x y z : Int32) (r : List Value) (h' : Hp), sc = .int z :: .int y :: .ref d :: .int x :: .ref s :: r → d < 1000 → s < 1000 → cpG x y z (oP s) (oP d) → (oK d = 0 ∧ oK s = 0 ∧ h' = hC h s x d y z ∨ oK d = 1 ∧ oK s = 1 ∧ h' = hCL h s x d y z) → X (pc + 3, lc, r, h') → X (pc, lc, sc, h)) (M : Mo rg ws h0 ρ S h) (hL : LR ρ S.1 ls lc) (hS : SR ρ S.1 st sc) (hx : axCp rg ws pc S ls st = some L) (K : Kn rg ws h0 ρ S.1 X L) : X (pc, lc, sc, h) := by
  unfold axCp at hx
  split at hx
  · rename_i n0 dp0 d q1 sp0 s q2 t0
    replace hS := hS.j
    obtain ⟨z, r, rfl, g3, hS⟩ := hS
    replace hS := hS.j
    obtain ⟨y, r, rfl, g2, hS⟩ := hS
    replace hS := hS.rr
    obtain ⟨r, rfl, hS⟩ := hS
    replace hS := hS.j
    obtain ⟨x, r, rfl, g1, hS⟩ := hS
    replace hS := hS.rr
    obtain ⟨r, rfl, hS⟩ := hS
    obtain ⟨F, Kc, R, W⟩ := M
    split at hx
    · rename_i hq
      simp only [Bool.and_eq_true] at hq
      obtain ⟨⟨hd, hs⟩, hc⟩ := hq
      obtain ⟨c1, c2, c3, c4⟩ := cp_sp F g1 g2 g3 hc
      split at hx
      · rename_i hk
        simp only [Bool.and_eq_true] at hk
        split at hx
        · rename_i hw
          cases hx
          simp only [Bool.and_eq_true, List.all_eq_true] at hw
          refine hX s d x y z r _ rfl (bltT hd) (bltT hs) c1 (Or.inl ⟨beqT hk.1, beqT hk.2, rfl⟩) (kS (S' := (S.1, S.2.1, kpL S.2.1 [(0, d, I64lo, I64hi)] S.2.2)) rfl ⟨F, ?_, ?_, ?_⟩ hL hS K)
          · refine kpL_sp F Kc ⟨fun o j hn => ?_, fun o j hn => rfl, rfl⟩
            show (if o = d ∧ y ≤ j ∧ j < y + z then _ else h.1 o j) = _
            rw [if_neg]
            rintro ⟨rfl, -⟩
            exact hn ⟨_, List.mem_cons_self, rfl, rfl, by show I64lo ≤ j.toInt; have := i32b j; simp only [I32lo] at this; show -9223372036854775808 ≤ j.toInt; omega, by have := i32b j; simp only [I32hi] at this; show j.toInt ≤ 9223372036854775807; omega⟩
          · intro q hq j' k k0 k1 hj
            have hne : q.1 ≠ d := nbeq (by simpa using hw.2 q hq)
            have hR := R q hq j' k k0 k1 hj
            rw [hC_rowne hne]
            exact hR
          · refine ⟨fun o j hn => ?_, W.2.1, W.2.2⟩
            show (if o = d ∧ y ≤ j ∧ j < y + z then _ else h.1 o j) = _
            rw [if_neg]
            · exact W.1 o j hn
            · rintro ⟨rfl, q⟩
              rw [rng c2 c3 c4] at q
              exact hn (cpW F g2 g3 hw.1 j q.1 q.2)
        · cases hx
      · split at hx
        · rename_i hk
          simp only [Bool.and_eq_true] at hk
          split at hx
          · rename_i hw
            cases hx
            refine hX s d x y z r _ rfl (bltT hd) (bltT hs) c1 (Or.inr ⟨beqT hk.1, beqT hk.2, rfl⟩) (kS (S' := (S.1, S.2.1, kpL S.2.1 [(1, d, I64lo, I64hi)] S.2.2)) rfl ⟨F, ?_, R, ?_⟩ hL hS K)
            · refine kpL_sp F Kc ⟨fun o j hn => rfl, fun o j hn => ?_, rfl⟩
              show (if o = d ∧ y ≤ j ∧ j < y + z then _ else h.2.1 o j) = _
              rw [if_neg]
              rintro ⟨rfl, -⟩
              exact hn ⟨_, List.mem_cons_self, rfl, rfl, by have := i32b j; simp only [I32lo] at this; show -9223372036854775808 ≤ j.toInt; omega, by have := i32b j; simp only [I32hi] at this; show j.toInt ≤ 9223372036854775807; omega⟩
            · refine ⟨W.1, fun o j hn => ?_, W.2.2⟩
              show (if o = d ∧ y ≤ j ∧ j < y + z then _ else h.2.1 o j) = _
              rw [if_neg]
              · exact W.2.1 o j hn
              · rintro ⟨rfl, q⟩
                rw [rng c2 c3 c4] at q
                exact hn (cpW F g2 g3 hw j q.1 q.2)
          · cases hx
        · cases hx
    · cases hx
  · cases hx
theorem kPI {p : Nat} {x : Int32} {R : Sx × LE} {r : List AV} {sr : List Value} (q : RS rg ws h0 h ρ S R x.toInt) (hL : LR ρ S.1 ls lc) (hS : SR ρ S.1 r sr) (hx : pI R p ls r = some L) (K : Kn rg ws h0 ρ S.1 X L) : X (p, lc, .int x :: sr, h) := by
  cases hx; exact kI q hL hS K
theorem kPL {p : Nat} {x : Int64} {R : Sx × LE} {r : List AV} {sr : List Value} (q : RS rg ws h0 h ρ S R x.toInt) (hL : LR ρ S.1 ls lc) (hS : SR ρ S.1 r sr) (hx : pL R p ls r = some L) (K : Kn rg ws h0 ρ S.1 X L) : X (p, lc, .long x :: sr, h) := by
  cases hx; exact kL q hL hS K
theorem ax_sp (hX : ∀ (G : Prop) (z' : Cf), stI i a b v w sw pc lc sc h = some (G, z') → G → X z' → X (pc, lc, sc, h)) (M : Mo rg ws h0 ρ S h) (hL : LR ρ S.1 ls lc) (hS : SR ρ S.1 st sc) (hx : ax rg ws i a b v w sw pc S ls st = some L) (K : Kn rg ws h0 ρ S.1 X L) : X (pc, lc, sc, h) := by
  have tp : ∀ x : Int32, RS rg ws h0 h ρ S (topI S I32lo I32hi) x.toInt := fun x => topI_sp M (i32b x).1 (i32b x).2
  have tq : ∀ x : Int64, RS rg ws h0 h ρ S (topI S I64lo I64hi) x.toInt := fun x => topI_sp M (i64b x).1 (i64b x).2
  have cI : ∀ x : Int32, RS rg ws h0 h ρ S (S, leC x.toInt) x.toInt := fun x => RS.rf M GG.c
  have cL : ∀ x : Int64, RS rg ws h0 h ρ S (S, leC x.toInt) x.toInt := fun x => RS.rf M GG.c
  unfold ax at hx
  split at hx
  · exact ld_sp (fun v hv ⟨e, he⟩ x => hX True _ (by obtain ⟨y, rfl, -⟩ := he; show fLdI _ _ _ _ _ _ = _; unfold fLdI; rw [hv]) trivial x) M hL hS hx K
  · exact ld_sp (fun v hv ⟨e, he⟩ x => hX True _ (by obtain ⟨y, rfl, -⟩ := he; show fLdI _ _ _ _ _ _ = _; unfold fLdI; rw [hv]) trivial x) M hL hS hx K
  · exact ld_sp (fun v hv ⟨e, he⟩ x => hX True _ (by obtain ⟨y, rfl, -⟩ := he; show fLdA _ _ _ _ _ _ = _; unfold fLdA; rw [hv]) trivial x) M hL hS hx K
  · exact ld_sp (fun v hv ⟨e, he⟩ x => hX True _ (by obtain ⟨y, rfl, -⟩ := he; show fLdA _ _ _ _ _ _ = _; unfold fLdA; rw [hv]) trivial x) M hL hS hx K
  · exact ld_sp (fun v hv ⟨e, he⟩ x => hX True _ (by obtain ⟨y, rfl, -⟩ := he; show fLdL _ _ _ _ _ _ = _; unfold fLdL; rw [hv]) trivial x) M hL hS hx K
  · exact ld_sp (fun v hv ⟨e, he⟩ x => hX True _ (by obtain ⟨y, rfl, -⟩ := he; show fLdL _ _ _ _ _ _ = _; unfold fLdL; rw [hv]) trivial x) M hL hS hx K
  · unfold axIs at hx
    split at hx
    · replace hS := hS.j
      obtain ⟨x, r, rfl, g, hS⟩ := hS
      exact st_sp (fun z' hz k => hX True _ hz trivial k) Ag.rf (Nat.le_refl _) M hL hS g hx K
    · cases hx
  · unfold axIs at hx
    split at hx
    · replace hS := hS.j
      obtain ⟨x, r, rfl, g, hS⟩ := hS
      exact st_sp (fun z' hz k => hX True _ hz trivial k) Ag.rf (Nat.le_refl _) M hL hS g hx K
    · cases hx
  · exact hX True _ rfl trivial (kPI (cI v) hL hS hx K)
  · exact hX True _ rfl trivial (kPI (cI v) hL hS hx K)
  · exact hX True _ rfl trivial (kPI (cI v) hL hS hx K)
  · exact hX True _ rfl trivial (kPL (cL w) hL hS hx K)
  · split at hx
    · rename_i ha
      exact hX True _ (by show (if a = 0 then _ else _) = _; rw [if_pos ha]) trivial (kPI (cI v) hL hS hx K)
    · rename_i ha
      cases hx
      exact hX True _ (by show (if a = 0 then _ else _) = _; rw [if_neg ha]) trivial (kS rfl M hL (SR.cons (a := (2, (Int.ofNat a, []))) ⟨a, rfl, rfl⟩ hS) K)
  · exact hX True _ rfl trivial (kPI (cI v) hL hS hx K)
  · exact hX True _ rfl trivial (kPL (cL w) hL hS hx K)
  · exact axB_sp (f := fun x y => x + y) M hL hS (fun e1 e2 x y R g1 g2 hb => ⟨(bo_sp M g1 g2 hb).1 rfl, fun r hr k => by subst hr; exact hX True _ rfl trivial k⟩) hx K
  · exact axB_sp (f := fun x y => x - y) M hL hS (fun e1 e2 x y R g1 g2 hb => ⟨(bo_sp M g1 g2 hb).2.1 rfl, fun r hr k => by subst hr; exact hX True _ rfl trivial k⟩) hx K
  · exact axB_sp (f := fun x y => x * y) M hL hS (fun e1 e2 x y R g1 g2 hb => ⟨(bo_sp M g1 g2 hb).2.2.1 rfl, fun r hr k => by subst hr; exact hX True _ rfl trivial k⟩) hx K
  · exact axB_sp (f := fun x y => x &&& y) M hL hS (fun e1 e2 x y R g1 g2 hb => ⟨(bo_sp M g1 g2 hb).2.2.2.1 rfl, fun r hr k => by subst hr; exact hX True _ rfl trivial k⟩) hx K
  · exact axB_sp (f := fun x y => x ||| y) M hL hS (fun e1 e2 x y R g1 g2 hb => ⟨(bo_sp M g1 g2 hb).2.2.2.2.1 _ (by simp), fun r hr k => by subst hr; exact hX True _ rfl trivial k⟩) hx K
  · exact axB_sp (f := fun x y => x ^^^ y) M hL hS (fun e1 e2 x y R g1 g2 hb => ⟨(bo_sp M g1 g2 hb).2.2.2.2.1 _ (by simp), fun r hr k => by subst hr; exact hX True _ rfl trivial k⟩) hx K
  · exact axB_sp (f := fun x y => x <<< (y &&& 31)) M hL hS (fun e1 e2 x y R g1 g2 hb => ⟨(bo_sp M g1 g2 hb).2.2.2.2.1 _ (by simp), fun r hr k => by subst hr; exact hX True _ rfl trivial k⟩) hx K
  · exact axB_sp (f := fun x y => x >>> (y &&& 31)) M hL hS (fun e1 e2 x y R g1 g2 hb => ⟨(bo_sp M g1 g2 hb).2.2.2.2.1 _ (by simp), fun r hr k => by subst hr; exact hX True _ rfl trivial k⟩) hx K
  · exact axB_sp (f := fun x y => (x.toUInt32 >>> (y.toUInt32 &&& Int32.toUInt32 31)).toInt32) M hL hS (fun e1 e2 x y R g1 g2 hb => ⟨(bo_sp M g1 g2 hb).2.2.2.2.1 _ (by simp), fun r hr k => by subst hr; exact hX True _ rfl trivial k⟩) hx K
  · exact axB_sp (f := fun x y => x / y) M hL hS (fun e1 e2 x y R g1 g2 hb => ⟨(bo_sp M g1 g2 hb).2.2.2.2.1 _ (by simp), fun r hr k => by subst hr; exact hX _ _ rfl ((bo_sp M g1 g2 hb).2.2.2.2.2.2 (Or.inl rfl)) k⟩) hx K
  · exact axB_sp (f := fun x y => x - x / y * y) M hL hS (fun e1 e2 x y R g1 g2 hb => ⟨(bo_sp M g1 g2 hb).2.2.2.2.2.1 rfl, fun r hr k => by subst hr; exact hX _ _ rfl ((bo_sp M g1 g2 hb).2.2.2.2.2.2 (Or.inr rfl)) k⟩) hx K
  · split at hx
    · replace hS := hS.j
      obtain ⟨x, r, rfl, g, hS⟩ := hS
      refine hX True _ rfl trivial (kPI (exa_sp M (leS_sc g.1) (fun q1 q2 => ?_)) hL hS hx K)
      rw [leV_sc, g.2] at q1 q2 ⊢
      rw [Int32.toInt_neg, b32] <;> omega
    · cases hx
  · split at hx
    · replace hS := hS.j
      obtain ⟨x, r, rfl, g, hS⟩ := hS
      refine hX True _ rfl trivial (kPI (topI_sp M ?_ ?_) hL hS hx K)
      · rw [Int8.toInt_toInt32]; have := x.toInt8.le_toInt; omega
      · rw [Int8.toInt_toInt32]; have := x.toInt8.toInt_lt; omega
    · cases hx
  · split at hx
    · replace hS := hS.j
      obtain ⟨x, r, rfl, g, hS⟩ := hS
      refine hX True _ rfl trivial (kPI (topI_sp M ?_ ?_) hL hS hx K)
      · rw [Int16.toInt_toInt32]; have := x.toInt16.le_toInt; omega
      · rw [Int16.toInt_toInt32]; have := x.toInt16.toInt_lt; omega
    · cases hx
  · split at hx
    · replace hS := hS.j
      obtain ⟨x, r, rfl, g, hS⟩ := hS
      have e : ((x.toUInt32 % 65536).toInt32).toInt = ((x.toUInt32.toNat % 65536 : Nat) : Int) := by
        have : (x.toUInt32 % 65536).toNat = x.toUInt32.toNat % 65536 := by rw [UInt32.toNat_mod]; rfl
        show ((x.toUInt32 % 65536).toBitVec).toInt = _
        have e2 : (x.toUInt32 % 65536).toBitVec.toNat = x.toUInt32.toNat % 65536 := this
        rw [BitVec.toInt_eq_toNat_cond, e2, if_pos (by omega)]
      refine hX True _ rfl trivial (kPI (topI_sp M ?_ ?_) hL hS hx K)
      · rw [e]; omega
      · rw [e]; omega
    · cases hx
  · split at hx
    · replace hS := hS.j
      obtain ⟨x, r, rfl, g, hS⟩ := hS
      exact hX True _ rfl trivial (kPL (x := x.toInt64) (RS.rf M (by rw [Int32.toInt_toInt64]; exact g)) hL hS hx K)
    · cases hx
  · split at hx
    · replace hS := hS.l
      obtain ⟨x, r, rfl, g, hS⟩ := hS
      refine hX True _ rfl trivial (kPI (exa_sp M g.1 (fun q1 q2 => ?_)) hL hS hx K)
      rw [g.2] at q1 q2 ⊢
      rw [Int64.toInt_toInt32, b32 q1 q2]
    · cases hx
  · split at hx
    · replace hS := hS.l
      obtain ⟨y, r, rfl, g2, hS⟩ := hS
      replace hS := hS.l
      obtain ⟨x, r, rfl, g1, hS⟩ := hS
      refine hX True _ rfl trivial (kPL (exl_sp M (leS_add g1.1 g2.1) (fun q1 q2 => ?_)) hL hS hx K)
      rw [leV_add, g1.2, g2.2] at q1 q2 ⊢
      rw [Int64.toInt_add, b64 q1 q2]
    · cases hx
  · split at hx
    · replace hS := hS.l
      obtain ⟨y, r, rfl, g2, hS⟩ := hS
      replace hS := hS.l
      obtain ⟨x, r, rfl, g1, hS⟩ := hS
      refine hX True _ rfl trivial (kPL (exl_sp M (leS_sub g1.1 g2.1) (fun q1 q2 => ?_)) hL hS hx K)
      rw [leV_sub, g1.2, g2.2] at q1 q2 ⊢
      rw [Int64.toInt_sub, b64 q1 q2]
    · cases hx
  · split at hx
    · replace hS := hS.l
      obtain ⟨y, r, rfl, g2, hS⟩ := hS
      replace hS := hS.l
      obtain ⟨x, r, rfl, g1, hS⟩ := hS
      exact hX True _ rfl trivial (kPL (tq _) hL hS hx K)
    · cases hx
  · split at hx
    · replace hS := hS.j
      obtain ⟨y, r, rfl, g2, hS⟩ := hS
      replace hS := hS.l
      obtain ⟨x, r, rfl, g1, hS⟩ := hS
      exact hX True _ rfl trivial (kPL (tq _) hL hS hx K)
    · cases hx
  · split at hx
    · replace hS := hS.j
      obtain ⟨y, r, rfl, g2, hS⟩ := hS
      replace hS := hS.l
      obtain ⟨x, r, rfl, g1, hS⟩ := hS
      exact hX True _ rfl trivial (kPL (tq _) hL hS hx K)
    · cases hx
  · split at hx
    · replace hS := hS.l
      obtain ⟨y, r, rfl, g2, hS⟩ := hS
      replace hS := hS.l
      obtain ⟨x, r, rfl, g1, hS⟩ := hS
      cases hx
      exact hX True _ rfl trivial (kS rfl M hL (SR.cons (a := (3, _)) ⟨x, y, rfl, g1.sub g2⟩ hS) K)
    · cases hx
  · split at hx
    · rename_i k q e hk
      obtain ⟨x, hv, g⟩ := hL.j hk
      have hR := exa_sp M (e := leK e v.toInt) (v := x + v) (leS_K g.1) (fun q1 q2 => by
        rw [leV_K, g.2] at q1 q2 ⊢
        rw [Int32.toInt_add, b32 q1 q2])
      obtain ⟨ρ', a1, a2, a3, a4⟩ := hR
      exact st_sp (x := x + v) (fun z' hz k => hX True _ (by unfold stI; dsimp only; rw [hv]; exact hz) trivial k) a1 a2 a3 (hL.ext a1 a2) (hS.ext a1 a2) a4 hx K
    · cases hx
  · split at hx
    · replace hS := hS.j
      obtain ⟨x, r, rfl, g, hS⟩ := hS
      cases hx
      exact hX True _ fIf_e trivial (if0_sp M hL hS g K)
    · replace hS := hS.c
      obtain ⟨x, y, r, rfl, g, hS⟩ := hS
      cases hx
      exact hX True _ fIfc_e trivial (if_sp M hL hS g K)
    · cases hx
  · split at hx
    · replace hS := hS.j
      obtain ⟨y, r, rfl, g2, hS⟩ := hS
      replace hS := hS.j
      obtain ⟨x, r, rfl, g1, hS⟩ := hS
      cases hx
      exact hX True _ fIc_e trivial (if_sp M hL hS (g1.sub g2) K)
    · cases hx
  · cases hx
    exact hX True _ rfl trivial (kS rfl M hL hS K)
  · split at hx
    · obtain ⟨x, r, rfl, g, hS⟩ := hS.r
      cases hx
      exact hX True _ rfl trivial (kS rfl M hL hS K)
    · cases hx
  · split at hx
    · obtain ⟨x, r, rfl, g, hS⟩ := hS.r
      cases hx
      exact hX True _ rfl trivial (kS rfl M hL hS K)
    · cases hx
  · split at hx
    · rename_i x q0 t0
      replace hS := hS.rr
      obtain ⟨r, rfl, hS⟩ := hS
      split at hx
      · rename_i hc
        split at hx
        · rename_i c hf
          exact hX True _ (by simp only [stI, fGf, gfv, hc, if_true, hf]) trivial (kPI (cI c) hL hS hx K)
        · rename_i c hf
          cases hx
          exact hX True _ (by simp only [stI, fGf, gfv, hc, if_true, hf]) trivial (kS rfl M hL (SR.cons (a := (2, (Int.ofNat c, []))) ⟨c, rfl, rfl⟩ hS) K)
        · rename_i hf
          exact hX True _ (by simp only [stI, fGf, gfv, hc, if_true, hf]) trivial (kPI (rdI_sp M GG.c) hL hS hx K)
        · cases hx
      · cases hx
    · cases hx
  · split at hx
    · rename_i e0 x q0 t0
      replace hS := hS.j
      obtain ⟨y, r, rfl, g2, hS⟩ := hS
      replace hS := hS.rr
      obtain ⟨r, rfl, hS⟩ := hS
      split at hx
      · rename_i hc
        split at hx
        · rename_i hf
          split at hx
          · rename_i hz
            split at hx
            · rename_i S' hw
              cases hx
              obtain ⟨n1, M1⟩ := wrI_sp M GG.c g2 hw
              refine hX (pfG a b y) _ (by simp only [stI, fPf, hc, if_true, hf]) ?_ (kS n1 M1 hL hS K)
              unfold pfG
              split
              · rename_i hzf
                rw [hzf] at hz
                simp only [Bool.not_true, Bool.false_or, Bool.and_eq_true] at hz
                have e1 := en_sp M.1 hz.1
                have e2 := en_sp M.1 hz.2
                rw [g2.2] at e1
                rw [leV_K, leV_sc, g2.2] at e2
                rcases (show y.toInt = 0 ∨ y.toInt = 1 by omega) with q | q
                · exact Or.inl (Int32.toInt_inj.mp q)
                · exact Or.inr (Int32.toInt_inj.mp q)
              · trivial
            · cases hx
          · cases hx
        · cases hx
      · cases hx
    · cases hx
  · cases hx
    exact hX True _ rfl trivial (kS rfl M hL (SR.cons (a := (2, (Int.ofNat a, []))) ⟨a, rfl, rfl⟩ hS) K)
  · split at hx
    · rename_i x q0 t0
      replace hS := hS.rr
      obtain ⟨r, rfl, hS⟩ := hS
      split at hx
      · rename_i hc
        have st0 : ∀ t, aln h x = t → stI .arraylength a b v w sw pc lc (.ref x :: r) h = some (True, pc + 1, lc, .int (nI t) :: r, h) := fun t ht => by
          simp only [stI, fAl]
          rw [if_pos hc, ht]
        split at hx
        · rename_i hlt
          split at hx
          · rename_i hp
            refine hX True _ (st0 (oP x) (by unfold aln; rw [if_pos (bltT hlt)])) trivial (kPI (RS.rf M ?_) hL hS hx K)
            rw [nI_i (by have := Nat.le_of_ble_eq_true hp; omega)]
            exact GG.c
          · cases hx
        · rename_i hlt
          have hge : ¬ x < 1000 := fun q => hlt (Nat.ble_eq_true_of_le q)
          split at hx
          · rename_i h13
            cases beqT h13
            split at hx
            · rename_i e he
              split at hx
              · rename_i hp
                have gk : GG ρ S.1 e (h.2.2.1 : Int) := ⟨(M.2.1 _ (kcF_sp he)).2.1, (M.2.1 _ (kcF_sp he)).2.2⟩
                have := en_sp M.1 hp
                rw [leV_K, leV_sc, gk.2] at this
                refine hX True _ (st0 h.2.2.1 (by unfold aln; rw [if_neg hge, if_pos rfl])) trivial (kPI (RS.rf M ?_) hL hS hx K)
                rw [nI_i (by omega)]
                exact gk
              · cases hx
            · cases hx
          · rename_i h13
            have h13 : x ≠ 1300 := fun q => h13 (by rw [q]; rfl)
            refine hX True _ (st0 (roT x).length (by unfold aln; rw [if_neg hge, if_neg h13])) trivial (kPI (RS.rf M ?_) hL hS hx K)
            have : (roT x).length ≤ 6 := by
              unfold roT
              repeat' split
              all_goals decide
            rw [nI_i (by omega)]
            exact GG.c
      · cases hx
    · cases hx
  · split at hx
    · rename_i j0 x q0 t0
      replace hS := hS.j
      obtain ⟨j, r, rfl, gj, hS⟩ := hS
      replace hS := hS.rr
      obtain ⟨r, rfl, hS⟩ := hS
      split at hx
      · rename_i hc
        have st0 : ibd j (aln h x) → X (pc + 1, lc, .int (agt h x j) :: r, h) → X (pc, lc, .int j :: .ref x :: r, h) := fun q k => hX _ _ (by simp only [stI, fIal]; rw [if_pos hc]) q k
        split at hx
        · rename_i hlt
          split at hx
          · rename_i hb
            obtain ⟨b1, -, -⟩ := bdI_sp M.1 gj hb
            refine st0 (by unfold aln; rw [if_pos (bltT hlt)]; exact b1) ?_
            unfold agt
            rw [if_pos (bltT hlt)]
            exact kPI (rdI_sp M (nrm_G M.1 gj)) hL hS hx K
          · cases hx
        · rename_i hlt
          have hge : ¬ x < 1000 := fun q => hlt (Nat.ble_eq_true_of_le q)
          split at hx
          · rename_i h13
            cases beqT h13
            split at hx
            · rename_i e he
              split at hx
              · rename_i hp
                simp only [Bool.and_eq_true] at hp
                have gk : GG ρ S.1 e (h.2.2.1 : Int) := ⟨(M.2.1 _ (kcF_sp he)).2.1, (M.2.1 _ (kcF_sp he)).2.2⟩
                have e1 := en_sp M.1 hp.1.1
                have e2 := en2_sp M.1 hp.1.2
                have e3 := en_sp M.1 hp.2
                rw [gj.2] at e1
                rw [leV_K, leV_sub, gk.2, gj.2] at e2
                rw [leV_K, leV_sc, gk.2] at e3
                refine st0 ?_ ?_
                · unfold aln
                  rw [if_neg hge, if_pos rfl]
                  refine ⟨ge0I.mpr e1, ?_⟩
                  rw [Int32.lt_iff_toInt_lt, nI_i (by omega)]
                  omega
                · unfold agt
                  rw [if_neg hge, if_pos rfl]
                  exact kPI (rdT_sp M gj) hL hS hx K
              · cases hx
            · cases hx
          · rename_i h13
            have h13 : x ≠ 1300 := fun q => h13 (by rw [q]; rfl)
            split at hx
            · rename_i hb
              cases hx
              obtain ⟨b1, b2, b3⟩ := bdI_sp M.1 gj hb
              refine st0 (by unfold aln; rw [if_neg hge, if_neg h13]; exact b1) ?_
              unfold agt
              rw [if_neg hge, if_neg h13]
              have hm : j.toInt = ((j.toNatClampNeg : Nat) : Int) := by
                have : j.toNatClampNeg = j.toInt.toNat := rfl
                omega
              exact tb_sp M hL hS gj (by omega) (by omega) K
            · cases hx
      · cases hx
    · cases hx
  · split at hx
    · rename_i j0 x q0 t0
      replace hS := hS.j
      obtain ⟨j, r, rfl, gj, hS⟩ := hS
      replace hS := hS.rr
      obtain ⟨r, rfl, hS⟩ := hS
      split at hx
      · rename_i hc
        simp only [Bool.and_eq_true] at hc
        refine hX _ _ (by simp only [stI, fBal]; rw [if_pos ⟨bltT hc.1.1, beqT hc.1.2⟩]) (bdI_sp M.1 gj hc.2).1 (kPI (rdI_sp M (nrm_G M.1 gj)) hL hS hx K)
      · cases hx
    · cases hx
  · split at hx
    · rename_i j0 x q0 t0
      replace hS := hS.j
      obtain ⟨j, r, rfl, gj, hS⟩ := hS
      replace hS := hS.rr
      obtain ⟨r, rfl, hS⟩ := hS
      split at hx
      · rename_i hc
        simp only [Bool.and_eq_true] at hc
        refine hX _ _ (by simp only [stI, fLal]; rw [if_pos ⟨bltT hc.1.1, beqT hc.1.2⟩]) (bdI_sp M.1 gj hc.2).1 (kPL (rdL_sp M (nrm_G M.1 gj)) hL hS hx K)
      · cases hx
    · cases hx
  · split at hx
    · rename_i e0 j0 x q0 t0
      replace hS := hS.j
      obtain ⟨y, r, rfl, gy, hS⟩ := hS
      replace hS := hS.j
      obtain ⟨j, r, rfl, gj, hS⟩ := hS
      replace hS := hS.rr
      obtain ⟨r, rfl, hS⟩ := hS
      split at hx
      · rename_i hc
        simp only [Bool.and_eq_true] at hc
        split at hx
        · rename_i S' hw
          cases hx
          obtain ⟨n1, M1⟩ := wrI_sp M (nrm_G M.1 gj) gy hw
          exact hX _ _ (by simp only [stI, fIas]; rw [if_pos ⟨bltT hc.1.1, beqT hc.1.2⟩]) (bdI_sp M.1 gj hc.2).1 (kS n1 M1 hL hS K)
        · cases hx
      · cases hx
    · cases hx
  · split at hx
    · rename_i e0 j0 x q0 t0
      replace hS := hS.j
      obtain ⟨y, r, rfl, gy, hS⟩ := hS
      replace hS := hS.j
      obtain ⟨j, r, rfl, gj, hS⟩ := hS
      replace hS := hS.rr
      obtain ⟨r, rfl, hS⟩ := hS
      split at hx
      · rename_i hc
        simp only [Bool.and_eq_true] at hc
        obtain ⟨⟨⟨⟨c1, c2⟩, c3⟩, c4⟩, c5⟩ := hc
        have e1 := en_sp M.1 c4
        have e2 := en_sp M.1 c5
        rw [gy.2] at e1
        rw [leV_K, leV_sc, gy.2] at e2
        have hB : isB y := by
          rcases (show y.toInt = 0 ∨ y.toInt = 1 by omega) with q | q
          · exact Or.inl (Int32.toInt_inj.mp q)
          · exact Or.inr (Int32.toInt_inj.mp q)
        split at hx
        · rename_i S' hw
          cases hx
          obtain ⟨n1, M1⟩ := wrI_sp M (nrm_G M.1 gj) gy hw
          exact hX (ibd j (oP x) ∧ isB y) _ (by simp only [stI, fBas]; rw [if_pos ⟨bltT c1, beqT c2⟩]) ⟨(bdI_sp M.1 gj c3).1, hB⟩ (kS n1 M1 hL hS K)
        · cases hx
      · cases hx
    · cases hx
  · split at hx
    · rename_i e0 j0 x q0 t0
      replace hS := hS.l
      obtain ⟨y, r, rfl, gy, hS⟩ := hS
      replace hS := hS.j
      obtain ⟨j, r, rfl, gj, hS⟩ := hS
      replace hS := hS.rr
      obtain ⟨r, rfl, hS⟩ := hS
      split at hx
      · rename_i hc
        simp only [Bool.and_eq_true] at hc
        split at hx
        · rename_i S' hw
          cases hx
          obtain ⟨n1, M1⟩ := wrL_sp M (nrm_G M.1 gj) gy hw
          exact hX _ _ (by simp only [stI, fLas]; rw [if_pos ⟨bltT hc.1.1, beqT hc.1.2⟩]) (bdI_sp M.1 gj hc.2).1 (kS n1 M1 hL hS K)
        · cases hx
      · cases hx
    · cases hx
  · split at hx
    · replace hS := hS.j
      obtain ⟨x, r, rfl, g, hS⟩ := hS
      cases hx
      exact hX True _ rfl trivial (kS rfl M hL (SR.cons (av_i g) (SR.cons (av_i g) hS)) K)
    · obtain ⟨x, r, rfl, g, hS⟩ := hS.r
      cases hx
      exact hX True _ rfl trivial (kS rfl M hL (SR.cons (av_r g) (SR.cons (av_r g) hS)) K)
    · cases hx
  · split at hx
    · replace hS := hS.j
      obtain ⟨x, r, rfl, g, hS⟩ := hS
      cases hx
      exact hX True _ rfl trivial (kS rfl M hL hS K)
    · obtain ⟨x, r, rfl, g, hS⟩ := hS.r
      cases hx
      exact hX True _ rfl trivial (kS rfl M hL hS K)
    · cases hx
  · split at hx
    · replace hS := hS.j
      obtain ⟨x, r, rfl, g, hS⟩ := hS
      obtain ⟨y, r, rfl, g2, hS⟩ := hS.r
      cases hx
      exact hX True _ rfl trivial (kS rfl M hL (SR.cons (av_i g) (SR.cons (av_r g2) (SR.cons (av_i g) (SR.cons (av_r g2) hS)))) K)
    · cases hx
  · split at hx
    · replace hS := hS.j
      obtain ⟨x, r, rfl, g, hS⟩ := hS
      cases hx
      exact hX True _ rfl trivial (sw_sp M M.1 hL hS g K)
    · cases hx
  · split at hx
    · replace hS := hS.j
      obtain ⟨x, r, rfl, g, hS⟩ := hS
      cases hx
      exact hX True _ rfl trivial (sw_sp M M.1 hL hS g K)
    · cases hx
  · split at hx
    · cases hx
    · rename_i ha
      split at hx
      · rename_i e2 e1 r0
        have hS0 := hS
        replace hS := hS.j
        obtain ⟨y, r1, rfl, g2, hS⟩ := hS
        replace hS := hS.j
        obtain ⟨x, r, rfl, g1, hS⟩ := hS
        split at hx
        · rename_i hc
          have hcc : Nat.ble (r.map fun v => v.category).sum 16 = true := by rw [catS_sp hS]; exact hc
          have st0 : ∀ G z', fLib a lc pc (.int y :: .int x :: r) h = some (G, z') → G → X z' → X (pc, lc, .int y :: .int x :: r, h) := fun G z' q => hX G z' (by simp only [stI]; rw [if_neg ha]; exact q)
          have hne : ¬ Nat.ble (r.map fun v => v.category).sum 16 = false := by rw [hcc]; decide
          split at hx
          · rename_i h1
            split at hx
            · rename_i R hR
              refine st0 True _ (by simp only [fLib]; rw [if_neg hne, if_pos h1]) trivial (kPI (mmx_sp M g1 g2 hR) hL hS hx K)
            · cases hx
          · rename_i h1
            split at hx
            · rename_i h2
              split at hx
              · rename_i R hR
                refine st0 True _ (by simp only [fLib]; rw [if_neg hne, if_neg h1, if_pos h2]) trivial (kPI (mmn_sp M g1 g2 hR) hL hS hx K)
              · cases hx
            · rename_i h2
              split at hx
              · rename_i h3
                refine axCp_sp (fun s d x' y' z' r' h' e0 hd hs hg ho k => ?_) M hL hS0 hx K
                cases e0
                have hd' : d < 1000 := hd
                rcases ho with ⟨o1, o2, rfl⟩ | ⟨o1, o2, rfl⟩
                · exact st0 _ _ (by simp only [fLib]; rw [if_neg hne, if_neg h1, if_neg h2, if_pos h3, if_pos ⟨hd, hs, o1, o2⟩]) hg k
                · exact st0 _ _ (by simp only [fLib]; rw [if_neg hne, if_neg h1, if_neg h2, if_pos h3, if_neg (by rw [o1]; simp), if_pos ⟨hd, hs, o1, o2⟩]) hg k
              · cases hx
        · cases hx
      · cases hx
  · cases hx
end AX
