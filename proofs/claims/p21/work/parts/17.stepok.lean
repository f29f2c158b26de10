/-! The step is sound. -/
theorem bltT {a b : Nat} (h : Nat.blt a b = true) : a < b := Nat.le_of_ble_eq_true h
theorem beqT {a b : Nat} (h : Nat.beq a b = true) : a = b := Nat.eq_of_beq_eq_true h
theorem nI_i {n : Nat} (h : n < 2147483648) : (nI n).toInt = (n : Int) := by
  show (Int32.ofNat n).toInt = _
  exact Int32.toInt_ofNat_of_lt h
theorem ge0I {x : Int32} : 0 ≤ x ↔ 0 ≤ x.toInt := by rw [Int32.le_iff_toInt_le, Int32.toInt_zero]
section STEP
variable {rg : List Rg} {ws : List Wr} {h0 h : Hp} {ρ : Nat → Int} {S : Sx} {X : Cf → Prop} {i : Instr} {a b : Nat} {v : Int32} {w : Int64} {sw : List (Int32 × Nat)} {pc : Nat} {ls : List (Option AV)} {st : List AV} {lc : Lc} {sc : List Value} {L : List Cc}
theorem kI {R : Sx × LE} {x : Int32} {pc' : Nat} {r : List AV} {sr : List Value} (q : RS rg ws h0 h ρ S R x.toInt) (hL : LR ρ S.1 ls lc) (hS : SR ρ S.1 r sr) (K : Kn rg ws h0 ρ S.1 X [(R.1, pc', ls, (0, R.2) :: r)]) : X (pc', lc, .int x :: sr, h) := by
  obtain ⟨ρ', g, hn, M, e⟩ := q
  exact K _ List.mem_cons_self ρ' _ g hn ⟨M, rfl, hL.ext g hn, ⟨_, _, rfl, ⟨x, rfl, e⟩, hS.ext g hn⟩⟩
theorem kL {R : Sx × LE} {x : Int64} {pc' : Nat} {r : List AV} {sr : List Value} (q : RS rg ws h0 h ρ S R x.toInt) (hL : LR ρ S.1 ls lc) (hS : SR ρ S.1 r sr) (K : Kn rg ws h0 ρ S.1 X [(R.1, pc', ls, (1, R.2) :: r)]) : X (pc', lc, .long x :: sr, h) := by
  obtain ⟨ρ', g, hn, M, e⟩ := q
  exact K _ List.mem_cons_self ρ' _ g hn ⟨M, rfl, hL.ext g hn, ⟨_, _, rfl, ⟨x, rfl, e⟩, hS.ext g hn⟩⟩
theorem kS {S' : Sx} {pc' : Nat} {ls' : List (Option AV)} {lc' : Lc} {r : List AV} {sr : List Value} {h' : Hp} (hn : S'.1 = S.1) (M : Mo rg ws h0 ρ S' h') (hL : LR ρ S.1 ls' lc') (hS : SR ρ S.1 r sr) (K : Kn rg ws h0 ρ S.1 X [(S', pc', ls', r)]) : X (pc', lc', sr, h') := K _ List.mem_cons_self ρ _ Ag.rf (Nat.le_of_eq hn.symm) ⟨M, rfl, by show LR ρ S'.1 ls' lc'; rw [hn]; exact hL, by show SR ρ S'.1 r sr; rw [hn]; exact hS⟩
theorem SR.cons {n : Nat} {a : AV} {v : Value} {r : List AV} {sr : List Value} (h1 : av ρ n a v) (h2 : SR ρ n r sr) : SR ρ n (a :: r) (v :: sr) := ⟨v, sr, rfl, h1, h2⟩
theorem SR.j {e : LE} {r : List AV} {n : Nat} (q : SR ρ n ((0, e) :: r) sc) : ∃ (x : Int32) (t : List Value), sc = .int x :: t ∧ GG ρ n e x.toInt ∧ SR ρ n r t := by
  obtain ⟨v, t, e1, ⟨x, e2, e3⟩, e4⟩ := q
  exact ⟨x, t, by rw [e1, e2], e3, e4⟩
theorem SR.l {e : LE} {r : List AV} {n : Nat} (q : SR ρ n ((1, e) :: r) sc) : ∃ (x : Int64) (t : List Value), sc = .long x :: t ∧ GG ρ n e x.toInt ∧ SR ρ n r t := by
  obtain ⟨v, t, e1, ⟨x, e2, e3⟩, e4⟩ := q
  exact ⟨x, t, by rw [e1, e2], e3, e4⟩
theorem SR.r {e : LE} {r : List AV} {n : Nat} (q : SR ρ n ((2, e) :: r) sc) : ∃ (x : Nat) (t : List Value), sc = .ref x :: t ∧ e = (Int.ofNat x, []) ∧ SR ρ n r t := by
  obtain ⟨v, t, e1, ⟨x, e2, e3⟩, e4⟩ := q
  exact ⟨x, t, by rw [e1, e2], e3, e4⟩
theorem SR.rr {k : Nat} {q : List (Nat × Int)} {r : List AV} {n : Nat} (g : SR ρ n ((2, (Int.ofNat k, q)) :: r) sc) : ∃ t : List Value, sc = .ref k :: t ∧ SR ρ n r t := by
  obtain ⟨x, t, e1, e2, e3⟩ := g.r
  cases e2
  exact ⟨t, e1, e3⟩
theorem SR.c {e : LE} {r : List AV} {n : Nat} (q : SR ρ n ((3, e) :: r) sc) : ∃ (x y : Int64) (t : List Value), sc = .int (lg_cmp x y) :: t ∧ GG ρ n e (x.toInt - y.toInt) ∧ SR ρ n r t := by
  obtain ⟨v, t, e1, ⟨x, y, e2, e3⟩, e4⟩ := q
  exact ⟨x, y, t, by rw [e1, e2], e3, e4⟩
theorem LR.j {e : LE} {n k : Nat} (q : LR ρ n ls lc) (g : ls[k]? = some (some (0, e))) : ∃ x : Int32, lc[k]? = some (some (.int x)) ∧ GG ρ n e x.toInt := by
  obtain ⟨v, h1, x, h2, h3⟩ := (q.2 k).1 _ g
  exact ⟨x, by rw [h1, h2], h3⟩
theorem LR.l {e : LE} {n k : Nat} (q : LR ρ n ls lc) (g : ls[k]? = some (some (1, e))) : ∃ x : Int64, lc[k]? = some (some (.long x)) ∧ GG ρ n e x.toInt := by
  obtain ⟨v, h1, x, h2, h3⟩ := (q.2 k).1 _ g
  exact ⟨x, by rw [h1, h2], h3⟩
theorem LR.r {e : LE} {n k : Nat} (q : LR ρ n ls lc) (g : ls[k]? = some (some (2, e))) : ∃ x : Nat, lc[k]? = some (some (.ref x)) ∧ e = (Int.ofNat x, []) := by
  obtain ⟨v, h1, x, h2, h3⟩ := (q.2 k).1 _ g
  exact ⟨x, by rw [h1, h2], h3⟩
theorem notL_sp {n k : Nat} (q : LR ρ n ls lc) (g : notL ls[k]? = true) : isLong lc[k]? = false := by
  cases hk : ls[k]? with
  | none =>
    have : lc[k]? = none := List.getElem?_eq_none (by rw [← q.1]; exact List.getElem?_eq_none_iff.mp hk)
    rw [this]; rfl
  | some o => cases o with
    | none => exact (q.2 k).2 hk
    | some a =>
      obtain ⟨v, h1, h2⟩ := (q.2 k).1 _ hk
      obtain ⟨t, e⟩ := a
      rw [hk] at g
      rw [h1]
      unfold av at h2
      have gt : t ≠ 1 := nbeq (by simpa [notL] using g)
      dsimp only at h2
      split at h2
      · obtain ⟨x, rfl, -⟩ := h2; rfl
      · exact absurd rfl gt
      · obtain ⟨x, rfl, -⟩ := h2; rfl
      · obtain ⟨x, y, rfl, -⟩ := h2; rfl
theorem LR.set {n k : Nat} {e : AV} {x : Value} (q : LR ρ n ls lc) (g : av ρ n e x) : LR ρ n (ls.set k (some e)) (lc.set k (some x)) := by
  refine ⟨by simp [q.1], fun j => ?_⟩
  by_cases hj : k = j
  · subst hj
    by_cases hk : k < ls.length
    · have hk' : k < lc.length := by rw [← q.1]; exact hk
      rw [List.getElem?_set_self hk, List.getElem?_set_self hk']
      exact ⟨fun a ha => by cases ha; exact ⟨x, rfl, g⟩, fun ha => by cases ha⟩
    · rw [List.getElem?_eq_none (by simpa using hk)]
      exact ⟨fun a ha => (nomatch ha), fun ha => (nomatch ha)⟩
  · rw [List.getElem?_set_ne hj, List.getElem?_set_ne hj]
    exact q.2 j
theorem catS_sp {n : Nat} : ∀ {r : List AV} {sr : List Value}, SR ρ n r sr → (sr.map fun v => v.category).sum = catS r
  | [], _, q => by cases q; rfl
  | (t, e) :: r, _, q => by
    obtain ⟨v, s, rfl, h1, h2⟩ := q
    have ih := catS_sp h2
    show v.category + (s.map fun v => v.category).sum = (if Nat.beq t 1 = true then 2 else 1) + catS r
    rw [ih]
    congr 1
    unfold av at h1
    dsimp only at h1
    split at h1
    · obtain ⟨x, rfl, -⟩ := h1; rfl
    · obtain ⟨x, rfl, -⟩ := h1; rfl
    · obtain ⟨x, rfl, -⟩ := h1; rfl
    · rename_i g0 g1 g2
      obtain ⟨x, y, rfl, -⟩ := h1
      rw [if_neg (fun q => g1 (beqT q))]
      rfl
theorem ld_sp {t k n : Nat} (hX : ∀ v, lc[k]? = some (some v) → (∃ e, av ρ S.1 (t, e) v) → X (pc + n, lc, v :: sc, h) → X (pc, lc, sc, h)) (M : Mo rg ws h0 ρ S h) (hL : LR ρ S.1 ls lc) (hS : SR ρ S.1 st sc) (hx : axLd t ls k n pc S st = some L) (K : Kn rg ws h0 ρ S.1 X L) : X (pc, lc, sc, h) := by
  unfold axLd at hx
  split at hx
  · rename_i u e hk
    split at hx
    · rename_i ht
      cases hx
      cases beqT ht
      obtain ⟨v, h1, h2⟩ := (hL.2 k).1 _ hk
      exact hX v h1 ⟨e, h2⟩ (kS rfl M hL (SR.cons h2 hS) K)
    · cases hx
  · cases hx
theorem st_sp {k n : Nat} {e : LE} {x : Int32} {r : List AV} {sr : List Value} (hX : ∀ z', fSt lc k n pc (.int x) sr h = some (True, z') → X z' → X (pc, lc, sc, h)) {S' : Sx} {ρ' : Nat → Int} (g : Ag ρ ρ' S.1) (hn : S.1 ≤ S'.1) (M : Mo rg ws h0 ρ' S' h) (hL : LR ρ' S'.1 ls lc) (hS : SR ρ' S'.1 r sr) (he : GG ρ' S'.1 e x.toInt) (hx : axSt ls k n pc S' e r = some L) (K : Kn rg ws h0 ρ S.1 X L) : X (pc, lc, sc, h) := by
  unfold axSt at hx
  split at hx
  · rename_i hq
    cases hx
    simp only [Bool.and_eq_true] at hq
    obtain ⟨⟨h1, h2⟩, h3⟩ := hq
    have h1 := notL_sp hL h1
    have h2 := notL_sp hL h2
    have h3 : k < lc.length := by rw [← hL.1]; exact bltT h3
    refine hX _ (by unfold fSt; rw [h1, h2, if_neg (by decide), if_neg (by decide), if_pos h3]) ?_
    exact K _ List.mem_cons_self ρ' _ g hn ⟨M, rfl, hL.set ⟨x, rfl, he⟩, hS⟩
  · cases hx
theorem oDb_sp {o : Option Db} {pc' : Nat} {L' : List Cc} (M : Mo rg ws h0 ρ S h) (hL : LR ρ S.1 ls lc) (hS : SR ρ S.1 st sc) (q : ∃ D, o = some D ∧ Fa ρ S.1 D) (K : Kn rg ws h0 ρ S.1 X L') (hs : ∀ c ∈ oDb S o pc' ls st, c ∈ L') : X (pc', lc, sc, h) := by
  obtain ⟨D, rfl, F⟩ := q
  exact K _ (hs _ List.mem_cons_self) ρ _ Ag.rf (Nat.le_refl _) ⟨M.db F, rfl, hL, hS⟩
noncomputable def brT (q : ClassFile.Cond) (y : Int) (t f : Nat) : Nat := match q with
    | .eq => if y = 0 then t else f
    | .ne => if y = 0 then f else t
    | .lt => if y < 0 then t else f
    | .ge => if 0 ≤ y then t else f
    | .gt => if 0 < y then t else f
    | .le => if y ≤ 0 then t else f
theorem if_sp {q : ClassFile.Cond} {t f : Nat} {e : LE} {y : Int} (M : Mo rg ws h0 ρ S h) (hL : LR ρ S.1 ls lc) (hS : SR ρ S.1 st sc) (he : GG ρ S.1 e y) (K : Kn rg ws h0 ρ S.1 X (axIf q t f S e ls st)) : X (brT q y t f, lc, sc, h) := by
  have F := M.1
  have sE := fun q => adE_sp F he.1 (show leV ρ e = 0 by rw [he.2]; exact q)
  have sN := fun q => adN_sp F he.1 (show leV ρ e ≠ 0 by rw [he.2]; exact q)
  have sG := fun q => adG_sp F he.1 (show 0 ≤ leV ρ e by rw [he.2]; exact q)
  have sL := fun q : y < 0 => adG_sp F (e := leK (leSc (-1) e) (-1)) (leS_K (leS_sc he.1)) (by rw [leV_K, leV_sc, he.2]; omega)
  have sP := fun q : 0 < y => adG_sp F (e := leK e (-1)) (leS_K he.1) (by rw [leV_K, he.2]; omega)
  have sM := fun q : y ≤ 0 => adG_sp F (e := leSc (-1) e) (leS_sc he.1) (by rw [leV_sc, he.2]; omega)
  cases q
  · show X ((if y = 0 then t else f), lc, sc, h)
    split
    · rename_i q; exact oDb_sp M hL hS (sE q) K (fun c hc => List.mem_append_left _ hc)
    · rename_i q; exact oDb_sp M hL hS (sN q) K (fun c hc => List.mem_append_right _ hc)
  · show X ((if y = 0 then f else t), lc, sc, h)
    split
    · rename_i q; exact oDb_sp M hL hS (sE q) K (fun c hc => List.mem_append_right _ hc)
    · rename_i q; exact oDb_sp M hL hS (sN q) K (fun c hc => List.mem_append_left _ hc)
  · show X ((if y < 0 then t else f), lc, sc, h)
    split
    · rename_i q; exact oDb_sp M hL hS (sL q) K (fun c hc => List.mem_append_left _ hc)
    · rename_i q; exact oDb_sp M hL hS (sG (by omega)) K (fun c hc => List.mem_append_right _ hc)
  · show X ((if 0 ≤ y then t else f), lc, sc, h)
    split
    · rename_i q; exact oDb_sp M hL hS (sG q) K (fun c hc => List.mem_append_left _ hc)
    · rename_i q; exact oDb_sp M hL hS (sL (by omega)) K (fun c hc => List.mem_append_right _ hc)
  · show X ((if 0 < y then t else f), lc, sc, h)
    split
    · rename_i q; exact oDb_sp M hL hS (sP q) K (fun c hc => List.mem_append_left _ hc)
    · rename_i q; exact oDb_sp M hL hS (sM (by omega)) K (fun c hc => List.mem_append_right _ hc)
  · show X ((if y ≤ 0 then t else f), lc, sc, h)
    split
    · rename_i q; exact oDb_sp M hL hS (sM q) K (fun c hc => List.mem_append_left _ hc)
    · rename_i q; exact oDb_sp M hL hS (sP (by omega)) K (fun c hc => List.mem_append_right _ hc)
theorem ne_sp {e : LE} {y : Int} {f : Nat} {L' : List Cc} (M : Mo rg ws h0 ρ S h) (hL : LR ρ S.1 ls lc) (hS : SR ρ S.1 st sc) (he : GG ρ S.1 e y) (hy : y ≠ 0) (K : Kn rg ws h0 ρ S.1 X L') (hs : ∀ c ∈ oNe S e f ls st, c ∈ L') : X (f, lc, sc, h) := by
  have F := M.1
  unfold oNe at hs
  split at hs
  · exact oDb_sp M hL hS (adN_sp F he.1 (show leV ρ e ≠ 0 by rw [he.2]; exact hy)) K hs
  · rcases (show 0 < y ∨ y < 0 by omega) with q | q
    · exact oDb_sp M hL hS (adG_sp F (e := leK e (-1)) (leS_K he.1) (by rw [leV_K, he.2]; omega)) K (fun c hc => hs c (List.mem_append_left _ hc))
    · exact oDb_sp M hL hS (adG_sp F (e := leK (leSc (-1) e) (-1)) (leS_K (leS_sc he.1)) (by rw [leV_K, leV_sc, he.2]; omega)) K (fun c hc => hs c (List.mem_append_right _ hc))
theorem if0_sp {q : ClassFile.Cond} {t f : Nat} {e : LE} {y : Int} (M : Mo rg ws h0 ρ S h) (hL : LR ρ S.1 ls lc) (hS : SR ρ S.1 st sc) (he : GG ρ S.1 e y) (K : Kn rg ws h0 ρ S.1 X (axIf0 q t f S e ls st)) : X (brT q y t f, lc, sc, h) := by
  have sE := fun q => adE_sp M.1 he.1 (show leV ρ e = 0 by rw [he.2]; exact q)
  unfold axIf0 at K
  split at K
  · show X ((if y = 0 then t else f), lc, sc, h)
    split
    · rename_i q; exact oDb_sp M hL hS (sE q) K (fun c hc => List.mem_append_left _ hc)
    · rename_i q; exact ne_sp M hL hS he q K (fun c hc => List.mem_append_right _ hc)
  · show X ((if y = 0 then f else t), lc, sc, h)
    split
    · rename_i q; exact oDb_sp M hL hS (sE q) K (fun c hc => List.mem_append_right _ hc)
    · rename_i q; exact ne_sp M hL hS he q K (fun c hc => List.mem_append_left _ hc)
  · exact if_sp M hL hS he K
theorem nrm_G {e : LE} {x : Int} {n : Nat} {D : Db} (F : Fa ρ n D) (he : GG ρ n e x) : GG ρ n (nrm D e) x := by
  have key : ∀ l : List (Nat × Int), (∀ p ∈ l, p.1 < n) → leS n (nrmT D.1 l) ∧ leV ρ (nrmT D.1 l) = leT ρ l := by
    intro l
    induction l with
    | nil => intro _; exact ⟨leS_C, leV_C ρ 0⟩
    | cons p r ih =>
      obtain ⟨k, a⟩ := p
      intro hl
      obtain ⟨i1, i2⟩ := ih (fun q hq => hl q (List.mem_cons_of_mem _ hq))
      have hk := hl (k, a) List.mem_cons_self
      have keep : leS n ((nrmT D.1 r).1, (k, a) :: (nrmT D.1 r).2) ∧ leV ρ ((nrmT D.1 r).1, (k, a) :: (nrmT D.1 r).2) = leT ρ ((k, a) :: r) := ⟨fun q hq => by
        rcases List.mem_cons.mp hq with rfl | hq
        · exact hk
        · exact i1 q hq, by
        show (nrmT D.1 r).1 + (a * ρ k + leT ρ (nrmT D.1 r).2) = a * ρ k + leT ρ r
        rw [← i2]
        show _ = a * ρ k + ((nrmT D.1 r).1 + leT ρ (nrmT D.1 r).2)
        omega⟩
      unfold nrmT
      dsimp only
      split
      · rename_i lo hi hb
        split
        · rename_i hz
          have hz := iz_eq hz
          obtain ⟨-, b1, b2⟩ := F.1 _ (bdF_spec hb)
          dsimp only at b1 b2
          refine ⟨leS_K i1, ?_⟩
          rw [leV_K, i2, show lo = ρ k by omega]
          show _ = a * ρ k + leT ρ r
          omega
        · exact keep
      · exact keep
  obtain ⟨k1, k2⟩ := key e.2 he.1
  refine ⟨leS_K k1, ?_⟩
  unfold nrm
  rw [leV_K, k2, ← he.2]
  show _ = e.1 + leT ρ e.2
  omega
theorem i0 {x y : Int32} : x = y ↔ x.toInt - y.toInt = 0 := by rw [← Int32.toInt_inj]; omega
theorem i00 {x : Int32} : x = 0 ↔ x.toInt = 0 := by rw [← Int32.toInt_inj, Int32.toInt_zero]
theorem fIf_e {q : ClassFile.Cond} {x : Int32} {r : List Value} : fIf q a lc pc (.int x :: r) h = some (True, (brT q (x.toInt) a (pc + 3), lc, r, h)) := by
  cases q <;> simp [fIf, brT, Int32.lt_iff_toInt_lt, Int32.le_iff_toInt_le, i00]
theorem fIfc_e {q : ClassFile.Cond} {x y : Int64} {r : List Value} : fIf q a lc pc (.int (lg_cmp x y) :: r) h = some (True, (brT q (x.toInt - y.toInt) a (pc + 3), lc, r, h)) := by
  have e1 : (x = y) = (x.toInt - y.toInt = 0) := by rw [← Int64.toInt_inj]; exact propext (by omega)
  have e2 : (x < y) = (x.toInt - y.toInt < 0) := by rw [Int64.lt_iff_toInt_lt]; exact propext (by omega)
  have e3 : (y ≤ x) = (0 ≤ x.toInt - y.toInt) := by rw [Int64.le_iff_toInt_le]; exact propext (by omega)
  have e4 : (y < x) = (0 < x.toInt - y.toInt) := by rw [Int64.lt_iff_toInt_lt]; exact propext (by omega)
  have e5 : (x ≤ y) = (x.toInt - y.toInt ≤ 0) := by rw [Int64.le_iff_toInt_le]; exact propext (by omega)
  cases q <;> simp only [fIf, brT, lg_cmp_eq, lg_cmp_lt, lg_cmp_ge, lg_cmp_gt, lg_cmp_le, e1, e2, e3, e4, e5]
theorem fIc_e {q : ClassFile.Cond} {x y : Int32} {r : List Value} : fIc q a lc pc (.int y :: .int x :: r) h = some (True, (brT q (x.toInt - y.toInt) a (pc + 3), lc, r, h)) := by
  have e1 : (x = y) = (x.toInt - y.toInt = 0) := propext i0
  have e2 : (x < y) = (x.toInt - y.toInt < 0) := by rw [Int32.lt_iff_toInt_lt]; exact propext (by omega)
  have e3 : (y ≤ x) = (0 ≤ x.toInt - y.toInt) := by rw [Int32.le_iff_toInt_le]; exact propext (by omega)
  have e4 : (y < x) = (0 < x.toInt - y.toInt) := by rw [Int32.lt_iff_toInt_lt]; exact propext (by omega)
  have e5 : (x ≤ y) = (x.toInt - y.toInt ≤ 0) := by rw [Int32.le_iff_toInt_le]; exact propext (by omega)
  cases q <;> simp only [fIc, brT, e1, e2, e3, e4, e5]
theorem swt_lt {x k : Int32} : ∀ {r : List (Int32 × Nat)} {d : Nat}, srtK k r = true → x.toInt < k.toInt → swt r d x = d
  | [], _, _, _ => rfl
  | (k', t) :: r, d, h, hx => by
    unfold srtK at h
    rw [List.all_cons, Bool.and_eq_true] at h
    have := ile_le h.1
    dsimp only at this
    show (if x = k' then t else swt r d x) = d
    rw [if_neg (fun z => by rw [z] at hx; omega)]
    exact swt_lt h.2 hx
theorem sw_sp {e : LE} {x : Int32} : ∀ {sw : List (Int32 × Nat)} {d : Nat} {D : Db}, Mo rg ws h0 ρ S h → Fa ρ S.1 D → LR ρ S.1 ls lc → SR ρ S.1 st sc → GG ρ S.1 e x.toInt → Kn rg ws h0 ρ S.1 X (axSw S D e ls st sw d) → X (swt sw d x, lc, sc, h)
  | [], d, D, M, F, hL, hS, _, K => K _ List.mem_cons_self ρ _ Ag.rf (Nat.le_refl _) ⟨M.db F, rfl, hL, hS⟩
  | (k, t) :: r, d, D, M, F, hL, hS, he, K => by
    show X ((if x = k then t else swt r d x), lc, sc, h)
    split
    · rename_i q
      subst q
      exact oDb_sp M hL hS (adE_sp F (e := leK e (-x.toInt)) (leS_K he.1) (by rw [leV_K, he.2]; omega)) K (fun c hc => List.mem_append_left _ hc)
    · rename_i q
      have q' : x.toInt ≠ k.toInt := fun z => q (Int32.toInt_inj.mp z)
      by_cases xs : (xsF && srtK k r) = true
      · have K2 : Kn rg ws h0 ρ S.1 X (oDb S (adG D (leK (leSc (-1) e) (k.toInt - 1))) d ls st ++ (match adG D (leK e (-k.toInt - 1)) with
          | some D' => axSw S D' e ls st r d
          | none => [])) := fun c hc => K c (List.mem_append_right _ (by rw [if_pos xs]; exact hc))
        by_cases lt : x.toInt < k.toInt
        · rw [swt_lt (Bool.and_eq_true_iff.mp xs).2 lt]
          exact oDb_sp M hL hS (adG_sp F (e := leK (leSc (-1) e) (k.toInt - 1)) (leS_K (leS_sc he.1)) (by rw [leV_K, leV_sc, he.2]; omega)) K2 (fun c hc => List.mem_append_left _ hc)
        · obtain ⟨D', h1, h2⟩ := adG_sp F (e := leK e (-k.toInt - 1)) (leS_K he.1) (by rw [leV_K, he.2]; omega)
          refine sw_sp M h2 hL hS he (fun c hc => K2 c (List.mem_append_right _ ?_))
          rw [h1]
          exact hc
      · obtain ⟨D', h1, h2⟩ := adN_sp F (e := leK e (-k.toInt)) (leS_K he.1) (by rw [leV_K, he.2]; omega)
        refine sw_sp M h2 hL hS he (fun c hc => K c (List.mem_append_right _ ?_))
        rw [if_neg xs, h1]
        exact hc
theorem bdI_sp {D : Db} {j : LE} {n m : Nat} {x : Int32} (F : Fa ρ n D) (he : GG ρ n j x.toInt) (g : bdI D j m = true) : ibd x m ∧ 0 ≤ x.toInt ∧ x.toInt < m := by
  simp only [bdI, Bool.and_eq_true] at g
  obtain ⟨⟨g1, g2⟩, g3⟩ := g
  have h1 := en2_sp F g1
  have h2 := en2_sp F g2
  have h3 := Nat.le_of_ble_eq_true g3
  rw [he.2] at h1
  rw [leV_K, leV_sc, he.2] at h2
  refine ⟨⟨ge0I.mpr h1, ?_⟩, h1, by omega⟩
  rw [Int32.lt_iff_toInt_lt, nI_i (by omega)]
  omega
theorem tb_sp {j : LE} {x : Int32} {pc' : Nat} : ∀ {l : List Int32} {k : Int} {m : Nat}, Mo rg ws h0 ρ S h → LR ρ S.1 ls lc → SR ρ S.1 st sc → GG ρ S.1 j x.toInt → x.toInt = k + m → m < l.length → Kn rg ws h0 ρ S.1 X (axTb S j pc' ls st k l) → X (pc', lc, .int (l.getD m 0) :: sc, h)
  | [], _, _, _, _, _, _, _, hm, _ => by simp at hm
  | y :: r, k, m, M, hL, hS, he, hk, hm, K => by
    cases m with
    | zero => exact oDb_sp M hL (SR.cons (a := (0, leC y.toInt)) ⟨y, rfl, GG.c⟩ hS) (adE_sp M.1 (e := leK j (-k)) (leS_K he.1) (by rw [leV_K, he.2]; omega)) K (fun c hc => List.mem_append_left _ hc)
    | succ m => exact tb_sp (l := r) (k := k + 1) (m := m) M hL hS he (by omega) (by simpa using hm) (fun c hc => K c (List.mem_append_right _ hc))
theorem adGs_sp {n : Nat} : ∀ {l : List LE} {D : Db}, Fa ρ n D → (∀ e ∈ l, leS n e ∧ 0 ≤ leV ρ e) → ∃ D', adGs D l = some D' ∧ Fa ρ n D'
  | [], D, F, _ => ⟨D, rfl, F⟩
  | e :: r, D, F, q => by
    obtain ⟨D1, h1, F1⟩ := adG_sp F (q e List.mem_cons_self).1 (q e List.mem_cons_self).2
    obtain ⟨D2, h2, F2⟩ := adGs_sp F1 (fun f hf => q f (List.mem_cons_of_mem _ hf))
    exact ⟨D2, by unfold adGs; rw [h1]; exact h2, F2⟩
theorem ile_f {x y : Int} (q : ¬ ile x y = true) : y < x := by
  unfold ile at q
  split at q
  · exact absurd rfl q
  · rename_i n e
    have : y - x = Int.negSucc n := e
    omega
theorem imax_ge (x y : Int) : x ≤ imax x y ∧ y ≤ imax x y := by
  unfold imax
  split
  · rename_i q; have := ile_le q; omega
  · rename_i q
    have := ile_f q
    omega
theorem imin_le (x y : Int) : imin x y ≤ x ∧ imin x y ≤ y := by
  unfold imin
  split
  · rename_i q; have := ile_le q; omega
  · rename_i q
    have := ile_f q
    omega
theorem mmx_sp (M : Mo rg ws h0 ρ S h) {e1 e2 : LE} {x y : Int32} (g1 : GG ρ S.1 e1 x.toInt) (g2 : GG ρ S.1 e2 y.toInt) {R : Sx × LE} (hb : mmx S e1 e2 = some R) : RS rg ws h0 h ρ S R (if x < y then y else x).toInt := by
  unfold mmx at hb
  split at hb
  · rename_i q
    have q := en_sp M.1 q
    rw [leV_sub, g1.2, g2.2] at q
    cases hb
    refine ⟨ρ, Ag.rf, Nat.le_refl _, M, g1.1, ?_⟩
    rw [g1.2]
    split
    · rename_i c; rw [Int32.lt_iff_toInt_lt] at c; omega
    · rfl
  split at hb
  · rename_i q
    have q := en_sp M.1 q
    rw [leV_sub, g1.2, g2.2] at q
    cases hb
    refine ⟨ρ, Ag.rf, Nat.le_refl _, M, g2.1, ?_⟩
    rw [g2.2]
    split
    · rfl
    · rename_i c; rw [Int32.lt_iff_toInt_lt] at c; omega
  have b1 := i32b x
  have b2 := i32b y
  simp only [I32lo, I32hi] at b1 b2
  have a1 := hiE_sp M.1 g1 (by show x.toInt ≤ 9223372036854775807; omega)
  have a2 := hiE_sp M.1 g2 (by show y.toInt ≤ 9223372036854775807; omega)
  have a3 := imax_ge (hiE S.2.1.1 e1) (hiE S.2.1.1 e2)
  have M1 := M.nw (i32b (if x < y then y else x)).1 (i32b (if x < y then y else x)).2
  have hr : x.toInt ≤ (if x < y then y else x).toInt ∧ y.toInt ≤ (if x < y then y else x).toInt ∧ ((if x < y then y else x).toInt ≤ x.toInt ∨ (if x < y then y else x).toInt ≤ y.toInt) := by
    split
    · rename_i q; rw [Int32.lt_iff_toInt_lt] at q; omega
    · rename_i q; rw [Int32.lt_iff_toInt_lt] at q; omega
  have x1 : leV (updS ρ S.1 (if x < y then y else x).toInt) e1 = x.toInt := by rw [leV_ext g1.1 upd_ag, g1.2]
  have x2 : leV (updS ρ S.1 (if x < y then y else x).toInt) e2 = y.toInt := by rw [leV_ext g2.1 upd_ag, g2.2]
  have x3 : leV (updS ρ S.1 (if x < y then y else x).toInt) (leX S.1) = _ := upd_at.2
  have s1 := leS_mono g1.1 (Nat.le_succ S.1)
  have s2 := leS_mono g2.1 (Nat.le_succ S.1)
  have s3 : leS (S.1 + 1) (leX S.1) := leS_X (Nat.lt_succ_self _)
  obtain ⟨D, hD, FD⟩ := adGs_sp M1.1 (l := [leSub (leX S.1) e1, leSub (leX S.1) e2, leK (leSc (-1) (leX S.1)) (imax (hiE S.2.1.1 e1) (hiE S.2.1.1 e2))]) (by
    intro e he
    rcases List.mem_cons.mp he with rfl | he
    · exact ⟨leS_sub s3 s1, by rw [leV_sub, x1, x3]; omega⟩
    rcases List.mem_cons.mp he with rfl | he
    · exact ⟨leS_sub s3 s2, by rw [leV_sub, x2, x3]; omega⟩
    rcases List.mem_cons.mp he with rfl | he
    · exact ⟨leS_K (leS_sc s3), by rw [leV_K, leV_sc, x3]; omega⟩
    · cases he)
  dsimp only at hb
  rw [hD] at hb
  cases hb
  exact ⟨_, upd_ag, Nat.le_succ _, M1.db FD, upd_at⟩
theorem mmn_sp (M : Mo rg ws h0 ρ S h) {e1 e2 : LE} {x y : Int32} (g1 : GG ρ S.1 e1 x.toInt) (g2 : GG ρ S.1 e2 y.toInt) {R : Sx × LE} (hb : mmn S e1 e2 = some R) : RS rg ws h0 h ρ S R (if y < x then y else x).toInt := by
  unfold mmn at hb
  split at hb
  · rename_i q
    have q := en_sp M.1 q
    rw [leV_sub, g1.2, g2.2] at q
    cases hb
    refine ⟨ρ, Ag.rf, Nat.le_refl _, M, g1.1, ?_⟩
    rw [g1.2]
    split
    · rename_i c; rw [Int32.lt_iff_toInt_lt] at c; omega
    · rfl
  split at hb
  · rename_i q
    have q := en_sp M.1 q
    rw [leV_sub, g1.2, g2.2] at q
    cases hb
    refine ⟨ρ, Ag.rf, Nat.le_refl _, M, g2.1, ?_⟩
    rw [g2.2]
    split
    · rfl
    · rename_i c; rw [Int32.lt_iff_toInt_lt] at c; omega
  have b1 := i32b x
  have b2 := i32b y
  simp only [I32lo, I32hi] at b1 b2
  have a1 := loE'_sp M.1 g1 (by show -9223372036854775808 ≤ x.toInt; omega)
  have a2 := loE'_sp M.1 g2 (by show -9223372036854775808 ≤ y.toInt; omega)
  have a3 := imin_le (loE' S.2.1.1 e1) (loE' S.2.1.1 e2)
  have M1 := M.nw (i32b (if y < x then y else x)).1 (i32b (if y < x then y else x)).2
  have hr : (if y < x then y else x).toInt ≤ x.toInt ∧ (if y < x then y else x).toInt ≤ y.toInt ∧ (x.toInt ≤ (if y < x then y else x).toInt ∨ y.toInt ≤ (if y < x then y else x).toInt) := by
    split
    · rename_i q; rw [Int32.lt_iff_toInt_lt] at q; omega
    · rename_i q; rw [Int32.lt_iff_toInt_lt] at q; omega
  have x1 : leV (updS ρ S.1 (if y < x then y else x).toInt) e1 = x.toInt := by rw [leV_ext g1.1 upd_ag, g1.2]
  have x2 : leV (updS ρ S.1 (if y < x then y else x).toInt) e2 = y.toInt := by rw [leV_ext g2.1 upd_ag, g2.2]
  have x3 : leV (updS ρ S.1 (if y < x then y else x).toInt) (leX S.1) = _ := upd_at.2
  have s1 := leS_mono g1.1 (Nat.le_succ S.1)
  have s2 := leS_mono g2.1 (Nat.le_succ S.1)
  have s3 : leS (S.1 + 1) (leX S.1) := leS_X (Nat.lt_succ_self _)
  obtain ⟨D, hD, FD⟩ := adGs_sp M1.1 (l := [leSub e1 (leX S.1), leSub e2 (leX S.1), leK (leX S.1) (-(imin (loE' S.2.1.1 e1) (loE' S.2.1.1 e2)))]) (by
    intro e he
    rcases List.mem_cons.mp he with rfl | he
    · exact ⟨leS_sub s1 s3, by rw [leV_sub, x1, x3]; omega⟩
    rcases List.mem_cons.mp he with rfl | he
    · exact ⟨leS_sub s2 s3, by rw [leV_sub, x2, x3]; omega⟩
    rcases List.mem_cons.mp he with rfl | he
    · exact ⟨leS_K s3, by rw [leV_K, x3]; omega⟩
    · cases he)
  dsimp only at hb
  rw [hD] at hb
  cases hb
  exact ⟨_, upd_ag, Nat.le_succ _, M1.db FD, upd_at⟩
end STEP
