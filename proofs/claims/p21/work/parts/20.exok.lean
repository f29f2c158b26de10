/-! The walk is sound. -/
/-- a cell, an argument, by their forms alone -/
noncomputable def kcV (ρ : Nat → Int) (h : Hp) (c : Kc) : Prop := KC h c.1 c.2.1 (leV ρ c.2.2.1) (leV ρ c.2.2.2)
/-- the arguments, from the k-th symbol on -/
noncomputable def inV (ρ : Nat → Int) : List (Nat × Int × Int) → Nat → List Value → Prop
  | [], _, as => as = []
  | (t, l, u) :: r, k, as => ∃ v s, as = v :: s ∧ (if t = 2 then v = .ref l.toNat ∧ 0 ≤ l ∧ inV ρ r k s else (l ≤ ρ k ∧ ρ k ≤ u) ∧ (if t = 0 then ∃ x : Int32, v = .int x ∧ ρ k = x.toInt else t = 1 ∧ ∃ x : Int64, v = .long x ∧ ρ k = x.toInt) ∧ inV ρ r (k + 1) s)
noncomputable def nonR (l : List (Nat × Int × Int)) : Nat := (l.filter (fun q => !(Nat.beq q.1 2))).length
noncomputable def bdV (ρ : Nat → Int) (l : List Gen) (k : Nat) : Prop := ∀ q ∈ gbL l k, q.2.1 ≤ ρ q.1 ∧ ρ q.1 ≤ q.2.2
noncomputable def rtV (ρ : Nat → Int) (e : Option LE) (r : Option Value) : Prop := match e with
  | none => r = none
  | some e => ∃ x : Int32, r = some (.int x) ∧ leV ρ e = x.toInt
/-- what a call of a known method needs, and does -/
noncomputable abbrev SmB (rg : List Rg) (s : Sm) (d : Nat) (ρ : Nat → Int) (as : List Value) (h : Hp) : Prop := inV ρ s.2.2.1 0 as → bdV ρ s.2.2.2.1 (nonR s.2.2.1) → (∀ c ∈ celG (nonR s.2.2.1) s.2.2.2.1, kcV ρ h c) → (∀ f ∈ s.2.2.2.2.1, 0 ≤ leV ρ f) → (∀ q ∈ rg, RgO h q) → Call d s.1 as h (fun r h' => (∀ q ∈ rg, RgO h' q) ∧ Frm s.2.2.2.2.2.1 h h' ∧ ∃ o ∈ s.2.2.2.2.2.2, ∃ ρ', Ag ρ ρ' (smG s) ∧ bdV ρ' o.1 (smG s) ∧ rtV ρ' o.2.1 r ∧ (∀ c ∈ o.2.2.1, kcV ρ' h' c) ∧ (∀ f ∈ o.2.2.2, 0 ≤ leV ρ' f))
noncomputable def SmOK (rg : List Rg) (s : Sm) : Prop := ∀ d, s.2.1 ≤ d → ∀ (ρ : Nat → Int) (as : List Value) (h : Hp), SmB rg s d ρ as h
/-- the same in a walk: so much deeper, its facts may speak of the walked method's symbols -/
noncomputable def SmQ (rg : List Rg) (δ : Nat) (ρ0 : Nat → Int) (n0 : Nat) (s : Sm) : Prop := ∀ d, s.2.1 + δ ≤ d → ∀ (ρ : Nat → Int) (as : List Value) (h : Hp), (∀ j, j < n0 → ρ (500 + j) = ρ0 j) → SmB rg s d ρ as h
theorem SmOK.q {rg : List Rg} {δ : Nat} {ρ0 : Nat → Int} {n0 : Nat} {s : Sm} (H : SmOK rg s) : SmQ rg δ ρ0 n0 s := fun d hd ρ as h _ => H d (Nat.le_trans (Nat.le_add_right _ _) hd) ρ as h
noncomputable def mz (al : Al) (ρ : Nat → Int) : Nat := let g := al.2.2.1.getD al.2.2.2.2.2.2.1 ((0, 0, 0, leC 0), 0, 0); let x := ρ (al.2.1 + al.2.2.2.2.2.2.1); if al.2.2.2.2.2.2.2 = true then (g.2.2 - x).toNat else (x - g.2.1).toNat
noncomputable def AlOK (rg : List Rg) (ws : List Wr) (h0 : Hp) (ρ : Nat → Int) (n : Nat) (X : Cf → Prop) (al : Al) : Prop := Fa ρ al.2.1 al.2.2.2.2.2.1 ∧ alW al = true ∧ al.2.1 + al.2.2.1.length ≤ n ∧ al.2.2.2.1.1.2.1 = (gbL al.2.2.1 al.2.1 ++ al.2.2.2.2.2.1.1, al.2.2.2.2.1 ++ al.2.2.2.2.2.1.2) ∧ ∀ ρ' z, Ag ρ ρ' al.2.1 → Md rg ws h0 ρ' al.2.2.2.1 z → mz al ρ' < mz al ρ → X z
theorem Ag.mono {ρ ρ' : Nat → Int} {n m : Nat} (h : Ag ρ ρ' n) (g : m ≤ n) : Ag ρ ρ' m := fun k hk => h k (Nat.lt_of_lt_of_le hk g)
theorem Ag.sy {ρ ρ' : Nat → Int} {n : Nat} (h : Ag ρ ρ' n) : Ag ρ' ρ n := fun k hk => (h k hk).symm
theorem alW_t {al : Al} (h : alW al = true) : al.2.2.2.2.2.2.1 < al.2.2.1.length := by
  simp only [alW, Bool.and_eq_true] at h
  exact bltT h.2
section EXOK
variable {rg : List Rg} {ws : List Wr} {h0 : Hp}
theorem AlOK.ext {ρ ρ' : Nat → Int} {n m : Nat} {X : Cf → Prop} {al : Al} (h : AlOK rg ws h0 ρ n X al) (g : Ag ρ ρ' n) (hm : n ≤ m) : AlOK rg ws h0 ρ' m X al := by
  obtain ⟨a, b, c, d, e⟩ := h
  have hn : al.2.1 ≤ n := by omega
  have hz : mz al ρ' = mz al ρ := by
    have := alW_t b
    unfold mz
    dsimp only
    rw [g _ (by omega)]
  exact ⟨a.ext (g.mono hn) (Nat.le_refl _), b, by omega, d, fun ρ'' z g2 M k => e ρ'' z ((g.mono hn).tr g2 (Nat.le_refl _)) M (by rw [← hz]; exact k)⟩
/-- the callers that wait -/
noncomputable def FrOK (rg : List Rg) (ws : List Wr) (h0 : Hp) (ρ : Nat → Int) (n : Nat) (Q0 : Option Value → Hp → Prop) (X0 : Cf → Prop) : Nat → List Fm → (Option Value → Hp → Prop) → Prop
  | _, [], Q => ∀ r h, Q0 r h → Q r h
  | d, (bd, pc, ls, st, act) :: fs, Q => ∃ (X : Cf → Prop) (Q' : Option Value → Hp → Prop) (lc : Lc) (sc : List Value), Clo (Call (d + 1)) bd.1 bd.2.1 Q' X ∧ (∀ r h, X (pc, lc, r.toList ++ sc, h) → Q r h) ∧ LR ρ n ls lc ∧ SR ρ n st sc ∧ (∀ al ∈ act, AlOK rg ws h0 ρ n X al) ∧ (fs = [] → ∀ z, X0 z → X z) ∧ FrOK rg ws h0 ρ n Q0 X0 (d + 1) fs Q'
theorem FrOK.ext {ρ ρ' : Nat → Int} {n m : Nat} {Q0 : Option Value → Hp → Prop} {X0 : Cf → Prop} (g : Ag ρ ρ' n) (hm : n ≤ m) : ∀ {fs : List Fm} {d : Nat} {Q : Option Value → Hp → Prop}, FrOK rg ws h0 ρ n Q0 X0 d fs Q → FrOK rg ws h0 ρ' m Q0 X0 d fs Q
  | [], _, _, h => h
  | (bd, pc, ls, st, act) :: fs, d, Q, h => by
    obtain ⟨X, Q', lc, sc, a, b, c, e, f, x, k⟩ := h
    exact ⟨X, Q', lc, sc, a, b, c.ext g hm, e.ext g hm, fun al ha => (f al ha).ext g hm, x, FrOK.ext g hm k⟩
theorem tch1_sp {h : Hp} {S : Sx} {ρ : Nat → Int} {g : Gen} (M : Mo rg ws h0 ρ S h) : ∃ ρ', Ag ρ ρ' S.1 ∧ S.1 ≤ (tch1 rg S g).1 ∧ Mo rg ws h0 ρ' (tch1 rg S g) h := by
  have same : ∃ ρ', Ag ρ ρ' S.1 ∧ S.1 ≤ S.1 ∧ Mo rg ws h0 ρ' S h := ⟨ρ, Ag.rf, Nat.le_refl _, M⟩
  unfold tch1
  split
  · rename_i o i heq
    split
    · rename_i hc
      have hr := inR32_sp M.1 hc.2
      have hs : leS S.1 i := by
        rcases Bool.or_eq_true _ _ |>.mp hc.1 with q | q
        · have hi : i.2 = [] := by simpa using q
          exact fun p hp => by rw [hi] at hp; (cases hp)
        · exact scB_S (Bool.and_eq_true_iff.mp q).2
      obtain ⟨ρ1, a1, a2, a3, -⟩ := rdI_sp (o := o) (i := i) (j := Int32.ofInt (leV ρ i)) M ⟨hs, (i32of hr.1 hr.2).symm⟩
      exact ⟨ρ1, a1, a2, a3⟩
    · exact same
  · split
    · rename_i e h1 h2
      split
      · rename_i hz
        refine ⟨ρ, Ag.rf, Nat.le_refl _, M.kc ⟨leS_C, leS_C, ?_⟩⟩
        have k := (M.2.1 _ (kcF_sp h2)).2.2
        obtain ⟨j, k1, k2⟩ := k
        have ej : j = 24 := Int32.toInt_inj.mp (by rw [← k1]; show leV ρ (leC 24) = _; rw [leV_C]; decide)
        rw [leEq_eq hz, leV_C, ej] at k2
        show WFP (Fz h 66) (h.1 65 25).toInt (h.1 65 24).toInt (leV ρ (leC 0))
        rw [← k2, leV_C]
        exact ⟨Int.le_refl _, fun _ => 0, rfl, rfl, fun k k0 k1 => by omega⟩
      · exact same
    · exact same
  · split
    · rename_i e h1 h2
      split
      · rename_i hz
        simp only [Bool.and_eq_true, Bool.or_eq_true] at hz
        refine ⟨ρ, Ag.rf, Nat.le_refl _, M.kc ⟨leS_C, leS_C, leV_C ρ 0, ?_⟩⟩
        have k := (M.2.1 _ (kcF_sp h2)).2.2
        obtain ⟨j, k1, k2⟩ := k
        have ej : j = 25 := Int32.toInt_inj.mp (by rw [← k1]; show leV ρ (leC 25) = _; rw [leV_C]; decide)
        rw [ej] at k2
        dsimp only at k2
        have e1 := en_sp M.1 hz.1
        rw [leV_K, k2] at e1
        refine ⟨by omega, ?_⟩
        rcases hz.2 with q | q
        · have e2 := en_sp M.1 q
          rw [leV_K, leV_sc, k2] at e2
          exact Or.inl (by omega)
        · rw [leEq_eq q, leV_C] at k2
          exact Or.inr k2.symm
      · exact same
    · exact same
  · rename_i o0 _ heq0
    split
    · refine ⟨_, upd_ag (x := (cntO h : Int)), Nat.le_succ _, (M.nw (x := (cntO h : Int)) (l := 0) (u := 30) (by omega) ?_).kc ⟨leS_C, leS_X (Nat.lt_succ_self _), ?_⟩⟩
      · have : cntO h ≤ 30 := by unfold cntO; exact Nat.le_trans List.countP_le_length (by simp)
        omega
      · show leV _ (leX S.1) = (cntO h : Int)
        exact (upd_at (ρ := ρ)).2
    · rename_i e he
      obtain ⟨s1, w⟩ := kcE M he
      have w : leV ρ e = (cntO h : Int) := w
      have key : ∃ D', adG S.2.1 (if (cvF && S.2.2.any (fun c => Nat.beq c.1 8 && (Nat.beq c.2.1 o0 && en S.2.1 c.2.2.1))) = true then leK e (-1) else e) = some D' ∧ Fa ρ S.1 D' := by
        split
        · rename_i hz
          rw [Bool.and_eq_true, List.any_eq_true] at hz
          obtain ⟨-, c, hc, hz⟩ := hz
          simp only [Bool.and_eq_true] at hz
          obtain ⟨ck, co, cx, cy⟩ := c
          have h8 : ck = 8 := Nat.eq_of_beq_eq_true hz.1
          subst h8
          obtain ⟨-, -, -, q⟩ := M.2.1 _ hc
          have hx := en_sp M.1 hz.2.2
          dsimp only at q hx
          have := opn_cnt (q.resolve_left (by omega))
          exact adG_sp M.1 (e := leK e (-1)) (leS_K s1) (by rw [leV_K]; omega)
        · exact adG_sp M.1 s1 (by omega)
      obtain ⟨D', d1, d2⟩ := key
      rw [d1]
      exact ⟨ρ, Ag.rf, Nat.le_refl _, M.db d2⟩
  · rename_i o i heq
    split
    · split
      · rename_i d hd
        obtain ⟨k, ⟨o1, b1, s1⟩, ⟨o2, b2, s2⟩, n, cv⟩ := d
        refine ⟨ρ, Ag.rf, Nat.le_refl _, M.kc ⟨leS_C, leS_C, ?_⟩⟩
        show RLO h o (leV ρ (leC 0)) (leV ρ (leC n))
        exact ⟨k, o1, b1, s1, o2, b2, s2, n, cv, hd, fun t t0 t1 t2 => by rw [leV_C, leV_C] at t2; omega⟩
      · exact same
    · exact same
  · rename_i o i heq
    split
    · rename_i hsc
      rw [Bool.and_eq_true] at hsc
      split
      · rename_i hz
        have e1 := en_sp M.1 hz
        rw [leV_K, leV_sc] at e1
        exact ⟨ρ, Ag.rf, Nat.le_refl _, M.kc ⟨scB_S hsc.1, leS_C, leV_C ρ 0, Or.inl (by show leV ρ i < 0; omega)⟩⟩
      · split
        · rename_i d b hd hb
          split
          · rename_i g
            simp only [Bool.and_eq_true] at g
            obtain ⟨⟨⟨⟨g1, g2⟩, g3⟩, g4⟩, g5⟩ := g
            have g1 := en_sp M.1 g1
            have g2 := en_sp M.1 g2
            have g3 := en_sp M.1 g3
            have g4 := en_sp M.1 g4
            have g5 := en_sp M.1 g5
            rw [leV_K, leV_sc] at g2 g3
            rw [leV_sc] at g5
            have ed := kc0 M hd (j := Int32.ofInt (306 + 9 * leV ρ i)) (by rw [leV_K, leV_sc, i32of (by omega) (by omega)]; omega)
            have eb := kc0 M hb (j := Int32.ofInt (leV ρ i)) (by rw [i32of (by omega) (by omega)])
            refine ⟨ρ, Ag.rf, Nat.le_refl _, M.kc ⟨scB_S hsc.1, leS_C, leV_C ρ 0, Or.inr ⟨g1, by show leV ρ i < 30; omega, ?_⟩⟩⟩
            unfold opB Fz
            rw [show ((leV ρ i).toNat : Int) = leV ρ i by omega, ← ed, ← eb]
            simp only [Bool.and_eq_true, decide_eq_true_eq]
            exact ⟨by omega, by omega⟩
          · exact same
        · exact same
    · exact same
  · exact same
theorem tch_sp {h : Hp} : ∀ {l : List Gen} {S : Sx} {ρ : Nat → Int}, Mo rg ws h0 ρ S h → ∃ ρ', Ag ρ ρ' S.1 ∧ S.1 ≤ (tch rg S l).1 ∧ Mo rg ws h0 ρ' (tch rg S l) h
  | [], S, ρ, M => ⟨ρ, Ag.rf, Nat.le_refl _, M⟩
  | g :: r, S, ρ, M => by
    obtain ⟨ρ1, a1, a2, a3⟩ := tch1_sp (g := g) M
    obtain ⟨ρ2, b1, b2, b3⟩ := tch_sp (l := r) a3
    exact ⟨ρ2, a1.tr b1 a2, Nat.le_trans a2 b2, b3⟩
theorem tch8_sp {h : Hp} {S : Sx} {ρ : Nat → Int} {f : Nat → LE} {kc : List Kc} (M : Mo rg ws h0 ρ S h) : ∃ ρ', Ag ρ ρ' S.1 ∧ S.1 ≤ (tch8 rg S f kc).1 ∧ Mo rg ws h0 ρ' (tch8 rg S f kc) h := tch_sp M
theorem srcV_S {ρ : Nat → Int} {S : Sx} {h : Hp} {ls : List (Option AV)} {lc : Lc} (M : Mo rg ws h0 ρ S h) (hL : LR ρ S.1 ls lc) {s : Src} {e : LE} (q : srcV S ls s = some e) : leS S.1 e := by
  unfold srcV at q
  split at q
  · split at q
    · rename_i hk
      cases q
      obtain ⟨x, -, g⟩ := hL.j hk
      exact g.1
    · cases q
  · exact (M.2.1 _ (kcF_sp q)).2.1
  · split at q
    · rename_i h2
      cases q
      have hi : e.2 = [] := by simpa using h2
      exact fun p hp => by rw [hi] at hp; (cases hp)
    · cases q
  · cases q
theorem srcL_S {ρ : Nat → Int} {S : Sx} {h : Hp} {ls : List (Option AV)} {lc : Lc} (M : Mo rg ws h0 ρ S h) (hL : LR ρ S.1 ls lc) : ∀ {gs : List Gen} {σ : List LE}, srcL S ls gs = some σ → σ.length = gs.length ∧ ∀ e ∈ σ, leS S.1 e
  | [], _, q => by cases q; exact ⟨rfl, fun e he => by cases he⟩
  | g :: r, σ, q => by
    unfold srcL at q
    split at q
    · rename_i e l h1 h2
      cases q
      obtain ⟨i1, i2⟩ := srcL_S M hL h2
      refine ⟨by simp [i1], fun f hf => ?_⟩
      rcases List.mem_cons.mp hf with rfl | hf
      · exact srcV_S M hL h1
      · exact i2 f hf
    · cases q
theorem okB_sp {ρ ρ' : Nat → Int} {m : Nat} {D : Db} (F : Fa ρ m D) : ∀ {gs : List Gen} {σ : List LE} {k : Nat}, okB D gs σ = true → (∀ i, i < σ.length → ρ' (k + i) = leV ρ (gtL σ i)) → σ.length = gs.length ∧ ∀ q ∈ gbL gs k, (q.2.1 ≤ ρ' q.1 ∧ ρ' q.1 ≤ q.2.2) ∧ q.1 < k + gs.length
  | [], [], _, _, _ => ⟨rfl, fun q hq => by cases hq⟩
  | [], _ :: _, _, h, _ => by cases h
  | _ :: _, [], _, h, _ => by cases h
  | g :: r, e :: l, k, h, q => by
    simp only [okB, Bool.and_eq_true] at h
    obtain ⟨⟨h1, h2⟩, h3⟩ := h
    have h1 := en2_sp F h1
    have h2 := en2_sp F h2
    rw [leV_K] at h1
    rw [leV_K, leV_sc] at h2
    have e0 : ρ' k = leV ρ e := q 0 (by simp)
    obtain ⟨i1, i2⟩ := okB_sp (k := k + 1) F h3 (fun i hi => by have := q (i + 1) (by simpa using hi); rw [show k + 1 + i = k + (i + 1) by omega]; exact this)
    refine ⟨by simp [i1], fun p hp => ?_⟩
    rcases List.mem_cons.mp hp with rfl | hp
    · exact ⟨⟨by show g.2.1 ≤ ρ' k; omega, by show ρ' k ≤ g.2.2; omega⟩, by show k < k + (r.length + 1); omega⟩
    · obtain ⟨j1, j2⟩ := i2 p hp
      exact ⟨j1, by show p.1 < k + (r.length + 1); omega⟩
theorem gb_at : ∀ {gs : List Gen} {k t : Nat}, t < gs.length → (k + t, (gs.getD t ((0, 0, 0, leC 0), 0, 0)).2) ∈ gbL gs k
  | [], _, _, h => by simp at h
  | g :: r, k, 0, _ => List.mem_cons_self
  | g :: r, k, t + 1, h => by
    have := gb_at (gs := r) (k := k + 1) (t := t) (by simpa using h)
    rw [show k + 1 + t = k + (t + 1) by omega] at this
    exact List.mem_cons_of_mem _ this
theorem okV_sp {ρ : Nat → Int} {m n : Nat} {D : Db} {f : Nat → LE} {p a : AV} {v : Value} (F : Fa ρ m D) (h : okV D f p a = true) (hs : leS n p.2) (g : av ρ m a v) : av (fun k => leV ρ (f k)) n p v := by
  obtain ⟨t, e⟩ := p
  obtain ⟨t', e'⟩ := a
  simp only [okV, Bool.and_eq_true] at h
  obtain ⟨h1, h2⟩ := h
  cases beqT h1
  have key : t ≠ 2 → leV (fun k => leV ρ (f k)) e = leV ρ e' := fun ht => by
    rw [if_neg (fun q => ht (beqT q))] at h2
    rw [← leSb_V]
    exact (eqv_sp F h2).symm
  unfold av at g ⊢
  dsimp only at g ⊢
  split at g
  · obtain ⟨x, rfl, g⟩ := g; exact ⟨x, rfl, hs, (key (by decide)).trans g.2⟩
  · obtain ⟨x, rfl, g⟩ := g; exact ⟨x, rfl, hs, (key (by decide)).trans g.2⟩
  · obtain ⟨x, rfl, g⟩ := g
    rw [if_pos (Nat.beq_refl 2)] at h2
    exact ⟨x, rfl, (leEq_eq h2).trans g⟩
  · rename_i g0 g1 g2
    obtain ⟨x, y, rfl, g⟩ := g
    exact ⟨x, y, rfl, hs, (key g2).trans g.2⟩
theorem okLs_len {D : Db} {f : Nat → LE} : ∀ {p l : List (Option AV)}, okLs D f p l = true → p.length = l.length
  | [], [], _ => rfl
  | none :: r, a :: l, h => by
    simp only [okLs, Bool.and_eq_true] at h
    simp [okLs_len h.2]
  | some p :: r, some a :: l, h => by
    simp only [okLs, Bool.and_eq_true] at h
    simp [okLs_len h.2]
  | some p :: r, none :: l, h => by cases h
  | [], _ :: _, h => by cases h
  | none :: r, [], h => by cases h
  | some p :: r, [], h => by cases h
theorem okLs_at {D : Db} {f : Nat → LE} : ∀ {p l : List (Option AV)} {k : Nat}, okLs D f p l = true → (∀ a, p[k]? = some (some a) → ∃ b, l[k]? = some (some b) ∧ okV D f a b = true) ∧ (p[k]? = some none → notL l[k]? = true)
  | [], [], k, _ => ⟨fun a h => by simp at h, fun h => by simp at h⟩
  | none :: r, a :: l, 0, h => by
    simp only [okLs, Bool.and_eq_true] at h
    exact ⟨fun b hb => by simp at hb, fun _ => by simpa using h.1⟩
  | none :: r, a :: l, k + 1, h => by
    simp only [okLs, Bool.and_eq_true] at h
    simpa using okLs_at (k := k) h.2
  | some p :: r, some a :: l, 0, h => by
    simp only [okLs, Bool.and_eq_true] at h
    exact ⟨fun b hb => by cases hb; exact ⟨a, rfl, h.1⟩, fun hb => by simp at hb⟩
  | some p :: r, some a :: l, k + 1, h => by
    simp only [okLs, Bool.and_eq_true] at h
    simpa using okLs_at (k := k) h.2
  | some p :: r, none :: l, _, h => by cases h
  | [], _ :: _, _, h => by cases h
  | none :: r, [], _, h => by cases h
  | some p :: r, [], _, h => by cases h
theorem okLs_sp {ρ : Nat → Int} {m n : Nat} {D : Db} {f : Nat → LE} {p l : List (Option AV)} {lc : Lc} (F : Fa ρ m D) (h : okLs D f p l = true) (hs : ∀ a ∈ p, scV n a = true) (g : LR ρ m l lc) : LR (fun k => leV ρ (f k)) n p lc := by
  refine ⟨(okLs_len h).trans g.1, fun k => ⟨fun a ha => ?_, fun ha => notL_sp g ((okLs_at h).2 ha)⟩⟩
  obtain ⟨b, hb, hv⟩ := (okLs_at h).1 a ha
  obtain ⟨v, h1, h2⟩ := (g.2 k).1 b hb
  have := hs (some a) (List.mem_of_getElem? ha)
  exact ⟨v, h1, okV_sp F hv (scB_S this) h2⟩
theorem okK_sp {ρ : Nat → Int} {S : Sx} {h : Hp} {f : Nat → LE} {kc : List Kc} (M : Mo rg ws h0 ρ S h) (g : okK S f kc = true) : ∀ c ∈ kc, kcV (fun k => leV ρ (f k)) h c := by
  intro c hc
  rw [okK, List.all_eq_true] at g
  have g := g c hc
  split at g
  · rename_i e he
    split at g
    · rename_i h11
      have g := en2_sp M.1 g
      rw [leV_sub, leSb_V] at g
      have k := (M.2.1 _ (kcF_sp he)).2.2
      dsimp only at k
      rw [leSb_V] at k
      unfold kcV
      rw [Bool.or_eq_true, Bool.or_eq_true] at h11
      rcases h11 with h11 | h11 | h11
      · rw [Nat.eq_of_beq_eq_true h11] at k ⊢
        have k : ZRO h c.2.1 (leV ρ e) := k
        show ZRO h c.2.1 _
        exact k.mono (by omega)
      · rw [Nat.eq_of_beq_eq_true h11] at k ⊢
        have k : BG h c.2.1 (leV ρ e) := k
        show BG h c.2.1 _
        exact k.mono (by omega)
      · rw [Nat.eq_of_beq_eq_true h11] at k ⊢
        have k : UBO h c.2.1 (leV ρ e) := k
        show UBO h c.2.1 _
        exact k.mono (by omega)
    have e1 := eqv_sp M.1 g
    rw [leSb_V] at e1
    have k := (M.2.1 _ (kcF_sp he)).2.2
    dsimp only at k
    rw [leSb_V, e1] at k
    exact k
  · cases g
theorem kcV_O {ρ : Nat → Int} {n : Nat} {h : Hp} {c : Kc} (g : kcV ρ h c) (h1 : leS n c.2.2.1) (h2 : leS n c.2.2.2) : kcO ρ n h c := ⟨h1, h2, g⟩
theorem fLL_ag {ρ : Nat → Int} {n : Nat} {σ : List LE} : Ag ρ (fun k => leV ρ (fLL n σ k)) n := fun k hk => by
  show leV ρ (fLL n σ k) = ρ k
  rw [fLL_lo hk, leV_X]
/-- at the head of a loop -/
theorem chk_sp {ρ : Nat → Int} {al : Al} {σ : List LE} {S : Sx} {h : Hp} {ls : List (Option AV)} {lc : Lc} (M : Mo rg ws h0 ρ S h) (hL : LR ρ S.1 ls lc) (hD : Fa ρ al.2.1 al.2.2.2.2.2.1) (hw : alW al = true) (hP : al.2.2.2.1.1.2.1 = (gbL al.2.2.1 al.2.1 ++ al.2.2.2.2.2.1.1, al.2.2.2.2.1 ++ al.2.2.2.2.2.1.2)) (g : chkP al σ S ls = true) : Md rg ws h0 (fun k => leV ρ (fLL al.2.1 σ k)) al.2.2.2.1 (al.1, lc, [], h) ∧ (msr al σ S.2.1 = true → mz al (fun k => leV ρ (fLL al.2.1 σ k)) < mz al ρ) := by
  simp only [chkP, Bool.and_eq_true] at g
  obtain ⟨⟨⟨g1, g2⟩, g3⟩, g4⟩ := g
  have ht := alW_t hw
  simp only [alW, Bool.and_eq_true, List.all_eq_true] at hw
  obtain ⟨⟨⟨⟨⟨⟨w1, w2⟩, w3⟩, w4⟩, w5⟩, w6⟩, w7⟩ := hw
  have hn := beqT w1
  obtain ⟨b1, b2⟩ := okB_sp (ρ' := fun k => leV ρ (fLL al.2.1 σ k)) (k := al.2.1) M.1 g1 (fun i hi => by show leV ρ (fLL al.2.1 σ (al.2.1 + i)) = _; rw [fLL_hi])
  have hst : al.2.2.2.1.2.2.2 = [] := by simpa using w6
  refine ⟨⟨⟨?_, fun c hc => ?_, M.2.2⟩, (beqT w5).symm, ?_, ?_⟩, fun hm => ?_⟩
  · rw [hP, hn]
    have hF := hD.ext (ρ' := fun k => leV ρ (fLL al.2.1 σ k)) (m := al.2.1 + al.2.2.1.length) fLL_ag (Nat.le_add_right _ _)
    refine ⟨fun q hq => ?_, fun f hf => ?_⟩
    · rcases List.mem_append.mp hq with hq | hq
      · exact ⟨(b2 q hq).2, (b2 q hq).1⟩
      · exact hF.1 q hq
    · rcases List.mem_append.mp hf with hf | hf
      · have := en2_sp M.1 ((List.all_eq_true.mp g2) f hf)
        rw [leSb_V] at this
        exact ⟨scB_S (w2 f hf), this⟩
      · exact hF.2 f hf
  · have := w3 c hc
    rw [hn]
    exact kcV_O (okK_sp M g3 c hc) (scB_S this.1) (scB_S this.2)
  · rw [hn]
    exact okLs_sp M.1 g4 w4 hL
  · rw [hst]
    rfl
  · have hb := (b2 _ (gb_at (k := al.2.1) ht)).1
    dsimp only at hb
    rw [fLL_hi] at hb
    unfold msr at hm
    dsimp only at hm
    unfold mz
    dsimp only
    rw [fLL_hi]
    split at hm
    · rename_i hu
      rw [if_pos hu, if_pos hu]
      have := en2_sp M.1 hm
      rw [leV_K, leV_sub, leV_X] at this
      omega
    · rename_i hu
      rw [if_neg hu, if_neg hu]
      have := en2_sp M.1 hm
      rw [leV_K, leV_sub, leV_X] at this
      omega
end EXOK
