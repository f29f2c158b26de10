/-! The walk is sound: the theorem. -/
section EXS
variable {rg : List Rg} {ws : List Wr} {h0 : Hp}
theorem frX_at : ∀ {gs : List Gen} {n i : Nat}, i < gs.length → gtL (frX n gs) i = leX (n + i)
  | [], _, _, hi => by simp at hi
  | _ :: r, n, 0, _ => rfl
  | _ :: r, n, i + 1, hi => by
    show gtL (frX (n + 1) r) i = _
    rw [frX_at (by simpa using hi), show n + 1 + i = n + (i + 1) by omega]
theorem frX_len : ∀ {gs : List Gen} {n : Nat}, (frX n gs).length = gs.length
  | [], _ => rfl
  | _ :: r, n => by simp [frX, frX_len (gs := r)]
theorem frX_S : ∀ {gs : List Gen} {n : Nat}, ∀ e ∈ frX n gs, leS (n + gs.length) e
  | [], _, e, he => by cases he
  | g :: r, n, e, he => by
    rcases List.mem_cons.mp he with rfl | he
    · exact leS_X (by simp)
    · have := frX_S (gs := r) (n := n + 1) e he
      rw [show n + 1 + r.length = n + (g :: r).length by simp; omega] at this
      exact this
theorem gb_sh {ρ ρ' : Nat → Int} : ∀ {gs : List Gen} {a b : Nat}, (∀ i, i < gs.length → ρ (b + i) = ρ' (a + i)) → bdV ρ' gs a → ∀ q ∈ gbL gs b, q.1 < b + gs.length ∧ q.2.1 ≤ ρ q.1 ∧ ρ q.1 ≤ q.2.2
  | [], _, _, _, _, q, hq => by cases hq
  | g :: r, a, b, hr, hb, q, hq => by
    rcases List.mem_cons.mp hq with rfl | hq
    · have h1 := hb (a, g.2.1, g.2.2) List.mem_cons_self
      have h2 : ρ b = ρ' a := hr 0 (by simp)
      exact ⟨by show b < b + (r.length + 1); omega, by show g.2.1 ≤ ρ b; rw [h2]; exact h1.1, by show ρ b ≤ g.2.2; rw [h2]; exact h1.2⟩
    · obtain ⟨j1, j2⟩ := gb_sh (gs := r) (a := a + 1) (b := b + 1) (fun i hi => by have := hr (i + 1) (by simpa using hi); rw [show b + 1 + i = b + (i + 1) by omega, show a + 1 + i = a + (i + 1) by omega]; exact this) (fun p hp => hb p (List.mem_cons_of_mem _ hp)) q hq
      exact ⟨by show q.1 < b + (r.length + 1); omega, j2⟩
theorem subW_sp {vs : List Wr} {k o : Nat} {j : Int32} (h : subW vs ws = true) (q : inW vs k o j) : inW ws k o j := by
  obtain ⟨v, hv, a, b, c, d⟩ := q
  rw [subW, List.all_eq_true] at h
  have := h v hv
  simp only [List.any_eq_true, Bool.and_eq_true] at this
  obtain ⟨w, hw, ⟨⟨e1, e2⟩, e3⟩, e4⟩ := this
  exact ⟨w, hw, (beqT e1).symm.trans a, (beqT e2).symm.trans b, Int.le_trans (ile_le e3) c, Int.le_trans d (ile_le e4)⟩
theorem smO_sp {ρ1 ρ' : Nat → Int} {S1 : Sx} {h h' : Hp} {σ : List LE} {s : Sm} {o : Ou} {r : Option Value} (M : Mo rg ws h0 ρ1 S1 h) (hσ : ∀ e ∈ σ, leS S1.1 e) (hl : σ.length = smG s) (hw : smW s = true) (ho : o ∈ s.2.2.2.2.2.2) (hsub : subW s.2.2.2.2.2.1 ws = true) (hR : ∀ q ∈ rg, RgO h' q) (hW : Frm s.2.2.2.2.2.1 h h') (hA : Ag (fun k => leV ρ1 (fLL 0 σ k)) ρ' (smG s)) (hb : bdV ρ' o.1 (smG s)) (hr : rtV ρ' o.2.1 r) (hk : ∀ c ∈ o.2.2.1, kcV ρ' h' c) (hf : ∀ f ∈ o.2.2.2, 0 ≤ leV ρ' f) : ∃ ρ2, Ag ρ1 ρ2 S1.1 ∧ Mo rg ws h0 ρ2 (smO S1 σ s.2.2.2.2.2.1 o).1 h' ∧ (match (smO S1 σ s.2.2.2.2.2.1 o).2 with
    | none => r = none
    | some e => ∃ x : Int32, r = some (.int x) ∧ GG ρ2 (S1.1 + o.1.length) e x.toInt) ∧ ∀ e : LE, leS (smG s + o.1.length) e → leS (S1.1 + o.1.length) (leSb (fLL 0 (σ ++ frX S1.1 o.1)) e) ∧ leV ρ2 (leSb (fLL 0 (σ ++ frX S1.1 o.1)) e) = leV ρ' e := by
  have hw' := hw
  simp only [smW, Bool.and_eq_true, List.all_eq_true] at hw'
  have hwo := hw'.2 o ho
  obtain ⟨⟨w1, w2⟩, w3⟩ := hwo
  let ρ2 : Nat → Int := fun k => if k < S1.1 then ρ1 k else ρ' (smG s + (k - S1.1))
  have a2 : Ag ρ1 ρ2 S1.1 := fun k hk => if_pos hk
  have hi : ∀ i, ρ2 (S1.1 + i) = ρ' (smG s + i) := fun i => by
    show (if S1.1 + i < S1.1 then _ else _) = _
    rw [if_neg (by omega), Nat.add_sub_cancel_left]
  have e0 : ∀ k, fLL 0 (σ ++ frX S1.1 o.1) k = gtL (σ ++ frX S1.1 o.1) k := fun i => by have := fLL_hi (n := 0) (k := i) (σ := σ ++ frX S1.1 o.1); rwa [Nat.zero_add] at this
  have e1 : ∀ k, fLL 0 σ k = gtL σ k := fun i => by have := fLL_hi (n := 0) (k := i) (σ := σ); rwa [Nat.zero_add] at this
  have fk : ∀ k, k < smG s + o.1.length → leV ρ2 (fLL 0 (σ ++ frX S1.1 o.1) k) = ρ' k := fun k hk => by
    rw [e0, gtL_app]
    split
    · rename_i hlt
      have hs : leS S1.1 (gtL σ k) := gtL_S hσ k
      rw [leV_ext hs a2, hA k (by omega)]
      show _ = leV ρ1 (fLL 0 σ k)
      rw [e1]
    · rename_i hge
      rw [frX_at (by omega), leV_X, hi]
      congr 1
      omega
  have fS : ∀ k, leS (S1.1 + o.1.length) (fLL 0 (σ ++ frX S1.1 o.1) k) := fLL_S (fun e he => by
    rcases List.mem_append.mp he with he | he
    · exact leS_mono (hσ e he) (Nat.le_add_right _ _)
    · exact frX_S e he) (Nat.zero_le _)
  have fV : ∀ e, leS (smG s + o.1.length) e → leV ρ2 (leSb (fLL 0 (σ ++ frX S1.1 o.1)) e) = leV ρ' e := fun e he => by
    rw [leSb_V]
    exact leV_ext he fk
  refine ⟨ρ2, a2, ⟨?_, ?_, hR, ?_⟩, ?_, fun e he => ⟨leSb_S fS, fV e he⟩⟩
  · have F := M.1.ext (m := S1.1 + o.1.length) a2 (Nat.le_add_right _ _)
    refine ⟨fun q hq => ?_, fun f hf' => ?_⟩
    · rcases List.mem_append.mp hq with hq | hq
      · exact gb_sh (a := smG s) (fun i _ => hi i) hb q hq
      · exact F.1 q hq
    · rcases List.mem_append.mp hf' with hf' | hf'
      · obtain ⟨e, he, rfl⟩ := List.mem_map.mp hf'
        exact ⟨leSb_S fS, by rw [fV e (scB_S (w3 e he))]; exact hf e he⟩
      · exact F.2 f hf'
  · intro c hc
    rcases List.mem_append.mp hc with hc | hc
    · obtain ⟨c0, hc0, rfl⟩ := List.mem_map.mp hc
      have hk0 := hk c0 hc0
      obtain ⟨s1, s2⟩ := w2 c0 hc0
      have v1 := fV _ (scB_S s1)
      have v2 := fV _ (scB_S s2)
      refine kcV_O ?_ (leSb_S fS) (leSb_S fS)
      unfold kcV
      dsimp only
      rw [v1, v2]
      exact hk0
    · exact (kpL_sp M.1 M.2.1 hW c hc).ext a2 (Nat.le_add_right _ _)
  · obtain ⟨W1, W2, W3⟩ := M.2.2.2
    refine ⟨fun o' j hn => ?_, fun o' j hn => ?_, hW.2.2.trans W3⟩
    · rw [hW.1 o' j (fun q => hn (subW_sp hsub q))]; exact W1 o' j hn
    · rw [hW.2.1 o' j (fun q => hn (subW_sp hsub q))]; exact W2 o' j hn
  · cases ho2 : o.2.1 with
    | none =>
      rw [ho2] at hr
      rw [show (smO S1 σ s.2.2.2.2.2.1 o).2 = o.2.1.map (leSb (fLL 0 (σ ++ frX S1.1 o.1))) from rfl, ho2]
      exact hr
    | some e =>
      rw [ho2] at hr w1
      obtain ⟨x, r1, r2⟩ := hr
      rw [show (smO S1 σ s.2.2.2.2.2.1 o).2 = o.2.1.map (leSb (fLL 0 (σ ++ frX S1.1 o.1))) from rfl, ho2]
      exact ⟨x, r1, leSb_S fS, by rw [fV e (scB_S w1)]; exact r2⟩
theorem SR.len {ρ : Nat → Int} {n : Nat} : ∀ {st : List AV} {sc : List Value}, SR ρ n st sc → sc.length = st.length
  | [], _, q => by cases q; rfl
  | _ :: r, _, q => by
    obtain ⟨v, t, rfl, -, q⟩ := q
    simp [SR.len q]
theorem SR.app {ρ : Nat → Int} {n : Nat} : ∀ {a b : List AV} {x y : List Value}, SR ρ n a x → SR ρ n b y → SR ρ n (a ++ b) (x ++ y)
  | [], _, _, _, q, r => by cases q; exact r
  | _ :: a, _, _, _, q, r => by
    obtain ⟨v, t, rfl, h1, h2⟩ := q
    exact SR.cons h1 (SR.app h2 r)
theorem SR.rev {ρ : Nat → Int} {n : Nat} : ∀ {a : List AV} {x : List Value}, SR ρ n a x → SR ρ n a.reverse x.reverse
  | [], _, q => by cases q; exact rfl
  | _ :: a, _, q => by
    obtain ⟨v, t, rfl, h1, h2⟩ := q
    rw [List.reverse_cons, List.reverse_cons]
    exact SR.app (SR.rev h2) (SR.cons h1 rfl)
theorem SR.split {ρ : Nat → Int} {n : Nat} : ∀ {k : Nat} {st : List AV} {sc : List Value}, SR ρ n st sc → k ≤ st.length → ∃ a b, sc = a ++ b ∧ SR ρ n (st.take k) a ∧ SR ρ n (st.drop k) b ∧ a.length = k
  | 0, st, sc, q, _ => ⟨[], sc, rfl, by simp [SR], by simpa using q, rfl⟩
  | k + 1, [], _, _, hk => by simp at hk
  | k + 1, x :: st, _, q, hk => by
    obtain ⟨v, t, rfl, h1, h2⟩ := q
    obtain ⟨a, b, rfl, h3, h4, h5⟩ := SR.split (k := k) h2 (by simpa using hk)
    exact ⟨v :: a, b, rfl, SR.cons h1 h3, h4, by simp [h5]⟩
theorem av_cat {ρ : Nat → Int} {n : Nat} {a : AV} {v : Value} (h : av ρ n a v) : v.category = (if Nat.beq a.1 1 = true then 2 else 1) := by
  obtain ⟨t, e⟩ := a
  unfold av at h
  dsimp only at h ⊢
  split at h
  · obtain ⟨x, rfl, -⟩ := h; rfl
  · obtain ⟨x, rfl, -⟩ := h; rfl
  · obtain ⟨x, rfl, -⟩ := h; rfl
  · rename_i g0 g1 g2
    obtain ⟨x, y, rfl, -⟩ := h
    rw [if_neg (fun q => g1 (beqT q))]
    rfl
theorem eLa_len {ρ : Nat → Int} {n : Nat} : ∀ {as : List AV} {vs : List Value}, SR ρ n as vs → (eLa as).length = (eL vs).length
  | [], _, q => by cases q; rfl
  | a :: as, _, q => by
    obtain ⟨v, t, rfl, h1, h2⟩ := q
    have ih := eLa_len h2
    have hc := av_cat h1
    unfold eLa eL
    split
    · rename_i g
      rw [if_pos g] at hc
      rw [if_pos hc]
      simp [ih]
    · rename_i g
      rw [if_neg g] at hc
      rw [if_neg (by omega)]
      simp [ih]
theorem LR.nil {ρ : Nat → Int} {n m : Nat} : LR ρ n (List.replicate m none) (List.replicate m none) := by
  refine ⟨by simp, fun k => ⟨fun a ha => ?_, fun _ => ?_⟩⟩
  · rw [List.getElem?_replicate] at ha
    split at ha
    · cases ha
    · cases ha
  · rw [List.getElem?_replicate]
    split <;> rfl
theorem LR.cons {ρ : Nat → Int} {n : Nat} {a : AV} {v : Value} {ls : List (Option AV)} {lc : Lc} (h : av ρ n a v) (q : LR ρ n ls lc) : LR ρ n (some a :: ls) (some v :: lc) := ⟨by simp [q.1], fun k => by
  cases k with
  | zero => exact ⟨fun b hb => by simp at hb; subst hb; exact ⟨v, rfl, h⟩, fun hb => by simp at hb⟩
  | succ k => simpa using q.2 k⟩
theorem LR.cons0 {ρ : Nat → Int} {n : Nat} {ls : List (Option AV)} {lc : Lc} (q : LR ρ n ls lc) : LR ρ n (none :: ls) (none :: lc) := ⟨by simp [q.1], fun k => by
  cases k with
  | zero => exact ⟨fun b hb => by simp at hb, fun _ => rfl⟩
  | succ k => simpa using q.2 k⟩
theorem eLa_LR {ρ : Nat → Int} {n m : Nat} : ∀ {as : List AV} {vs : List Value}, SR ρ n as vs → LR ρ n (eLa as ++ List.replicate m none) (eL vs ++ List.replicate m none)
  | [], _, q => by cases q; exact LR.nil
  | a :: as, _, q => by
    obtain ⟨v, t, rfl, h1, h2⟩ := q
    have ih := eLa_LR (m := m) h2
    have hc := av_cat h1
    unfold eLa eL
    split
    · rename_i g
      rw [if_pos g] at hc
      rw [if_pos hc]
      exact LR.cons h1 (LR.cons0 ih)
    · rename_i g
      rw [if_neg g] at hc
      rw [if_neg (by omega)]
      exact LR.cons h1 ih
theorem eLnA_LR {ρ : Nat → Int} {n ml : Nat} {as : List AV} {vs : List Value} (q : SR ρ n as vs) : LR ρ n (eLnA ml as) (eLn ml vs) := by
  unfold eLnA eLn
  rw [eLa_len q]
  exact eLa_LR q
theorem sIx_b : ∀ (l : List Nat) (x : Int32) (k : Nat), k + l.length < 4096 → -1 ≤ (sIx l x k).toInt ∧ (sIx l x k).toInt ≤ k + l.length
  | [], x, k, _ => ⟨by show (-1 : Int) ≤ (-1 : Int32).toInt; decide, by show ((-1 : Int32).toInt) ≤ _; have : (-1 : Int32).toInt = -1 := by decide
                                                                        rw [this]; omega⟩
  | c :: r, x, k, h => by
    unfold sIx
    simp only [List.length_cons] at h ⊢
    split
    · rw [nI_i (by omega)]; omega
    · have := sIx_b r x (k + 1) (by omega)
      omega
theorem lbA_sp {ρ : Nat → Int} {S : Sx} {h : Hp} {mid d : Nat} {as : List AV} {vs : List Value} {R : Sx × LE} {Q : Option Value → Hp → Prop} (M : Mo rg ws h0 ρ S h) (hS : SR ρ S.1 as vs) (q : lbA S mid as = some R) (K : ∀ x : Int32, RS rg ws h0 h ρ S R x.toInt → Q (some (.int x)) h) : Call (d + 1) mid vs h Q := by
  refine Or.inl ?_
  unfold lbA at q
  split at q
  · replace hS := hS.rr
    obtain ⟨t, rfl, hS⟩ := hS
    cases hS
    split at q
    · rename_i hc
      simp only [Bool.and_eq_true] at hc
      split at q
      · rename_i l hl
        split at q
        · rename_i hlen
          cases q
          have h1 := Nat.le_of_ble_eq_true hc.2
          refine ⟨beqT hc.1, _, l, (Nat.add_sub_cancel' h1).symm, hl, K _ (RS.rf M ?_)⟩
          rw [nI_i (by have := bltT hlen; omega)]
          exact GG.c
        · cases q
      · cases q
    · cases q
  · replace hS := hS.rr
    obtain ⟨t, rfl, hS⟩ := hS
    replace hS := hS.j
    obtain ⟨x, t, rfl, g, hS⟩ := hS
    cases hS
    split at q
    · rename_i hc
      have h1 := Nat.le_of_ble_eq_true hc
      split at q
      · rename_i l hl
        split at q
        · rename_i hb
          cases q
          simp only [Bool.and_eq_true, List.all_eq_true] at hb
          obtain ⟨⟨m1, m2⟩, m3⟩ := hb
          obtain ⟨-, b1, b2⟩ := bdI_sp M.1 g m2
          have hk : x.toInt.toNat < l.length := by omega
          have hcz : l[x.toInt.toNat] < 256 := bltT (m3 _ (List.getElem_mem hk))
          have hn := nI_i (n := x.toInt.toNat) (by have := i32b x; simp only [I32lo, I32hi] at this; omega)
          refine ⟨_, l, (Nat.add_sub_cancel' h1).symm, hl, Or.inl ⟨beqT m1, x.toInt.toNat, l[x.toInt.toNat], ?_, List.getElem?_eq_getElem hk, K _ (topI_sp M ?_ ?_)⟩⟩
          · rw [← Int32.toInt_inj, hn]; omega
          · rw [nI_i (by omega)]; omega
          · rw [nI_i (by omega)]; omega
        · split at q
          · rename_i hb
            cases q
            simp only [Bool.and_eq_true] at hb
            obtain ⟨⟨⟨m1, m2⟩, m3⟩, m4⟩ := hb
            have e1 := en_sp M.1 m2
            have e2 := en_sp M.1 m3
            rw [g.2] at e1
            rw [leV_K, leV_sc, g.2] at e2
            have hb := sIx_b l x 0 (by have := bltT m4; omega)
            refine ⟨_, l, (Nat.add_sub_cancel' h1).symm, hl, Or.inr ⟨beqT m1, ⟨ge0I.mpr e1, ?_⟩, K _ (topI_sp M hb.1 (by have := hb.2; omega))⟩⟩
            rw [Int32.le_iff_toInt_le, show (65535 : Int32).toInt = 65535 by decide]
            omega
          · cases q
      · cases q
    · cases q
  · cases q
theorem rcA_sp {ρ : Nat → Int} {n k o : Nat} {as : List AV} {vs : List Value} (hS : SR ρ n as vs) (q : rcA k o as = true) : rcv k o vs := by
  unfold rcA at q
  unfold rcv
  split at q
  · rename_i hk
    rw [if_pos hk]; trivial
  · rename_i hk
    rw [if_neg hk]
    split at q
    · replace hS := hS.rr
      obtain ⟨t, rfl, -⟩ := hS
      exact ⟨_, t, rfl, q⟩
    · cases q
theorem alF_sp : ∀ {l : List Al} {pc : Nat} {al : Al}, alF l pc = some al → al ∈ l ∧ al.1 = pc
  | [], _, _, h => by cases h
  | a :: r, pc, al, h => by
    unfold alF at h
    split at h
    · rename_i g
      cases h
      exact ⟨List.mem_cons_self, beqT g⟩
    · obtain ⟨h1, h2⟩ := alF_sp h
      exact ⟨List.mem_cons_of_mem _ h1, h2⟩
theorem mkP_sp {an : An} {S : Sx} {pc : Nat} {ls : List (Option AV)} {σ : List LE} {al : Al} (q : mkP an S pc ls σ = some al) : al.1 = pc ∧ al.2.1 = S.1 ∧ al.2.2.2.2.2.1 = S.2.1 ∧ al.2.2.2.1.1.2.1 = (gbL al.2.2.1 al.2.1 ++ al.2.2.2.2.2.1.1, al.2.2.2.2.1 ++ al.2.2.2.2.2.1.2) := by
  unfold mkP at q
  dsimp only at q
  split at q
  · cases q
    exact ⟨rfl, rfl, rfl, rfl⟩
  · cases q
end EXS
