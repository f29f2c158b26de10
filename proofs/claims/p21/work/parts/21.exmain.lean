/-! The walk is sound: ends, calls, all. -/
noncomputable def rvO (ρ : Nat → Int) (n : Nat) (r : Option AV) (v : Option Value) : Prop := match r with
  | none => v = none
  | some a => ∃ x, v = some x ∧ av ρ n a x
section EXM
variable {rg : List Rg} {ws : List Wr} {h0 : Hp}
theorem rtA_sp {ρ : Nat → Int} {n : Nat} {D : Db} {rt : Option FieldType} {i : Instr} {st : List AV} {sc : List Value} {r : Option AV} (F : Fa ρ n D) (hS : SR ρ n st sc) (h : rtA rt i D st = some r) : ∃ G rv, rok rt i sc = some (G, rv) ∧ G ∧ rvO ρ n r rv := by
  unfold rtA at h
  split at h
  · replace hS := hS.j
    obtain ⟨x, t, rfl, g, hS⟩ := hS
    cases hS
    split at h
    · cases h
      exact ⟨True, _, rfl, trivial, _, rfl, av_i g⟩
    · split at h
      · rename_i hz
        cases h
        simp only [Bool.and_eq_true] at hz
        have e1 := en_sp F hz.1
        have e2 := en_sp F hz.2
        rw [g.2] at e1
        rw [leV_K, leV_sc, g.2] at e2
        refine ⟨isB x, _, rfl, ?_, _, rfl, av_i g⟩
        rcases (show x.toInt = 0 ∨ x.toInt = 1 by omega) with q | q
        · exact Or.inl (Int32.toInt_inj.mp q)
        · exact Or.inr (Int32.toInt_inj.mp q)
      · cases h
    · cases h
  · replace hS := hS.l
    obtain ⟨x, t, rfl, g, hS⟩ := hS
    cases hS
    split at h
    · cases h
      exact ⟨True, _, by simp [rok], trivial, _, rfl, ⟨x, rfl, g⟩⟩
    · cases h
  · replace hS := hS.r
    obtain ⟨x, t, rfl, g, hS⟩ := hS
    cases hS
    split at h
    · rename_i hr
      cases h
      exact ⟨True, _, by simp only [rok]; rw [if_pos hr], trivial, _, rfl, av_r g⟩
    · cases h
  · cases hS
    split at h
    · cases h
      exact ⟨True, _, by simp [rok], trivial, rfl⟩
    · cases h
  · cases h
theorem smA_sp {ρ ρ' : Nat → Int} {n : Nat} {D : Db} (F : Fa ρ n D) : ∀ {ins : List (Nat × Int × Int)} {as : List AV} {vs : List Value} {l : List LE} {k : Nat}, smA D ins as = some l → SR ρ n as vs → (∀ i, i < l.length → ρ' (k + i) = leV ρ (gtL l i)) → inV ρ' ins k vs
  | [], [], vs, l, k, _, hS, _ => hS
  | [], _ :: _, _, _, _, h, _, _ => by cases h
  | _ :: _, [], _, _, _, h, _, _ => by cases h
  | (t, l, u) :: r, (t', e) :: as, vs, L, k, h, hS, hr => by
    unfold smA at h
    split at h
    · rename_i ht
      cases beqT ht
      split at h
      · rename_i h2
        cases beqT h2
        split at h
        · rename_i he
          replace hS := hS.r
          obtain ⟨x, t, rfl, g, hS⟩ := hS
          have := leEq_eq he
          rw [g] at this
          have hx : l = Int.ofNat x := by cases this; rfl
          exact ⟨_, _, rfl, by rw [if_pos rfl]; exact ⟨by rw [hx]; rfl, by rw [hx]; exact Int.natCast_nonneg x, smA_sp F h hS hr⟩⟩
        · cases h
      · rename_i h2
        split at h
        · rename_i hb
          simp only [Bool.and_eq_true] at hb
          have e1 := en_sp F hb.1.2
          have e2 := en_sp F hb.2
          rw [leV_K] at e1
          rw [leV_K, leV_sc] at e2
          split at h
          · rename_i l' hl'
            cases h
            have r0 : ρ' k = leV ρ e := hr 0 (by simp)
            obtain ⟨v, s, rfl, hv, hS⟩ := hS
            have ih := smA_sp (k := k + 1) F hl' hS (fun i hi => by have := hr (i + 1) (by simpa using hi); rw [show k + 1 + i = k + (i + 1) by omega]; exact this)
            refine ⟨v, s, rfl, ?_⟩
            rw [if_neg (fun q => h2 (by rw [q]; rfl))]
            refine ⟨by rw [r0]; omega, ?_, ih⟩
            unfold av at hv
            dsimp only at hv
            split at hv
            · obtain ⟨x, rfl, g⟩ := hv
              rw [if_pos rfl]
              exact ⟨x, rfl, r0.trans g.2⟩
            · obtain ⟨x, rfl, g⟩ := hv
              rw [if_neg (by decide)]
              exact ⟨rfl, x, rfl, r0.trans g.2⟩
            · exact absurd rfl h2
            · rename_i g0 g1 g2
              have q1 := Nat.le_of_ble_eq_true hb.1.1
              have q2 : t = 0 ∨ t = 1 := by clear g0 g1 g2; omega
              rcases q2 with q2 | q2
              · exact (g0 q2).elim
              · exact (g1 q2).elim
          · cases h
        · cases h
    · cases h
theorem smA_len {D : Db} : ∀ {ins : List (Nat × Int × Int)} {as : List AV} {l : List LE}, smA D ins as = some l → l.length = nonR ins
  | [], [], l, h => by cases h; rfl
  | [], _ :: _, _, h => by cases h
  | _ :: _, [], _, h => by cases h
  | (t, l, u) :: r, (t', e) :: as, L, h => by
    unfold smA at h
    split at h
    · split at h
      · rename_i h2
        split at h
        · rw [smA_len h]
          unfold nonR
          rw [List.filter_cons_of_neg (by simpa using h2)]
        · cases h
      · rename_i h2
        split at h
        · split at h
          · rename_i l' hl'
            cases h
            show l'.length + 1 = _
            rw [smA_len hl']
            unfold nonR
            rw [List.filter_cons_of_pos (by rw [(Bool.not_eq_true _).mp h2]; rfl)]
            rfl
          · cases h
        · cases h
    · cases h
theorem smA_S {ρ : Nat → Int} {n : Nat} {D : Db} : ∀ {ins : List (Nat × Int × Int)} {as : List AV} {vs : List Value} {l : List LE}, smA D ins as = some l → SR ρ n as vs → ∀ e ∈ l, leS n e
  | [], [], _, l, h, _, e, he => by cases h; cases he
  | [], _ :: _, _, _, h, _, _, _ => by cases h
  | _ :: _, [], _, _, h, _, _, _ => by cases h
  | (t, l, u) :: r, (t', e) :: as, vs, L, h, hS, f, hf => by
    unfold smA at h
    obtain ⟨v, s, rfl, hv, hS⟩ := hS
    split at h
    · rename_i ht
      cases beqT ht
      split at h
      · split at h
        · exact smA_S h hS f hf
        · cases h
      · rename_i h2
        split at h
        · rename_i hb
          split at h
          · rename_i l' hl'
            cases h
            rcases List.mem_cons.mp hf with rfl | hf
            · unfold av at hv
              dsimp only at hv
              split at hv
              · obtain ⟨x, rfl, g⟩ := hv; exact g.1
              · obtain ⟨x, rfl, g⟩ := hv; exact g.1
              · exact absurd rfl h2
              · obtain ⟨x, y, rfl, g⟩ := hv; exact g.1
            · exact smA_S hl' hS f hf
          · cases h
        · cases h
    · cases h
theorem gtL_app {l1 l2 : List LE} {i : Nat} : gtL (l1 ++ l2) i = if i < l1.length then gtL l1 i else gtL l2 (i - l1.length) := by
  induction l1 generalizing i with
  | nil => simp
  | cons a r ih =>
    cases i with
    | zero => rfl
    | succ i =>
      show gtL (r ++ l2) i = if i + 1 < r.length + 1 then gtL r i else gtL l2 (i + 1 - (r.length + 1))
      rw [ih]
      simp only [Nat.add_lt_add_iff_right, Nat.add_sub_add_right]
theorem celG_sp {ρ ρ' : Nat → Int} {S : Sx} {h : Hp} {l1 : List LE} {n0 : Nat} (M : Mo rg ws h0 ρ S h) (hn : ∀ k, k < n0 → leV ρ (fLL 0 l1 k) = ρ' k) : ∀ {gs : List Gen} {l : List LE} {k : Nat}, srcL S [] (gsb l1 gs) = some l → (∀ g ∈ gs, leS n0 g.1.2.2.2) → (∀ i, i < l.length → ρ' (k + i) = leV ρ (gtL l i)) → ∀ c ∈ celG k gs, kcV ρ' h c
  | [], _, _, _, _, _, c, hc => by cases hc
  | g :: r, l, k, hq, hg, hr, c, hc => by
    have hq : srcL S [] (((g.1.1, g.1.2.1, g.1.2.2.1, leSb (fLL 0 l1) g.1.2.2.2), g.2) :: gsb l1 r) = some l := hq
    unfold srcL at hq
    split at hq
    · rename_i e l' h1 h2
      cases hq
      have ih := celG_sp (k := k + 1) M hn h2 (fun q m => hg q (List.mem_cons_of_mem _ m)) (fun i hi => by have := hr (i + 1) (by simpa using hi); rw [show k + 1 + i = k + (i + 1) by omega]; exact this)
      have r0 : ρ' k = leV ρ e := hr 0 (by simp)
      have g0 := hg g List.mem_cons_self
      obtain ⟨⟨t, kk, o, i⟩, b⟩ := g
      unfold celG at hc
      split at hc
      · cases hc
      · rename_i k2 o2 i2 b2 r2 heq
        cases heq
        rcases List.mem_cons.mp hc with rfl | hc
        · have hk : kcO ρ S.1 h (kk, o, leSb (fLL 0 l1) i, e) := M.2.1 _ (kcF_sp h1)
          have hX : leV ρ' (leX k) = leV ρ e := by rw [leV_X]; exact r0
          have hI : leV ρ' i = leV ρ (leSb (fLL 0 l1) i) := by
            rw [leSb_V]
            exact leV_ext (ρ := fun k => leV ρ (fLL 0 l1 k)) g0 (fun k hk => (hn k hk).symm)
          show KC h kk o (leV ρ' i) (leV ρ' (leX k))
          rw [hI, hX]
          exact hk.2.2
        · exact ih c hc
      · rename_i heq
        cases heq
        exact ih c hc
    · cases hq
/-- what is known of a method can be used here -/
theorem smF_sp {ρ : Nat → Int} {S : Sx} {h : Hp} {dp mid : Nat} {as : List AV} {vs : List Value} {R : Sx × List LE × Sm} (M : Mo rg ws h0 ρ S h) (hS : SR ρ S.1 as vs) : ∀ {T : List Sm}, smF rg ws dp S mid as T = some R → R.2.2 ∈ T ∧ R.2.2.1 = mid ∧ R.2.2.2.1 ≤ dp ∧ smW R.2.2 = true ∧ subW R.2.2.2.2.2.2.2.1 ws = true ∧ ∃ ρ1, Ag ρ ρ1 S.1 ∧ S.1 ≤ R.1.1 ∧ Mo rg ws h0 ρ1 R.1 h ∧ (∀ e ∈ R.2.1, leS R.1.1 e) ∧ R.2.1.length = smG R.2.2 ∧ inV (fun k => leV ρ1 (fLQ R.2.1 k)) R.2.2.2.2.1 0 vs ∧ bdV (fun k => leV ρ1 (fLQ R.2.1 k)) R.2.2.2.2.2.1 (nonR R.2.2.2.2.1) ∧ (∀ c ∈ celG (nonR R.2.2.2.2.1) R.2.2.2.2.2.1, kcV (fun k => leV ρ1 (fLQ R.2.1 k)) h c) ∧ (∀ f ∈ R.2.2.2.2.2.2.1, 0 ≤ leV (fun k => leV ρ1 (fLQ R.2.1 k)) f) ∧ smG R.2.2 ≤ 500
  | [], hq => by cases hq
  | s :: r, hq => by
    have rc := fun (q : smF rg ws dp S mid as r = some R) => smF_sp M hS q
    have mv : ∀ {P : Prop}, (R.2.2 ∈ r ∧ P) → (R.2.2 ∈ s :: r ∧ P) := fun q => ⟨List.mem_cons_of_mem _ q.1, q.2⟩
    unfold smF at hq
    split at hq
    · rename_i hm
      split at hq
      · rename_i l1 h1
        dsimp only at hq
        split at hq
        · rename_i l2 h2
          split at hq
          · rename_i hc
            cases hq
            simp only [Bool.and_eq_true] at hc
            obtain ⟨⟨⟨⟨⟨c1, c0⟩, c2⟩, c3⟩, c4⟩, c5⟩ := hc
            have c0 := Nat.le_of_ble_eq_true c0
            have hG : nonR s.2.2.1 + s.2.2.2.1.length = smG s := rfl
            obtain ⟨ρ1, a1, a2, M1⟩ := tch_sp (l := gsb l1 s.2.2.2.1) M
            obtain ⟨n2, s2⟩ := srcL_S (ls := []) (lc := []) M1 ⟨rfl, fun k => ⟨fun a ha => by simp at ha, fun ha => by simp at ha⟩⟩ h2
            have n2 : l2.length = s.2.2.2.1.length := by rw [n2]; unfold gsb; rw [List.length_map]
            have n1 := smA_len h1
            have e0 : ∀ i, i < smG s → fLQ (l1 ++ l2) i = gtL (l1 ++ l2) i := fun i hi => by
              unfold fLQ
              rw [if_neg (fun q => by have := Nat.le_of_ble_eq_true q; omega)]
            have l1S := smA_S h1 hS
            have w := c2
            simp only [smW, Bool.and_eq_true, List.all_eq_true] at w
            refine ⟨List.mem_cons_self, beqT hm, Nat.le_of_ble_eq_true c1, c2, c5, ρ1, a1, a2, M1, fun e he => ?_, ?_, smA_sp M.1 h1 hS (fun i hi => ?_), ?_, ?_, ?_, c0⟩
            · rcases List.mem_append.mp he with he | he
              · exact leS_mono (l1S e he) a2
              · exact s2 e he
            · rw [List.length_append, n1, n2]
              rfl
            · show leV ρ1 (fLQ (l1 ++ l2) (0 + i)) = _
              rw [Nat.zero_add, e0 _ (by omega), gtL_app, if_pos hi]
              exact leV_ext (gtL_S l1S i) a1
            · intro q hq
              exact ((okB_sp (ρ' := fun k => leV ρ1 (fLQ (l1 ++ l2) k)) (k := nonR s.2.2.1) M1.1 c3 (fun i hi => by
                show leV ρ1 (fLQ (l1 ++ l2) (nonR s.2.2.1 + i)) = _
                rw [e0 _ (by omega), gtL_app, if_neg (by omega), n1, Nat.add_sub_cancel_left])).2 q hq).1
            · exact celG_sp (n0 := nonR s.2.2.1) M1 (fun k hk => by
                show _ = leV ρ1 (fLQ (l1 ++ l2) k)
                rw [e0 _ (by omega), gtL_app, if_pos (by omega)]
                have := fLL_hi (n := 0) (k := k) (σ := l1)
                rw [Nat.zero_add] at this
                rw [this]) h2 (fun g hg => scB_S (w.1 g hg)) (fun i hi => by
                show leV ρ1 (fLQ (l1 ++ l2) (nonR s.2.2.1 + i)) = _
                rw [e0 _ (by omega), gtL_app, if_neg (by omega), n1, Nat.add_sub_cancel_left])
            · intro f hf
              have := en2_sp M1.1 ((List.all_eq_true.mp c4) f hf)
              rw [leSb_V] at this
              exact this
          · exact mv (rc hq)
        · exact mv (rc hq)
      · exact mv (rc hq)
    · exact mv (rc hq)
end EXM
