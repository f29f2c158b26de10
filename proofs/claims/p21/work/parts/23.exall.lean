/-! The walk is sound. -/
section EXA
variable {rg : List Rg} {ws : List Wr} {h0 : Hp} {T : List Sm} {AN : List (Nat × List (Nat × An))} {fin : Sx → Option AV → Bool} {sto : Sx → Nat → List (Option AV) → List AV → Option Bool} {Q0 : Option Value → Hp → Prop} {X0 : Cf → Prop} {ρ0 : Nat → Int} {n0 δ : Nat}
theorem SR.nil {ρ : Nat → Int} {n : Nat} {st : List AV} {sc : List Value} (h : st.isEmpty = true) (q : SR ρ n st sc) : sc = [] := by
  cases st with
  | nil => exact q
  | cons a r => cases h
theorem rv_app {ρ : Nat → Int} {n : Nat} {r : Option AV} {rv : Option Value} {st : List AV} {sc : List Value} (h : rvO ρ n r rv) (q : SR ρ n st sc) : SR ρ n (r.toList ++ st) (rv.toList ++ sc) := by
  cases r with
  | none => cases h; exact q
  | some a => obtain ⟨x, rfl, g⟩ := h; exact SR.cons g q
theorem fLQ_lo {σ : List LE} {k : Nat} (h : k < 500) : fLQ σ k = fLL 0 σ k := by
  have := fLL_hi (n := 0) (k := k) (σ := σ)
  rw [Nat.zero_add] at this
  rw [this]
  unfold fLQ
  rw [if_neg (fun q => by have := Nat.le_of_ble_eq_true q; omega)]
theorem ex_sp (hT : ∀ s ∈ T, SmQ rg δ ρ0 n0 s) (hF : ∀ (ρ' : Nat → Int) (S : Sx) (h : Hp) (r : Option AV) (rv : Option Value), Ag ρ0 ρ' n0 → n0 ≤ S.1 → Mo rg ws h0 ρ' S h → rvO ρ' S.1 r rv → fin S r = true → Q0 rv h) (hP : ∀ (ρ' : Nat → Int) (S : Sx) (h : Hp) (pc : Nat) (ls : List (Option AV)) (st : List AV) (lc : Lc) (sc : List Value), Ag ρ0 ρ' n0 → n0 ≤ S.1 → Mo rg ws h0 ρ' S h → LR ρ' S.1 ls lc → SR ρ' S.1 st sc → sto S pc ls st = some true → X0 (pc, lc, sc, h)) : ∀ (g dp d : Nat) (fs : List Fm) (bd : Bd) (act : List Al) (skip : Bool) (c : Cc) (ρ : Nat → Int) (X : Cf → Prop) (Q : Option Value → Hp → Prop) (z : Cf), dp + δ ≤ d → ex rg ws T AN fin sto g dp fs bd act skip c = true → Ag ρ0 ρ n0 → n0 ≤ c.1.1 → Md rg ws h0 ρ c z → Clo (Call d) bd.1 bd.2.1 Q X → (∀ al ∈ act, AlOK rg ws h0 ρ c.1.1 X al) → (fs = [] → ∀ z, X0 z → X z) → FrOK rg ws h0 ρ c.1.1 Q0 X0 d fs Q → X z := by
  intro g
  induction g with
  | zero => intro dp d fs bd act skip c ρ X Q z _ hx; rw [ex_zero] at hx; cases hx
  | succ g ih =>
    intro dp d fs bd act skip c ρ X Q z hd hx hA hn M hC hAl hX0 hFr
    obtain ⟨S, pc, ls, st⟩ := c
    obtain ⟨pz, lc, sc, h⟩ := z
    obtain ⟨M, hpc, hL, hS⟩ := M
    dsimp only at M hpc hL hS hAl hFr hn
    subst hpc
    rw [ex_succ] at hx
    split at hx
    · rename_i b hb
      subst hx
      unfold stF at hb
      split at hb
      · exact hX0 rfl _ (hP ρ S h pz ls st lc sc hA hn M hL hS hb)
      · cases hb
    split at hx
    · rename_i al _ hal
      simp only [Bool.and_eq_true] at hx
      obtain ⟨hst, hx⟩ := hx
      have hsc := SR.nil hst hS
      subst hsc
      (try dsimp only at hx)
      split at hx
      · rename_i σ hσ
        rw [Bool.and_eq_true] at hx
        obtain ⟨hm, hpc⟩ := alF_sp hal
        obtain ⟨ρ0', a1', a2', M1'⟩ := tch_sp (l := al.2.2.1) M
        obtain ⟨ρ1, a1'', a2'', M1⟩ := tch8_sp (f := fLL al.2.1 σ) (kc := al.2.2.2.1.1.2.2) M1'
        have a1 := a1'.tr a1'' a2'
        have a2 := Nat.le_trans a2' a2''
        obtain ⟨b1, b2, b3, b4, b5⟩ := (hAl al hm).ext a1 a2
        obtain ⟨c1, c2⟩ := chk_sp M1 (hL.ext a1 a2) b1 b2 b4 hx.1
        have := b5 _ _ fLL_ag c1 (c2 hx.2)
        rw [hpc] at this
        exact this
      · cases hx
    · rename_i an _ hal han
      split at hx
      · split at hx
        · cases hx
        · rename_i g0 gr hg0
          split at hx
          · rename_i e he
            simp only [Bool.and_eq_true, List.all_eq_true] at hx
            obtain ⟨⟨e1, e2⟩, hx⟩ := hx
            have e1 := en_sp M.1 e1
            have e2 := en_sp M.1 e2
            rw [leV_K] at e1
            rw [leV_K, leV_sc] at e2
            have hs := srcV_S M hL he
            have hxk := hx (leV ρ e - g0.2.1).toNat (List.mem_range.mpr (by omega))
            obtain ⟨D, hD, FD⟩ := adE_sp M.1 (e := leK e (-(g0.2.1 + ((leV ρ e - g0.2.1).toNat : Int)))) (leS_K hs) (by rw [leV_K]; omega)
            rw [hD] at hxk
            obtain ⟨D2, hD2, FD2⟩ := tgF_sp (l := D.2) FD (fun e he => (FD.2 e he).2)
            dsimp only at hxk
            rw [hD2] at hxk
            exact ih dp d fs bd act true ((S.1, D2, S.2.2), pz, ls, st) ρ X Q _ hd hxk hA hn ⟨M.db FD2, rfl, hL, hS⟩ hC hAl hX0 hFr
          · cases hx
      simp only [Bool.and_eq_true] at hx
      obtain ⟨hst, hx⟩ := hx
      have hsc := SR.nil hst hS
      subst hsc
      obtain ⟨ρ0', a1', a2', M1'⟩ := tch_sp (l := an.1) M
      obtain ⟨ρ0'', a1'', a2'', M1''⟩ := tch_sp (l := an.2.2.1.map fun c => ((1, c.1, c.2.1, c.2.2.1), 0, 0)) M1'
      split at hx
      · rename_i σ hσ
        obtain ⟨ρ1, a1''', a2''', M1⟩ := tch8_sp (f := fLL 0 σ) (kc := an.2.2.1) M1''
        have a1 := (a1'.tr a1'' a2').tr a1''' (Nat.le_trans a2' a2'')
        have a2 := Nat.le_trans (Nat.le_trans a2' a2'') a2'''
        (try dsimp only at hx)
        split at hx
        · rename_i al hal2
          simp only [Bool.and_eq_true] at hx
          obtain ⟨⟨hw, hchk⟩, hx⟩ := hx
          obtain ⟨p1, p2, p3, p4⟩ := mkP_sp hal2
          have hD : Fa ρ1 al.2.1 al.2.2.2.2.2.1 := by rw [p2, p3]; exact M1.1
          have hPn : al.2.2.2.1.1.1 = al.2.1 + al.2.2.1.length := by
            simp only [alW, Bool.and_eq_true] at hw
            exact beqT hw.1.1.1.1.1.1
          have hle : al.2.1 ≤ al.2.2.2.1.1.1 := by omega
          have key : ∀ (m : Nat) (ρ' : Nat → Int) (z' : Cf), Ag ρ1 ρ' al.2.1 → Md rg ws h0 ρ' al.2.2.2.1 z' → mz al ρ' < m → X z' := by
            intro m
            induction m with
            | zero => intro ρ' z' _ _ q; omega
            | succ m ihm =>
              intro ρ' z' hag hMd hmz
              have ag' : Ag ρ ρ' S.1 := a1.tr hag (by rw [p2]; exact a2)
              refine ih dp d fs bd (al :: act) true al.2.2.2.1 ρ' X Q z' hd hx (hA.tr ag' hn) (Nat.le_trans hn (Nat.le_trans (by rw [p2]; exact a2) hle)) hMd hC ?_ hX0 (hFr.ext ag' (Nat.le_trans (by rw [p2]; exact a2) hle))
              intro al' hal'
              rcases List.mem_cons.mp hal' with rfl | hal'
              · refine ⟨hD.ext hag (Nat.le_refl _), hw, by omega, p4, fun ρ'' z'' g1 g2 g3 => ihm ρ'' z'' (hag.tr g1 (Nat.le_refl _)) g2 (by omega)⟩
              · exact (hAl al' hal').ext ag' (Nat.le_trans (by rw [p2]; exact a2) hle)
          obtain ⟨c1, -⟩ := chk_sp M1 (hL.ext a1 a2) hD hw p4 hchk
          have := key _ _ _ fLL_ag c1 (Nat.lt_succ_self _)
          rw [p1] at this
          exact this
        · cases hx
      · cases hx
    · split at hx
      · cases hx
      · rename_i i nn a b v w sw hcd
        rw [cdX_eq] at hcd
        have hstp : ∀ (G : Prop) (z' : Cf), stI i a b v w sw pz lc sc h = some (G, z') → G → X z' → X (pz, lc, sc, h) := fun G z' q k x => hC.1 _ z' G (by unfold stp; dsimp only; rw [hcd]; exact q) k x
        split at hx
        · rename_i r hr
          obtain ⟨G, rv, q1, q2, q3⟩ := rtA_sp M.1 hS hr
          refine hC.2.2 _ G rv (by unfold rtp; dsimp only; rw [hcd]; exact q1) q2 ?_
          cases fs with
          | nil => exact hFr rv h (hF ρ S h r rv hA hn M q3 hx)
          | cons f fs =>
            obtain ⟨bd', pc', ls', st', act'⟩ := f
            obtain ⟨X', Q', lc', sc', f1, f2, f3, f4, f5, f7, f6⟩ := hFr
            refine f2 rv h (ih (dp + 1) (d + 1) fs bd' act' false _ ρ X' Q' _ (by omega) hx hA hn ⟨M, rfl, f3, rv_app q3 f4⟩ f1 f5 f7 f6)
        · split at hx
          · rename_i mid n hcal
            split at hx
            · rename_i hlen
              simp only [Bool.and_eq_true] at hlen
              obtain ⟨vs, rs, rfl, s1, s2, s3⟩ := SR.split hS (Nat.le_of_ble_eq_true hlen.1)
              have s1 := SR.rev s1
              have hcat : (rs.map fun v => v.category).sum ≤ 8 := by rw [catS_sp s2]; exact Nat.le_of_ble_eq_true hlen.2
              refine hC.2.1 pz lc _ h mid n vs.reverse rs (by unfold cal; dsimp only; rw [hcd]; unfold calI at hcal; split at hcal <;> first | exact hcal | cases hcal) (by simp [s3]) (by simp) hcat ?_
              (try dsimp only at hx)
              split at hx
              · rename_i S1 σ s hsm
                obtain ⟨t1, t2, t3, t4, t5, ρ1, a1, a2, M1, t6, t7, t8, t9, t10, t11, t12⟩ := smF_sp M s1 hsm
                dsimp only at t1 t2 t3 t4 t5 a2 M1 t6 t7 t8 t9 t10 t11 t12
                have hAA : Ag ρ0 ρ1 n0 := hA.tr a1 hn
                have hq5 : ∀ j, leV ρ1 (fLQ σ (500 + j)) = ρ1 j := fun j => by
                  unfold fLQ
                  rw [if_pos (Nat.ble_eq_true_of_le (Nat.le_add_right _ _)), Nat.add_sub_cancel_left, leV_X]
                have hcall := hT s t1 d (by omega) _ vs.reverse h (fun j hj => (hq5 j).trans (hAA j hj)) t8 t9 t10 t11 M1.2.2.1
                rw [t2] at hcall
                refine hcall.mono (fun r h' ⟨u1, u2, o, u3, ρ', u4, u5, u6, u7, u8⟩ => ?_)
                have u4 : Ag (fun k => leV ρ1 (fLL 0 σ k)) ρ' (smG s) := fun k hk => by
                  rw [u4 k hk]
                  show leV ρ1 (fLQ σ k) = leV ρ1 (fLL 0 σ k)
                  rw [fLQ_lo (Nat.lt_of_lt_of_le hk t12)]
                obtain ⟨ρ2, w1, w2, w3, -⟩ := smO_sp M1 t6 t7 t4 u3 t5 u1 u2 u4 u5 u6 u7 u8
                rw [List.all_eq_true] at hx
                have hx := hx o u3
                have ag2 : Ag ρ ρ2 S.1 := a1.tr w1 a2
                have len2 : S.1 ≤ (smO S1 σ s.2.2.2.2.2.1 o).1.1 := Nat.le_trans a2 (Nat.le_add_right _ _)
                obtain ⟨D2, hD2, FD2⟩ := tgF_sp (l := o.2.2.2.map (leSb (fLL 0 (σ ++ frX S1.1 o.1)))) w2.1 (fun e he => (w2.1.2 e (List.mem_append_left _ he)).2)
                (try dsimp only at hx)
                rw [hD2] at hx
                refine ih dp d fs bd act false _ ρ2 X Q _ hd hx (hA.tr ag2 hn) (Nat.le_trans hn len2) ⟨w2.db FD2, rfl, hL.ext ag2 len2, ?_⟩ hC (fun al hal => (hAl al hal).ext ag2 len2) hX0 (hFr.ext ag2 len2)
                dsimp only
                split at w3
                · rename_i e0
                  rw [e0, w3]
                  exact s2.ext ag2 len2
                · rename_i e0
                  rw [e0]
                  obtain ⟨x, rfl, gx⟩ := w3
                  exact SR.cons (av_i gx) (s2.ext ag2 len2)
              · split at hx
                · cases hx
                · rename_i dp' hno
                  obtain ⟨d', rfl⟩ : ∃ d', d = d' + 1 := ⟨d - 1, by omega⟩
                  split at hx
                  · rename_i R hR
                    refine lbA_sp M s1 hR (fun x q => ?_)
                    obtain ⟨ρ1, a1, a2, M1, g1⟩ := q
                    exact ih (dp' + 1) (d' + 1) fs bd act false (R.1, pz + 3, ls, (0, R.2) :: st.drop n) ρ1 X Q _ hd hx (hA.tr a1 hn) (Nat.le_trans hn a2) ⟨M1, rfl, hL.ext a1 a2, SR.cons (av_i g1) (s2.ext a1 a2)⟩ hC (fun al hal => (hAl al hal).ext a1 a2) hX0 (hFr.ext a1 a2)
                  · split at hx
                    · rename_i y bb ml rt o cd q hps
                      rw [lk_eq] at hps
                      simp only [Bool.and_eq_true] at hx
                      obtain ⟨⟨⟨x1, x2⟩, x3⟩, x4⟩ := hx
                      refine call_of hps (by rw [← eLa_len s1]; exact x1) (by rw [SR.len s1]; exact beqT x2) (rcA_sp s1 x3) (fun X' hX' => ?_)
                      refine ih dp' d' ((bd, pz + 3, ls, st.drop n, act) :: fs) (cd, rt, anT AN mid) [] false (S, 0, eLnA ml (st.take n).reverse, []) ρ X' _ _ (by omega) x4 hA hn ⟨M, rfl, eLnA_LR s1, rfl⟩ hX' (fun al hal => by cases hal) (fun q => by cases q) ?_
                      exact ⟨X, Q, lc, rs, hC, fun r h1 q => q, hL, s2, hAl, hX0, hFr⟩
                    · cases hx
            · cases hx
          · split at hx
            · rename_i L hax
              rw [List.all_eq_true] at hx
              refine ax_sp hstp M hL hS hax (fun c' hc' ρ' z' g1 g2 g3 => ?_)
              exact ih dp d fs bd act false c' ρ' X Q z' hd (hx c' hc') (hA.tr g1 hn) (Nat.le_trans hn g2) g3 hC (fun al hal => (hAl al hal).ext g1 g2) hX0 (hFr.ext g1 g2)
            · cases hx
end EXA
