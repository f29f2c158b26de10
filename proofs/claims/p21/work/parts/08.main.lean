/-! The small machine's judgement gives the machine's contract, at every depth. -/
theorem eL_lg (ad : Nat → Nat) : ∀ as : List Value, (lg_sl (as.map (tr ad))).length = (eL as).length
  | [] => rfl
  | v :: vs => by
    have ih := eL_lg ad vs
    have e : lg_sl ((v :: vs).map (tr ad)) = (if (tr ad v).category = 2 then [.val (tr ad v), .second] else [.val (tr ad v)]) ++ lg_sl (vs.map (tr ad)) := by simp [lg_sl]
    rw [e, List.length_append, ih, tr_cat, show eL (v :: vs) = (if v.category = 2 then some v :: none :: eL vs else some v :: eL vs) from rfl]
    split
    · show 2 + _ = _ + 1 + 1; omega
    · show 1 + _ = _ + 1; omega
theorem eL_in (ad : Nat → Nat) : ∀ (as : List Value) (i k : Nat) (v : Value), (eL as)[k]? = some (some v) → (i + k, tr ad v) ∈ lv_args i (as.map (tr ad))
  | [], _, _, _, h => by simp [eL] at h
  | w :: ws, i, k, v, h => by
    show (i + k, tr ad v) ∈ (i, tr ad w) :: lv_args (if (tr ad w).category = 2 then i + 2 else i + 1) (ws.map (tr ad))
    rw [tr_cat]
    unfold eL at h
    split at h
    · rename_i hc
      rw [if_pos hc]
      match k, h with
      | 0, h =>
        simp only [List.getElem?_cons_zero, Option.some.injEq] at h
        rw [h]
        exact List.mem_cons_self
      | 1, h => simp at h
      | k + 2, h =>
        have := eL_in ad ws (i + 2) k v (by simpa using h)
        rw [show i + 2 + k = i + (k + 2) by omega] at this
        exact List.mem_cons_of_mem _ this
    · rename_i hc
      rw [if_neg hc]
      match k, h with
      | 0, h =>
        simp only [List.getElem?_cons_zero, Option.some.injEq] at h
        rw [h]
        exact List.mem_cons_self
      | k + 1, h =>
        have := eL_in ad ws (i + 1) k v (by simpa using h)
        rw [show i + 1 + k = i + (k + 1) by omega] at this
        exact List.mem_cons_of_mem _ this
theorem eLn_len {n : Nat} {as : List Value} (h : (eL as).length ≤ n) : (eLn n as).length = n := by
  unfold eLn
  rw [List.length_append, List.length_replicate]
  omega
theorem eLn_in (ad : Nat → Nat) {n : Nat} {as : List Value} {k : Nat} {v : Value} (h : (eLn n as)[k]? = some (some v)) : (k, tr ad v) ∈ lv_args 0 (as.map (tr ad)) := by
  unfold eLn at h
  by_cases hk : k < (eL as).length
  · rw [List.getElem?_append_left hk] at h
    have := eL_in ad as 0 k v h
    rwa [Nat.zero_add] at this
  · rw [List.getElem?_append_right (by omega), List.getElem?_replicate] at h
    split at h <;> cases h
/-- what the law knows of the machine when it calls, and every body below it: the fixed part -/
theorem co_of {l : Launch} {ad : Nat → Nat} {D : va_G} {cA : Nat → ClassId} {A : Nat → Prop} {sc : Nat × (Nat → Int32)} (LB : ∀ (d mid : Nat) (as : List Value) (h : Hp) (Q : Option Value → Hp → Prop), lib mid as h Q → CO l ad D cA A sc d mid as h Q) : ∀ (d mid : Nat) (as : List Value) (h : Hp) (Q : Option Value → Hp → Prop), Call d mid as h Q → CO l ad D cA A sc d mid as h Q
  | 0, _, _, _, _, hc => hc.elim
  | d + 1, mid, as, h, Q, hc => by
    rcases hc with hc | ⟨y, c', ml', rt, o', cd, q, hm, hle, hlen, hrc, hX⟩
    · exact LB _ _ _ _ _ hc
    · obtain ⟨s1, s2, s3, s4, s5, s6, s7, s8, s9, s10, s11⟩ := mi_spec hm
      refine co_met hm hlen hrc (Met.ofW (cc := c') (maxL := ml') (ret := rt) s5 rfl ?_)
      intro p e s m args below meth c s₁ B hml hv
      obtain ⟨rfl, hP, hK, hD, hSF, hsc⟩ := hv
      have hts0 := atoms_spec (ws := Jvm.Cond.code y c' ml' rt :: gT) B.pre
      have hown : s.vm.findClass (nmO o') = some m.cls := by rw [s8]; exact findClass_of_methodNamed B.named
      have hC : CX p (headSpec (Jvm.Cond.code y c' ml' rt :: gT) (rmD (d + 1))).room s m ((as.map (tr ad)).toArray) c ad D cA A c' o' ml' sc 0 0 := ⟨B.exec, B.bytes, hml, hown, fun w hw => hts0 w (List.mem_cons_of_mem _ hw), hK, hSF, by show 1 ≤ d + 1 + 4; omega, by show 100 ≤ 60 * (d + 1) + 200; omega, Nat.zero_le _, Nat.zero_le _⟩
      have hl := lv_entry (as.map (tr ad)) (n := ml') (by rw [eL_lg]; exact hle)
      rw [lg_entry_eq]
      generalize (lg_sl (as.map (tr ad)) ++ List.replicate (ml' - (lg_sl (as.map (tr ad))).length) Slot.unset).toArray = la at hl ⊢
      have hLH : LH ad la ml' (eLn ml' as) := LH.of hl (eLn_len hle) (fun k v hk => eLn_in ad hk)
      have hclo : Clo (Call d) cd rt Q (XW p l e (headSpec (Jvm.Cond.code y c' ml' rt :: gT) (rmD (d + 1))).room s m ((as.map (tr ad)).toArray) below meth c (MQ below (QC ad D cA A sc Q) ((as.map (tr ad)).toArray) s 0 0 A) ad D cA A ml' sc 0 0) := by
        refine ⟨fun z z' G hq g X => stp_W hC s11 hq g X, fun pc ls st h' mid' n' as' rest hcal hn hst hsum hcall => ?_, fun z G r hq g hQ => rt_W hC s11 B.returns B.notSynchronized hq g hQ⟩
        have ih := co_of LB d mid' as' h' _ hcall
        subst hst
        unfold cal at hcal
        split at hcal
        · rename_i k n1 a1 b1 tl hat
          cases hcal
          obtain ⟨v1, w1, sw1⟩ := tl
          have hok := okC_at s11 hat
          rw [Nat.zero_add] at hok
          simp only [okE, Bool.and_eq_true, decide_eq_true_eq] at hok
          exact ih p e _ s m _ below meth c _ c' o' ml' 0 0 pc ls rest _ _ b1 v1 w1 sw1 hC (by show d + 5 ≤ d + 1 + 4; omega) (by show 60 * d + 260 ≤ 60 * (d + 1) + 200; omega) hok.1 hok.2 (Or.inl ⟨⟨k, rfl⟩, hn⟩) hsum (fun r h1 hr => hr)
        · rename_i k n1 a1 b1 tl hat
          split at hcal
          · rename_i h1000
            cases hcal
            obtain ⟨v1, w1, sw1⟩ := tl
            have hok := okC_at s11 hat
            rw [Nat.zero_add] at hok
            simp only [okE, Bool.and_eq_true, decide_eq_true_eq] at hok
            exact ih p e _ s m _ below meth c _ c' o' ml' 0 0 pc ls rest _ _ _ v1 w1 sw1 hC (by show d + 5 ≤ d + 1 + 4; omega) (by show 60 * d + 260 ≤ 60 * (d + 1) + 200; omega) hok.1 hok.2 (Or.inr ⟨⟨k, rfl⟩, h1000, hn⟩) hsum (fun r h1 hr => hr)
          · cases hcal
        · cases hcal
      exact hX _ hclo hsc s.heap [] la hLH hP hD va_S.rf
