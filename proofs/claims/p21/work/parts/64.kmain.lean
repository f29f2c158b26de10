/-! A constructor's run by evaluation is its run on the machine. -/
noncomputable def PK (ad : Nat → Nat) (D : va_G) (cA : Nat → ClassId) (A : Nat → Prop) (base : Nat) (as : List Value) (g : List Kb) : Array Value → State → Prop := va_Pc (as.map (tr ad)) (fun U => U.heap.size = base + g.length ∧ va_P D vwCl (wlk ad cA g) U.heap ∧ va_K D vwCl (tysP cA) U ∧ va_D A (wlk ad cA g) ∧ NS U)
noncomputable def QK (ad : Nat → Nat) (D : va_G) (cA : Nat → ClassId) (A : Nat → Prop) (base : Nat) (g : List Kb) : Array Value → State → Outcome → State → Prop := fun _ st oc t => (oc = .returned none ∧ t.heap.size = base + g.length ∧ va_P D vwCl (wlk ad cA g) t.heap ∧ va_D A (wlk ad cA g)) ∧ va_F A st t
theorem NS.calling {U : State} {g : JFrame} {mk : MethodId} {a : Array Value} (h : NS U) : NS (U.calling g mk a) := fun q hq y hy => va_Nw.same rfl rfl (h q hq y hy)
theorem NS.warm {s U : State} (hW : s.WarmedH U.vm) (h : NS s) : NS U := fun q hq y hy => va_Nw.warmM hW (h q hq y hy)
theorem PK.blind {ad : Nat → Nat} {D : va_G} {cA : Nat → ClassId} {A : Nat → Prop} {base : Nat} {as : List Value} {g : List Kb} : FrameBlind (PK ad D cA A base as g) := fun a U f mk q => ⟨q.1, q.2.1, q.2.2.1, va_K.moved (u := U) (U := U.calling f mk a) (Vm.Alike.refl U.vm) q.2.2.2.1, q.2.2.2.2.1, q.2.2.2.2.2.calling⟩
noncomputable abbrev rmQz (n mc ms : Nat) : Room := { frames := n + 4, cells := mc, slots := ms, locals := 60 * n + 200 }
theorem mk_spec {k : Nat} {y : MethodName} {c' : ByteArray} {ml' : Nat} {rt : Option FieldType} {o' : Nat} {cd : Cd} {q : Mp} (h : psK[k]? = some (y, c', ml', rt, o', cd, q)) : Jvm.Cond.code y c' ml' rt ∈ gT ∧ Jvm.Cond.instanceMethod y ∈ gT ∧ Jvm.Cond.initialized y.cls ∈ gT ∧ plainName y.cls = true ∧ (y.cls ≠ "java/lang/invoke/MethodHandle" ∧ y.cls ≠ "java/lang/invoke/VarHandle") ∧ (parseMethodDescriptor y.desc).map (fun d => d.parameters.length) = some q.2.1 ∧ nmO o' = y.cls ∧ ml' ≤ 30 ∧ y.name = "<init>" ∧ rt = none ∧ o' < 12 ∧ okkC c' o' 0 cd = true ∧ (∃ r, cdAt cd q.1 = some (.return_, r)) := by
  obtain ⟨h1, h2⟩ := psK_ok h
  obtain ⟨rp, n, cp, ip, sp, np⟩ := q
  simp only [miK, Bool.and_eq_true, decide_eq_true_eq] at h2
  obtain ⟨⟨⟨⟨⟨⟨⟨⟨⟨⟨⟨⟨⟨a0, a1⟩, a2⟩, a3⟩, a4⟩, a5⟩, a6⟩, a7⟩, a8⟩, a9⟩, a10⟩, a11⟩, a12⟩, a13⟩ := h2
  refine ⟨?_, hasW_in a2, hasW_in a3, a4, ⟨a5, a6⟩, a7, a8, a9, a10, a11, a12, a13, ?_⟩
  · refine List.mem_filter.mpr ⟨lwB_in h1, ?_⟩
    unfold isCw at a1
    have h1' : (lwB cp.1)[cp.2]? = some (Jvm.Cond.code y c' ml' rt) := h1
    rw [h1'] at a1
    exact a1
  · split at a0
    · rename_i r hr
      exact ⟨_, hr⟩
    · cases a0
section KM
variable {p : Program} {l : Launch} {e : Env} {R : Room} {s : State} {m : MethodId} {args : Array Value} {below : List Frame} {meth : Method} {c : Code} {Z : State → Prop}
variable {ad : Nat → Nat} {D : va_G} {cA : Nat → ClassId} {A : Nat → Prop} {b : ByteArray} {o ml base n0 m0 : Nat}
theorem xk_back {pc : Nat} {ls : Lc} {rest : List Value} {av : Array Value} {H : Heap} {locs : List Loc} {la : Array Slot} {st0 : List Value} {g g' : List Kb} (hm : g.length ≤ g'.length ∧ slG g ≤ slG g') (g1 : n0 ≤ g.length) (g2 : m0 ≤ slG g) (hl : LH ad la ml ls) (hS : va_S A s.heap H locs) (hr : va_Run p l e R s m args below meth c H locs (g.length - n0) (slG g - m0) (g'.length - g.length) (slG g' - slG g) (F0 m pc la st0) (rest.map (tr ad)) (QK ad D cA A base g' av) A) (X : XKp p l e R s m args below meth c Z ad D cA A ml base n0 m0 (pc + 3) ls rest g') : W p l e R s m args below meth c H locs (g.length - n0) (slG g - m0) Z (F0 m pc la st0) := by
  intro T hT X0
  obtain ⟨v, st₀, t, T', L, h0, X', hL, e1, e2, ⟨⟨hv, hz', w1, w3⟩, hz, hk⟩, st⟩ := hr T hT X0
  cases hv
  rw [h0] at hz hk
  have hS' : va_S A s.heap T'.heap (locs ++ L) := ⟨Nat.le_trans hS.1 (by rw [e1]; exact hz), fun q g1 g2 => by rw [e1, hk q (Nat.lt_of_lt_of_le g1 hS.1) g2]; exact hS.2.1 q g1 g2, fun q hq => by
    rcases List.mem_append.mp hq with g | g
    · exact hS.2.2 q g
    · exact hL q g⟩
  rw [show g.length - n0 + (g'.length - g.length) = g'.length - n0 by omega, show slG g - m0 + (slG g' - slG g) = slG g' - m0 by omega] at X'
  obtain ⟨t2, a1, b1⟩ := X T'.heap (locs ++ L) la hl (by rw [e1]; exact hz') (by rw [e1]; exact w1) w3 hS' (by show n0 ≤ g'.length; omega) (by show m0 ≤ slG g'; omega) T' rfl X'
  exact ⟨t2, st t2 a1, b1⟩
end KM
theorem kto_W {l : Launch} {ad : Nat → Nat} {D : va_G} {cA : Nat → ClassId} {A : Nat → Prop} {base : Nat} : ∀ (n a stop : Nat) (z zf : Kf), kto n a stop z = some zf → ∀ (p : Program) (e : Env) (R : Room) (s : State) (m : MethodId) (args : Array Value) (below : List Frame) (meth : Method) (c : Code) (Z : State → Prop) (b : ByteArray) (ml n0 m0 : Nat), CK p R s m args meth c ad D cA A b (kcd a).1 ml base → okkC b (kcd a).1 0 (kcd a).2 = true → n + 4 ≤ R.frames → 60 * n + 200 ≤ R.locals → zf.2.2.2.length - n0 ≤ R.cells → slG zf.2.2.2 - m0 ≤ R.slots → XK p l e R s m args below meth c Z ad D cA A ml base n0 m0 zf → XK p l e R s m args below meth c Z ad D cA A ml base n0 m0 z
  | 0, _, _, _, _, h => by cases h
  | n + 1, a, stop, z, zf, h => by
    intro p e R s m args below meth c Z b ml n0 m0 hC hcd hRf hRl hc1 hc2 X
    obtain ⟨pc, ls, st, g⟩ := z
    obtain ⟨hx, hb, hml, hown, hts, hK, hNS, hin, hA, had, hbs, -, -⟩ := id hC
    unfold kto at h
    split at h
    · cases h; exact X
    split at h
    · rename_i i n1 x y v w sw hat
      rw [cdX_eq] at hat
      have hok := okkC_at hcd hat
      rw [Nat.zero_add] at hok
      simp only [okkE, Bool.and_eq_true, decide_eq_true_eq] at hok
      obtain ⟨hd, hok⟩ := hok
      dsimp only at hd hok h
      split at h
      · rename_i ny cc mlx rtx ox cdx q hkcl
        split at h
        · rename_i hg
          obtain ⟨⟨hlen, hel⟩, hsum, hisR⟩ := hg
          split at h
          · rename_i pc' ls' g' hrun
            split at h
            · rename_i hpc
              subst hpc
              -- the call
              have hxk : (∃ k, i = .invokespecial k) ∧ x ≠ 99 ∧ psK[x]? = some (ny, cc, mlx, rtx, ox, cdx, q) := by
                unfold kcl at hkcl
                split at hkcl
                · rename_i k
                  split at hkcl
                  · cases hkcl
                  · rename_i h99
                    exact ⟨⟨k, rfl⟩, h99, hkcl⟩
                · cases hkcl
              obtain ⟨⟨k, rfl⟩, h99, hpk⟩ := hxk
              obtain ⟨s1, s2, s3, s4, s5, s6, s7, s8, s9, s10, s11, s12, r0, s13⟩ := mk_spec hpk
              subst s10
              have hkcd : kcd x = (ox, cdx) := by unfold kcd; rw [hpk]
              generalize hasd : (st.take (q.2.1 + 1)).reverse = as at hel hrun hisR
              have hst : st = as.reverse ++ st.drop (q.2.1 + 1) := by rw [← hasd, List.reverse_reverse, List.take_append_drop]
              have hasl : as.length = q.2.1 + 1 := by rw [← hasd]; simp; omega
              generalize st.drop (q.2.1 + 1) = rest at hst hsum h
              subst hst
              have hmono : g.length ≤ g'.length ∧ slG g ≤ slG g' := kto_mono _ _ _ _ _ hrun
              have hmono2 : g'.length ≤ zf.2.2.2.length ∧ slG g' ≤ slG zf.2.2.2 := kto_mono _ _ _ _ _ h
              have hMet : Met l ny (Jvm.Cond.code ny cc mlx none :: gT) (rmQz n (g'.length - g.length) (slG g' - slG g)) (PK ad D cA A base as g) (QK ad D cA A base g') (g'.length - g.length) (slG g' - slG g) A := by
                refine Met.ofW (cc := cc) (maxL := mlx) (ret := none) s4 rfl ?_
                intro p e s m args below meth c s₁ B hml hv
                obtain ⟨rfl, hsz, hP, hK, hD, hNS⟩ := hv
                have hts0 := atoms_spec (ws := Jvm.Cond.code ny cc mlx none :: gT) B.pre
                have hown : s.vm.findClass (nmO ox) = some m.cls := by rw [s7]; exact findClass_of_methodNamed B.named
                have hname : meth.name = "<init>" := by rw [← s9]; exact (name_of_methodNamed B.named B.method).1
                have hC : CK p (headSpec (Jvm.Cond.code ny cc mlx none :: gT) (rmQz n (g'.length - g.length) (slG g' - slG g))).room s m ((as.map (tr ad)).toArray) meth c ad D cA A cc ox mlx base := ⟨B.exec, B.bytes, hml, hown, fun w hw => hts0 w (List.mem_cons_of_mem _ hw), hK, hNS, fun _ => hname, hA, had, by omega, by show 1 ≤ n + 4; omega, by show 100 ≤ 60 * n + 200; omega⟩
                have hl := lv_entry (as.map (tr ad)) (n := mlx) (by rw [eL_lg]; exact hel)
                rw [lg_entry_eq]
                generalize (lg_sl (as.map (tr ad)) ++ List.replicate (mlx - (lg_sl (as.map (tr ad))).length) Slot.unset).toArray = la at hl ⊢
                have hLH : LH ad la mlx (eLn mlx as) := LH.of hl (eLn_len hel) (fun k v hk => eLn_in ad hk)
                have hd13 := okkC_at s12 s13
                rw [Nat.zero_add] at hd13
                simp only [okkE, Bool.and_eq_true, decide_eq_true_eq, okk, beq_iff_eq] at hd13
                have ih := kto_W (l := l) (ad := ad) (D := D) (cA := cA) (A := A) (base := base) n x q.1 _ _ hrun p e (headSpec (Jvm.Cond.code ny cc mlx none :: gT) (rmQz n (g'.length - g.length) (slG g' - slG g))).room s m ((as.map (tr ad)).toArray) below meth c (MQ below (QK ad D cA A base g') ((as.map (tr ad)).toArray) s (g'.length - g.length) (slG g' - slG g) A) cc mlx g.length (slG g) (by rw [hkcd]; exact hC) (by rw [hkcd]; exact s12) (Nat.le_refl _) (Nat.le_refl _) (Nat.le_refl _) (Nat.le_refl _) (fun H locs la hl hz hP hD hS _ _ => W.vret hC.1 hC.2.1 B.returns (fun t ht hW => ⟨⟨rfl, by rw [ht]; exact hz, by rw [ht]; exact hP, hD⟩, hS.F ht⟩) hS.2.2 (by rw [← hd13.2]; exact hd13.1) B.notSynchronized)
                have := ih s.heap [] la hLH hsz hP hD va_S.rf (Nat.le_refl _) (Nat.le_refl _)
                rw [Nat.sub_self, Nat.sub_self] at this
                exact this
              have X2 := kto_W (l := l) (ad := ad) (D := D) (cA := cA) (A := A) (base := base) n a stop _ _ h p e R s m args below meth c Z b ml n0 m0 hC hcd (by omega) (by omega) hc1 hc2 X
              intro H locs la hl hz hP hD hS g1 g2
              have hW8 : 2 * (F0 m pc la ((as.reverse ++ rest).map (tr ad))).monitorRoom + ((rest.map (tr ad)).map fun v => v.category).sum ≤ 8 := lv_room (by rw [cat_map]; exact hsum)
              have hRoom : (rmQz n (g'.length - g.length) (slG g' - slG g)).frames + 1 ≤ R.frames ∧ 8 + (mlx + 11) + (rmQz n (g'.length - g.length) (slG g' - slG g)).locals ≤ R.locals := ⟨by show n + 4 + 1 ≤ _; omega, by show 8 + (mlx + 11) + (60 * n + 200) ≤ _; omega⟩
              obtain ⟨r, As, hr⟩ : ∃ r As, as = .ref r :: As := by
                cases as with
                | nil => simp [isR] at hisR
                | cons v As => cases v <;> first | exact ⟨_, _, rfl⟩ | simp [isR] at hisR
              subst hr
              have hcap : g.length - n0 + (g'.length - g.length) ≤ R.cells ∧ slG g - m0 + (slG g' - slG g) ≤ R.slots := by
                have : n0 ≤ g.length := g1
                have : m0 ≤ slG g := g2
                omega
              have est : (((Value.ref r :: As).reverse ++ rest).map (tr ad)) = (As.map (tr ad)).reverse ++ .ref (ad r) :: rest.map (tr ad) := by simp [tr]
              have hGI : GoodIn gT (Jvm.Cond.code ny cc mlx none :: gT) := gT_in s1
              have hpre : ∀ U : State, U.heap = H → s.WarmedH U.vm → PK ad D cA A base (Value.ref r :: As) g (Value.ref (ad r) :: As.map (tr ad)).toArray U := fun U hU hW => ⟨rfl, by rw [hU]; exact hz, by rw [hU]; exact hP, va_K.moved hW.alike hK, hD, hNS.warm hW⟩
              rw [okk, Bool.and_eq_true, beq_iff_eq] at hok
              obtain ⟨rfl, hv⟩ := hok
              show W p l e R s m args below meth c H locs (g.length - n0) (slG g - m0) Z (F0 m pc la (((Value.ref r :: As).reverse ++ rest).map (tr ad)))
              rw [est] at hW8 ⊢
              split at hv
              · obtain ⟨u, hmq, hq2⟩ := atI_in hv
                obtain ⟨u1, u2, u3, u4⟩ := u
                simp only [Bool.and_eq_true, beq_iff_eq] at hq2
                obtain ⟨⟨rfl, rfl⟩, rfl⟩ := hq2
                have hkm := List.all_eq_true.mp kmT_ok _ hmq
                unfold kmC at hkm
                dsimp only at hkm
                rw [if_neg h99, hpk] at hkm
                exact xk_back hmono g1 g2 hl hS (va_runI (n := q.2.1) (As := As.map (tr ad)) (rest := rest.map (tr ad)) (b := ad r) ⟨hx, hb, hml, hown, hts⟩ hMet (cwI q.2.1 hts hGI rfl rfl rfl (hts _ s3) (hts _ (hasW_in hkm)) (hts _ s2) s9 ⟨s5.1, s5.2, s6⟩ hRoom) ⟨PK.blind, hpre⟩ rfl (by rw [List.length_map]; simpa using hasl) (by rw [hl.1]) rfl hW8 hd hcap) X2
              · rw [Bool.and_eq_true] at hv
                obtain ⟨u, hmq, hq2⟩ := atI_in hv.2
                obtain ⟨u1, u2, u3, u4⟩ := u
                simp only [Bool.and_eq_true, beq_iff_eq] at hq2
                obtain ⟨⟨rfl, rfl⟩, rfl⟩ := hq2
                exact xk_back hmono g1 g2 hl hS (va_runIN (n := q.2.1) (As := As.map (tr ad)) (rest := rest.map (tr ad)) (b := ad r) ⟨hx, hb, hml, hown, hts⟩ hMet ⟨va_cnB q.2.1 hts hGI rfl rfl rfl (hNS _ hmq ny (by dsimp only; rw [hpk]; rfl)) (hts _ s3) ⟨s5.1, s5.2, s6⟩ hRoom, s9, hts _ s2⟩ ⟨PK.blind, hpre⟩ rfl (by rw [List.length_map]; simpa using hasl) (by rw [hl.1]) rfl hW8 hd hcap) X2
            · cases h
          · cases h
        · cases h
      · split at h
        · rename_i z1 hk
          have hmono := kto_mono _ _ _ _ _ h
          exact kst_W hC hd hok hk (by omega) (by omega) (kto_W n a stop _ _ h p e R s m args below meth c Z b ml n0 m0 hC hcd (by omega) (by omega) hc1 hc2 X)
        · cases h
    · cases h
