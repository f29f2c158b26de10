/-! Calls and returns; the small machine's judgement gives the machine's contract. -/
def WK (ad : Nat → Nat) (D : va_G) (cA : Nat → ClassId) (A : Nat → Prop) (sc : Nat × (Nat → Int32)) (h : Hp) (U : State) : Prop := va_P D vwCl (wl ad cA h) U.heap ∧ va_K D vwCl (tysP cA) U ∧ va_D A (wl ad cA h) ∧ SF ad A sc U U.heap ∧ h.2.2 = sc
def PC (ad : Nat → Nat) (D : va_G) (cA : Nat → ClassId) (A : Nat → Prop) (sc : Nat × (Nat → Int32)) (as : List Value) (h : Hp) : Array Value → State → Prop := va_Pc (as.map (tr ad)) (WK ad D cA A sc h)
def QC (ad : Nat → Nat) (D : va_G) (cA : Nat → ClassId) (A : Nat → Prop) (sc : Nat × (Nat → Int32)) (Q : Option Value → Hp → Prop) : Array Value → State → Outcome → State → Prop := fun _ st oc t => (∃ (r : Option Value) (h : Hp), oc = .returned (r.map (tr ad)) ∧ Q r h ∧ WK ad D cA A sc h t) ∧ va_F A st t
theorem PC.blind {ad : Nat → Nat} {D : va_G} {cA : Nat → ClassId} {A : Nat → Prop} {sc : Nat × (Nat → Int32)} {as : List Value} {h : Hp} : FrameBlind (PC ad D cA A sc as h) := fun a U g mk q => ⟨q.1, q.2.1, va_K.moved (u := U) (U := U.calling g mk a) (Vm.Alike.refl U.vm) q.2.2.1, q.2.2.2.1, q.2.2.2.2.1.calling, q.2.2.2.2.2⟩
abbrev rmD (d : Nat) : Room := { frames := d + 4, cells := 0, slots := 0, locals := 60 * d + 200 }
section CALL
variable {p : Program} {l : Launch} {e : Env} {R : Room} {s : State} {m : MethodId} {args : Array Value} {below : List Frame} {meth : Method} {c : Code} {Z : State → Prop}
variable {ad : Nat → Nat} {D : va_G} {cA : Nat → ClassId} {A : Nat → Prop} {b : ByteArray} {o ml : Nat} {sc : Nat × (Nat → Int32)} {ce sl : Nat}
/-- the world at a state that a call starts from -/
theorem WK.at {h : Hp} {H : Heap} {locs : List Loc} {U : State} (hC : CX p R s m args c ad D cA A b o ml sc ce sl) (hs : h.2.2 = sc) (hP : va_P D vwCl (wl ad cA h) H) (hD : va_D A (wl ad cA h)) (hS : va_S A s.heap H locs) (hU : U.heap = H) (hW : s.WarmedH U.vm) : WK ad D cA A sc h U := ⟨by rw [hU]; exact hP, va_K.moved hW.alike hC.2.2.2.2.2.1, hD, by rw [hU]; exact hC.2.2.2.2.2.2.1.go hW hS.2.1, hs⟩
theorem rt_W {rt : Option FieldType} {cd : Cd} {z : Cf} {G : Prop} {r : Option Value} {Q : Option Value → Hp → Prop} (hC : CX p R s m args c ad D cA A b o ml sc 0 0) (hcd : okC b o 0 cd = true) (hr : meth.sig.returnType = rt) (hlk : meth.locks = false) (hq : rtp cd rt z = some (G, r)) (g : G) (hQ : Q r z.2.2.2) : XW p l e R s m args below meth c (MQ below (QC ad D cA A sc Q) args s 0 0 A) ad D cA A ml sc 0 0 z := by
  obtain ⟨pc, ls, st, h⟩ := z
  have hx := hC.1
  have hb := hC.2.1
  unfold rtp at hq
  split at hq
  · rename_i i tl hat
    obtain ⟨n, a, bb, v, w, sw⟩ := tl
    have hok := okC_at hcd hat
    rw [Nat.zero_add] at hok
    simp only [okE, Bool.and_eq_true, decide_eq_true_eq] at hok
    obtain ⟨hd, hok⟩ := hok
    dsimp only at hd hok hq
    intro hs H locs la hl hP hD hS
    have post : ∀ t : State, t.heap = H → s.WarmedH t.vm → QC ad D cA A sc Q args s (.returned (r.map (tr ad))) t := fun t ht hW => ⟨⟨r, h, rfl, hQ, WK.at hC hs hP hD hS ht hW⟩, hS.F ht⟩
    unfold rok at hq
    split at hq
    · simp only [okx, beq_iff_eq] at hok
      subst hok
      split at hq
      · cases hq
        exact W.iret hx hb hr post hS.2.2 hd hlk
      · cases hq
        exact W.zret hx hb hr (by rcases g with rfl | rfl <;> rfl) post hS.2.2 hd hlk
      · cases hq
    · simp only [okx, beq_iff_eq] at hok
      subst hok
      split at hq
      · rename_i e1
        cases hq
        exact W.lret hx hb (hr.trans e1) post hS.2.2 hd hlk
      · cases hq
    · simp only [okx, beq_iff_eq] at hok
      subst hok
      split at hq
      · rename_i e1
        cases hq
        exact W.aret hx hb (hr.trans e1) (Or.inl ⟨_, rfl⟩) (Or.inr ⟨_, rfl⟩) post hS.2.2 hd hlk
      · cases hq
    · simp only [okx, beq_iff_eq] at hok
      subst hok
      split at hq
      · rename_i e1
        cases hq
        exact W.vret hx hb (hr.trans e1) post hS.2.2 hd hlk
      · cases hq
    · cases hq
  · cases hq
end CALL
/-- a call of a method goes through, in any body that stands -/
def CO (l : Launch) (ad : Nat → Nat) (D : va_G) (cA : Nat → ClassId) (A : Nat → Prop) (sc : Nat × (Nat → Int32)) (d mid : Nat) (as : List Value) (h : Hp) (Q : Option Value → Hp → Prop) : Prop := ∀ (p : Program) (e : Env) (R : Room) (s : State) (m : MethodId) (args : Array Value) (below : List Frame) (meth : Method) (c : Code) (Z : State → Prop) (b : ByteArray) (o ml ce sl : Nat) (pc : Nat) (ls : Lc) (rest : List Value) (i : Instr) (n bb : Nat) (v : Int32) (w : Int64) (sw : List (Int32 × Nat)), CX p R s m args c ad D cA A b o ml sc ce sl → d + 5 ≤ R.frames → 60 * d + 260 ≤ R.locals → decode b pc = .ok (i, n) → okx o pc i n mid bb v w sw = true → ((∃ k, i = .invokevirtual k) ∧ as.length = bb + 1 ∨ (∃ k, i = .invokestatic k) ∧ mid < 1000 ∧ as.length = bb) → (rest.map fun v => v.category).sum ≤ 8 → (∀ r h1, Q r h1 → XWp p l e R s m args below meth c Z ad D cA A ml sc ce sl (pc + 3) ls (r.toList ++ rest) h1) → XWp p l e R s m args below meth c Z ad D cA A ml sc ce sl pc ls (as.reverse ++ rest) h
section CALL2
variable {p : Program} {l : Launch} {e : Env} {R : Room} {s : State} {m : MethodId} {args : Array Value} {below : List Frame} {meth : Method} {c : Code} {Z : State → Prop}
variable {ad : Nat → Nat} {D : va_G} {cA : Nat → ClassId} {A : Nat → Prop} {b : ByteArray} {o ml : Nat} {sc : Nat × (Nat → Int32)} {ce sl : Nat}
/-- behind a call -/
theorem xw_back {pc : Nat} {ls : Lc} {rest : List Value} {Q : Option Value → Hp → Prop} {av : Array Value} {H : Heap} {locs : List Loc} {la : Array Slot} {st0 : List Value} (hl : LH ad la ml ls) (hS : va_S A s.heap H locs) (hr : va_Run p l e R s m args below meth c H locs ce sl 0 0 (F0 m pc la st0) (rest.map (tr ad)) (QC ad D cA A sc Q av) A) (X : ∀ r h1, Q r h1 → XWp p l e R s m args below meth c Z ad D cA A ml sc ce sl (pc + 3) ls (r.toList ++ rest) h1) : W p l e R s m args below meth c H locs ce sl Z (F0 m pc la st0) := by
  intro T hT X0
  obtain ⟨v, st₀, t, T', L, h0, X', hL, e1, e2, ⟨⟨r, h1, hv, hq, hw⟩, hz, hk⟩, st⟩ := hr T hT X0
  cases hv
  rw [h0] at hz hk
  obtain ⟨w1, w2, w3, w4, w5⟩ := hw
  have hS' : va_S A s.heap T'.heap (locs ++ L) := ⟨Nat.le_trans hS.1 (by rw [e1]; exact hz), fun q g1 g2 => by rw [e1, hk q (Nat.lt_of_lt_of_le g1 hS.1) g2]; exact hS.2.1 q g1 g2, fun q hq => by
    rcases List.mem_append.mp hq with g | g
    · exact hS.2.2 q g
    · exact hL q g⟩
  obtain ⟨t2, a1, b1⟩ := X r h1 hq w5 T'.heap (locs ++ L) la hl (by rw [e1]; exact w1) w3 hS' T' rfl X'
  refine ⟨t2, st t2 ?_, b1⟩
  have es : (r.toList ++ rest).map (tr ad) = (r.map (tr ad)).toList ++ rest.map (tr ad) := by cases r <;> rfl
  rw [← es]
  exact a1
theorem gT_in {y : MethodName} {c' : ByteArray} {ml' : Nat} {rt : Option FieldType} (h : Jvm.Cond.code y c' ml' rt ∈ gT) : GoodIn gT (Jvm.Cond.code y c' ml' rt :: gT) := fun w hw => by
  rcases List.mem_cons.mp hw with rfl | hw
  · exact ⟨h, good_of_word (gT_good _ h)⟩
  · exact ⟨hw, good_of_word (gT_good _ hw)⟩
theorem mi_spec {mid : Nat} {y : MethodName} {c' : ByteArray} {ml' : Nat} {rt : Option FieldType} {o' : Nat} {cd : Cd} {q : Mp} (h : psM[mid]? = some (y, c', ml', rt, o', cd, q)) : Jvm.Cond.code y c' ml' rt ∈ gT ∧ (q.1 = 0 → Jvm.Cond.static y ∈ gT) ∧ (q.1 ≠ 0 → Jvm.Cond.instanceMethod y ∈ gT ∧ Jvm.Cond.selects y.cls y y ∈ gT) ∧ Jvm.Cond.initialized y.cls ∈ gT ∧ plainName y.cls = true ∧ (y.cls ≠ "java/lang/invoke/MethodHandle" ∧ y.cls ≠ "java/lang/invoke/VarHandle") ∧ (parseMethodDescriptor y.desc).map (fun d => d.parameters.length) = some q.2.1 ∧ nmO o' = y.cls ∧ ml' ≤ 30 ∧ (q.1 ≠ 0 → (vwCl[o']?).map (fun q => q.1) = some y.cls) ∧ okC c' o' 0 cd = true := by
  obtain ⟨h1, h2⟩ := psM_ok _ (List.mem_of_getElem? h)
  obtain ⟨kd, n, cp, ip, sp, np⟩ := q
  simp only [miC, Bool.and_eq_true, decide_eq_true_eq, Bool.or_eq_true] at h2
  obtain ⟨⟨⟨⟨⟨⟨⟨⟨⟨⟨a1, a2⟩, a3⟩, a4⟩, a5⟩, a6⟩, a7⟩, a8⟩, a9⟩, a10⟩, a11⟩ := h2
  refine ⟨?_, fun e => ?_, fun e => ?_, hasW_in a3, a4, ⟨a5, a6⟩, a7, a8, a9, fun e => ?_, a11⟩
  · refine List.mem_filter.mpr ⟨lwB_in h1, ?_⟩
    unfold isCw at a1
    have h1' : (lwB cp.1)[cp.2]? = some (Jvm.Cond.code y c' ml' rt) := h1
    rw [h1'] at a1
    exact a1
  · have e' : kd = 0 := e
    rw [if_pos e'] at a2
    exact hasW_in a2
  · have e' : ¬ kd = 0 := e
    rw [if_neg e'] at a2
    have a2' := Bool.and_eq_true_iff.mp a2
    exact ⟨hasW_in a2'.1, hasW_in a2'.2⟩
  · rcases a10 with a | a
    · exact absurd a e
    · exact a
/-- a method of the table, met: its calls go through -/
theorem co_met {d mid : Nat} {as : List Value} {h : Hp} {Q : Option Value → Hp → Prop} {y : MethodName} {c' : ByteArray} {ml' : Nat} {rt : Option FieldType} {o' : Nat} {cd : Cd} {q : Mp} (hm : psM[mid]? = some (y, c', ml', rt, o', cd, q)) (hlen : as.length = (if q.1 = 0 then q.2.1 else q.2.1 + 1)) (hrc : rcv q.1 o' as) (hM : Met l y (Jvm.Cond.code y c' ml' rt :: gT) (rmD d) (PC ad D cA A sc as h) (QC ad D cA A sc Q) 0 0 A) : CO l ad D cA A sc d mid as h Q := by
  intro p e R s m args below meth c Z b o ml ce sl pc ls rest i n bb v w sw hC hRf hRl hd hok hi hsum X
  obtain ⟨s1, s2, s3, s4, s5, s6, s7, s8, s9, s10, s11⟩ := mi_spec hm
  obtain ⟨hx, hb, hml, hown, hts, hK, hSF, -, -, hRc⟩ := id hC
  intro hs H locs la hl hP hD hS
  have hW8 : 2 * (F0 m pc la ((as.reverse ++ rest).map (tr ad))).monitorRoom + ((rest.map (tr ad)).map fun v => v.category).sum ≤ 8 := lv_room (by rw [cat_map]; exact hsum)
  have hRoom : (rmD d).frames + 1 ≤ R.frames ∧ 8 + (ml' + 11) + (rmD d).locals ≤ R.locals := ⟨by show d + 4 + 1 ≤ _; omega, by show 8 + (ml' + 11) + (60 * d + 200) ≤ _; omega⟩
  rcases hi with ⟨⟨k, rfl⟩, hn⟩ | ⟨⟨k, rfl⟩, h1000, hn⟩
  · rw [okx, Bool.and_eq_true, Bool.and_eq_true, beq_iff_eq, hm] at hok
    obtain ⟨⟨rfl, hl1⟩, hl2⟩ := hok
    have hk1 : q.1 = 1 ∧ q.2.1 = bb := by simpa using hl2
    obtain ⟨r, t, rfl, hcl⟩ : ∃ r t, as = .ref r :: t ∧ isCl r o' = true := by
      unfold rcv at hrc
      rw [if_neg (by omega)] at hrc
      exact hrc
    obtain ⟨hr, h3, h4⟩ := isCl_spec hcl
    have hlk : Jvm.Cond.methodLink (nmO o) k y ∈ gT := by
      rw [Bool.or_eq_true] at hl1
      rcases hl1 with hl1 | hl1
      · obtain ⟨mi, g1, g2⟩ := ml_spec hl1
        rw [hm] at g1
        cases g1
        exact g2
      · rw [Bool.and_eq_true, decide_eq_true_eq] at hl1
        have : mid < psM.length := (List.getElem?_eq_some_iff.mp hm).1
        have hln : psM.length ≤ 900 := by decide +kernel
        omega
    have hs10 := s10 (by omega)
    cases hvw : vwCl[o']? with
    | none => rw [hvw] at hs10; cases hs10
    | some q3 =>
      rw [hvw] at hs10
      have hq3 : q3.1 = y.cls := Option.some.inj hs10
      have he := wl_at (ad := ad) (cA := cA) (h := h) hr
      rw [ent_3 h3, h4] at he
      have hrecv := va_recv hK hP hvw he
      rw [hq3] at hrecv
      have est : (((Value.ref r :: t).reverse ++ rest).map (tr ad)) = (t.map (tr ad)).reverse ++ .ref (ad r) :: rest.map (tr ad) := by simp [tr]
      have hGI : GoodIn gT (wsV (nmO o) k y.cls y (Jvm.Cond.code y c' ml' rt :: gT)) := fun w hw => by
        unfold wsV at hw
        rcases List.mem_append.mp hw with hw | hw
        · have : w ∈ gT := by
            simp only [List.mem_cons, List.not_mem_nil, or_false] at hw
            rcases hw with rfl | rfl | rfl | rfl
            · exact hlk
            · exact (s3 (by omega)).1
            · exact (s3 (by omega)).2
            · exact s4
          exact ⟨this, good_of_word (gT_good _ this)⟩
        · exact gT_in s1 w hw
      rw [est] at hW8 ⊢
      exact xw_back hl hS (va_runV (n := bb) (As := t.map (tr ad)) (rest := rest.map (tr ad)) (b := ad r) ⟨hx, hb, hml, hown, hts⟩ hM (cwV bb hts hGI rfl rfl rfl ⟨rfl, s6.1, s6.2, by rw [s7, hk1.2]⟩ hRoom) ⟨PC.blind, hrecv, fun U hU hW => ⟨rfl, WK.at hC hs hP hD hS hU hW⟩⟩ rfl (by rw [List.length_map]; simpa using hn) (by rw [hl.1]) rfl hW8 hd hRc) X
  · rw [okx, Bool.and_eq_true, beq_iff_eq, if_pos h1000, Bool.and_eq_true, hm] at hok
    obtain ⟨rfl, hl1, hl2⟩ := hok
    have hk1 : q.1 = 0 ∧ q.2.1 = bb := by simpa using hl2
    have est : ((as.reverse ++ rest).map (tr ad)) = (as.map (tr ad)).reverse ++ rest.map (tr ad) := by simp
    rw [Bool.or_eq_true] at hl1
    rw [est] at hW8 ⊢
    rcases hl1 with hl1 | hl1
    · obtain ⟨mi, g1, g2⟩ := ml_spec hl1
      rw [hm] at g1
      cases g1
      have hGI : GoodIn gT (va_wsS (nmO o) k y (Jvm.Cond.code y c' ml' rt :: gT)) := fun w hw => by
        unfold va_wsS at hw
        rcases List.mem_append.mp hw with hw | hw
        · have : w ∈ gT := by
            simp only [List.mem_cons, List.not_mem_nil, or_false] at hw
            rcases hw with rfl | rfl | rfl
            · exact g2
            · exact s2 hk1.1
            · exact s4
          exact ⟨this, good_of_word (gT_good _ this)⟩
        · exact gT_in s1 w hw
      exact xw_back hl hS (va_runS (n := bb) (As := as.map (tr ad)) (rest := rest.map (tr ad)) ⟨hx, hb, hml, hown, hts⟩ hM (va_cwS bb hts hGI rfl rfl rfl ⟨s6.1, s6.2, by rw [s7, hk1.2]⟩ hRoom) ⟨PC.blind, fun U hU hW => ⟨rfl, WK.at hC hs hP hD hS hU hW⟩⟩ rfl (by rw [List.length_map]; exact hn) (by rw [hl.1]) rfl hW8 hd hRc) X
    · simp only [Bool.and_eq_true, beq_iff_eq] at hl1
      obtain ⟨⟨rfl, rfl⟩, rfl⟩ := hl1
      have hy : y = ⟨"PrisonShops", "isWithin", "(III)Z"⟩ := by
        have : (psM[156]?).map (fun q => q.1) = some (⟨"PrisonShops", "isWithin", "(III)Z"⟩ : MethodName) := by decide +kernel
        rw [hm] at this
        exact Option.some.inj this
      exact xw_back hl hS (va_runSN (n := bb) (As := as.map (tr ad)) (rest := rest.map (tr ad)) ⟨hx, hb, hml, hown, hts⟩ hM ⟨va_cnB bb hts (gT_in s1) rfl rfl rfl (by rw [hy]; exact hSF.2.2.1) (hts _ s4) ⟨s6.1, s6.2, by rw [s7, hk1.2]⟩ hRoom, hts _ (s2 hk1.1), trivial⟩ ⟨PC.blind, fun U hU hW => ⟨rfl, WK.at hC hs hP hD hS hU hW⟩⟩ rfl (by rw [List.length_map]; exact hn) (by rw [hl.1]) rfl hW8 hd hRc) X
end CALL2
