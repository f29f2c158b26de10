/-! String's own methods, of the class's constants: they end, and what they answer. -/
/-- the room of String's own methods -/
noncomputable abbrev rmJ (d : Nat) : Room := { frames := d + 1, cells := 0, slots := 0, locals := 40 * d + 100 }
noncomputable def QJ (ad : Nat → Nat) (D : va_G) (cA : Nat → ClassId) (A : Nat → Prop) (sc : Nat × (Nat → Int32)) (h : Hp) (v : Option Value) : Array Value → State → Outcome → State → Prop := fun _ st oc t => (oc = .returned v ∧ WK ad D cA A sc h t) ∧ va_F A st t
noncomputable def PJ (ad : Nat → Nat) (D : va_G) (cA : Nat → ClassId) (A : Nat → Prop) (sc : Nat × (Nat → Int32)) (As : List Value) (h : Hp) : Array Value → State → Prop := va_Pc As (WK ad D cA A sc h)
theorem PJ.blind {ad : Nat → Nat} {D : va_G} {cA : Nat → ClassId} {A : Nat → Prop} {sc : Nat × (Nat → Int32)} {As : List Value} {h : Hp} : FrameBlind (PJ ad D cA A sc As h) := fun a U g mk q => ⟨q.1, q.2.1, va_K.moved (u := U) (U := U.calling g mk a) (Vm.Alike.refl U.vm) q.2.2.1, q.2.2.2.1, q.2.2.2.2.1.calling, q.2.2.2.2.2⟩
noncomputable def MJ (l : Launch) (ad : Nat → Nat) (D : va_G) (cA : Nat → ClassId) (A : Nat → Prop) (sc : Nat × (Nat → Int32)) (y : MethodName) (cc : ByteArray) (ml : Nat) (rt : Option FieldType) (d : Nat) (As : List Value) (v : Option Value) : Prop := ∀ h : Hp, Met l y (Jvm.Cond.code y cc ml rt :: gT) (rmJ d) (PJ ad D cA A sc As h) (QJ ad D cA A sc h v) 0 0 A
/-- where the body of such a method stands -/
noncomputable def JX (p : Program) (R : Room) (s : State) (m : MethodId) (args : Array Value) (meth : Method) (c : Code) (ad : Nat → Nat) (D : va_G) (cA : Nat → ClassId) (A : Nat → Prop) (sc : Nat × (Nat → Int32)) (own : String) (cc : ByteArray) (ml d : Nat) (rt : Option FieldType) : Prop := p.tables.exec = Jvm.exec ∧ c.code = cc ∧ c.maxLocals = ml ∧ s.vm.findClass own = some m.cls ∧ (∀ w ∈ gT, w.before args s = true) ∧ SF ad A sc s s.heap ∧ va_K D vwCl (tysP cA) s ∧ meth.sig.returnType = rt ∧ meth.locks = false ∧ R = rmJ d
section JDK
variable {l : Launch} {ad : Nat → Nat} {D : va_G} {cA : Nat → ClassId} {A : Nat → Prop} {sc : Nat × (Nat → Int32)}
variable {p : Program} {e : Env} {R : Room} {s : State} {m : MethodId} {args : Array Value} {below : List Frame} {meth : Method} {c : Code} {Z : State → Prop} {H : Heap} {locs : List Loc}
theorem mj_of {y : MethodName} {cc : ByteArray} {ml d : Nat} {rt : Option FieldType} {As : List Value} {v : Option Value} (hpl : plainName y.cls = true) (hel : Nat.ble (lg_sl As).length ml = true) (K : ∀ (h : Hp) (p : Program) (e : Env) (s : State) (m : MethodId) (below : List Frame) (meth : Method) (c : Code) (la : Array Slot), JX p (rmJ d) s m As.toArray meth c ad D cA A sc y.cls cc ml d rt → lv_has la ml (lv_args 0 As) → va_P D vwCl (wl ad cA h) s.heap → va_D A (wl ad cA h) → h.2.2 = sc → W p l e (rmJ d) s m As.toArray below meth c s.heap [] 0 0 (MQ below (QJ ad D cA A sc h v) As.toArray s 0 0 A) (F0 m 0 la [])) : MJ l ad D cA A sc y cc ml rt d As v := by
  intro h
  refine Met.ofW (cc := cc) (maxL := ml) (ret := rt) hpl rfl ?_
  intro p e s m args below meth c s₁ B hml hv
  obtain ⟨rfl, hP, hK, hD, hSF, hsc⟩ := hv
  have hts0 := atoms_spec (ws := Jvm.Cond.code y cc ml rt :: gT) B.pre
  have hown : s.vm.findClass y.cls = some m.cls := findClass_of_methodNamed B.named
  have hl := lv_entry As (n := ml) (Nat.le_of_ble_eq_true hel)
  rw [lg_entry_eq]
  generalize (lg_sl As ++ List.replicate (ml - (lg_sl As).length) Slot.unset).toArray = la at hl ⊢
  exact K h p e s m below meth c la ⟨B.exec, B.bytes, hml, hown, fun w hw => hts0 w (List.mem_cons_of_mem _ hw), hSF, hK, B.returns, B.notSynchronized, rfl⟩ hl hP hD hsc
theorem j_end {own : String} {cc : ByteArray} {ml d : Nat} {rt : Option FieldType} {h : Hp} {v : Option Value} (hJ : JX p R s m args meth c ad D cA A sc own cc ml d rt) (hS : va_S A s.heap H locs) (hP : va_P D vwCl (wl ad cA h) H) (hD : va_D A (wl ad cA h)) (hs : h.2.2 = sc) : ∀ t : State, t.heap = H → s.WarmedH t.vm → QJ ad D cA A sc h v args s (.returned v) t := fun t ht hW => ⟨⟨rfl, by rw [ht]; exact hP, va_K.moved hW.alike hJ.2.2.2.2.2.2.1, hD, by rw [ht]; exact hJ.2.2.2.2.2.1.go hW hS.2.1, hs⟩, hS.F ht⟩
/-- behind a call -/
theorem jw_back {pc : Nat} {la : Array Slot} {st0 rest : List Value} {h : Hp} {v : Option Value} {av : Array Value} (hS : va_S A s.heap H locs) (hr : va_Run p l e R s m args below meth c H locs 0 0 0 0 (F0 m pc la st0) rest (QJ ad D cA A sc h v av) A) (X : ∀ (H' : Heap) (locs' : List Loc), va_P D vwCl (wl ad cA h) H' → va_S A s.heap H' locs' → W p l e R s m args below meth c H' locs' 0 0 Z (F0 m (pc + 3) la (v.toList ++ rest))) : W p l e R s m args below meth c H locs 0 0 Z (F0 m pc la st0) := by
  intro T hT X0
  obtain ⟨v', st₀, t, T', L, h0, X', hL, e1, e2, ⟨⟨hv, hw⟩, hz, hk⟩, st⟩ := hr T hT X0
  cases hv
  rw [h0] at hz hk
  have hS' : va_S A s.heap T'.heap (locs ++ L) := ⟨Nat.le_trans hS.1 (by rw [e1]; exact hz), fun q g1 g2 => by rw [e1, hk q (Nat.lt_of_lt_of_le g1 hS.1) g2]; exact hS.2.1 q g1 g2, fun q hq => by
    rcases List.mem_append.mp hq with g | g
    · exact hS.2.2 q g
    · exact hL q g⟩
  obtain ⟨t2, a1, b1⟩ := X T'.heap (locs ++ L) (by rw [e1]; exact hw.1) hS' T' rfl X'
  exact ⟨t2, st t2 a1, b1⟩
theorem j_call {own : String} {cc : ByteArray} {ml d : Nat} {rt : Option FieldType} {h : Hp} (hJ : JX p R s m args meth c ad D cA A sc own cc ml (d + 1) rt) (hS : va_S A s.heap H locs) (hP : va_P D vwCl (wl ad cA h) H) (hD : va_D A (wl ad cA h)) (hs : h.2.2 = sc) {As : List Value} : ∀ U : State, U.heap = H → s.WarmedH U.vm → PJ ad D cA A sc As h As.toArray U := fun U hU hW => ⟨rfl, by rw [hU]; exact hP, va_K.moved hW.alike hJ.2.2.2.2.2.2.1, hD, by rw [hU]; exact hJ.2.2.2.2.2.1.go hW hS.2.1, hs⟩
/-- a call of a method of one of the constants -/
theorem jcV {own : String} {cc cy : ByteArray} {ml my d k n pc : Nat} {rt ry : Option FieldType} {h : Hp} {y : MethodName} {As rest : List Value} {a : Nat} {v : Option Value} {la : Array Slot} {lv : List (Nat × Value)} (hJ : JX p R s m args meth c ad D cA A sc own cc ml (d + 1) rt) (hS : va_S A s.heap H locs) (hP : va_P D vwCl (wl ad cA h) H) (hD : va_D A (wl ad cA h)) (hs : h.2.2 = sc) (hl : lv_has la ml lv) (hM : MJ l ad D cA A sc y cy my ry d (.ref a :: As) v) (w1 : Jvm.Cond.methodLink own k y ∈ gT) (w2 : Jvm.Cond.instanceMethod y ∈ gT) (w3 : Jvm.Cond.selects y.cls y y ∈ gT) (w4 : Jvm.Cond.initialized y.cls ∈ gT) (w5 : Jvm.Cond.code y cy my ry ∈ gT) (hmy : Nat.ble my 20 = true) (hpd : plainName y.cls = true) (hnm : (y.cls ≠ "java/lang/invoke/MethodHandle" ∧ y.cls ≠ "java/lang/invoke/VarHandle")) (hds : (parseMethodDescriptor y.desc).map (fun d => d.parameters.length) = some n) (hn : As.length = n) (hrv : ∃ cell : Cell, H[a]? = some cell ∧ cell.vm.isStatics = false ∧ s.vm.findClass y.cls = some cell.cls) (hsum : Nat.ble (rest.map fun v => v.category).sum 8 = true) (hd : decode cc pc = .ok (.invokevirtual k, 3)) (X : ∀ (H' : Heap) (locs' : List Loc), va_P D vwCl (wl ad cA h) H' → va_S A s.heap H' locs' → W p l e R s m args below meth c H' locs' 0 0 Z (F0 m (pc + 3) la (v.toList ++ rest))) : W p l e R s m args below meth c H locs 0 0 Z (F0 m pc la (As.reverse ++ .ref a :: rest)) := by
  have hJ' := hJ
  obtain ⟨hx, hb, hml, hown, hts, hSF, hK, hr, hlk, rfl⟩ := hJ'
  have hmy := Nat.le_of_ble_eq_true hmy
  have hW8 : 2 * (F0 m pc la (As.reverse ++ .ref a :: rest)).monitorRoom + (rest.map fun v => v.category).sum ≤ 8 := lv_room (Nat.le_of_ble_eq_true hsum)
  have hRoom : (rmJ d).frames + 1 ≤ (rmJ (d + 1)).frames ∧ 8 + (my + 11) + (rmJ d).locals ≤ (rmJ (d + 1)).locals := ⟨by show d + 1 + 1 ≤ d + 1 + 1; omega, by show 8 + (my + 11) + (40 * d + 100) ≤ 40 * (d + 1) + 100; omega⟩
  have hGI : GoodIn gT (wsV own k y.cls y (Jvm.Cond.code y cy my ry :: gT)) := fun w hw => by
    unfold wsV at hw
    rcases List.mem_append.mp hw with hw | hw
    · have : w ∈ gT := by
        simp only [List.mem_cons, List.not_mem_nil, or_false] at hw
        rcases hw with rfl | rfl | rfl | rfl
        · exact w1
        · exact w2
        · exact w3
        · exact w4
      exact ⟨this, good_of_word (gT_good _ this)⟩
    · exact gT_in w5 w hw
  exact jw_back hS (va_runV (n := n) (As := As) (rest := rest) (b := a) ⟨hx, hb, hml, hown, hts⟩ (hM h) (cwV n hts hGI rfl rfl rfl ⟨rfl, hnm.1, hnm.2, hds⟩ hRoom) ⟨PJ.blind, hrv, j_call hJ hS hP hD hs⟩ rfl hn (by rw [hl.1]) rfl hW8 hd ⟨Nat.zero_le _, Nat.zero_le _⟩) X
theorem jcS {own : String} {cc cy : ByteArray} {ml my d k n pc : Nat} {rt ry : Option FieldType} {h : Hp} {y : MethodName} {As rest : List Value} {v : Option Value} {la : Array Slot} {lv : List (Nat × Value)} (hJ : JX p R s m args meth c ad D cA A sc own cc ml (d + 1) rt) (hS : va_S A s.heap H locs) (hP : va_P D vwCl (wl ad cA h) H) (hD : va_D A (wl ad cA h)) (hs : h.2.2 = sc) (hl : lv_has la ml lv) (hM : MJ l ad D cA A sc y cy my ry d As v) (w1 : Jvm.Cond.methodLink own k y ∈ gT) (w2 : Jvm.Cond.static y ∈ gT) (w4 : Jvm.Cond.initialized y.cls ∈ gT) (w5 : Jvm.Cond.code y cy my ry ∈ gT) (hmy : Nat.ble my 20 = true) (hnm : (y.cls ≠ "java/lang/invoke/MethodHandle" ∧ y.cls ≠ "java/lang/invoke/VarHandle")) (hds : (parseMethodDescriptor y.desc).map (fun d => d.parameters.length) = some n) (hn : As.length = n) (hsum : Nat.ble (rest.map fun v => v.category).sum 8 = true) (hd : decode cc pc = .ok (.invokestatic k, 3)) (X : ∀ (H' : Heap) (locs' : List Loc), va_P D vwCl (wl ad cA h) H' → va_S A s.heap H' locs' → W p l e R s m args below meth c H' locs' 0 0 Z (F0 m (pc + 3) la (v.toList ++ rest))) : W p l e R s m args below meth c H locs 0 0 Z (F0 m pc la (As.reverse ++ rest)) := by
  have hJ' := hJ
  obtain ⟨hx, hb, hml, hown, hts, hSF, hK, hr, hlk, rfl⟩ := hJ'
  have hmy := Nat.le_of_ble_eq_true hmy
  have hW8 : 2 * (F0 m pc la (As.reverse ++ rest)).monitorRoom + (rest.map fun v => v.category).sum ≤ 8 := lv_room (Nat.le_of_ble_eq_true hsum)
  have hRoom : (rmJ d).frames + 1 ≤ (rmJ (d + 1)).frames ∧ 8 + (my + 11) + (rmJ d).locals ≤ (rmJ (d + 1)).locals := ⟨by show d + 1 + 1 ≤ d + 1 + 1; omega, by show 8 + (my + 11) + (40 * d + 100) ≤ 40 * (d + 1) + 100; omega⟩
  have hGI : GoodIn gT (va_wsS own k y (Jvm.Cond.code y cy my ry :: gT)) := fun w hw => by
    unfold va_wsS at hw
    rcases List.mem_append.mp hw with hw | hw
    · have : w ∈ gT := by
        simp only [List.mem_cons, List.not_mem_nil, or_false] at hw
        rcases hw with rfl | rfl | rfl
        · exact w1
        · exact w2
        · exact w4
      exact ⟨this, good_of_word (gT_good _ this)⟩
    · exact gT_in w5 w hw
  exact jw_back hS (va_runS (n := n) (As := As) (rest := rest) ⟨hx, hb, hml, hown, hts⟩ (hM h) (va_cwS n hts hGI rfl rfl rfl ⟨hnm.1, hnm.2, hds⟩ hRoom) ⟨PJ.blind, j_call hJ hS hP hD hs⟩ rfl hn (by rw [hl.1]) rfl hW8 hd ⟨Nat.zero_le _, Nat.zero_le _⟩) X
theorem j_cod {i d : Nat} (hi : i < 12) : MJ l ad D cA A sc yCod cCod 1 (some .byte) d [.ref (ad (1000 + i))] (some (.int 0)) := by
  refine mj_of (by decide +kernel) rfl ?_
  intro h p e s m below meth c la hJ hl hP hD hs
  obtain ⟨hx, hb, hml, hown, hts, hSF, hK, hr, hlk, hRm⟩ := id hJ
  obtain ⟨-, -, -, -, ⟨hR, hE, hZc, hZq⟩, -⟩ := id hSF
  have hl : lv_has la 1 [(0, .ref (ad (1000 + i)))] := hl
  refine va_gets hx hb hZc va_S.rf hown (hts _ jf38) (fun x q => q) dCod_0 ?_
  refine lv_if_eq hx hb dCod_3 (tgt := 13) rfl (fun q => absurd q (by decide)) (fun _ => ?_)
  refine lv_aload_n hx hb dCod_6 rfl (lv_at hl 0 rfl) ?_
  refine vk_getf hx hb (hE.1 i hi).2.1 va_S.rf hown (hts _ jf15) (fun x q => q) dCod_7 ?_
  refine lv_goto hx hb dCod_10 (tgt := 14) rfl ?_
  exact W.zret hx hb hr rfl (j_end hJ va_S.rf hP hD hs) (fun q hq => by cases hq) dCod_14 hlk
theorem j_lat {i d : Nat} (hi : i < 12) : MJ l ad D cA A sc yLat cLat 1 (some .boolean) d [.ref (ad (1000 + i))] (some (.int 1)) := by
  refine mj_of (by decide +kernel) rfl ?_
  intro h p e s m below meth c la hJ hl hP hD hs
  obtain ⟨hx, hb, hml, hown, hts, hSF, hK, hr, hlk, hRm⟩ := id hJ
  obtain ⟨-, -, -, -, ⟨hR, hE, hZc, hZq⟩, -⟩ := id hSF
  have hl : lv_has la 1 [(0, .ref (ad (1000 + i)))] := hl
  refine va_gets hx hb hZc va_S.rf hown (hts _ jf38) (fun x q => q) dLat_0 ?_
  refine lv_if_eq hx hb dLat_3 (tgt := 17) rfl (fun q => absurd q (by decide)) (fun _ => ?_)
  refine lv_aload_n hx hb dLat_6 rfl (lv_at hl 0 rfl) ?_
  refine vk_getf hx hb (hE.1 i hi).2.1 va_S.rf hown (hts _ jf15) (fun x q => q) dLat_7 ?_
  refine lv_if_ne hx hb dLat_10 (tgt := 17) rfl (fun q => absurd rfl q) (fun _ => ?_)
  refine lv_iconst hx hb dLat_13 (v := 1) rfl ?_
  refine lv_goto hx hb dLat_14 (tgt := 18) rfl ?_
  exact W.zret hx hb hr rfl (j_end hJ va_S.rf hP hD hs) (fun q hq => by cases hq) dLat_18 hlk
theorem j_rcv {i : Nat} (hi : i < 12) (hSF : SF ad A sc s s.heap) (hS : va_S A s.heap H locs) : ∃ cell : Cell, H[ad (1000 + i)]? = some cell ∧ cell.vm.isStatics = false ∧ s.vm.findClass "java/lang/String" = some cell.cls := vk_recv (adK := fun i => ad (1000 + i)) hSF.2.2.2.2.1.2.1 hi hS
noncomputable def jL (i : Nat) : Nat := (stT'.map List.length).getD i 0
theorem j_len {i d : Nat} (hi : i < 12) : MJ l ad D cA A sc yLen cLen 1 (some .int) (d + 1) [.ref (ad (1000 + i))] (some (.int (nI (jL i)))) := by
  refine mj_of (by decide +kernel) rfl ?_
  intro h p e s m below meth c la hJ hl hP hD hs
  obtain ⟨hx, hb, hml, hown, hts, hSF, hK, hr, hlk, hRm⟩ := id hJ
  obtain ⟨-, -, -, -, ⟨hR, hE, hZc, hZq⟩, -⟩ := id hSF
  have hl : lv_has la 1 [(0, .ref (ad (1000 + i)))] := hl
  refine lv_aload_n hx hb dLen_0 rfl (lv_at hl 0 rfl) ?_
  refine vk_getf hx hb (hE.1 i hi).2.2.1 va_S.rf hown (hts _ jf9) (fun x q => q) dLen_1 ?_
  refine va_tlen hx hb (hE.1 i hi).2.2.2 va_S.rf (v := nI (jL i)) rfl dLen_4 ?_
  refine lv_aload_n hx hb dLen_5 rfl (lv_at hl 0 rfl) ?_
  refine jcV (As := []) (rest := [.int (nI (jL i))]) hJ va_S.rf hP hD hs hl (j_cod hi) jlJ0_335 jmCod jSCod jiJ0 jcCod rfl (by decide +kernel) ⟨by decide, by decide⟩ (n := 0) (by decide +kernel) rfl (j_rcv hi hSF va_S.rf) rfl dLen_6 (fun H' locs' hP' hS' => ?_)
  refine lv_ishr hx hb dLen_9 ?_
  rw [show nI (jL i) >>> ((0 : Int32) &&& 31) = nI (jL i) from sb_shr0 _]
  exact W.iret hx hb hr (j_end hJ hS' hP' hD hs) hS'.2.2 dLen_10 hlk
theorem j_K3 {d : Nat} {x n : Int32} {w : Value} (hw : w = .null ∨ ∃ t, w = .ref t) (x0 : ¬ x < 0) (xn : x < n) : MJ l ad D cA A sc yK3 cK3 3 (some .int) d [.int x, .int n, w] (some (.int x)) := by
  have core : (lg_sl [.int x, .int n, w]).length = 3 := by rcases hw with rfl | ⟨t, rfl⟩ <;> rfl
  refine mj_of (by decide +kernel) (by rw [core]; rfl) ?_
  intro h p e s m below meth c la hJ hl hP hD hs
  obtain ⟨hx, hb, hml, hown, hts, hSF, hK, hr, hlk, hRm⟩ := id hJ
  have h0 := lv_at hl 0 (i := 0) (v := .int x) rfl
  have h1 := lv_at hl 1 (i := 1) (v := .int n) rfl
  refine lv_iload_n hx hb dK3_0 rfl h0 ?_
  refine lv_if_lt hx hb dK3_1 (tgt := 9) rfl (fun q => absurd q x0) (fun _ => ?_)
  refine lv_iload_n hx hb dK3_4 rfl h0 ?_
  refine lv_iload_n hx hb dK3_5 rfl h1 ?_
  refine lv_icmp_lt hx hb dK3_6 (tgt := 16) rfl (fun _ => ?_) (fun q => absurd xn q)
  refine lv_iload_n hx hb dK3_16 rfl h0 ?_
  exact W.iret hx hb hr (j_end hJ va_S.rf hP hD hs) (fun q hq => by cases hq) dK3_17 hlk
theorem j_K0 {d : Nat} {x n : Int32} (x0 : ¬ x < 0) (xn : x < n) : MJ l ad D cA A sc yK0 cK0 2 none (d + 1) [.int x, .int n] none := by
  refine mj_of (by decide +kernel) rfl ?_
  intro h p e s m below meth c la hJ hl hP hD hs
  obtain ⟨hx, hb, hml, hown, hts, hSF, hK, hr, hlk, hRm⟩ := id hJ
  obtain ⟨-, -, -, -, ⟨hR, hE, hZc, hZq⟩, -⟩ := id hSF
  have h0 := lv_at hl 0 (i := 0) (v := .int x) rfl
  have h1 := lv_at hl 1 (i := 1) (v := .int n) rfl
  have key : ∀ w : Value, (w = .null ∨ ∃ t, w = .ref t) → va_Z "jdk/internal/util/Preconditions" "SIOOBE_FORMATTER" "Ljava/util/function/BiFunction;" w A s s.heap → W p l e (rmJ (d + 1)) s m [Value.int x, .int n].toArray below meth c s.heap [] 0 0 (MQ below (QJ ad D cA A sc h none) [Value.int x, .int n].toArray s 0 0 A) (F0 m 2 la [.int n, .int x]) := by
    intro w hw hz
    refine va_gets hx hb hz va_S.rf hown (hts _ jf1053) (fun x q => q) dK0_2 ?_
    refine jcS (As := [.int x, .int n, w]) (rest := []) hJ va_S.rf hP hD hs hl (j_K3 hw x0 xn) jlJ0_1059 jsK3 jiJ3 jcK3 rfl ⟨by decide, by decide⟩ (n := 3) (by decide +kernel) rfl rfl dK0_5 (fun H' locs' hP' hS' => ?_)
    refine lv_pop hx hb dK0_8 rfl ?_
    exact W.vret hx hb hr (j_end hJ hS' hP' hD hs) hS'.2.2 dK0_9 hlk
  refine lv_iload_n hx hb dK0_0 rfl h0 ?_
  refine lv_iload_n hx hb dK0_1 rfl h1 ?_
  rcases hZq with hz | ⟨t, hz⟩
  · exact key _ (Or.inl rfl) hz
  · exact key _ (Or.inr ⟨t, rfl⟩) hz
noncomputable def jL' (i : Nat) : List Nat := stT'.getD i []
noncomputable def jB (i k : Nat) : Nat := (stT'.getD i []).getD k 0
set_option maxRecDepth 100000 in
theorem jB_ok : ∀ i, i < 12 → jL i < 10 ∧ (0 < jL i ∧ jL i = (jL' i).length ∧ stT'[i]? = some (jL' i)) ∧ ∀ k, k < jL i → jB i k < 128 ∧ ((stT'.map (fun l => l.map nI)).getD i []).getD k 0 = nI (jB i k) := by decide +kernel
theorem j_C1 {d i k : Nat} (hi : i < 12) (hk : k < jL i) : MJ l ad D cA A sc yC1 cC1 2 (some .char) (d + 2) [.ref (ad (1100 + i)), .int (nI k)] (some (.int (nI (jB i k)))) := by
  obtain ⟨b1, -, b2⟩ := jB_ok i hi
  obtain ⟨b3, b4⟩ := b2 k hk
  refine mj_of (by decide +kernel) rfl ?_
  intro h p e s m below meth c la hJ hl hP hD hs
  obtain ⟨hx, hb, hml, hown, hts, hSF, hK, hr, hlk, hRm⟩ := id hJ
  obtain ⟨-, -, -, -, ⟨hR, hE, hZc, hZq⟩, -⟩ := id hSF
  have h0 := lv_at hl 0 (i := 0) (v := .ref (ad (1100 + i))) rfl
  have h1 := lv_at hl 1 (i := 1) (v := .int (nI k)) rfl
  refine lv_iload_n hx hb dC1_0 rfl h1 ?_
  refine lv_aload_n hx hb dC1_1 rfl h0 ?_
  refine va_tlen hx hb (hE.1 i hi).2.2.2 va_S.rf (v := nI (jL i)) rfl dC1_2 ?_
  refine jcS (As := [.int (nI k), .int (nI (jL i))]) (rest := []) hJ va_S.rf hP hD hs hl (j_K0 (nI_pos (by omega)) (nI_lt hk (by omega))) jlJ1_9 jsK0 jiJ0 jcK0 rfl ⟨by decide, by decide⟩ (n := 2) (by decide +kernel) rfl rfl dC1_3 (fun H' locs' hP' hS' => ?_)
  refine lv_aload_n hx hb dC1_6 rfl h0 ?_
  refine lv_iload_n hx hb dC1_7 rfl h1 ?_
  refine va_tb hx hb (hE.1 i hi).2.2.2 hS' (vp_in_nI hk (by show jL i < _; omega)) (v := .int (nI (jB i k))) (by rw [nI_clamp (by omega), b4]) dC1_8 ?_
  refine lv_sipush hx hb dC1_9 (v := 255) rfl ?_
  refine lv_iand hx hb dC1_12 ?_
  refine lv_i2c hx hb dC1_13 (v := nI (jB i k)) (by rw [sc_c2, pk_andN (by omega) (m := 255) 8 (by decide), Nat.mod_eq_of_lt (by omega)]) ?_
  exact W.zret hx hb hr (pk_charN (by omega)).1 (j_end hJ hS' hP' hD hs) hS'.2.2 dC1_14 hlk
theorem j_chr {d i k : Nat} (hi : i < 12) (hk : k < jL i) : MJ l ad D cA A sc yChr cChr 2 (some .char) (d + 3) [.ref (ad (1000 + i)), .int (nI k)] (some (.int (nI (jB i k)))) := by
  obtain ⟨b1, -, b2⟩ := jB_ok i hi
  obtain ⟨b3, b4⟩ := b2 k hk
  refine mj_of (by decide +kernel) rfl ?_
  intro h p e s m below meth c la hJ hl hP hD hs
  obtain ⟨hx, hb, hml, hown, hts, hSF, hK, hr, hlk, hRm⟩ := id hJ
  obtain ⟨-, -, -, -, ⟨hR, hE, hZc, hZq⟩, -⟩ := id hSF
  have h0 := lv_at hl 0 (i := 0) (v := .ref (ad (1000 + i))) rfl
  have h1 := lv_at hl 1 (i := 1) (v := .int (nI k)) rfl
  refine lv_aload_n hx hb dChr_0 rfl h0 ?_
  refine jcV (As := []) (rest := []) hJ va_S.rf hP hD hs hl (j_lat hi) jlJ0_492 jmLat jSLat jiJ0 jcLat rfl (by decide +kernel) ⟨by decide, by decide⟩ (n := 0) (by decide +kernel) rfl (j_rcv hi hSF va_S.rf) rfl dChr_1 (fun H' locs' hP' hS' => ?_)
  refine lv_if_eq hx hb dChr_4 (tgt := 16) rfl (fun q => absurd q (by decide)) (fun _ => ?_)
  refine lv_aload_n hx hb dChr_7 rfl h0 ?_
  refine vk_getf hx hb (hE.1 i hi).2.2.1 hS' hown (hts _ jf9) (fun x q => q) dChr_8 ?_
  refine lv_iload_n hx hb dChr_11 rfl h1 ?_
  refine jcS (As := [.ref (ad (1100 + i)), .int (nI k)]) (rest := []) hJ hS' hP' hD hs hl (j_C1 hi hk) jlJ0_495 jsC1 jiJ1 jcC1 rfl ⟨by decide, by decide⟩ (n := 2) (by decide +kernel) rfl rfl dChr_12 (fun H2 locs2 hP2 hS2 => ?_)
  exact W.zret hx hb hr (pk_charN (by omega)).1 (j_end hJ hS2 hP2 hD hs) hS2.2.2 dChr_15 hlk
theorem j_can {d : Nat} {x : Int32} (x0 : ¬ x < 0) : MJ l ad D cA A sc yCan cCan 1 (some .boolean) d [.int x] (some (.int (if 255 < x then 0 else 1))) := by
  refine mj_of (by decide +kernel) rfl ?_
  intro h p e s m below meth c la hJ hl hP hD hs
  obtain ⟨hx, hb, hml, hown, hts, hSF, hK, hr, hlk, hRm⟩ := id hJ
  have h0 := lv_at hl 0 (i := 0) (v := .int x) rfl
  refine lv_iload_n hx hb dCan_0 rfl h0 ?_
  refine lv_if_lt hx hb dCan_1 (tgt := 15) rfl (fun q => absurd q x0) (fun _ => ?_)
  refine lv_iload_n hx hb dCan_4 rfl h0 ?_
  refine lv_sipush hx hb dCan_5 (v := 255) rfl ?_
  refine lv_icmp_gt hx hb dCan_8 (tgt := 15) rfl (fun q => ?_) (fun q => ?_)
  · rw [if_pos q]
    refine lv_iconst hx hb dCan_15 (v := 0) rfl ?_
    exact W.zret hx hb hr rfl (j_end hJ va_S.rf hP hD hs) (fun q hq => by cases hq) dCan_16 hlk
  · rw [if_neg q]
    refine lv_iconst hx hb dCan_11 (v := 1) rfl ?_
    refine lv_goto hx hb dCan_12 (tgt := 16) rfl ?_
    exact W.zret hx hb hr rfl (j_end hJ va_S.rf hP hD hs) (fun q hq => by cases hq) dCan_16 hlk
theorem sIx_cons {l : List Nat} {x : Int32} {k : Nat} (hk : k < l.length) : sIx (l.drop k) x k = if x = nI (l.getD k 0) then nI k else sIx (l.drop (k + 1)) x (k + 1) := by
  rw [List.drop_eq_getElem_cons hk, List.getD_eq_getElem?_getD, List.getElem?_eq_getElem hk]
  rfl
theorem sIx_out {x : Int32} (hx : 255 < x) : ∀ (l : List Nat) (k : Nat), (∀ c ∈ l, c < 128) → sIx l x k = -1
  | [], _, _ => rfl
  | c :: r, k, h => by
    have hc := h c List.mem_cons_self
    unfold sIx
    rw [if_neg, sIx_out hx r (k + 1) (fun q hq => h q (List.mem_cons_of_mem _ hq))]
    intro e
    rw [e] at hx
    exact nI_nlt (a := 255) (b := c) (by omega) (by omega) hx
set_option maxRecDepth 100000 in
theorem i8_ok : ∀ n, n < 128 → (nI n).toInt8.toInt32 = nI n := by decide +kernel
theorem i8_eq {c n : Nat} (hc : c < 128) (hn : n < 256) : nI c = (nI n).toInt8.toInt32 ↔ nI n = nI c := by
  rw [sc_eq (i8_ok c hc) hn, pk_andN (by omega) (m := 255) 8 (by decide), Nat.mod_eq_of_lt (by omega)]
  exact eq_comm
theorem j_IC {d i n : Nat} (hi : i < 12) (hn : n < 256) : MJ l ad D cA A sc yIC cIC 6 (some .int) d [.ref (ad (1100 + i)), .int (nI n), .int 0, .int (nI (jL i))] (some (.int (sIx (jL' i) (nI n) 0))) := by
  obtain ⟨b1, ⟨-, b5, -⟩, b2⟩ := jB_ok i hi
  refine mj_of (by decide +kernel) rfl ?_
  intro h p e s m below meth c la hJ hl hP hD hs
  obtain ⟨hx, hb, hml, hown, hts, hSF, hK, hr, hlk, hRm⟩ := id hJ
  obtain ⟨-, -, -, -, ⟨hR, hE, hZc, hZq⟩, -⟩ := id hSF
  have hl : lv_has la 6 [(0, .ref (ad (1100 + i))), (1, .int (nI n)), (2, .int 0), (3, .int (nI (jL i)))] := hl
  have key : ∀ (t k : Nat) (la : Array Slot), jL i - k = t → k ≤ jL i → sIx ((jL' i).drop k) (nI n) k = sIx (jL' i) (nI n) 0 → lv_has la 6 [(5, .int (nI k)), (4, .int (nI n).toInt8.toInt32), (0, .ref (ad (1100 + i))), (1, .int (nI n)), (2, .int 0), (3, .int (nI (jL i)))] → W p l e (rmJ d) s m [Value.ref (ad (1100 + i)), .int (nI n), .int 0, .int (nI (jL i))].toArray below meth c s.heap [] 0 0 (MQ below (QJ ad D cA A sc h (some (.int (sIx (jL' i) (nI n) 0)))) [Value.ref (ad (1100 + i)), .int (nI n), .int 0, .int (nI (jL i))].toArray s 0 0 A) (F0 m 7 la []) := by
    intro t
    induction t with
    | zero =>
      intro k la hk hkl hsx hl
      have : k = jL i := by omega
      subst this
      refine lv_iload hx hb dIC_7 (lv_at hl 0 rfl) ?_
      refine lv_iload_n hx hb dIC_9 rfl (lv_at hl 5 rfl) ?_
      refine lv_icmp_ge hx hb dIC_10 (tgt := 31) rfl (fun _ => ?_) (fun q => absurd (nI_le (Nat.le_refl _) (by omega)) q)
      refine lv_iconst hx hb dIC_31 (v := -1) rfl ?_
      rw [b5, List.drop_length] at hsx
      rw [← hsx]
      exact W.iret hx hb hr (j_end hJ va_S.rf hP hD hs) (fun q hq => by cases hq) dIC_32 hlk
    | succ t ih =>
      intro k la hk hkl hsx hl
      have hkl2 : k < jL i := by omega
      obtain ⟨b3, b4⟩ := b2 k hkl2
      refine lv_iload hx hb dIC_7 (lv_at hl 0 rfl) ?_
      refine lv_iload_n hx hb dIC_9 rfl (lv_at hl 5 rfl) ?_
      refine lv_icmp_ge hx hb dIC_10 (tgt := 31) rfl (fun q => absurd q (nI_ge hkl2 (by omega))) (fun _ => ?_)
      refine lv_aload_n hx hb dIC_13 rfl (lv_at hl 2 rfl) ?_
      refine lv_iload hx hb dIC_14 (lv_at hl 0 rfl) ?_
      refine va_tb hx hb (hE.1 i hi).2.2.2 va_S.rf (vp_in_nI hkl2 (by show jL i < _; omega)) (v := .int (nI (jB i k))) (by rw [nI_clamp (by omega), b4]) dIC_16 ?_
      refine lv_iload hx hb dIC_17 (lv_at hl 1 rfl) ?_
      have hcons : sIx ((jL' i).drop k) (nI n) k = if nI n = nI (jB i k) then nI k else sIx ((jL' i).drop (k + 1)) (nI n) (k + 1) := sIx_cons (l := jL' i) (x := nI n) (k := k) (by omega)
      refine lv_icmp_ne hx hb dIC_19 (tgt := 25) rfl (fun q => ?_) (fun q => ?_)
      · rw [i8_eq b3 hn] at q
        refine lv_iinc hx hb dIC_25 hl (k := 0) rfl (v := nI (k + 1)) (nI_1 k) (by decide) rfl (fun la' hl' => ?_)
        refine lv_goto hx hb dIC_28 (tgt := 7) rfl ?_
        refine ih (k + 1) la' (by omega) (by omega) ?_ hl'
        rw [← hsx, hcons, if_neg q]
      · rw [i8_eq b3 hn] at q
        refine lv_iload hx hb dIC_22 (lv_at hl 0 rfl) ?_
        rw [hcons, if_pos q] at hsx
        rw [← hsx]
        exact W.iret hx hb hr (j_end hJ va_S.rf hP hD hs) (fun q hq => by cases hq) dIC_24 hlk
  refine lv_iload_n hx hb dIC_0 rfl (lv_at hl 1 rfl) ?_
  refine lv_i2b hx hb dIC_1 rfl ?_
  refine lv_istore hx hb dIC_2 hl (by decide) rfl (fun la2 hl2 => ?_)
  refine lv_iload_n hx hb dIC_4 rfl (lv_at hl2 3 rfl) ?_
  refine lv_istore hx hb dIC_5 hl2 (by decide) rfl (fun la3 hl3 => ?_)
  exact key (jL i) 0 la3 rfl (Nat.zero_le _) rfl hl3
theorem j_I1 {d i : Nat} {x : Int32} (hi : i < 12) (x0 : ¬ x < 0) : MJ l ad D cA A sc yI1 cI1 4 (some .int) (d + 1) [.ref (ad (1100 + i)), .int x, .int 0, .int (nI (jL i))] (some (.int (sIx (jL' i) x 0))) := by
  obtain ⟨b1, ⟨b6, b5, -⟩, b2⟩ := jB_ok i hi
  refine mj_of (by decide +kernel) rfl ?_
  intro h p e s m below meth c la hJ hl hP hD hs
  obtain ⟨hx, hb, hml, hown, hts, hSF, hK, hr, hlk, hRm⟩ := id hJ
  obtain ⟨-, -, -, -, ⟨hR, hE, hZc, hZq⟩, -⟩ := id hSF
  have hl : lv_has la 4 [(0, .ref (ad (1100 + i))), (1, .int x), (2, .int 0), (3, .int (nI (jL i)))] := hl
  refine lv_iload_n hx hb dI1_0 rfl (lv_at hl 1 rfl) ?_
  refine jcS (As := [.int x]) (rest := []) hJ va_S.rf hP hD hs hl (j_can x0) jlJ1_88 jsCan jiJ1 jcCan rfl ⟨by decide, by decide⟩ (n := 1) (by decide +kernel) rfl rfl dI1_1 (fun H' locs' hP' hS' => ?_)
  by_cases h255 : 255 < x
  · rw [if_pos h255]
    refine lv_if_ne hx hb dI1_4 (tgt := 9) rfl (fun q => absurd rfl q) (fun _ => ?_)
    refine lv_iconst hx hb dI1_7 (v := -1) rfl ?_
    rw [show sIx (jL' i) x 0 = -1 from sIx_out h255 _ _ (fun c hc => by
      obtain ⟨k, hk, rfl⟩ := List.getElem_of_mem hc
      have := (b2 k (by omega)).1
      unfold jB at this
      rw [List.getD_eq_getElem?_getD] at this
      have e : (stT'.getD i [])[k]? = some (jL' i)[k] := List.getElem?_eq_getElem hk
      rw [e] at this
      exact this)]
    exact W.iret hx hb hr (j_end hJ hS' hP' hD hs) hS'.2.2 dI1_8 hlk
  · rw [if_neg h255]
    obtain ⟨n, hn31, rfl⟩ := nI_of x0
    have hn : n < 256 := by
      rcases Nat.lt_or_ge n 256 with q | q
      · exact q
      · exact absurd (nI_lt (a := 255) (b := n) (by omega) (by omega)) h255
    refine lv_if_ne hx hb dI1_4 (tgt := 9) rfl (fun _ => ?_) (fun q => absurd q (by decide))
    refine lv_iload_n hx hb dI1_9 rfl (lv_at hl 2 rfl) ?_
    refine lv_iconst hx hb dI1_10 (v := 0) rfl ?_
    refine va_mmax hx hb (by rw [hml, hl.1]) hown (hts _ jlJ1_92) (hts _ lb0) (hts _ lb2) (hts _ lb6) (by show 1 ≤ d + 1 + 1; omega) (by show 0 + 13 ≤ 40 * (d + 1) + 100; omega) (Nat.le_refl _) (Nat.le_refl _) dI1_11 ?_
    rw [show (if (0 : Int32) < 0 then (0 : Int32) else 0) = 0 from rfl]
    refine lv_istore_n hx hb dI1_14 rfl hl (by decide) rfl (fun la2 hl2 => ?_)
    refine lv_iload_n hx hb dI1_15 rfl (lv_at hl2 3 rfl) ?_
    refine lv_aload_n hx hb dI1_16 rfl (lv_at hl2 1 rfl) ?_
    refine va_tlen hx hb (hE.1 i hi).2.2.2 hS' (v := nI (jL i)) rfl dI1_17 ?_
    refine va_mmin hx hb (by rw [hml, hl2.1]) hown (hts _ jlJ1_38) (hts _ lb1) (hts _ lb2) (hts _ lb7) (by show 1 ≤ d + 1 + 1; omega) (by show 0 + 13 ≤ 40 * (d + 1) + 100; omega) (Nat.le_refl _) (Nat.le_refl _) dI1_18 ?_
    rw [show (if nI (jL i) < nI (jL i) then nI (jL i) else nI (jL i)) = nI (jL i) from ite_self _]
    refine lv_istore_n hx hb dI1_21 rfl hl2 (by decide) rfl (fun la3 hl3 => ?_)
    refine lv_iload_n hx hb dI1_22 rfl (lv_at hl3 1 rfl) ?_
    refine lv_iload_n hx hb dI1_23 rfl (lv_at hl3 0 rfl) ?_
    refine lv_icmp_lt hx hb dI1_24 (tgt := 29) rfl (fun _ => ?_) (fun q => absurd (nI_lt (a := 0) (b := jL i) b6 (by omega)) q)
    refine lv_aload_n hx hb dI1_29 rfl (lv_at hl3 2 rfl) ?_
    refine lv_iload_n hx hb dI1_30 rfl (lv_at hl3 3 rfl) ?_
    refine lv_iload_n hx hb dI1_31 rfl (lv_at hl3 1 rfl) ?_
    refine lv_iload_n hx hb dI1_32 rfl (lv_at hl3 0 rfl) ?_
    refine jcS (As := [.ref (ad (1100 + i)), .int (nI n), .int 0, .int (nI (jL i))]) (rest := []) hJ hS' hP' hD hs hl3 (j_IC hi hn) jlJ1_95 jsIC jiJ1 jcIC rfl ⟨by decide, by decide⟩ (n := 4) (by decide +kernel) rfl rfl dI1_33 (fun H2 locs2 hP2 hS2 => ?_)
    exact W.iret hx hb hr (j_end hJ hS2 hP2 hD hs) hS2.2.2 dI1_36 hlk
theorem j_Ix2 {d i : Nat} {x : Int32} (hi : i < 12) (x0 : ¬ x < 0) : MJ l ad D cA A sc yIx2 cIx2 3 (some .int) (d + 2) [.ref (ad (1000 + i)), .int x, .int 0] (some (.int (sIx (jL' i) x 0))) := by
  refine mj_of (by decide +kernel) rfl ?_
  intro h p e s m below meth c la hJ hl hP hD hs
  obtain ⟨hx, hb, hml, hown, hts, hSF, hK, hr, hlk, hRm⟩ := id hJ
  obtain ⟨-, -, -, -, ⟨hR, hE, hZc, hZq⟩, -⟩ := id hSF
  have hl : lv_has la 3 [(0, .ref (ad (1000 + i))), (1, .int x), (2, .int 0)] := hl
  refine lv_aload_n hx hb dIx2_0 rfl (lv_at hl 0 rfl) ?_
  refine jcV (As := []) (rest := []) hJ va_S.rf hP hD hs hl (j_lat hi) jlJ0_492 jmLat jSLat jiJ0 jcLat rfl (by decide +kernel) ⟨by decide, by decide⟩ (n := 0) (by decide +kernel) rfl (j_rcv hi hSF va_S.rf) rfl dIx2_1 (fun H' locs' hP' hS' => ?_)
  refine lv_if_eq hx hb dIx2_4 (tgt := 23) rfl (fun q => absurd q (by decide)) (fun _ => ?_)
  refine lv_aload_n hx hb dIx2_7 rfl (lv_at hl 0 rfl) ?_
  refine vk_getf hx hb (hE.1 i hi).2.2.1 hS' hown (hts _ jf9) (fun x q => q) dIx2_8 ?_
  refine lv_iload_n hx hb dIx2_11 rfl (lv_at hl 1 rfl) ?_
  refine lv_iload_n hx hb dIx2_12 rfl (lv_at hl 2 rfl) ?_
  refine lv_aload_n hx hb dIx2_13 rfl (lv_at hl 0 rfl) ?_
  refine jcV (As := []) (rest := [.int 0, .int x, .ref (ad (1100 + i))]) hJ hS' hP' hD hs hl (j_len hi) jlJ0_505 jmLen jSLen jiJ0 jcLen rfl (by decide +kernel) ⟨by decide, by decide⟩ (n := 0) (by decide +kernel) rfl (j_rcv hi hSF hS') rfl dIx2_14 (fun H2 locs2 hP2 hS2 => ?_)
  refine jcS (As := [.ref (ad (1100 + i)), .int x, .int 0, .int (nI (jL i))]) (rest := []) hJ hS2 hP2 hD hs hl (j_I1 hi x0) jlJ0_637 jsI1 jiJ1 jcI1 rfl ⟨by decide, by decide⟩ (n := 4) (by decide +kernel) rfl rfl dIx2_17 (fun H3 locs3 hP3 hS3 => ?_)
  refine lv_goto hx hb dIx2_20 (tgt := 36) rfl ?_
  exact W.iret hx hb hr (j_end hJ hS3 hP3 hD hs) hS3.2.2 dIx2_36 hlk
theorem j_Ix1 {d i : Nat} {x : Int32} (hi : i < 12) (x0 : ¬ x < 0) : MJ l ad D cA A sc yIx1 cIx1 2 (some .int) (d + 3) [.ref (ad (1000 + i)), .int x] (some (.int (sIx (jL' i) x 0))) := by
  refine mj_of (by decide +kernel) rfl ?_
  intro h p e s m below meth c la hJ hl hP hD hs
  obtain ⟨hx, hb, hml, hown, hts, hSF, hK, hr, hlk, hRm⟩ := id hJ
  have hl : lv_has la 2 [(0, .ref (ad (1000 + i))), (1, .int x)] := hl
  refine lv_aload_n hx hb dIx1_0 rfl (lv_at hl 0 rfl) ?_
  refine lv_iload_n hx hb dIx1_1 rfl (lv_at hl 1 rfl) ?_
  refine lv_iconst hx hb dIx1_2 (v := 0) rfl ?_
  refine jcV (As := [.int x, .int 0]) (rest := []) hJ va_S.rf hP hD hs hl (j_Ix2 hi x0) jlJ0_633 jmIx2 jSIx2 jiJ0 jcIx2 rfl (by decide +kernel) ⟨by decide, by decide⟩ (n := 2) (by decide +kernel) rfl (j_rcv hi hSF va_S.rf) rfl dIx1_3 (fun H' locs' hP' hS' => ?_)
  exact W.iret hx hb hr (j_end hJ hS' hP' hD hs) hS'.2.2 dIx1_6 hlk
theorem j_back2 {ce sl pc : Nat} {la : Array Slot} {st0 rest : List Value} {h : Hp} {v : Option Value} {av : Array Value} (hS : va_S A s.heap H locs) (hr : va_Run p l e R s m args below meth c H locs ce sl 0 0 (F0 m pc la st0) (rest.map (tr ad)) (QJ ad D cA A sc h (v.map (tr ad)) av) A) (X : ∀ (H' : Heap) (locs' : List Loc), va_P D vwCl (wl ad cA h) H' → va_S A s.heap H' locs' → W p l e R s m args below meth c H' locs' ce sl Z (F0 m (pc + 3) la ((v.toList ++ rest).map (tr ad)))) : W p l e R s m args below meth c H locs ce sl Z (F0 m pc la st0) := by
  intro T hT X0
  obtain ⟨v2, st₀, t, T', L, h0, X', hL, e1, e2, ⟨⟨hv, hw⟩, hz, hk⟩, st⟩ := hr T hT X0
  cases hv
  rw [h0] at hz hk
  have hS' : va_S A s.heap T'.heap (locs ++ L) := ⟨Nat.le_trans hS.1 (by rw [e1]; exact hz), fun q g1 g2 => by rw [e1, hk q (Nat.lt_of_lt_of_le g1 hS.1) g2]; exact hS.2.1 q g1 g2, fun q hq => by
    rcases List.mem_append.mp hq with g | g
    · exact hS.2.2 q g
    · exact hL q g⟩
  obtain ⟨t2, a1, b1⟩ := X T'.heap (locs ++ L) (by rw [e1]; exact hw.1) hS' T' rfl X'
  refine ⟨t2, st t2 ?_, b1⟩
  have es : (v.toList ++ rest).map (tr ad) = (v.map (tr ad)).toList ++ rest.map (tr ad) := by cases v <;> rfl
  rw [← es]
  exact a1
/-- a call of one of the three, from a body of the small machine -/
theorem j_co {y : MethodName} {cy : ByteArray} {my d mid n i : Nat} {ry : Option FieldType} {as : List Value} {v : Option Value} {h : Hp} {Q : Option Value → Hp → Prop} (hM : MJ l ad D cA A sc y cy my ry 3 (.ref (ad (1000 + i)) :: as.map (tr ad)) (v.map (tr ad))) (hi : i < 12) (hmid : psM[mid]? = none) (h900 : 900 ≤ mid ∧ mid < 1000) (hy : yLib mid = y) (hcl : y.cls = "java/lang/String") (w2 : Jvm.Cond.instanceMethod y ∈ gT) (w3 : Jvm.Cond.selects y.cls y y ∈ gT) (w4 : Jvm.Cond.initialized y.cls ∈ gT) (w5 : Jvm.Cond.code y cy my ry ∈ gT) (hmy : Nat.ble my 20 = true) (hpd : plainName y.cls = true) (hnm : (y.cls ≠ "java/lang/invoke/MethodHandle" ∧ y.cls ≠ "java/lang/invoke/VarHandle")) (hds : (parseMethodDescriptor y.desc).map (fun d => d.parameters.length) = some n) (hn : as.length = n) (hQ : Q v h) : CO l ad D cA A sc d mid (.ref (1000 + i) :: as) h Q := by
  intro p e R s m args below meth c Z b o ml ce sl pc ls rest i' nn bb v' w sw hC hRf hRl hd hok hcase hsum X
  obtain ⟨hx, hb, hml, hown, hts, hK, hSF, -, -, hRc⟩ := id hC
  intro hs H locs la hl hP hD hS
  have hmy := Nat.le_of_ble_eq_true hmy
  rcases hcase with ⟨⟨k, rfl⟩, hbb⟩ | ⟨⟨k, rfl⟩, hlt, hbb⟩
  · rw [okx, Bool.and_eq_true, Bool.and_eq_true, beq_iff_eq] at hok
    obtain ⟨⟨rfl, hl1⟩, -⟩ := hok
    have w1 : Jvm.Cond.methodLink (nmO o) k y ∈ gT := by
      rw [Bool.or_eq_true] at hl1
      rcases hl1 with hl1 | hl1
      · obtain ⟨mi, g1, g2⟩ := ml_spec hl1
        rw [hmid] at g1
        cases g1
      · rw [Bool.and_eq_true] at hl1
        rw [← hy]
        exact mj_spec hl1.2
    have est : (((Value.ref (1000 + i) :: as).reverse ++ rest).map (tr ad)) = (as.map (tr ad)).reverse ++ .ref (ad (1000 + i)) :: rest.map (tr ad) := by simp [tr]
    have hW8 : 2 * (F0 m pc la (((Value.ref (1000 + i) :: as).reverse ++ rest).map (tr ad))).monitorRoom + ((rest.map (tr ad)).map fun v => v.category).sum ≤ 8 := lv_room (by rw [cat_map]; exact hsum)
    have hRoom : (rmJ 3).frames + 1 ≤ R.frames ∧ 8 + (my + 11) + (rmJ 3).locals ≤ R.locals := ⟨by show 3 + 1 + 1 ≤ _; omega, by show 8 + (my + 11) + (40 * 3 + 100) ≤ _; omega⟩
    have hGI : GoodIn gT (wsV (nmO o) k y.cls y (Jvm.Cond.code y cy my ry :: gT)) := fun w hw => by
      unfold wsV at hw
      rcases List.mem_append.mp hw with hw | hw
      · have : w ∈ gT := by
          simp only [List.mem_cons, List.not_mem_nil, or_false] at hw
          rcases hw with rfl | rfl | rfl | rfl
          · exact w1
          · exact w2
          · exact w3
          · exact w4
        exact ⟨this, good_of_word (gT_good _ this)⟩
      · exact gT_in w5 w hw
    show W p l e R s m args below meth c H locs ce sl Z (F0 m pc la (((Value.ref (1000 + i) :: as).reverse ++ rest).map (tr ad)))
    rw [est] at hW8 ⊢
    have hrv : ∃ cell : Cell, H[ad (1000 + i)]? = some cell ∧ cell.vm.isStatics = false ∧ s.vm.findClass y.cls = some cell.cls := by rw [hcl]; exact j_rcv hi hSF hS
    exact j_back2 hS (va_runV (n := n) (As := as.map (tr ad)) (rest := rest.map (tr ad)) (b := ad (1000 + i)) ⟨hx, hb, hml, hown, hts⟩ (hM h) (cwV n hts hGI rfl rfl rfl ⟨rfl, hnm.1, hnm.2, hds⟩ hRoom) ⟨PJ.blind, hrv, fun U hU hW => ⟨rfl, WK.at hC hs hP hD hS hU hW⟩⟩ rfl (by rw [List.length_map]; exact hn) (by rw [hl.1]) rfl hW8 hd hRc) (fun H' locs' hP' hS' => X v h hQ hs H' locs' la hl hP' hD hS')
  · rw [okx, Bool.and_eq_true, beq_iff_eq, if_pos hlt, Bool.and_eq_true, hmid] at hok
    exact absurd (show false = true from hok.2.2) (by decide)
theorem stT'_lt {i : Nat} {l : List Nat} (h : stT'[i]? = some l) : i < 12 := (List.getElem?_eq_some_iff.mp h).1
theorem lb_of : ∀ (d mid : Nat) (as : List Value) (h : Hp) (Q : Option Value → Hp → Prop), lib mid as h Q → CO l ad D cA A sc d mid as h Q := by
  intro d mid as h Q hl
  unfold lib at hl
  split at hl
  · obtain ⟨rfl, i, li, rfl, hli, hQ⟩ := hl
    have hi := stT'_lt hli
    obtain ⟨-, ⟨-, b5, b6⟩, -⟩ := jB_ok i hi
    have e : li = jL' i := Option.some.inj (hli.symm.trans b6)
    rw [e, ← b5] at hQ
    exact j_co (as := []) (v := some (.int (nI (jL i)))) (j_len hi) hi (by decide +kernel) (by decide) rfl rfl jmLen jSLen jiJ0 jcLen rfl (by decide +kernel) ⟨by decide, by decide⟩ (n := 0) (by decide +kernel) rfl hQ
  · rename_i r x
    obtain ⟨i, li, rfl, hli, hc⟩ := hl
    have hi := stT'_lt hli
    obtain ⟨-, ⟨-, b5, b6⟩, -⟩ := jB_ok i hi
    have e : li = jL' i := Option.some.inj (hli.symm.trans b6)
    rcases hc with ⟨rfl, k, c, rfl, hk, hQ⟩ | ⟨rfl, ⟨x0, x1⟩, hQ⟩
    · rw [e] at hk
      have hkl : k < jL i := by rw [b5]; exact (List.getElem?_eq_some_iff.mp hk).1
      have ec : c = jB i k := by
        unfold jB
        rw [List.getD_eq_getElem?_getD]
        have : (stT'.getD i [])[k]? = some c := hk
        rw [this]
        rfl
      rw [ec] at hQ
      exact j_co (as := [.int (nI k)]) (v := some (.int (nI (jB i k)))) (j_chr hi hkl) hi (by decide +kernel) (by decide) rfl rfl jmChr jSChr jiJ0 jcChr rfl (by decide +kernel) ⟨by decide, by decide⟩ (n := 1) (by decide +kernel) rfl hQ
    · rw [e] at hQ
      have x0' : ¬ x < 0 := fun q => by
        rw [Int32.lt_iff_toInt_lt] at q
        rw [Int32.le_iff_toInt_le] at x0
        omega
      exact j_co (as := [.int x]) (v := some (.int (sIx (jL' i) x 0))) (j_Ix1 hi x0') hi (by decide +kernel) (by decide) rfl rfl jmIx1 jSIx1 jiJ0 jcIx1 rfl (by decide +kernel) ⟨by decide, by decide⟩ (n := 1) (by decide +kernel) rfl hQ
  · exact hl.elim
end JDK
