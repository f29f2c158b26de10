/-! The constructors' machine is the machine. -/
/-- the nest's words -/
noncomputable def NS (U : State) : Prop := ∀ q ∈ nsT, ∀ (y : MethodName), (psK[q.2.2.1]?).map (fun m => m.1) = some y → va_Nw (.methodLinkNest (nmO q.1) q.2.1 y q.2.2.2) U
theorem slG_app (g : List Kb) (q : Kb) : slG (g ++ [q]) = slG g + slK q := by
  induction g with
  | nil => show slK q + 0 = 0 + slK q; omega
  | cons a r ih => show slK a + slG (r ++ [q]) = slK a + slG r + slK q; omega
theorem slG_set {g : List Kb} {r : Nat} {q q' : Kb} (h : g[r]? = some q) (he : slK q' = slK q) : slG (g.set r q') = slG g := by
  induction g generalizing r with
  | nil => simp at h
  | cons a t ih =>
    cases r with
    | zero =>
      simp only [List.getElem?_cons_zero, Option.some.injEq] at h
      subst h
      show slK q' + slG t = slK a + slG t
      omega
    | succ r =>
      show slK a + slG (t.set r q') = slK a + slG t
      rw [ih (by simpa using h)]
theorem kst_mono {o : Nat} {i : Instr} {a b : Nat} {v : Int32} {z z' : Kf} (h : kst o i a b v z = some z') : z.2.2.2.length ≤ z'.2.2.2.length ∧ slG z.2.2.2 ≤ slG z'.2.2.2 := by
  obtain ⟨pc, ls, st, g⟩ := z
  have key : ∀ g' : List Kb, g' = g → (g.length ≤ g'.length ∧ slG g ≤ slG g') := fun g' e => by subst e; exact ⟨Nat.le_refl _, Nat.le_refl _⟩
  have keyA : ∀ (q : Kb), (g.length ≤ (g ++ [q]).length ∧ slG g ≤ slG (g ++ [q])) := fun q => ⟨by simp, by rw [slG_app]; omega⟩
  have keyS : ∀ (r : Nat) (q q' : Kb), g[r]? = some q → slK q' = slK q → (g.length ≤ (g.set r q').length ∧ slG g ≤ slG (g.set r q')) := fun r q q' e1 e2 => ⟨by simp, by rw [slG_set e1 e2]; exact Nat.le_refl _⟩
  unfold kst at h
  dsimp only at h
  split at h
  all_goals (repeat' split at h)
  all_goals first
    | (cases h; done)
    | (cases h; exact key _ rfl)
    | (cases h; exact keyA _)
    | (cases h; exact keyS _ _ _ (by assumption) (by simp [slK]))
theorem kto_mono : ∀ (n a stop : Nat) (z z' : Kf), kto n a stop z = some z' → z.2.2.2.length ≤ z'.2.2.2.length ∧ slG z.2.2.2 ≤ slG z'.2.2.2
  | 0, _, _, _, _, h => by cases h
  | n + 1, a, stop, z, z', h => by
    unfold kto at h
    split at h
    · cases h; exact ⟨Nat.le_refl _, Nat.le_refl _⟩
    split at h
    · split at h
      · split at h
        · split at h
          · rename_i pc' ls' g' hk
            split at h
            · have h1 := kto_mono n _ _ _ _ hk
              have h2 := kto_mono n _ _ _ _ h
              exact ⟨Nat.le_trans h1.1 h2.1, Nat.le_trans h1.2 h2.2⟩
            · cases h
          · cases h
        · cases h
      · split at h
        · rename_i z1 hk
          have h1 := kst_mono hk
          have h2 := kto_mono n _ _ _ _ h
          exact ⟨Nat.le_trans h1.1 h2.1, Nat.le_trans h1.2 h2.2⟩
        · cases h
    · cases h
theorem wlk_at {ad : Nat → Nat} {cA : Nat → ClassId} {g : List Kb} {i : Nat} {q : Kb} (h : g[i]? = some q) : (wlk ad cA g)[i]? = some (ad i, entK ad cA q) := by
  unfold wlk
  rw [List.getElem?_mapIdx, h]
  rfl
theorem wlk_app {ad : Nat → Nat} {cA : Nat → ClassId} {g : List Kb} {q : Kb} : wlk ad cA (g ++ [q]) = wlk ad cA g ++ [(ad g.length, entK ad cA q)] := by
  unfold wlk
  rw [List.mapIdx_concat]
theorem wlk_set {ad : Nat → Nat} {cA : Nat → ClassId} {g : List Kb} {i : Nat} {q : Kb} {e : va_E} (he : e = entK ad cA q) : (wlk ad cA g).set i (ad i, e) = wlk ad cA (g.set i q) := by
  subst he
  apply List.ext_getElem?
  intro j
  unfold wlk
  rw [List.getElem?_mapIdx]
  by_cases hj : j = i
  · subst hj
    by_cases hl : j < g.length
    · rw [List.getElem?_set_self (by simpa using hl), List.getElem?_set_self hl]; rfl
    · rw [List.getElem?_eq_none (by simp; omega), List.getElem?_eq_none (by simp; omega)]; rfl
  · rw [List.getElem?_set_ne (fun q => hj q.symm), List.getElem?_set_ne (fun q => hj q.symm), List.getElem?_mapIdx]
section KS
variable {p : Program} {l : Launch} {e : Env} {R : Room} {s : State} {m : MethodId} {args : Array Value} {below : List Frame} {meth : Method} {c : Code} {Z : State → Prop}
variable {ad : Nat → Nat} {D : va_G} {cA : Nat → ClassId} {A : Nat → Prop} {b : ByteArray} {o ml base n0 m0 : Nat}
/-- where a constructor's body, or the law's head, stands -/
noncomputable def CK (p : Program) (R : Room) (s : State) (m : MethodId) (args : Array Value) (meth : Method) (c : Code) (ad : Nat → Nat) (D : va_G) (cA : Nat → ClassId) (A : Nat → Prop) (b : ByteArray) (o ml base : Nat) : Prop := p.tables.exec = Jvm.exec ∧ c.code = b ∧ c.maxLocals = ml ∧ s.vm.findClass (nmO o) = some m.cls ∧ (∀ w ∈ gT, w.before args s = true) ∧ va_K D vwCl (tysP cA) s ∧ NS s ∧ (o < 12 → meth.name = "<init>") ∧ (∀ q, A q ↔ base ≤ q) ∧ (∀ i, i < 1000 → ad i = base + i) ∧ base ≤ s.heap.size ∧ 1 ≤ R.frames ∧ 100 ≤ R.locals
noncomputable def XK (p : Program) (l : Launch) (e : Env) (R : Room) (s : State) (m : MethodId) (args : Array Value) (below : List Frame) (meth : Method) (c : Code) (Z : State → Prop) (ad : Nat → Nat) (D : va_G) (cA : Nat → ClassId) (A : Nat → Prop) (ml base n0 m0 : Nat) : Kf → Prop := fun z => ∀ (H : Heap) (locs : List Loc) (la : Array Slot), LH ad la ml z.2.1 → H.size = base + z.2.2.2.length → va_P D vwCl (wlk ad cA z.2.2.2) H → va_D A (wlk ad cA z.2.2.2) → va_S A s.heap H locs → n0 ≤ z.2.2.2.length → m0 ≤ slG z.2.2.2 → W p l e R s m args below meth c H locs (z.2.2.2.length - n0) (slG z.2.2.2 - m0) Z (F0 m z.1 la (z.2.2.1.map (tr ad)))
noncomputable abbrev XKp (p : Program) (l : Launch) (e : Env) (R : Room) (s : State) (m : MethodId) (args : Array Value) (below : List Frame) (meth : Method) (c : Code) (Z : State → Prop) (ad : Nat → Nat) (D : va_G) (cA : Nat → ClassId) (A : Nat → Prop) (ml base n0 m0 pc : Nat) (ls : Lc) (st : List Value) (g : List Kb) : Prop := XK p l e R s m args below meth c Z ad D cA A ml base n0 m0 (pc, ls, st, g)
theorem xk_mv {pc pc' : Nat} {ls : Lc} {st st' : List Value} {g : List Kb} (k : ∀ (H : Heap) (locs : List Loc) (la : Array Slot) (ce sl : Nat), LH ad la ml ls → W p l e R s m args below meth c H locs ce sl Z (F0 m pc' la (st'.map (tr ad))) → W p l e R s m args below meth c H locs ce sl Z (F0 m pc la (st.map (tr ad)))) (X : XKp p l e R s m args below meth c Z ad D cA A ml base n0 m0 pc' ls st' g) : XKp p l e R s m args below meth c Z ad D cA A ml base n0 m0 pc ls st g := fun H locs la hl hz hP hD hS h1 h2 => k H locs la _ _ hl (X H locs la hl hz hP hD hS h1 h2)
theorem narrow_tr {ty : FieldType} {v : Value} (h : narrow ty v = v) : narrow ty (tr ad v) = tr ad v := by
  cases v <;> first | exact h | (cases ty <;> rfl)
theorem fits_tr {ty : FieldType} {v : Value} : fits ty (tr ad v) = fits ty v := by
  cases v <;> first | rfl | (cases ty <;> rfl)
/-- a new cell -/
theorem xk_push {H H1 : Heap} {g : List Kb} {q : Kb} {locs : List Loc} (hz : H.size = base + g.length) (had0 : ad g.length = base + g.length) (hA : ∀ q, A q ↔ base ≤ q) (hP : va_P D vwCl (wlk ad cA g) H) (hD : va_D A (wlk ad cA g)) (hS : va_S A s.heap H locs) (z1 : H1.size = H.size + 1) (o1 : ∀ x, x < H.size → H1[x]? = H[x]?) (hq : va_at D vwCl (ad g.length, entK ad cA q) H1) : H1.size = base + (g ++ [q]).length ∧ va_P D vwCl (wlk ad cA (g ++ [q])) H1 ∧ va_D A (wlk ad cA (g ++ [q])) ∧ va_S A s.heap H1 locs := by
  have hk : ∀ (k : Nat) (x : Nat × va_E), (wlk ad cA g)[k]? = some x → H1[x.1]? = H[x.1]? := fun k x hx => o1 x.1 ((hP k x hx).lt)
  refine ⟨by simp; omega, ?_, ?_, ⟨Nat.le_trans hS.1 (by omega), fun x h1 h2 => (o1 x (Nat.lt_of_lt_of_le h1 hS.1)).trans (hS.2.1 x h1 h2), hS.2.2⟩⟩
  · rw [wlk_app]
    refine (hP.kept hk).app (fun k x hx => ?_)
    have hz0 : k < 1 := (List.getElem?_eq_some_iff.mp hx).1
    rw [show k = 0 by omega] at hx
    cases hx
    exact hq
  · rw [wlk_app]
    exact hD.push hP (by rw [had0, hz]) ((hA _).mpr (by rw [had0]; omega))
theorem dfl_at {a : Nat} {C : String} {T : u_T} {N : Nat} (hc : vwCl[a]? = some (C, T, N)) : (dfl a).length = N ∧ ∀ j, j < N → (dfl a)[j]? = some (if (T j).2.2.1 = "I" ∨ (T j).2.2.1 = "Z" then .int 0 else .null) := by
  unfold dfl
  rw [hc]
  refine ⟨by simp, fun j hj => ?_⟩
  show ((List.range N).map _)[j]? = _
  rw [List.getElem?_map, List.getElem?_range hj]
  rfl
set_option maxRecDepth 100000 in
theorem dfl_all : (List.range 12).all (fun a => match vwCl[a]? with
  | some (_, T, N) => (List.range N).all (fun j => match parseFieldDescriptor (T j).2.2.1 with
    | some ty => decide (defaultValue ty = (if (T j).2.2.1 = "I" ∨ (T j).2.2.1 = "Z" then .int 0 else .null))
    | none => false)
  | none => false) = true := by decide +kernel
theorem dfl_ok {a : Nat} {C : String} {T : u_T} {N : Nat} {ty : Nat → FieldType} (ha : a < 12) (hc : vwCl[a]? = some (C, T, N)) (hty : ∀ k, k < N → parseFieldDescriptor (T k).2.2.1 = some (ty k)) : ∀ j, j < N → defaultValue (ty j) = vp_V ((dfl a).map (tr ad)) j := by
  intro j hj
  have h1 := List.all_eq_true.mp dfl_all a (List.mem_range.mpr ha)
  rw [hc] at h1
  have h2 := List.all_eq_true.mp h1 j (List.mem_range.mpr hj)
  rw [hty j hj] at h2
  have h3 : defaultValue (ty j) = (if (T j).2.2.1 = "I" ∨ (T j).2.2.1 = "Z" then .int 0 else .null) := by simpa using h2
  rw [h3]
  unfold vp_V
  rw [List.getD_eq_getElem?_getD, List.getElem?_map, (dfl_at hc).2 j hj]
  show _ = tr ad _
  split <;> rfl
/-- a store into a field, with the heap's size -/
theorem kv_put {ws : va_W} {H : Heap} {locs : List Loc} {la : Array Slot} {ce sl pc : Nat} {rest : List Value} {H0 : Heap} {k a r index : Nat} {C : String} {T : u_T} {N : Nat} {fs : List Value} {v : Value} {ty : FieldType} {ty0 : Nat → FieldType} (hx : p.tables.exec = Jvm.exec) (hb : c.code = b) (hts : ∀ w ∈ gT, w.before args s = true) (hown : s.vm.findClass (nmO o) = some m.cls) (hK : va_K D vwCl (tysP cA) s) (hP : va_P D vwCl ws H) (hD : va_D A ws) (hS : va_S A H0 H locs) {q : Nat} (he : ws[r]? = some (q, .inr (a, fs))) (hc : vwCl[a]? = some (C, T, N)) (hk : k < N) (hty : ∀ k, k < N → parseFieldDescriptor (T k).2.2.1 = some (ty0 k)) (hnm : ∀ a, a < N → ∀ b, b < N → a ≠ b → (T a).2.1 ≠ (T b).2.1) (hw : Jvm.Cond.fieldLink (nmO o) index (T k).1 (T k).2.1 (T k).2.2.1 ∈ gT) (hfi : (T k).2.2.2 = true → (T k).1 = nmO o ∧ meth.name = "<init>") (e1 : parseFieldDescriptor (T k).2.2.1 = some ty) (e2 : narrow ty v = v) (e3 : fits ty v = true) (hl : k < fs.length) (hd : decode b pc = .ok (.putfield index, 3)) (kk : ∀ (H1 : Heap) (locs1 : List Loc), H1.size = H.size → va_P D vwCl (ws.set r (q, .inr (a, fs.set k v))) H1 → va_D A (ws.set r (q, .inr (a, fs.set k v))) → va_S A H0 H1 locs1 → W p l e R s m args below meth c H1 locs1 ce sl Z (F0 m (pc + 3) la rest)) : W p l e R s m args below meth c H locs ce sl Z (F0 m pc la (v :: .ref q :: rest)) := by
  have hap := va_apart (own := nmO o) hts (vw_gT hc) ty0 hty hnm hK hc
  obtain ⟨r1, g1, cell, g2, g3, g4, g5⟩ := hP r _ he
  have hr1 : r1 = (C, T, N) := Option.some.inj (g1.symm.trans hc)
  subst hr1
  obtain ⟨hS1, hfc, kC, hkC, hkind⟩ := hK.1 a _ hc
  obtain ⟨cf, kf, fi, f, hi, hsl⟩ := hS1 k hk
  have hlays := u_lays hts (vw_gT hc) hk
  have hst := (u_facts hfc hkC hlays hi).1
  have fin : ∀ H', H'[q]? = some (cell.setSlot f.slot v) → H'.size = H.size → (∀ x, x ≠ q → H'[x]? = H[x]?) → W p l e R s m args below meth c H' (locs ++ [⟨q, f.slot⟩]) ce sl Z (F0 m (pc + 3) la rest) := fun H' a1 a2 a3 => by
    rw [hsl] at a1
    exact kk H' _ a2 (hP.set hD he ⟨_, hc, t_OB.to (V := updV (vp_V fs) k v) ⟨_, a1, g3, g4, t_set g5 hap hk v⟩ (fun j _ => vp_updV_set hl v j)⟩ a3) (hD.set he) (hS.put a2 a3 (hD.2 r _ he))
  have hslot : f.slot < cell.slots.size := by rw [hsl]; exact k2_hasslot (g5 k hk)
  by_cases hf : (T k).2.2.2 = true
  · obtain ⟨hdecl, hinit⟩ := hfi hf
    have hlay := hts _ (vw_gT hc _ (u_in_lay hk))
    unfold u_lay at hlay
    rw [if_pos hf] at hlay
    have hcf : m.cls = cf := by
      obtain ⟨_, _, c', _, _, _, -, -, hf', -, -, -, hown2, -⟩ := Cond.laysFinal_spec hlay
      have h1 := Option.some.inj (hi.symm.trans hf')
      have h2 : cf = c' := congrArg Prod.fst h1
      rw [hdecl] at hown2
      rw [h2]
      exact Option.some.inj (hown.symm.trans hown2)
    exact W.putFinK hx hb hown (hts _ hw) hi hst hcf hinit (by rw [g3]; exact u_fits hfc hkC hkind hlays hi e1 e2 e3) g2 g4 hslot rfl rfl hd fin
  · have hlay := hts _ (vw_gT hc _ (u_in_lay hk))
    unfold u_lay at hlay
    rw [if_neg hf] at hlay
    exact W.putK hx hb (f := f) ⟨hown, hts _ hw, ⟨_, _, _, hi⟩, hst⟩ (by rw [g3]; exact u_store hfc hkC hkind hlay hi e1 e2 e3) g2 g4 hslot rfl rfl hd fin
theorem kst_W {i : Instr} {a bb n pc : Nat} {v : Int32} {sw : List (Int32 × Nat)} {ls : Lc} {st : List Value} {g : List Kb} {z' : Kf} (hC : CK p R s m args meth c ad D cA A b o ml base) (hd : decode b pc = .ok (i, n)) (hok : okk o pc i n a bb v sw = true) (hq : kst o i a bb v (pc, ls, st, g) = some z') (hc1 : z'.2.2.2.length - n0 ≤ R.cells) (hc2 : slG z'.2.2.2 - m0 ≤ R.slots) (X : XK p l e R s m args below meth c Z ad D cA A ml base n0 m0 z') : XKp p l e R s m args below meth c Z ad D cA A ml base n0 m0 pc ls st g := by
  obtain ⟨hx, hb, hml, hown, hts, hK, hNS, hin, hA, had, hbs, hRf, hRl⟩ := id hC
  have hm := kst_mono hq
  cases i
  case aload_n q =>
    simp only [okk, beq_iff_eq] at hok; subst hok
    simp only [kst] at hq
    split at hq
    · rename_i x hk
      cases hq
      exact xk_mv (fun H locs la ce sl hl w => lv_aload_n hx hb hd rfl (hl.2.2.2 _ _ hk) w) X
    · cases hq
  case iload_n q =>
    simp only [okk, beq_iff_eq] at hok; subst hok
    simp only [kst] at hq
    split at hq
    · rename_i x hk
      cases hq
      exact xk_mv (fun H locs la ce sl hl w => lv_iload_n hx hb hd rfl (hl.2.2.2 _ _ hk) w) X
    · cases hq
  case iconst q => simp only [okk, Bool.and_eq_true, beq_iff_eq, decide_eq_true_eq] at hok; obtain ⟨rfl, hv⟩ := hok; cases hq; exact xk_mv (fun H locs la ce sl hl w => lv_iconst hx hb hd hv w) X
  case bipush q => simp only [okk, Bool.and_eq_true, beq_iff_eq, decide_eq_true_eq] at hok; obtain ⟨rfl, hv⟩ := hok; cases hq; exact xk_mv (fun H locs la ce sl hl w => lv_bipush hx hb hd hv w) X
  case sipush q => simp only [okk, Bool.and_eq_true, beq_iff_eq, decide_eq_true_eq] at hok; obtain ⟨rfl, hv⟩ := hok; cases hq; exact xk_mv (fun H locs la ce sl hl w => lv_sipush hx hb hd hv w) X
  case istore_n q =>
    simp only [okk, beq_iff_eq] at hok; subst hok
    simp only [kst] at hq
    split at hq
    · split at hq
      · rename_i hg
        cases hq
        intro H locs la hl hz hP hD hS g1 g2
        exact lv_istore_n hx hb hd rfl hl.has (by rw [← hl.2.2.1]; exact hg.2) rfl (fun la' h' => X H locs la' (LH.store hl.2.2.1 hg.1 h') hz hP hD hS g1 g2)
      · cases hq
    · cases hq
  case astore_n q =>
    simp only [okk, beq_iff_eq] at hok; subst hok
    simp only [kst] at hq
    split at hq
    · rename_i x r
      split at hq
      · rename_i hg
        cases hq
        intro H locs la hl hz hP hD hS g1 g2
        exact lv_astore_n hx hb hd rfl hl.has (by rw [← hl.2.2.1]; exact hg.2) rfl (fun la' h' => X H locs la' (LH.store (v := .ref x) hl.2.2.1 hg.1 h') hz hP hD hS g1 g2)
      · cases hq
    · cases hq
  case iinc k q =>
    simp only [okk, Bool.and_eq_true, beq_iff_eq, decide_eq_true_eq] at hok; obtain ⟨rfl, hv⟩ := hok
    simp only [kst] at hq
    split at hq
    · rename_i x hk
      split at hq
      · rename_i hg
        cases hq
        intro H locs la hl hz hP hD hS g1 g2
        obtain ⟨j, hj⟩ := List.getElem?_of_mem (knL_in.mpr (⟨.int x, hk, rfl⟩ : ∃ w, ls[k]? = some (some w) ∧ Value.int x = tr ad w) : (k, Value.int x) ∈ knL ad ls)
        exact lv_iinc (k := j) (v := x + v) hx hb hd hl.has hj (by rw [hv]) (by rw [← hl.2.2.1]; exact hg.2) rfl (fun la' h' => X H locs la' (LH.store hl.2.2.1 hg.1 h') hz hP hD hS g1 g2)
      · cases hq
    · cases hq
  case imul =>
    simp only [okk, beq_iff_eq] at hok; subst hok
    simp only [kst] at hq
    split at hq
    · cases hq; exact xk_mv (fun H locs la ce sl hl w => lv_imul hx hb hd w) X
    · cases hq
  case dup =>
    simp only [okk, beq_iff_eq] at hok; subst hok
    simp only [kst] at hq
    split at hq
    · cases hq; exact xk_mv (fun H locs la ce sl hl w => lv_dup hx hb hd rfl w) X
    · cases hq
  case invokestatic k =>
    rw [okk, Bool.and_eq_true, beq_iff_eq] at hok; obtain ⟨rfl, hv⟩ := hok
    simp only [kst] at hq
    split at hq
    · split at hq
      · rename_i hg
        obtain ⟨rfl, hsum⟩ := hg
        cases hq
        intro H locs la hl hz hP hD hS g1 g2
        exact va_mmax hx hb (by rw [hml, hl.1]) hown (hts _ (mj_spec hv)) (hts _ lb0) (hts _ lb2) (hts _ lb6) hRf (by rw [cat_map]; omega) hc1 hc2 hd (X H locs la hl hz hP hD hS g1 g2)
      · cases hq
    · cases hq
  case goto f => simp only [okk, Bool.and_eq_true, beq_iff_eq, decide_eq_true_eq] at hok; obtain ⟨rfl, hv⟩ := hok; cases hq; exact xk_mv (fun H locs la ce sl hl w => lv_goto hx hb hd hv w) X
  case if_icmp q f =>
    simp only [okk, Bool.and_eq_true, beq_iff_eq, decide_eq_true_eq] at hok; obtain ⟨rfl, hv⟩ := hok
    cases q
    case ge =>
      simp only [kst] at hq
      split at hq
      · rename_i y x r
        cases hq
        intro H locs la hl hz hP hD hS g1 g2
        have X' := X H locs la hl hz hP hD hS g1 g2
        refine lv_icmp_ge hx hb hd hv (fun q => ?_) (fun q => ?_)
        · rw [if_pos q] at X'; exact X'
        · rw [if_neg q] at X'; exact X'
      · cases hq
    all_goals (simp only [kst, reduceCtorEq] at hq)
  case getfield k =>
    rw [okk, Bool.and_eq_true, beq_iff_eq] at hok; obtain ⟨rfl, hv⟩ := hok
    obtain ⟨C, T, N, hc, hk, hw⟩ := fl_spec hv
    simp only [kst] at hq
    split at hq
    · rename_i r t
      split at hq
      · rename_i a' fs w hg
        split at hq
        · rename_i ha
          subst ha
          split at hq
          · rename_i x hx2
            cases hq
            intro H locs la hl hz hP hD hS g1 g2
            have he := wlk_at (ad := ad) (cA := cA) hg
            exact va_get (D := D) hx hb hts (vw_gT hc) hown hK hP r he hc bb hk (hts _ hw) (fun _ q => q) (by show (fs.map (tr ad))[bb]? = some (tr ad x); rw [List.getElem?_map, hx2]; rfl) hd (X H locs la hl hz hP hD hS g1 g2)
          · cases hq
        · cases hq
      · cases hq
    · cases hq
  case putfield k =>
    rw [okk, Bool.and_eq_true, beq_iff_eq] at hok; obtain ⟨rfl, hv⟩ := hok
    obtain ⟨C, T, N, hc, hk, hw⟩ := fl_spec hv
    obtain ⟨⟨ty0, hty⟩, hnm⟩ := vw_ty hc
    simp only [kst] at hq
    split at hq
    · rename_i x r t
      split at hq
      · rename_i a' fs w hg
        split at hq
        · rename_i ha
          obtain ⟨rfl, hlen, hfit⟩ := ha
          cases hq
          intro H locs la hl hz hP hD hS g1 g2
          have he := wlk_at (ad := ad) (cA := cA) hg
          have hss : slG (g.set r (3, a', fs.set bb x, w)) = slG g := slG_set hg (by simp [slK])
          have hws : (wlk ad cA g).set r (ad r, .inr (a', (fs.map (tr ad)).set bb (tr ad x))) = wlk ad cA (g.set r (3, a', fs.set bb x, w)) := wlk_set (by show _ = Sum.inr (a', (fs.set bb x).map (tr ad)); rw [List.map_set])
          unfold kfit at hfit
          rw [hc] at hfit
          simp only [Bool.and_eq_true, decide_eq_true_eq, Bool.or_eq_true, Bool.not_eq_true'] at hfit
          obtain ⟨⟨-, hf1⟩, hf2⟩ := hfit
          rw [hty bb hk] at hf1
          simp only [Bool.and_eq_true, decide_eq_true_eq] at hf1
          have X' : ∀ (H1 : Heap) (locs1 : List Loc), va_P D vwCl ((wlk ad cA g).set r (ad r, .inr (a', (fs.map (tr ad)).set bb (tr ad x)))) H1 → va_D A ((wlk ad cA g).set r (ad r, .inr (a', (fs.map (tr ad)).set bb (tr ad x)))) → va_S A s.heap H1 locs1 → H1.size = H.size → W p l e R s m args below meth c H1 locs1 (g.length - n0) (slG g - m0) Z (F0 m (pc + 3) la (t.map (tr ad))) := by
            intro H1 locs1 hP1 hD1 hS1 hz1
            have := X H1 locs1 la hl (by rw [hz1, hz]; simp) (by rw [← hws]; exact hP1) (by rw [← hws]; exact hD1) hS1 (by simpa using g1) (by rw [hss]; exact g2)
            simp only [List.length_set, hss] at this
            exact this
          exact kv_put (D := D) hx hb hts hown hK hP hD hS he hc hk hty hnm hw (fun hfin => by
            rcases hf2 with hf2 | hf2
            · rw [hfin] at hf2; cases hf2
            · exact ⟨hf2.1, hin hf2.2⟩) (hty bb hk) (narrow_tr hf1.1) (by rw [fits_tr]; exact hf1.2) (by rw [List.length_map]; exact hlen) hd (fun H1 locs1 z1 hP1 hD1 hS1 => X' H1 locs1 hP1 hD1 hS1 z1)
        · cases hq
      · cases hq
    · cases hq
  case iastore =>
    simp only [okk, beq_iff_eq] at hok; subst hok
    simp only [kst] at hq
    split at hq
    · rename_i x j r t
      split at hq
      · rename_i N fs w hg
        split at hq
        · rename_i hj
          cases hq
          intro H locs la hl hz hP hD hS g1 g2
          have he := wlk_at (ad := ad) (cA := cA) hg
          have he' : (wlk ad cA g)[r]? = some (ad r, .inl (cA 0, N, .inl (lkK w))) := he
          have hss : slG (g.set r (0, N, fs, (j.toNatClampNeg, x) :: w)) = slG g := slG_set hg (by simp [slK])
          have hws : (wlk ad cA g).set r (ad r, .inl (cA 0, N, .inl (upd (lkK w) j.toNatClampNeg x))) = wlk ad cA (g.set r (0, N, fs, (j.toNatClampNeg, x) :: w)) := wlk_set rfl
          refine W.iast hx hb (hP r _ he') ((hK.2 0 _ rfl).1 N (fun j => .int (lkK w j))) (fun q => by cases q) (by show ¬ (j < 0 ∨ (arrV _ _ _).slots.size ≤ _); rw [arrV_size]; exact hj) rfl rfl hd fun H1 a1 z1 oq => ?_
          have hat : va_at D vwCl (ad r, .inl (cA 0, N, .inl (upd (lkK w) j.toNatClampNeg x))) H1 := by
            show H1[ad r]? = some (vp_cell _ _)
            rw [a1, vp_cell_i, vp_cell_i, arrV_store]
            congr 2
            funext q
            by_cases hq : q = j.toNatClampNeg
            · subst hq; simp [updV, upd]
            · simp [updV, upd, hq]
          have := X H1 (locs ++ [⟨ad r, j.toNatClampNeg⟩]) la hl (by rw [z1, hz]; simp) (by rw [← hws]; exact hP.set hD he' hat oq) (by rw [← hws]; exact hD.set he') (hS.put z1 oq (hD.2 r _ he')) (by simpa using g1) (by rw [hss]; exact g2)
          simp only [List.length_set, hss] at this
          exact this
        · cases hq
      · cases hq
    · cases hq
  case new k =>
    rw [okk, Bool.and_eq_true, beq_iff_eq] at hok; obtain ⟨rfl, hv⟩ := hok
    simp only [kst] at hq
    split at hq
    · rename_i ha0
      obtain ⟨ha, h1000⟩ := ha0
      have had0 := had _ h1000
      cases hq
      obtain ⟨q, hmq, hq2⟩ := atI_in hv
      obtain ⟨q1, q2, q3, q4, q5, q6, q7⟩ := q
      simp only [Bool.and_eq_true, beq_iff_eq] at hq2
      obtain ⟨⟨rfl, rfl⟩, rfl⟩ := hq2
      have hkc := List.all_eq_true.mp kcT_ok _ hmq
      unfold kcC at hkc
      dsimp only at hkc
      split at hkc
      · rename_i C T N hc
        simp only [Bool.and_eq_true, decide_eq_true_eq] at hkc
        obtain ⟨⟨⟨rfl, w1⟩, w2⟩, w3⟩ := hkc
        obtain ⟨⟨ty0, hty⟩, hnm⟩ := vw_ty hc
        intro H locs la hl hz hP hD hS g1 g2
        dsimp only at hz g1 g2 hP hD hl ⊢
        have hKn := hK.1 q3 _ hc
        have hsl : slG (g ++ [(3, q3, dfl q3, [])]) = slG g + N := by rw [slG_app]; congr 1; exact (dfl_at hc).1
        have hln : (g ++ [((3, q3, dfl q3, []) : Kb)]).length = g.length + 1 := by simp
        rw [hln] at hc1
        rw [hsl] at hc2
        refine W.newcK hx hb hown (hts _ (hasW_in w1)) (hts _ (hasW_in w2)) (hts _ (hasW_in w3)) rfl hd (by omega) (by omega) hKn.2.1 rfl fun H1 kC hkC a1 z1 o1 => ?_
        obtain ⟨b1, b2, b3, b4⟩ := xk_push (q := (3, q3, dfl q3, [])) hz had0 hA hP hD hS z1 o1 (by
          rw [show ad g.length = H.size by rw [had0, hz]]
          exact ⟨_, hc, (u_born ty0 hts (vw_gT hc) hKn hkC a1 hty).to (dfl_ok ha hc hty)⟩)
        have := X H1 locs la hl b1 b2 b3 b4 (by rw [hln]; omega) (by rw [hsl]; omega)
        rw [hln, hsl] at this
        refine W.cs (show g.length - n0 + 1 = g.length + 1 - n0 by omega) (show slG g - m0 + N = slG g + N - m0 by omega) ?_
        rw [show H.size = ad g.length by rw [had0, hz]]
        exact this
      · cases hkc
    · cases hq
  case newarray t =>
    simp only [okk, Bool.and_eq_true, beq_iff_eq, decide_eq_true_eq] at hok; obtain ⟨rfl, hv⟩ := hok
    simp only [kst] at hq
    split at hq
    · rename_i N r
      split at hq
      · rename_i hg
        obtain ⟨ha, hn, hbig, h1000⟩ := hg
        have had0 := had _ h1000
        cases hq
        intro H locs la hl hz hP hD hS g1 g2
        dsimp only at hz g1 g2 hP hD hl ⊢
        have hsl : slG (g ++ [(a, N.toNatClampNeg, [], [])]) = slG g + N.toNatClampNeg := by rw [slG_app]; congr 1; show (if a ≤ 2 then _ else _) = _; rw [if_pos (by omega)]
        have hln : (g ++ [((a, N.toNatClampNeg, [], []) : Kb)]).length = g.length + 1 := by simp
        rw [hln] at hc1
        rw [hsl] at hc2
        have hac : (Jvm.Cond.arrayClass (newarray.typeOf t)).before args s = true := by
          rw [hv]
          rcases (show a = 0 ∨ a = 1 ∨ a = 2 by omega) with rfl | rfl | rfl
          · exact hts _ lb10
          · exact hts _ lb11
          · exact hts _ lb12
        refine va_newaK hx hb hac rfl hd rfl hn rfl (by
          have : componentBytes (newarray.typeOf t) ≤ 8 := by cases t <;> decide +kernel
          calc N.toNatClampNeg * componentBytes (newarray.typeOf t) ≤ 100000 * 8 := Nat.mul_le_mul hbig this
            _ ≤ _ := by decide) (by omega) (by omega) rfl fun H1 cX a1 z1 o1 hAr hNm => ?_
        have hcX : cX = cA a := by
          rw [hv] at hNm
          rcases (show a = 0 ∨ a = 1 ∨ a = 2 by omega) with rfl | rfl | rfl
          · exact Option.some.inj (hNm.symm.trans (hK.2 0 _ rfl).2)
          · exact Option.some.inj (hNm.symm.trans (hK.2 1 _ rfl).2)
          · exact Option.some.inj (hNm.symm.trans (hK.2 2 _ rfl).2)
        subst hcX
        obtain ⟨b1, b2, b3, b4⟩ := xk_push (q := (a, N.toNatClampNeg, [], [])) hz had0 hA hP hD hS z1 (fun x hx' => o1 x hx') (by
          rw [show ad g.length = H.size by rw [had0, hz]]
          rw [hv] at a1
          rcases (show a = 0 ∨ a = 1 ∨ a = 2 by omega) with rfl | rfl | rfl
          · exact a1
          · exact a1
          · exact a1)
        have := X H1 locs la hl b1 b2 b3 b4 (by rw [hln]; omega) (by rw [hsl]; omega)
        rw [hln, hsl] at this
        refine W.cs (show g.length - n0 + 1 = g.length + 1 - n0 by omega) (show slG g - m0 + N.toNatClampNeg = slG g + N.toNatClampNeg - m0 by omega) ?_
        rw [show H.size = ad g.length by rw [had0, hz]]
        exact this
      · cases hq
    · cases hq
  case invokespecial k =>
    rw [okk, Bool.and_eq_true, beq_iff_eq] at hok; obtain ⟨rfl, hv⟩ := hok
    simp only [kst] at hq
    split at hq
    · rename_i x t
      split at hq
      · rename_i hg
        obtain ⟨rfl, hsum⟩ := hg
        cases hq
        split at hv
        · obtain ⟨q, hmq, hq2⟩ := atI_in hv
          obtain ⟨q1, q2, q3, q4⟩ := q
          simp only [Bool.and_eq_true, beq_iff_eq] at hq2
          obtain ⟨⟨rfl, rfl⟩, rfl⟩ := hq2
          have hkm := List.all_eq_true.mp kmT_ok _ hmq
          unfold kmC at hkm
          rw [if_pos rfl] at hkm
          intro H locs la hl hz hP hD hS g1 g2
          exact W.objInit hx hb hown (hts _ (hasW_in hkm)) (hts _ lb8) (hts _ lb9) rfl (by rw [hml]; exact hl.1) rfl hd hRf (by show 2 * 0 + _ + 12 ≤ _; rw [cat_map]; omega) (X H locs la hl hz hP hD hS g1 g2)
        · simp at hv
      · cases hq
    · cases hq
  all_goals (simp only [kst, reduceCtorEq] at hq)
end KS
