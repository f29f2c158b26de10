/-! The small machine's steps are the machine's. -/
abbrev nwW : Jvm.Cond := .methodLinkNest "PrisonShops$Sheets" 26 ⟨"PrisonShops", "isWithin", "(III)Z"⟩ "PrisonShops"
abbrev nwK : Jvm.Cond := .fieldLinkNest "PrisonShops$State" 76 "PrisonShops" "KIND_ABOVE" "[I" "PrisonShops"
/-- what the String constants need, and String's own methods -/
def JF (ad : Nat → Nat) (A : Nat → Prop) (U : State) (H : Heap) : Prop := (∀ q ∈ strT, vk_R "PrisonShops$Reader" q.1 q.2.1 (ad q.2.2) U) ∧ vk_S 12 (stT'.map List.length) (stT'.map (fun l => l.map nI)) (fun i => ad (1000 + i)) (fun i => ad (1100 + i)) A U H ∧ va_Z "java/lang/String" "COMPACT_STRINGS" "Z" (.int 1) A U H ∧ va_Zq "jdk/internal/util/Preconditions" "SIOOBE_FORMATTER" "Ljava/util/function/BiFunction;" A U H
/-- what nobody writes -/
def SF (ad : Nat → Nat) (A : Nat → Prop) (sc : Nat × (Nat → Int32)) (U : State) (H : Heap) : Prop := (∀ k, k < 4 → va_Z "PrisonShops" (stN (1200 + k)) "[I" (.ref (ad (1200 + k))) A U H ∧ va_T .int (ad (1200 + k)) 6 (fun j => .int ((roT (1200 + k)).getD j 0)) A U H) ∧ va_T .int (ad 1300) sc.1 (fun j => .int (sc.2 j)) A U H ∧ va_Nw nwW U ∧ va_Nw nwK U ∧ JF ad A U H
theorem SF.go {ad : Nat → Nat} {A : Nat → Prop} {sc : Nat × (Nat → Int32)} {s U : State} {H : Heap} (h : SF ad A sc s s.heap) (hW : s.WarmedH U.vm) (hq : ∀ a : Nat, a < s.heap.size → ¬ A a → H[a]? = s.heap[a]?) : SF ad A sc U H := by
  obtain ⟨h1, h2, h3, h4, h5, h6, h7, h8⟩ := h
  exact ⟨fun k hk => ⟨((h1 k hk).1.moved hW.alike).kept hq, ((h1 k hk).2.moved hW.alike).kept hq⟩, (h2.moved hW.alike).kept hq, va_Nw.warmM hW h3, va_Nw.warmF hW h4, fun q hm => (h5 q hm).warm hW, (h6.moved hW.alike).kept hq, (h7.moved hW.alike).kept hq, (h8.moved hW.alike).kept hq⟩
theorem SF.calling {ad : Nat → Nat} {A : Nat → Prop} {sc : Nat × (Nat → Int32)} {U : State} {g : JFrame} {mk : MethodId} {a : Array Value} (h : SF ad A sc U U.heap) : SF ad A sc (U.calling g mk a) (U.calling g mk a).heap := by
  obtain ⟨h1, h2, h3, h4, h5, h6, h7, h8⟩ := h
  have e : U.vm.Alike (U.calling g mk a).vm := Vm.Alike.refl U.vm
  exact ⟨fun k hk => ⟨(h1 k hk).1.moved e, (h1 k hk).2.moved e⟩, h2.moved e, va_Nw.same rfl rfl h3, va_Nw.same rfl rfl h4, fun q hm => (h5 q hm).same rfl, h6.moved e, h7.moved e, h8.moved e⟩
section SOUND
variable {p : Program} {l : Launch} {e : Env} {R : Room} {s : State} {m : MethodId} {args : Array Value} {below : List Frame} {meth : Method} {c : Code} {Z : State → Prop}
variable {ad : Nat → Nat} {D : va_G} {cA : Nat → ClassId} {A : Nat → Prop} {b : ByteArray} {o ml : Nat} {sc : Nat × (Nat → Int32)}
/-- where a method's body stands: the machine, the code, the words, the classes, what nobody writes, the room -/
def CX (p : Program) (R : Room) (s : State) (m : MethodId) (args : Array Value) (c : Code) (ad : Nat → Nat) (D : va_G) (cA : Nat → ClassId) (A : Nat → Prop) (b : ByteArray) (o ml : Nat) (sc : Nat × (Nat → Int32)) : Prop := p.tables.exec = Jvm.exec ∧ c.code = b ∧ c.maxLocals = ml ∧ s.vm.findClass (nmO o) = some m.cls ∧ (∀ w ∈ gT, w.before args s = true) ∧ va_K D vwCl (tysP cA) s ∧ SF ad A sc s s.heap ∧ 1 ≤ R.frames ∧ 100 ≤ R.locals
/-- a configuration, over the machine -/
def XW (p : Program) (l : Launch) (e : Env) (R : Room) (s : State) (m : MethodId) (args : Array Value) (below : List Frame) (meth : Method) (c : Code) (Z : State → Prop) (ad : Nat → Nat) (D : va_G) (cA : Nat → ClassId) (A : Nat → Prop) (ml : Nat) (sc : Nat × (Nat → Int32)) : Cf → Prop := fun z => z.2.2.2.2.2 = sc → ∀ (H : Heap) (locs : List Loc) (la : Array Slot), LH ad la ml z.2.1 → va_P D vwCl (wl ad cA z.2.2.2) H → va_D A (wl ad cA z.2.2.2) → va_S A s.heap H locs → W p l e R s m args below meth c H locs 0 0 Z (F0 m z.1 la (z.2.2.1.map (tr ad)))
abbrev XWp (p : Program) (l : Launch) (e : Env) (R : Room) (s : State) (m : MethodId) (args : Array Value) (below : List Frame) (meth : Method) (c : Code) (Z : State → Prop) (ad : Nat → Nat) (D : va_G) (cA : Nat → ClassId) (A : Nat → Prop) (ml : Nat) (sc : Nat × (Nat → Int32)) (pc : Nat) (ls : Lc) (st : List Value) (h : Hp) : Prop := XW p l e R s m args below meth c Z ad D cA A ml sc (pc, ls, st, h)
/-- a step that only moves the stack -/
theorem xw_mv {pc pc' : Nat} {ls : Lc} {st st' : List Value} {h : Hp} (k : ∀ (H : Heap) (locs : List Loc) (la : Array Slot), LH ad la ml ls → W p l e R s m args below meth c H locs 0 0 Z (F0 m pc' la (st'.map (tr ad))) → W p l e R s m args below meth c H locs 0 0 Z (F0 m pc la (st.map (tr ad)))) (X : XWp p l e R s m args below meth c Z ad D cA A ml sc pc' ls st' h) : XWp p l e R s m args below meth c Z ad D cA A ml sc pc ls st h := fun hs H locs la hl hP hD hS => k H locs la hl (X hs H locs la hl hP hD hS)
theorem sw_ldI {i : Instr} {n k pc : Nat} {ls : Lc} {st : List Value} {h : Hp} {G : Prop} {z : Cf} (hx : p.tables.exec = Jvm.exec) (hb : c.code = b) (hd : decode b pc = .ok (i, n)) (hi : (∃ q : Fin 4, i = .iload_n q ∧ (q : Nat) = k ∧ n = 1) ∨ (i = .iload k ∧ n = 2)) (hq : fLdI ls k n pc st h = some (G, z)) (X : XW p l e R s m args below meth c Z ad D cA A ml sc z) : XWp p l e R s m args below meth c Z ad D cA A ml sc pc ls st h := by
  unfold fLdI at hq
  split at hq
  · rename_i x hk
    cases hq
    refine xw_mv (fun H locs la hl w => ?_) X
    have hv := hl.2.2.2 _ _ hk
    rcases hi with ⟨q, rfl, rfl, rfl⟩ | ⟨rfl, rfl⟩
    · exact lv_iload_n hx hb hd rfl hv w
    · exact lv_iload hx hb hd hv w
  · cases hq
theorem sw_ldL {i : Instr} {n k pc : Nat} {ls : Lc} {st : List Value} {h : Hp} {G : Prop} {z : Cf} (hx : p.tables.exec = Jvm.exec) (hb : c.code = b) (hd : decode b pc = .ok (i, n)) (hi : (∃ q : Fin 4, i = .lload_n q ∧ (q : Nat) = k ∧ n = 1) ∨ (i = .lload k ∧ n = 2)) (hq : fLdL ls k n pc st h = some (G, z)) (X : XW p l e R s m args below meth c Z ad D cA A ml sc z) : XWp p l e R s m args below meth c Z ad D cA A ml sc pc ls st h := by
  unfold fLdL at hq
  split at hq
  · rename_i x hk
    cases hq
    refine xw_mv (fun H locs la hl w => ?_) X
    have hv := hl.2.2.2 _ _ hk
    rcases hi with ⟨q, rfl, rfl, rfl⟩ | ⟨rfl, rfl⟩
    · exact lv_lload_n hx hb hd rfl hv w
    · exact lv_lload hx hb hd hv w
  · cases hq
theorem sw_ldA {i : Instr} {n k pc : Nat} {ls : Lc} {st : List Value} {h : Hp} {G : Prop} {z : Cf} (hx : p.tables.exec = Jvm.exec) (hb : c.code = b) (hd : decode b pc = .ok (i, n)) (hi : (∃ q : Fin 4, i = .aload_n q ∧ (q : Nat) = k ∧ n = 1) ∨ (i = .aload k ∧ n = 2)) (hq : fLdA ls k n pc st h = some (G, z)) (X : XW p l e R s m args below meth c Z ad D cA A ml sc z) : XWp p l e R s m args below meth c Z ad D cA A ml sc pc ls st h := by
  unfold fLdA at hq
  split at hq
  · rename_i x hk
    cases hq
    refine xw_mv (fun H locs la hl w => ?_) X
    have hv := hl.2.2.2 _ _ hk
    rcases hi with ⟨q, rfl, rfl, rfl⟩ | ⟨rfl, rfl⟩
    · exact lv_aload_n hx hb hd rfl hv w
    · exact lv_aload hx hb hd hv w
  · cases hq
theorem sw_stI {i : Instr} {n k pc : Nat} {ls : Lc} {st : List Value} {h : Hp} {G : Prop} {z : Cf} (hx : p.tables.exec = Jvm.exec) (hb : c.code = b) (hd : decode b pc = .ok (i, n)) (hi : (∃ q : Fin 4, i = .istore_n q ∧ (q : Nat) = k ∧ n = 1) ∨ (i = .istore k ∧ n = 2)) (hq : fStI ls k n pc st h = some (G, z)) (X : XW p l e R s m args below meth c Z ad D cA A ml sc z) : XWp p l e R s m args below meth c Z ad D cA A ml sc pc ls st h := by
  unfold fStI fSt at hq
  split at hq
  · rename_i x r
    split at hq
    · cases hq
    split at hq
    · cases hq
    split at hq
    · rename_i g1 g2 g3
      cases hq
      intro hs H locs la hl hP hD hS
      have hp : isLong ls[k - 1]? = false := by simpa using g2
      have hkn : k < ml := by rw [← hl.2.2.1]; exact g3
      rcases hi with ⟨q, rfl, rfl, rfl⟩ | ⟨rfl, rfl⟩
      · exact lv_istore_n hx hb hd rfl hl.has hkn rfl (fun la' h' => X hs H locs la' (LH.store hl.2.2.1 hp h') hP hD hS)
      · exact lv_istore hx hb hd hl.has hkn rfl (fun la' h' => X hs H locs la' (LH.store hl.2.2.1 hp h') hP hD hS)
    · cases hq
  · cases hq
theorem sw_iinc {k pc : Nat} {q : Int} {v : Int32} {ls : Lc} {st : List Value} {h : Hp} {G : Prop} {z : Cf} (hx : p.tables.exec = Jvm.exec) (hb : c.code = b) (hd : decode b pc = .ok (.iinc k q, 3)) (hv : Int32.ofInt q = v) (hq : (match ls[k]? with
    | some (some (.int x)) => fSt ls k 3 pc (.int (x + v)) st h
    | _ => none) = some (G, z)) (X : XW p l e R s m args below meth c Z ad D cA A ml sc z) : XWp p l e R s m args below meth c Z ad D cA A ml sc pc ls st h := by
  unfold fSt at hq
  split at hq
  · rename_i x hk
    split at hq
    · cases hq
    split at hq
    · cases hq
    split at hq
    · rename_i g1 g2 g3
      cases hq
      intro hs H locs la hl hP hD hS
      have hp : isLong ls[k - 1]? = false := by simpa using g2
      have hkn : k < ml := by rw [← hl.2.2.1]; exact g3
      obtain ⟨j, hj⟩ := List.getElem?_of_mem (knL_in.mpr (⟨.int x, hk, rfl⟩ : ∃ w, ls[k]? = some (some w) ∧ Value.int x = tr ad w) : (k, Value.int x) ∈ knL ad ls)
      exact lv_iinc (k := j) (v := x + v) hx hb hd hl.has hj (by rw [hv]) hkn rfl (fun la' h' => X hs H locs la' (LH.store hl.2.2.1 hp h') hP hD hS)
    · cases hq
  · cases hq
