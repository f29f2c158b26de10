/-! The small machine's steps are the machine's. -/
abbrev nwW : Jvm.Cond := .methodLinkNest "PrisonShops$Sheets" 26 ⟨"PrisonShops", "isWithin", "(III)Z"⟩ "PrisonShops"
abbrev nwK : Jvm.Cond := .fieldLinkNest "PrisonShops$State" 76 "PrisonShops" "KIND_ABOVE" "[I" "PrisonShops"
/-- what the String constants need, and String's own methods -/
def JF (ad : Nat → Nat) (A : Nat → Prop) (U : State) (H : Heap) : Prop := (∀ q ∈ strT, vk_R "PrisonShops$Reader" q.1 q.2.1 (ad q.2.2) U) ∧ vk_S 12 (stT'.map List.length) (stT'.map (fun l => l.map nI)) (fun i => ad (1000 + i)) (fun i => ad (1100 + i)) A U H ∧ va_Z "java/lang/String" "COMPACT_STRINGS" "Z" (.int 1) A U H ∧ va_Zq "jdk/internal/util/Preconditions" "SIOOBE_FORMATTER" "Ljava/util/function/BiFunction;" A U H
/-- what nobody writes -/
def SF (ad : Nat → Nat) (A : Nat → Prop) (sc : Nat × (Nat → Int32)) (U : State) (H : Heap) : Prop := (∀ k, k < 4 → va_Z "PrisonShops" (stN (1200 + k)) "[I" (.ref (ad (1200 + k))) A U H ∧ va_T .int (ad (1200 + k)) 6 (fun j => .int ((roT (1200 + k)).getD j 0)) A U H) ∧ va_T .int (ad 1300) sc.1 (fun j => .int (sc.2 j)) A U H ∧ va_Nw nwW U ∧ va_Nw nwK U ∧ JF ad A U H ∧ sc.1 < 2 ^ 31
theorem SF.go {ad : Nat → Nat} {A : Nat → Prop} {sc : Nat × (Nat → Int32)} {s U : State} {H : Heap} (h : SF ad A sc s s.heap) (hW : s.WarmedH U.vm) (hq : ∀ a : Nat, a < s.heap.size → ¬ A a → H[a]? = s.heap[a]?) : SF ad A sc U H := by
  obtain ⟨h1, h2, h3, h4, ⟨h5, h6, h7, h8⟩, h9⟩ := h
  exact ⟨fun k hk => ⟨((h1 k hk).1.moved hW.alike).kept hq, ((h1 k hk).2.moved hW.alike).kept hq⟩, (h2.moved hW.alike).kept hq, va_Nw.warmM hW h3, va_Nw.warmF hW h4, ⟨fun q hm => (h5 q hm).warm hW, (h6.moved hW.alike).kept hq, (h7.moved hW.alike).kept hq, (h8.moved hW.alike).kept hq⟩, h9⟩
theorem SF.calling {ad : Nat → Nat} {A : Nat → Prop} {sc : Nat × (Nat → Int32)} {U : State} {g : JFrame} {mk : MethodId} {a : Array Value} (h : SF ad A sc U U.heap) : SF ad A sc (U.calling g mk a) (U.calling g mk a).heap := by
  obtain ⟨h1, h2, h3, h4, ⟨h5, h6, h7, h8⟩, h9⟩ := h
  have e : U.vm.Alike (U.calling g mk a).vm := Vm.Alike.refl U.vm
  exact ⟨fun k hk => ⟨(h1 k hk).1.moved e, (h1 k hk).2.moved e⟩, h2.moved e, va_Nw.same rfl rfl h3, va_Nw.same rfl rfl h4, ⟨fun q hm => (h5 q hm).same rfl, h6.moved e, h7.moved e, h8.moved e⟩, h9⟩
section SOUND
variable {p : Program} {l : Launch} {e : Env} {R : Room} {s : State} {m : MethodId} {args : Array Value} {below : List Frame} {meth : Method} {c : Code} {Z : State → Prop}
variable {ad : Nat → Nat} {D : va_G} {cA : Nat → ClassId} {A : Nat → Prop} {b : ByteArray} {o ml : Nat} {sc : Nat × (Nat → Int32)} {ce sl : Nat}
/-- where a method's body stands: the machine, the code, the words, the classes, what nobody writes, the room -/
def CX (p : Program) (R : Room) (s : State) (m : MethodId) (args : Array Value) (c : Code) (ad : Nat → Nat) (D : va_G) (cA : Nat → ClassId) (A : Nat → Prop) (b : ByteArray) (o ml : Nat) (sc : Nat × (Nat → Int32)) (ce sl : Nat) : Prop := p.tables.exec = Jvm.exec ∧ c.code = b ∧ c.maxLocals = ml ∧ s.vm.findClass (nmO o) = some m.cls ∧ (∀ w ∈ gT, w.before args s = true) ∧ va_K D vwCl (tysP cA) s ∧ SF ad A sc s s.heap ∧ 1 ≤ R.frames ∧ 100 ≤ R.locals ∧ ce ≤ R.cells ∧ sl ≤ R.slots
/-- a configuration, over the machine -/
def XW (p : Program) (l : Launch) (e : Env) (R : Room) (s : State) (m : MethodId) (args : Array Value) (below : List Frame) (meth : Method) (c : Code) (Z : State → Prop) (ad : Nat → Nat) (D : va_G) (cA : Nat → ClassId) (A : Nat → Prop) (ml : Nat) (sc : Nat × (Nat → Int32)) (ce sl : Nat) : Cf → Prop := fun z => z.2.2.2.2.2 = sc → ∀ (H : Heap) (locs : List Loc) (la : Array Slot), LH ad la ml z.2.1 → va_P D vwCl (wl ad cA z.2.2.2) H → va_D A (wl ad cA z.2.2.2) → va_S A s.heap H locs → W p l e R s m args below meth c H locs ce sl Z (F0 m z.1 la (z.2.2.1.map (tr ad)))
abbrev XWp (p : Program) (l : Launch) (e : Env) (R : Room) (s : State) (m : MethodId) (args : Array Value) (below : List Frame) (meth : Method) (c : Code) (Z : State → Prop) (ad : Nat → Nat) (D : va_G) (cA : Nat → ClassId) (A : Nat → Prop) (ml : Nat) (sc : Nat × (Nat → Int32)) (ce sl : Nat) (pc : Nat) (ls : Lc) (st : List Value) (h : Hp) : Prop := XW p l e R s m args below meth c Z ad D cA A ml sc ce sl (pc, ls, st, h)
/-- a step that only moves the stack -/
theorem xw_mv {pc pc' : Nat} {ls : Lc} {st st' : List Value} {h : Hp} (k : ∀ (H : Heap) (locs : List Loc) (la : Array Slot), LH ad la ml ls → W p l e R s m args below meth c H locs ce sl Z (F0 m pc' la (st'.map (tr ad))) → W p l e R s m args below meth c H locs ce sl Z (F0 m pc la (st.map (tr ad)))) (X : XWp p l e R s m args below meth c Z ad D cA A ml sc ce sl pc' ls st' h) : XWp p l e R s m args below meth c Z ad D cA A ml sc ce sl pc ls st h := fun hs H locs la hl hP hD hS => k H locs la hl (X hs H locs la hl hP hD hS)
theorem sw_ldI {i : Instr} {n k pc : Nat} {ls : Lc} {st : List Value} {h : Hp} {G : Prop} {z : Cf} (hx : p.tables.exec = Jvm.exec) (hb : c.code = b) (hd : decode b pc = .ok (i, n)) (hi : (∃ q : Fin 4, i = .iload_n q ∧ (q : Nat) = k ∧ n = 1) ∨ (i = .iload k ∧ n = 2)) (hq : fLdI ls k n pc st h = some (G, z)) (X : XW p l e R s m args below meth c Z ad D cA A ml sc ce sl z) : XWp p l e R s m args below meth c Z ad D cA A ml sc ce sl pc ls st h := by
  unfold fLdI at hq
  split at hq
  · rename_i x hk
    cases hq
    refine xw_mv (fun H locs la hl w => ?_) X
    have hv := hl.2.2.2 _ _ hk
    rcases hi with ⟨q, rfl, rfl, rfl⟩ | ⟨rfl, rfl⟩
    · exact lv_iload_n hx hb hd rfl hv w
    · exact lv_iload hx hb hd hv w
  · cases hq
theorem sw_ldL {i : Instr} {n k pc : Nat} {ls : Lc} {st : List Value} {h : Hp} {G : Prop} {z : Cf} (hx : p.tables.exec = Jvm.exec) (hb : c.code = b) (hd : decode b pc = .ok (i, n)) (hi : (∃ q : Fin 4, i = .lload_n q ∧ (q : Nat) = k ∧ n = 1) ∨ (i = .lload k ∧ n = 2)) (hq : fLdL ls k n pc st h = some (G, z)) (X : XW p l e R s m args below meth c Z ad D cA A ml sc ce sl z) : XWp p l e R s m args below meth c Z ad D cA A ml sc ce sl pc ls st h := by
  unfold fLdL at hq
  split at hq
  · rename_i x hk
    cases hq
    refine xw_mv (fun H locs la hl w => ?_) X
    have hv := hl.2.2.2 _ _ hk
    rcases hi with ⟨q, rfl, rfl, rfl⟩ | ⟨rfl, rfl⟩
    · exact lv_lload_n hx hb hd rfl hv w
    · exact lv_lload hx hb hd hv w
  · cases hq
theorem sw_ldA {i : Instr} {n k pc : Nat} {ls : Lc} {st : List Value} {h : Hp} {G : Prop} {z : Cf} (hx : p.tables.exec = Jvm.exec) (hb : c.code = b) (hd : decode b pc = .ok (i, n)) (hi : (∃ q : Fin 4, i = .aload_n q ∧ (q : Nat) = k ∧ n = 1) ∨ (i = .aload k ∧ n = 2)) (hq : fLdA ls k n pc st h = some (G, z)) (X : XW p l e R s m args below meth c Z ad D cA A ml sc ce sl z) : XWp p l e R s m args below meth c Z ad D cA A ml sc ce sl pc ls st h := by
  unfold fLdA at hq
  split at hq
  · rename_i x hk
    cases hq
    refine xw_mv (fun H locs la hl w => ?_) X
    have hv := hl.2.2.2 _ _ hk
    rcases hi with ⟨q, rfl, rfl, rfl⟩ | ⟨rfl, rfl⟩
    · exact lv_aload_n hx hb hd rfl hv w
    · exact lv_aload hx hb hd hv w
  · cases hq
theorem sw_stI {i : Instr} {n k pc : Nat} {ls : Lc} {st : List Value} {h : Hp} {G : Prop} {z : Cf} (hx : p.tables.exec = Jvm.exec) (hb : c.code = b) (hd : decode b pc = .ok (i, n)) (hi : (∃ q : Fin 4, i = .istore_n q ∧ (q : Nat) = k ∧ n = 1) ∨ (i = .istore k ∧ n = 2)) (hq : fStI ls k n pc st h = some (G, z)) (X : XW p l e R s m args below meth c Z ad D cA A ml sc ce sl z) : XWp p l e R s m args below meth c Z ad D cA A ml sc ce sl pc ls st h := by
  unfold fStI fSt at hq
  split at hq
  · rename_i x r
    split at hq
    · cases hq
    split at hq
    · cases hq
    split at hq
    · rename_i g1 g2 g3
      cases hq
      intro hs H locs la hl hP hD hS
      have hp : isLong ls[k - 1]? = false := by simpa using g2
      have hkn : k < ml := by rw [← hl.2.2.1]; exact g3
      rcases hi with ⟨q, rfl, rfl, rfl⟩ | ⟨rfl, rfl⟩
      · exact lv_istore_n hx hb hd rfl hl.has hkn rfl (fun la' h' => X hs H locs la' (LH.store hl.2.2.1 hp h') hP hD hS)
      · exact lv_istore hx hb hd hl.has hkn rfl (fun la' h' => X hs H locs la' (LH.store hl.2.2.1 hp h') hP hD hS)
    · cases hq
  · cases hq
theorem sw_iinc {k pc : Nat} {q : Int} {v : Int32} {ls : Lc} {st : List Value} {h : Hp} {G : Prop} {z : Cf} (hx : p.tables.exec = Jvm.exec) (hb : c.code = b) (hd : decode b pc = .ok (.iinc k q, 3)) (hv : Int32.ofInt q = v) (hq : (match ls[k]? with
    | some (some (.int x)) => fSt ls k 3 pc (.int (x + v)) st h
    | _ => none) = some (G, z)) (X : XW p l e R s m args below meth c Z ad D cA A ml sc ce sl z) : XWp p l e R s m args below meth c Z ad D cA A ml sc ce sl pc ls st h := by
  unfold fSt at hq
  split at hq
  · rename_i x hk
    split at hq
    · cases hq
    split at hq
    · cases hq
    split at hq
    · rename_i g1 g2 g3
      cases hq
      intro hs H locs la hl hP hD hS
      have hp : isLong ls[k - 1]? = false := by simpa using g2
      have hkn : k < ml := by rw [← hl.2.2.1]; exact g3
      obtain ⟨j, hj⟩ := List.getElem?_of_mem (knL_in.mpr (⟨.int x, hk, rfl⟩ : ∃ w, ls[k]? = some (some w) ∧ Value.int x = tr ad w) : (k, Value.int x) ∈ knL ad ls)
      exact lv_iinc (k := j) (v := x + v) hx hb hd hl.has hj (by rw [hv]) hkn rfl (fun la' h' => X hs H locs la' (LH.store hl.2.2.1 hp h') hP hD hS)
    · cases hq
  · cases hq
theorem sw_I2 {f : Int32 → Int32 → Int32} {pc : Nat} {ls : Lc} {st : List Value} {h : Hp} {G : Prop} {z : Cf} (row : ∀ (H : Heap) (locs : List Loc) (la : Array Slot) (rest : List Value) (x y : Int32), W p l e R s m args below meth c H locs ce sl Z (F0 m (pc + 1) la (.int (f x y) :: rest)) → W p l e R s m args below meth c H locs ce sl Z (F0 m pc la (.int y :: .int x :: rest))) (hq : fI2 f ls pc st h = some (G, z)) (X : XW p l e R s m args below meth c Z ad D cA A ml sc ce sl z) : XWp p l e R s m args below meth c Z ad D cA A ml sc ce sl pc ls st h := by
  unfold fI2 at hq
  split at hq
  · cases hq
    exact xw_mv (fun H locs la hl w => row H locs la _ _ _ w) X
  · cases hq
theorem sw_I2g {f : Int32 → Int32 → Int32} {pc : Nat} {ls : Lc} {st : List Value} {h : Hp} {G : Prop} {z : Cf} (row : ∀ (H : Heap) (locs : List Loc) (la : Array Slot) (rest : List Value) (x y : Int32), ¬ y = 0 → W p l e R s m args below meth c H locs ce sl Z (F0 m (pc + 1) la (.int (f x y) :: rest)) → W p l e R s m args below meth c H locs ce sl Z (F0 m pc la (.int y :: .int x :: rest))) (hq : fI2g f ls pc st h = some (G, z)) (g : G) (X : XW p l e R s m args below meth c Z ad D cA A ml sc ce sl z) : XWp p l e R s m args below meth c Z ad D cA A ml sc ce sl pc ls st h := by
  unfold fI2g at hq
  split at hq
  · cases hq
    exact xw_mv (fun H locs la hl w => row H locs la _ _ _ g w) X
  · cases hq
theorem sw_I1 {f : Int32 → Int32} {pc : Nat} {ls : Lc} {st : List Value} {h : Hp} {G : Prop} {z : Cf} (row : ∀ (H : Heap) (locs : List Loc) (la : Array Slot) (rest : List Value) (x : Int32), W p l e R s m args below meth c H locs ce sl Z (F0 m (pc + 1) la (.int (f x) :: rest)) → W p l e R s m args below meth c H locs ce sl Z (F0 m pc la (.int x :: rest))) (hq : fI1 f ls pc st h = some (G, z)) (X : XW p l e R s m args below meth c Z ad D cA A ml sc ce sl z) : XWp p l e R s m args below meth c Z ad D cA A ml sc ce sl pc ls st h := by
  unfold fI1 at hq
  split at hq
  · cases hq
    exact xw_mv (fun H locs la hl w => row H locs la _ _ w) X
  · cases hq
theorem sw_L2 {f : Int64 → Int64 → Int64} {pc : Nat} {ls : Lc} {st : List Value} {h : Hp} {G : Prop} {z : Cf} (row : ∀ (H : Heap) (locs : List Loc) (la : Array Slot) (rest : List Value) (x y : Int64), W p l e R s m args below meth c H locs ce sl Z (F0 m (pc + 1) la (.long (f x y) :: rest)) → W p l e R s m args below meth c H locs ce sl Z (F0 m pc la (.long y :: .long x :: rest))) (hq : fL2 f ls pc st h = some (G, z)) (X : XW p l e R s m args below meth c Z ad D cA A ml sc ce sl z) : XWp p l e R s m args below meth c Z ad D cA A ml sc ce sl pc ls st h := by
  unfold fL2 at hq
  split at hq
  · cases hq
    exact xw_mv (fun H locs la hl w => row H locs la _ _ _ w) X
  · cases hq
theorem sw_LI {f : Int64 → Int32 → Int64} {pc : Nat} {ls : Lc} {st : List Value} {h : Hp} {G : Prop} {z : Cf} (row : ∀ (H : Heap) (locs : List Loc) (la : Array Slot) (rest : List Value) (x : Int64) (y : Int32), W p l e R s m args below meth c H locs ce sl Z (F0 m (pc + 1) la (.long (f x y) :: rest)) → W p l e R s m args below meth c H locs ce sl Z (F0 m pc la (.int y :: .long x :: rest))) (hq : fLI f ls pc st h = some (G, z)) (X : XW p l e R s m args below meth c Z ad D cA A ml sc ce sl z) : XWp p l e R s m args below meth c Z ad D cA A ml sc ce sl pc ls st h := by
  unfold fLI at hq
  split at hq
  · cases hq
    exact xw_mv (fun H locs la hl w => row H locs la _ _ _ w) X
  · cases hq
/-- a branch: either way -/
theorem xw_if {q : Prop} [inst : Decidable q] {t f : Nat} {ls : Lc} {st : List Value} {h : Hp} (X : XWp p l e R s m args below meth c Z ad D cA A ml sc ce sl (if q then t else f) ls st h) : (q → XWp p l e R s m args below meth c Z ad D cA A ml sc ce sl t ls st h) ∧ (¬ q → XWp p l e R s m args below meth c Z ad D cA A ml sc ce sl f ls st h) := ⟨fun y => by rw [if_pos y] at X; exact X, fun y => by rw [if_neg y] at X; exact X⟩
theorem sw_if {q : ClassFile.Cond} {f : Int} {a pc : Nat} {ls : Lc} {st : List Value} {h : Hp} {G : Prop} {z : Cf} (hx : p.tables.exec = Jvm.exec) (hb : c.code = b) (hd : decode b pc = .ok (.ifCond q f, 3)) (ht : (pc : Int) + f = (a : Int)) (hq : fIf q a ls pc st h = some (G, z)) (X : XW p l e R s m args below meth c Z ad D cA A ml sc ce sl z) : XWp p l e R s m args below meth c Z ad D cA A ml sc ce sl pc ls st h := by
  unfold fIf at hq
  split at hq
  · cases hq
    cases q <;> obtain ⟨X1, X2⟩ := xw_if X <;> intro hs H locs la hl hP hD hS
    · exact lv_if_eq hx hb hd ht (fun y => X1 y hs H locs la hl hP hD hS) (fun y => X2 y hs H locs la hl hP hD hS)
    · exact lv_if_ne hx hb hd ht (fun y => X2 y hs H locs la hl hP hD hS) (fun y => X1 y hs H locs la hl hP hD hS)
    · exact lv_if_lt hx hb hd ht (fun y => X1 y hs H locs la hl hP hD hS) (fun y => X2 y hs H locs la hl hP hD hS)
    · exact lv_if_ge hx hb hd ht (fun y => X1 y hs H locs la hl hP hD hS) (fun y => X2 y hs H locs la hl hP hD hS)
    · exact lv_if_gt hx hb hd ht (fun y => X1 y hs H locs la hl hP hD hS) (fun y => X2 y hs H locs la hl hP hD hS)
    · exact lv_if_le hx hb hd ht (fun y => X1 y hs H locs la hl hP hD hS) (fun y => X2 y hs H locs la hl hP hD hS)
  · cases hq
theorem sw_ic {q : ClassFile.Cond} {f : Int} {a pc : Nat} {ls : Lc} {st : List Value} {h : Hp} {G : Prop} {z : Cf} (hx : p.tables.exec = Jvm.exec) (hb : c.code = b) (hd : decode b pc = .ok (.if_icmp q f, 3)) (ht : (pc : Int) + f = (a : Int)) (hq : fIc q a ls pc st h = some (G, z)) (X : XW p l e R s m args below meth c Z ad D cA A ml sc ce sl z) : XWp p l e R s m args below meth c Z ad D cA A ml sc ce sl pc ls st h := by
  unfold fIc at hq
  split at hq
  · cases hq
    cases q <;> obtain ⟨X1, X2⟩ := xw_if X <;> intro hs H locs la hl hP hD hS
    · exact lv_icmp_eq hx hb hd ht (fun y => X1 y hs H locs la hl hP hD hS) (fun y => X2 y hs H locs la hl hP hD hS)
    · exact lv_icmp_ne hx hb hd ht (fun y => X2 y hs H locs la hl hP hD hS) (fun y => X1 y hs H locs la hl hP hD hS)
    · exact lv_icmp_lt hx hb hd ht (fun y => X1 y hs H locs la hl hP hD hS) (fun y => X2 y hs H locs la hl hP hD hS)
    · exact lv_icmp_ge hx hb hd ht (fun y => X1 y hs H locs la hl hP hD hS) (fun y => X2 y hs H locs la hl hP hD hS)
    · exact lv_icmp_gt hx hb hd ht (fun y => X1 y hs H locs la hl hP hD hS) (fun y => X2 y hs H locs la hl hP hD hS)
    · exact lv_icmp_le hx hb hd ht (fun y => X1 y hs H locs la hl hP hD hS) (fun y => X2 y hs H locs la hl hP hD hS)
  · cases hq
theorem isCl_spec {r a : Nat} (h : isCl r a = true) : r < psNO ∧ oK r = 3 ∧ oP r = a := by
  simp only [isCl, Bool.and_eq_true, decide_eq_true_eq, beq_iff_eq] at h
  exact ⟨oK_lt (by omega), h.1.2, h.2⟩
theorem fl_spec {a' bb' k' : Nat} {sw : List (Int32 × Nat)} (h : flI sw (fun q => q.1 == o && q.2.1 == k' && q.2.2.1 == a' && q.2.2.2.1 == bb') = true) : ∃ C T N, vwCl[a']? = some (C, T, N) ∧ bb' < N ∧ Jvm.Cond.fieldLink (nmO o) k' (T bb').1 (T bb').2.1 (T bb').2.2.1 ∈ gT := by
  obtain ⟨q, hm, hq⟩ := atI_in h
  obtain ⟨q1, q2, q3, q4, q5⟩ := q
  simp only [Bool.and_eq_true, beq_iff_eq] at hq
  obtain ⟨⟨⟨rfl, rfl⟩, rfl⟩, rfl⟩ := hq
  have hc := List.all_eq_true.mp flT_ok _ hm
  unfold flC at hc
  split at hc
  · rename_i C T N hv
    simp only [Bool.and_eq_true, decide_eq_true_eq] at hc
    exact ⟨C, T, N, hv, hc.1, hasW_in hc.2⟩
  · cases hc
theorem sw_gf {k a bb pc : Nat} {v0 : Int32} {sw : List (Int32 × Nat)} {ls : Lc} {st : List Value} {h : Hp} {G : Prop} {z : Cf} (hC : CX p R s m args c ad D cA A b o ml sc ce sl) (hd : decode b pc = .ok (.getfield k, 3)) (hf : flI sw (fun q => q.1 == o && q.2.1 == k && q.2.2.1 == a && q.2.2.2.1 == bb) = true) (hv0 : nI bb = v0) (hq : fGf a bb v0 ls pc st h = some (G, z)) (X : XW p l e R s m args below meth c Z ad D cA A ml sc ce sl z) : XWp p l e R s m args below meth c Z ad D cA A ml sc ce sl pc ls st h := by
  obtain ⟨hx, hb, hml, hown, hts, hK, hSF, hR⟩ := hC
  obtain ⟨C, T, N, hc, hk, hw⟩ := fl_spec hf
  subst hv0
  unfold fGf at hq
  split at hq
  · rename_i r t
    split at hq
    · rename_i hcl
      obtain ⟨hr, h3, h4⟩ := isCl_spec hcl
      split at hq
      · rename_i v hv
        cases hq
        intro hs H locs la hl hP hD hS
        have he := wl_at (ad := ad) (cA := cA) (h := h) hr
        rw [ent_3 h3, h4] at he
        exact va_get (D := D) hx hb hts (vw_gT hc) hown hK hP r he hc bb hk (hts _ hw) (fun _ q => q) (fsL_at hv) hd (X hs H locs la hl hP hD hS)
      · cases hq
    · cases hq
  · cases hq
theorem sw_pf {k a bb pc : Nat} {v0 : Int32} {sw : List (Int32 × Nat)} {ls : Lc} {st : List Value} {h : Hp} {G : Prop} {z : Cf} (hC : CX p R s m args c ad D cA A b o ml sc ce sl) (hd : decode b pc = .ok (.putfield k, 3)) (hf : flI sw (fun q => q.1 == o && q.2.1 == k && q.2.2.1 == a && q.2.2.2.1 == bb) = true) (hv0 : nI bb = v0) (hq : fPf a bb v0 ls pc st h = some (G, z)) (g : G) (X : XW p l e R s m args below meth c Z ad D cA A ml sc ce sl z) : XWp p l e R s m args below meth c Z ad D cA A ml sc ce sl pc ls st h := by
  obtain ⟨hx, hb, hml, hown, hts, hK, hSF, hR⟩ := hC
  obtain ⟨C, T, N, hc, hk, hw⟩ := fl_spec hf
  subst hv0
  unfold fPf at hq
  split at hq
  · rename_i v r t
    split at hq
    · rename_i hcl
      obtain ⟨hr, h3, h4⟩ := isCl_spec hcl
      split at hq
      · rename_i hv
        cases hq
        intro hs H locs la hl hP hD hS
        have he := wl_at (ad := ad) (cA := cA) (h := h) hr
        rw [ent_3 h3, h4] at he
        obtain ⟨⟨ty0, hty⟩, hnm⟩ := vw_ty hc
        have hpf := pf_ok h3 hv
        rw [h4] at hpf
        unfold pfC at hpf
        rw [hc] at hpf
        simp only [Bool.and_eq_true, decide_eq_true_eq, Bool.not_eq_true'] at hpf
        obtain ⟨⟨-, hfin⟩, hdesc⟩ := hpf
        have hset : (fsL ad h r).set bb (.int v) = fsL ad (hI h r (nI bb) v) r := fsL_set hv
        have heq : Sum.inr (a, (fsL ad h r).set bb (.int v)) = ent ad cA (hI h r (nI bb) v) r := by rw [ent_3 h3, h4, hset]
        have hlen : bb < (fsL ad h r).length := by unfold fsL; simpa using (List.getElem?_eq_some_iff.mp hv).1
        have key : ∀ ty : FieldType, parseFieldDescriptor (T bb).2.2.1 = some ty → narrow ty (.int v) = .int v → fits ty (.int v) = true → W p l e R s m args below meth c H locs ce sl Z (F0 m pc la (.int v :: .ref (ad r) :: t.map (tr ad))) := fun ty e1 e2 e3 => va_put (D := D) hx hb hts (vw_gT hc) ty0 hty hnm hown hK hP hD hS r he hc bb hk (hts _ hw) (fun _ q => q) hfin e1 e2 e3 hlen hd (fun H1 locs1 hP1 hD1 hS1 => X hs H1 locs1 la hl (wl_P hr (by rw [heq]; exact id) (fun j hj => ent_ne (hI_rowne hj) rfl) hP1) (wl_D hD) hS1)
        unfold pfG at g
        by_cases hz : isZf a bb = true
        · rw [if_pos hz] at hdesc g
          refine key .boolean (by rw [hdesc]; decide +kernel) ?_ ?_
          · rcases g with rfl | rfl <;> rfl
          · rcases g with rfl | rfl <;> rfl
        · rw [if_neg hz] at hdesc
          exact key .int (by rw [hdesc]; decide +kernel) rfl rfl
      · cases hq
    · cases hq
  · cases hq
theorem isIA_spec {r : Nat} (h : isIA r = true) : (r < 1000 ∧ r < psNO ∧ oK r = 0) ∨ (¬ r < 1000 ∧ r = 1300) ∨ (¬ r < 1000 ∧ ∃ k, k < 4 ∧ r = 1200 + k) := by
  unfold isIA at h
  split at h
  · rename_i h1
    have h2 : oK r = 0 := by simpa using h
    exact Or.inl ⟨h1, oK_lt (by omega), h2⟩
  · rename_i h1
    simp only [Bool.or_eq_true, beq_iff_eq, Bool.and_eq_true, decide_eq_true_eq] at h
    rcases h with h | h
    · exact Or.inr (Or.inl ⟨h1, h⟩)
    · exact Or.inr (Or.inr ⟨h1, r - 1200, by omega, by omega⟩)
theorem ro4 {k : Nat} (hk : k < 4) : (roT (1200 + k)).length = 6 := by
  rcases (show k = 0 ∨ k = 1 ∨ k = 2 ∨ k = 3 by omega) with rfl | rfl | rfl | rfl <;> rfl
theorem aln_w {h : Hp} {r : Nat} (hr : r < 1000) : aln h r = oP r := by unfold aln; rw [if_pos hr]
theorem aln_s {h : Hp} : aln h 1300 = h.2.2.1 := rfl
theorem aln_t {h : Hp} {k : Nat} (hk : k < 4) : aln h (1200 + k) = 6 := by
  unfold aln
  rw [if_neg (by omega), if_neg (by omega), ro4 hk]
theorem agt_w {h : Hp} {r : Nat} {j : Int32} (hr : r < 1000) : agt h r j = h.1 r j := by unfold agt; rw [if_pos hr]
theorem agt_t {h : Hp} {k : Nat} {j : Int32} (hk : k < 4) : agt h (1200 + k) j = (roT (1200 + k)).getD j.toNatClampNeg 0 := by
  unfold agt
  rw [if_neg (by omega), if_neg (by omega)]
theorem sw_al {pc : Nat} {ls : Lc} {st : List Value} {h : Hp} {G : Prop} {z : Cf} (hC : CX p R s m args c ad D cA A b o ml sc ce sl) (hd : decode b pc = .ok (.arraylength, 1)) (hq : fAl ls pc st h = some (G, z)) (X : XW p l e R s m args below meth c Z ad D cA A ml sc ce sl z) : XWp p l e R s m args below meth c Z ad D cA A ml sc ce sl pc ls st h := by
  obtain ⟨hx, hb, hml, hown, hts, hK, hSF, hR⟩ := hC
  unfold fAl at hq
  split at hq
  · rename_i r t
    split at hq
    · rename_i hia
      cases hq
      intro hs H locs la hl hP hD hS
      rcases isIA_spec hia with ⟨h1, h2, h3⟩ | ⟨h1, rfl⟩ | ⟨h1, k, hk, rfl⟩
      · have he := wl_at (ad := ad) (cA := cA) (h := h) h2
        rw [ent_0 h3] at he
        exact va_alen (D := D) hx hb hK hP r 0 he rfl (by rw [aln_w h1]; rfl) hd (X hs H locs la hl hP hD hS)
      · exact va_tlen hx hb hSF.2.1 hS (by rw [aln_s, show h.2.2 = sc from hs]; rfl) hd (X hs H locs la hl hP hD hS)
      · exact va_tlen hx hb (hSF.1 k hk).2 hS (by rw [aln_t hk]; rfl) hd (X hs H locs la hl hP hD hS)
    · cases hq
  · cases hq
theorem sw_ial {pc : Nat} {ls : Lc} {st : List Value} {h : Hp} {G : Prop} {z : Cf} (hC : CX p R s m args c ad D cA A b o ml sc ce sl) (hd : decode b pc = .ok (.iaload, 1)) (hq : fIal ls pc st h = some (G, z)) (g : G) (X : XW p l e R s m args below meth c Z ad D cA A ml sc ce sl z) : XWp p l e R s m args below meth c Z ad D cA A ml sc ce sl pc ls st h := by
  obtain ⟨hx, hb, hml, hown, hts, hK, hSF, hR⟩ := hC
  unfold fIal at hq
  split at hq
  · rename_i j r t
    split at hq
    · rename_i hia
      cases hq
      intro hs H locs la hl hP hD hS
      rcases isIA_spec hia with ⟨h1, h2, h3⟩ | ⟨h1, rfl⟩ | ⟨h1, k, hk, rfl⟩
      · have he := wl_at (ad := ad) (cA := cA) (h := h) h2
        rw [ent_0 h3] at he
        rw [aln_w h1] at g
        have X' := X hs H locs la hl hP hD hS
        rw [agt_w h1] at X'
        obtain ⟨k, hk, rfl, ek⟩ := nI_at g (oP_lt r)
        exact va_iald (D := D) hx hb hK hP r 0 he rfl (ibd_in g (oP_lt r)) hd (by rw [ek]; exact X')
      · rw [aln_s, show h.2.2 = sc from hs] at g
        have e : agt h 1300 j = sc.2 j.toNatClampNeg := by show h.2.2.2 _ = _; rw [show h.2.2 = sc from hs]
        exact va_ti hx hb hSF.2.1 hS (ibd_in g hSF.2.2.2.2.2) (by rw [e]; rfl) hd (X hs H locs la hl hP hD hS)
      · rw [aln_t hk] at g
        exact va_ti hx hb (hSF.1 k hk).2 hS (ibd_in g (by decide)) (by rw [agt_t hk]; rfl) hd (X hs H locs la hl hP hD hS)
    · cases hq
  · cases hq
theorem sw_bal {pc : Nat} {ls : Lc} {st : List Value} {h : Hp} {G : Prop} {z : Cf} (hC : CX p R s m args c ad D cA A b o ml sc ce sl) (hd : decode b pc = .ok (.baload, 1)) (hq : fBal ls pc st h = some (G, z)) (g : G) (X : XW p l e R s m args below meth c Z ad D cA A ml sc ce sl z) : XWp p l e R s m args below meth c Z ad D cA A ml sc ce sl pc ls st h := by
  obtain ⟨hx, hb, hml, hown, hts, hK, hSF, hR⟩ := hC
  unfold fBal at hq
  split at hq
  · rename_i j r t
    split at hq
    · rename_i hia
      cases hq
      intro hs H locs la hl hP hD hS
      have he := wl_at (ad := ad) (cA := cA) (h := h) (oK_lt (by omega) : r < psNO)
      rw [ent_2 hia.2] at he
      obtain ⟨k, hk, rfl, ek⟩ := nI_at g (oP_lt r)
      have X' := X hs H locs la hl hP hD hS
      exact va_zald (D := D) hx hb hK hP r 2 he rfl (ibd_in g (oP_lt r)) hd (by rw [ek]; exact X')
    · cases hq
  · cases hq
theorem sw_lal {pc : Nat} {ls : Lc} {st : List Value} {h : Hp} {G : Prop} {z : Cf} (hC : CX p R s m args c ad D cA A b o ml sc ce sl) (hd : decode b pc = .ok (.laload, 1)) (hq : fLal ls pc st h = some (G, z)) (g : G) (X : XW p l e R s m args below meth c Z ad D cA A ml sc ce sl z) : XWp p l e R s m args below meth c Z ad D cA A ml sc ce sl pc ls st h := by
  obtain ⟨hx, hb, hml, hown, hts, hK, hSF, hR⟩ := hC
  unfold fLal at hq
  split at hq
  · rename_i j r t
    split at hq
    · rename_i hia
      cases hq
      intro hs H locs la hl hP hD hS
      have he := wl_at (ad := ad) (cA := cA) (h := h) (oK_lt (by omega) : r < psNO)
      rw [ent_1 hia.2] at he
      obtain ⟨k, hk, rfl, ek⟩ := nI_at g (oP_lt r)
      have X' := X hs H locs la hl hP hD hS
      exact va_lald (D := D) hx hb hK hP r 1 he rfl (ibd_in g (oP_lt r)) hd (by rw [ek]; exact X')
    · cases hq
  · cases hq
theorem sw_ias {pc : Nat} {ls : Lc} {st : List Value} {h : Hp} {G : Prop} {z : Cf} (hC : CX p R s m args c ad D cA A b o ml sc ce sl) (hd : decode b pc = .ok (.iastore, 1)) (hq : fIas ls pc st h = some (G, z)) (g : G) (X : XW p l e R s m args below meth c Z ad D cA A ml sc ce sl z) : XWp p l e R s m args below meth c Z ad D cA A ml sc ce sl pc ls st h := by
  obtain ⟨hx, hb, hml, hown, hts, hK, hSF, hR⟩ := hC
  unfold fIas at hq
  split at hq
  · rename_i v j r t
    split at hq
    · rename_i hia
      cases hq
      intro hs H locs la hl hP hD hS
      have he := wl_at (ad := ad) (cA := cA) (h := h) (oK_lt (by omega) : r < psNO)
      rw [ent_0 hia.2] at he
      exact va_iast (D := D) hx hb hK hP hD hS r 0 he rfl (ibd_in g (oP_lt r)) hd (fun H1 locs1 hP1 hD1 hS1 => X hs H1 locs1 la hl (wl_P (oK_lt (by omega)) (fun q => by
        rw [ent_0 hia.2]
        exact q.trans (congrArg some (arrV_congr (fun i hi => congrArg Value.int (hI_cell g (oP_lt r) hi))))) (fun i hi => ent_ne (hI_rowne hi) rfl) hP1) (wl_D hD) hS1)
    · cases hq
  · cases hq
theorem sw_bas {pc : Nat} {ls : Lc} {st : List Value} {h : Hp} {G : Prop} {z : Cf} (hC : CX p R s m args c ad D cA A b o ml sc ce sl) (hd : decode b pc = .ok (.bastore, 1)) (hq : fBas ls pc st h = some (G, z)) (g : G) (X : XW p l e R s m args below meth c Z ad D cA A ml sc ce sl z) : XWp p l e R s m args below meth c Z ad D cA A ml sc ce sl pc ls st h := by
  obtain ⟨hx, hb, hml, hown, hts, hK, hSF, hR⟩ := hC
  unfold fBas at hq
  split at hq
  · rename_i v j r t
    split at hq
    · rename_i hia
      cases hq
      intro hs H locs la hl hP hD hS
      have he := wl_at (ad := ad) (cA := cA) (h := h) (oK_lt (by omega) : r < psNO)
      rw [ent_2 hia.2] at he
      have hv : vp_nar .boolean v = v := by rcases g.2 with rfl | rfl <;> rfl
      exact va_zast (D := D) hx hb hK hP hD hS r 2 he rfl (ibd_in g.1 (oP_lt r)) hd (fun H1 locs1 hP1 hD1 hS1 => X hs H1 locs1 la hl (wl_P (oK_lt (by omega)) (fun q => by
        rw [ent_2 hia.2]
        rw [hv] at q
        exact q.trans (congrArg some (arrV_congr (fun i hi => congrArg Value.int (hI_cell g.1 (oP_lt r) hi))))) (fun i hi => ent_ne (hI_rowne hi) rfl) hP1) (wl_D hD) hS1)
    · cases hq
  · cases hq
theorem sw_las {pc : Nat} {ls : Lc} {st : List Value} {h : Hp} {G : Prop} {z : Cf} (hC : CX p R s m args c ad D cA A b o ml sc ce sl) (hd : decode b pc = .ok (.lastore, 1)) (hq : fLas ls pc st h = some (G, z)) (g : G) (X : XW p l e R s m args below meth c Z ad D cA A ml sc ce sl z) : XWp p l e R s m args below meth c Z ad D cA A ml sc ce sl pc ls st h := by
  obtain ⟨hx, hb, hml, hown, hts, hK, hSF, hR⟩ := hC
  unfold fLas at hq
  split at hq
  · rename_i v j r t
    split at hq
    · rename_i hia
      cases hq
      intro hs H locs la hl hP hD hS
      have he := wl_at (ad := ad) (cA := cA) (h := h) (oK_lt (by omega) : r < psNO)
      rw [ent_1 hia.2] at he
      exact va_last (D := D) hx hb hK hP hD hS r 1 he rfl (ibd_in g (oP_lt r)) hd (fun H1 locs1 hP1 hD1 hS1 => X hs H1 locs1 la hl (wl_P (h := h) (i := r) (oK_lt (by omega)) (fun q => by
        rw [ent_1 hia.2]
        exact q.trans (congrArg some (arrV_congr (fun i hi => congrArg Value.long (hL_cell g (oP_lt r) hi))))) (fun i hi => ent_ne rfl (hL_rowne hi)) hP1) (wl_D hD) hS1)
    · cases hq
  · cases hq
theorem srT_ok : srT.all (fun q => q.1 == 4 && strT.any (fun z => z.1 == q.2.1 && z.2.2 == q.2.2)) = true := by decide +kernel
theorem stT_in : stT.all (fun q => decide (1200 ≤ q.2.2.1) && decide (q.2.2.1 < 1204)) = true := by decide +kernel
theorem ml_spec {a' k' : Nat} {sw : List (Int32 × Nat)} (h : mlI sw (fun q => q.1 == o && q.2.1 == k' && q.2.2.1 == a') = true) : ∃ mi : Mi, psM[a']? = some mi ∧ Jvm.Cond.methodLink (nmO o) k' mi.1 ∈ gT := by
  obtain ⟨q, hm, hq⟩ := atI_in h
  obtain ⟨q1, q2, q3, q4⟩ := q
  simp only [Bool.and_eq_true, beq_iff_eq] at hq
  obtain ⟨⟨rfl, rfl⟩, rfl⟩ := hq
  have hc := List.all_eq_true.mp mlT_ok _ hm
  unfold mlC at hc
  split at hc
  · rename_i y r hv
    exact ⟨_, hv, hasW_in hc⟩
  · cases hc
theorem mj_spec {a' k' : Nat} {sw : List (Int32 × Nat)} (h : mjI sw (fun q => q.1 == o && q.2.1 == k' && q.2.2.1 == a') = true) : Jvm.Cond.methodLink (nmO o) k' (yLib a') ∈ gT := by
  obtain ⟨q, hm, hq⟩ := atI_in h
  obtain ⟨q1, q2, q3, q4⟩ := q
  simp only [Bool.and_eq_true, beq_iff_eq] at hq
  obtain ⟨⟨rfl, rfl⟩, rfl⟩ := hq
  exact hasW_in (List.all_eq_true.mp mjT_ok _ hm)
theorem sw_gs {k a pc : Nat} {sw : List (Int32 × Nat)} {ls : Lc} {st : List Value} {h : Hp} (hC : CX p R s m args c ad D cA A b o ml sc ce sl) (hd : decode b pc = .ok (.getstatic k, 3)) (hf : (stIx sw (fun q => q.1 == o && q.2.1 == k && q.2.2.1 == a) || (o == 7 && k == 76 && a == 1200)) = true) (X : XWp p l e R s m args below meth c Z ad D cA A ml sc ce sl (pc + 3) ls (.ref a :: st) h) : XWp p l e R s m args below meth c Z ad D cA A ml sc ce sl pc ls st h := by
  obtain ⟨hx, hb, hml, hown, hts, hK, hSF, hR⟩ := hC
  intro hs H locs la hl hP hD hS
  rw [Bool.or_eq_true] at hf
  rcases hf with hf | hf
  · obtain ⟨q, hm, hq⟩ := atI_in hf
    obtain ⟨q1, q2, q3, q4⟩ := q
    simp only [Bool.and_eq_true, beq_iff_eq] at hq
    obtain ⟨⟨rfl, rfl⟩, rfl⟩ := hq
    have hr := List.all_eq_true.mp stT_in _ hm
    simp only [Bool.and_eq_true, decide_eq_true_eq] at hr
    obtain ⟨j, rfl⟩ : ∃ j, q3 = 1200 + j := ⟨q3 - 1200, by omega⟩
    exact va_gets hx hb (hSF.1 j (by omega)).1 hS hown (hts _ (hasW_in (List.all_eq_true.mp stT_ok _ hm))) (fun _ q => q) hd (X hs H locs la hl hP hD hS)
  · simp only [Bool.and_eq_true, beq_iff_eq] at hf
    obtain ⟨⟨rfl, rfl⟩, rfl⟩ := hf
    exact va_getsN hx hb (hSF.1 0 (by omega)).1 hS hown (va_Nw.use rfl hSF.2.2.2.1) (fun _ q => q) hd (X hs H locs la hl hP hD hS)
theorem sw_ldc {k a pc : Nat} {v : Int32} {sw : List (Int32 × Nat)} {ls : Lc} {st : List Value} {h : Hp} {G : Prop} {z : Cf} (hC : CX p R s m args c ad D cA A b o ml sc ce sl) (hd : decode b pc = .ok (.ldc k, 2)) (hf : (if a = 0 then csI sw (fun q => q.1 == o && q.2.1 == k && decide (Int32.ofInt q.2.2.1 = v)) else srI sw (fun q => q.1 == o && q.2.1 == k && q.2.2 == a)) = true) (hq : (if a = 0 then some (True, pc + 2, ls, .int v :: st, h) else some (True, pc + 2, ls, .ref a :: st, h) : St) = some (G, z)) (X : XW p l e R s m args below meth c Z ad D cA A ml sc ce sl z) : XWp p l e R s m args below meth c Z ad D cA A ml sc ce sl pc ls st h := by
  obtain ⟨hx, hb, hml, hown, hts, hK, hSF, hR⟩ := hC
  split at hf
  · rename_i ha
    rw [if_pos ha] at hq
    cases hq
    obtain ⟨q, hm, hq⟩ := atI_in hf
    obtain ⟨q1, q2, q3, q4⟩ := q
    simp only [Bool.and_eq_true, beq_iff_eq, decide_eq_true_eq] at hq
    obtain ⟨⟨rfl, rfl⟩, rfl⟩ := hq
    exact xw_mv (fun H locs la hl w => lv_ldc hx hb hown (hts _ (hasW_in (List.all_eq_true.mp csT_ok _ hm))) hd w) X
  · rename_i ha
    rw [if_neg ha] at hq
    cases hq
    obtain ⟨q, hm, hq⟩ := atI_in hf
    obtain ⟨q1, q2, q3⟩ := q
    simp only [Bool.and_eq_true, beq_iff_eq] at hq
    obtain ⟨⟨rfl, rfl⟩, rfl⟩ := hq
    have hr := List.all_eq_true.mp srT_ok _ hm
    simp only [Bool.and_eq_true, beq_iff_eq, List.any_eq_true] at hr
    obtain ⟨rfl, z, hz, e1, e2⟩ := hr
    obtain ⟨z1, z2, z3⟩ := z
    cases e1
    cases e2
    exact xw_mv (fun H locs la hl w => va_ldcS hx hb hown (hSF.2.2.2.2.1.1 _ hz) hd w) X
theorem sw_ldcw {k pc : Nat} {v : Int32} {sw : List (Int32 × Nat)} {ls : Lc} {st : List Value} {h : Hp} (hC : CX p R s m args c ad D cA A b o ml sc ce sl) (hd : decode b pc = .ok (.ldc_w k, 3)) (hf : csI sw (fun q => q.1 == o && q.2.1 == k && decide (Int32.ofInt q.2.2.1 = v)) = true) (X : XWp p l e R s m args below meth c Z ad D cA A ml sc ce sl (pc + 3) ls (.int v :: st) h) : XWp p l e R s m args below meth c Z ad D cA A ml sc ce sl pc ls st h := by
  obtain ⟨hx, hb, hml, hown, hts, hK, hSF, hR⟩ := hC
  obtain ⟨q, hm, hq⟩ := atI_in hf
  obtain ⟨q1, q2, q3, q4⟩ := q
  simp only [Bool.and_eq_true, beq_iff_eq, decide_eq_true_eq] at hq
  obtain ⟨⟨rfl, rfl⟩, rfl⟩ := hq
  exact xw_mv (fun H locs la hl w => lv_ldcw hx hb hown (hts _ (hasW_in (List.all_eq_true.mp csT_ok _ hm))) hd w) X
theorem sw_ldc2 {k pc : Nat} {v : Int64} {sw : List (Int32 × Nat)} {ls : Lc} {st : List Value} {h : Hp} (hC : CX p R s m args c ad D cA A b o ml sc ce sl) (hd : decode b pc = .ok (.ldc2_w k, 3)) (hf : clI sw (fun q => q.1 == o && q.2.1 == k && decide (Int64.ofInt q.2.2.1 = v)) = true) (X : XWp p l e R s m args below meth c Z ad D cA A ml sc ce sl (pc + 3) ls (.long v :: st) h) : XWp p l e R s m args below meth c Z ad D cA A ml sc ce sl pc ls st h := by
  obtain ⟨hx, hb, hml, hown, hts, hK, hSF, hR⟩ := hC
  obtain ⟨q, hm, hq⟩ := atI_in hf
  obtain ⟨q1, q2, q3, q4⟩ := q
  simp only [Bool.and_eq_true, beq_iff_eq, decide_eq_true_eq] at hq
  obtain ⟨⟨rfl, rfl⟩, rfl⟩ := hq
  exact xw_mv (fun H locs la hl w => lv_ldc2 hx hb hown (hts _ (hasW_in (List.all_eq_true.mp clT_ok _ hm))) hd w) X
theorem cat_map (ad : Nat → Nat) (r : List Value) : ((r.map (tr ad)).map fun v => v.category) = r.map fun v => v.category := by
  rw [List.map_map]
  congr 1
  funext v
  exact tr_cat ad v
theorem sw_lib {k a pc : Nat} {sw : List (Int32 × Nat)} {ls : Lc} {st : List Value} {h : Hp} {G : Prop} {z : Cf} (hC : CX p R s m args c ad D cA A b o ml sc ce sl) (hd : decode b pc = .ok (.invokestatic k, 3)) (ha : ¬ a < 1000) (hf : mjI sw (fun q => q.1 == o && q.2.1 == k && q.2.2.1 == a) = true) (hq : fLib a ls pc st h = some (G, z)) (g : G) (X : XW p l e R s m args below meth c Z ad D cA A ml sc ce sl z) : XWp p l e R s m args below meth c Z ad D cA A ml sc ce sl pc ls st h := by
  obtain ⟨hx, hb, hml, hown, hts, hK, hSF, hRf, hRl, hRc, hRs⟩ := hC
  have hlk := hts _ (mj_spec hf)
  have hnf : nativeFrameWords "java/lang/System" "arraycopy" 5 = 7 := by decide +kernel
  unfold fLib at hq
  split at hq
  · rename_i y x r
    split at hq
    · cases hq
    rename_i hble
    have hsum : (r.map fun v => v.category).sum ≤ 16 := Nat.le_of_ble_eq_true (by simpa using hble)
    split at hq
    · rename_i e1
      subst e1
      cases hq
      intro hs H locs la hl hP hD hS
      exact va_mmax hx hb (by rw [hml, hl.1]) hown hlk (hts _ lb0) (hts _ lb2) (hts _ lb6) hRf (by rw [cat_map]; omega) hRc hRs hd (X hs H locs la hl hP hD hS)
    split at hq
    · rename_i e0 e1
      subst e1
      cases hq
      intro hs H locs la hl hP hD hS
      exact va_mmin hx hb (by rw [hml, hl.1]) hown hlk (hts _ lb1) (hts _ lb2) (hts _ lb7) hRf (by rw [cat_map]; omega) hRc hRs hd (X hs H locs la hl hP hD hS)
    rename_i n1 n2
    split at hq
    · rename_i d sp s' t
      simp only [List.map_cons, List.sum_cons] at hsum
      split at hq
      · rename_i e3
        subst e3
        split at hq
        · rename_i hk
          obtain ⟨k1, k2, k3, k4⟩ := hk
          cases hq
          intro hs H locs la hl hP hD hS
          have he0 := wl_at (ad := ad) (cA := cA) (h := h) (oK_lt (by omega) : s' < psNO)
          have he1 := wl_at (ad := ad) (cA := cA) (h := h) (oK_lt (by omega) : d < psNO)
          rw [ent_0 k4] at he0
          rw [ent_0 k3] at he1
          obtain ⟨na, nb, nc, ea, eb, ec, l1, l2⟩ := cpG_nat g (oP_lt s') (oP_lt d)
          have hn : ∀ {x : Int32} {k : Nat}, x = nI k → k < 2 ^ 31 → ¬ x < 0 := fun {x k} e hk => by rw [e]; exact nI_pos hk
          have o1 := oP_lt s'
          have o2 := oP_lt d
          exact va_copyi (D := D) hx hb (by rw [hml, hl.1]) hown hlk (hts _ lb3) (hts _ lb4) (hts _ lb5) hK hP hD hS s' d 0 0 he0 he1 rfl rfl rfl (hn ea (by omega)) (hn eb (by omega)) (hn ec (by omega)) (by rw [ea, ec, nI_clamp (by omega), nI_clamp (by omega)]; exact l1) (by rw [eb, ec, nI_clamp (by omega), nI_clamp (by omega)]; exact l2) (fun _ _ => rfl) hRf (by rw [cat_map, hnf]; omega) hd (fun H1 locs1 hP1 hD1 hS1 => X hs H1 locs1 la hl (wl_P (oK_lt (by omega)) (fun q => by
            rw [ent_0 k3]
            exact q.trans (congrArg some (arrV_congr (fun i hi => congrArg Value.int (hC_cell g (oP_lt s') (oP_lt d) hi))))) (fun i hi => ent_ne (hC_rowne hi) rfl) hP1) (wl_D hD) hS1)
        split at hq
        · rename_i hk
          obtain ⟨k1, k2, k3, k4⟩ := hk
          cases hq
          intro hs H locs la hl hP hD hS
          have he0 := wl_at (ad := ad) (cA := cA) (h := h) (oK_lt (by omega) : s' < psNO)
          have he1 := wl_at (ad := ad) (cA := cA) (h := h) (oK_lt (by omega) : d < psNO)
          rw [ent_1 k4] at he0
          rw [ent_1 k3] at he1
          obtain ⟨na, nb, nc, ea, eb, ec, l1, l2⟩ := cpG_nat g (oP_lt s') (oP_lt d)
          have hn : ∀ {x : Int32} {k : Nat}, x = nI k → k < 2 ^ 31 → ¬ x < 0 := fun {x k} e hk => by rw [e]; exact nI_pos hk
          have o1 := oP_lt s'
          have o2 := oP_lt d
          exact va_copyl (D := D) hx hb (by rw [hml, hl.1]) hown hlk (hts _ lb3) (hts _ lb4) (hts _ lb5) hK hP hD hS s' d 1 1 he0 he1 rfl rfl rfl (hn ea (by omega)) (hn eb (by omega)) (hn ec (by omega)) (by rw [ea, ec, nI_clamp (by omega), nI_clamp (by omega)]; exact l1) (by rw [eb, ec, nI_clamp (by omega), nI_clamp (by omega)]; exact l2) (fun _ _ => rfl) hRf (by rw [cat_map, hnf]; omega) hd (fun H1 locs1 hP1 hD1 hS1 => X hs H1 locs1 la hl (wl_P (h := h) (i := d) (oK_lt (by omega)) (fun q => by
            rw [ent_1 k3]
            exact q.trans (congrArg some (arrV_congr (fun i hi => congrArg Value.long (hCL_cell g (oP_lt s') (oP_lt d) hi))))) (fun i hi => ent_ne rfl (hCL_rowne hi)) hP1) (wl_D hD) hS1)
        · cases hq
      · cases hq
    · cases hq
  · cases hq
theorem swt_in {x : Int32} {t : Nat} : ∀ (l : List (Int32 × Nat)) (d i : Nat), l[i]? = some (x, t) → (∀ j q, j < i → l[j]? = some q → q.1 ≠ x) → swt l d x = t
  | [], _, _, h, _ => by simp at h
  | (k, u) :: r, d, 0, h, _ => by
    simp only [List.getElem?_cons_zero, Option.some.injEq, Prod.mk.injEq] at h
    unfold swt
    rw [if_pos h.1.symm, h.2]
  | (k, u) :: r, d, i + 1, h, hn => by
    have h0 := hn 0 (k, u) (by omega) rfl
    unfold swt
    rw [if_neg (fun q => h0 q.symm)]
    exact swt_in r d i (by simpa using h) (fun j q hj hq => hn (j + 1) q (by omega) (by simpa using hq))
theorem swt_out {x : Int32} : ∀ (l : List (Int32 × Nat)) (d : Nat), (∀ q ∈ l, q.1 ≠ x) → swt l d x = d
  | [], _, _ => rfl
  | (k, u) :: r, d, h => by
    unfold swt
    rw [if_neg (fun q => h (k, u) List.mem_cons_self q.symm)]
    exact swt_out r d (fun q hq => h q (List.mem_cons_of_mem _ hq))
theorem i32_ofInt {x : Int32} {v : Int} (h1 : -1000 < v) (h2 : v < 1000) : Int32.ofInt v = x ↔ v = x.toInt := by
  constructor
  · rintro rfl
    exact (Int32.toInt_ofInt_of_le (by omega) (by omega)).symm
  · rintro rfl
    exact Int32.ofInt_toInt x
theorem sw_ts {d lo hi : Int} {offs : Array Int} {n a pc : Nat} {sw : List (Int32 × Nat)} {x : Int32} {ls : Lc} {st : List Value} {h : Hp} (hx : p.tables.exec = Jvm.exec) (hb : c.code = b) (hd : decode b pc = .ok (.tableswitch d lo hi offs, n)) (h1 : (pc : Int) + d = (a : Int)) (h2 : sw = (List.range offs.size).map (fun (k : Nat) => (Int32.ofInt (lo + (k : Int)), ((pc : Int) + offs.toList.getD k 0).toNat))) (h3 : (offs.size : Int) = hi - lo + 1) (h4 : -1000 < lo) (h5 : hi < 1000) (h6 : offs.all (fun f => decide (0 ≤ (pc : Int) + f)) = true) (X : XWp p l e R s m args below meth c Z ad D cA A ml sc ce sl (swt sw a x) ls st h) : XWp p l e R s m args below meth c Z ad D cA A ml sc ce sl pc ls (.int x :: st) h := by
  have hel : ∀ q, sw[q]? = (if q < offs.size then some (Int32.ofInt (lo + (q : Int)), ((pc : Int) + offs.toList.getD q 0).toNat) else none) := by
    intro q
    rw [h2, List.getElem?_map]
    by_cases hq : q < offs.size
    · rw [List.getElem?_range hq, if_pos hq]; rfl
    · rw [List.getElem?_eq_none (by simp; omega), if_neg hq]; rfl
  by_cases hin : x.toInt < lo ∨ hi < x.toInt
  · have e : swt sw a x = a := swt_out sw a (fun q hq => by
      obtain ⟨j, hj⟩ := List.getElem?_of_mem hq
      rw [hel j] at hj
      split at hj
      · rename_i hl
        cases hj
        intro hz
        have := (i32_ofInt (by omega) (by omega)).mp hz
        omega
      · cases hj)
    rw [e] at X
    exact xw_mv (fun H locs la hl w => lv_tableOut hx hb hd hin h1 w) X
  · have hlo : ¬ x.toInt < lo := fun q => hin (Or.inl q)
    have hhi : ¬ hi < x.toInt := fun q => hin (Or.inr q)
    obtain ⟨j, hj⟩ : ∃ j : Nat, x.toInt - lo = (j : Int) := ⟨(x.toInt - lo).toNat, by omega⟩
    have hjs : j < offs.size := by omega
    have hoff : offs[(x.toInt - lo).toNat]? = some offs[j] := by
      rw [show (x.toInt - lo).toNat = j by omega]
      exact Array.getElem?_eq_getElem hjs
    have hget : offs.toList.getD j 0 = offs[j] := by simp [List.getD_eq_getElem?_getD, hjs]
    have hpos : 0 ≤ (pc : Int) + offs[j] := by
      have := Array.all_eq_true.mp h6 j hjs
      simpa using this
    have e : swt sw a x = ((pc : Int) + offs[j]).toNat := swt_in sw a j (by
      rw [hel j, if_pos hjs, hget, (i32_ofInt (x := x) (by omega) (by omega)).mpr (by omega)]) (fun i q hi' hq => by
      rw [hel i, if_pos (by omega)] at hq
      cases hq
      intro hz
      have := (i32_ofInt (by omega) (by omega)).mp hz
      omega)
    rw [e] at X
    exact xw_mv (fun H locs la hl w => lv_tableIn hx hb hd hlo hhi hoff (by omega) w) X
theorem look_eq {x : Int32} {pc a : Nat} {d : Int} (hd : (pc : Int) + d = (a : Int)) : ∀ (r : List (Int × Int)), (∀ q ∈ r, 0 ≤ (pc : Int) + q.2 ∧ -1000 < q.1 ∧ q.1 < 1000) → (pc : Int) + Op.lookupswitch.offset r d x.toInt = ((swt (r.map (fun q => (Int32.ofInt q.1, ((pc : Int) + q.2).toNat))) a x : Nat) : Int)
  | [], _ => hd
  | (k, f) :: r, h => by
    have h0 := h (k, f) List.mem_cons_self
    have ih := look_eq (x := x) hd r (fun q hq => h q (List.mem_cons_of_mem _ hq))
    show (pc : Int) + (if k = x.toInt then f else Op.lookupswitch.offset r d x.toInt) = ((if x = Int32.ofInt k then ((pc : Int) + f).toNat else swt (r.map (fun q => (Int32.ofInt q.1, ((pc : Int) + q.2).toNat))) a x : Nat) : Int)
    have hh := i32_ofInt (x := x) (v := k) h0.2.1 h0.2.2
    by_cases hk : k = x.toInt
    · rw [if_pos hk, if_pos (hh.mpr hk).symm]
      have := h0.1
      omega
    · rw [if_neg hk, if_neg (fun q => hk (hh.mp q.symm))]
      exact ih
theorem sw_ls {d : Int} {ps : Array (Int × Int)} {n a pc : Nat} {sw : List (Int32 × Nat)} {x : Int32} {ls : Lc} {st : List Value} {h : Hp} (hx : p.tables.exec = Jvm.exec) (hb : c.code = b) (hd : decode b pc = .ok (.lookupswitch d ps, n)) (h1 : (pc : Int) + d = (a : Int)) (h2 : sw = ps.toList.map (fun q => (Int32.ofInt q.1, ((pc : Int) + q.2).toNat))) (h3 : (ps.toList.zip (ps.toList.drop 1)).all (fun (a, next) => a.1 < next.1) = true) (h6 : ps.all (fun q => decide (0 ≤ (pc : Int) + q.2) && decide (-1000 < q.1) && decide (q.1 < 1000)) = true) (X : XWp p l e R s m args below meth c Z ad D cA A ml sc ce sl (swt sw a x) ls st h) : XWp p l e R s m args below meth c Z ad D cA A ml sc ce sl pc ls (.int x :: st) h := by
  have e := look_eq (x := x) h1 ps.toList (fun q hq => by
    have := Array.all_eq_true'.mp h6 q (by simpa using hq)
    simpa [and_assoc] using this)
  rw [← h2] at e
  exact xw_mv (fun H locs la hl w => lv_lookup hx hb hd h3 rfl e w) X
theorem stp_W {cd : Cd} {z z' : Cf} {G : Prop} (hC : CX p R s m args c ad D cA A b o ml sc ce sl) (hcd : okC b o 0 cd = true) (hq : stp cd z = some (G, z')) (g : G) (X : XW p l e R s m args below meth c Z ad D cA A ml sc ce sl z') : XW p l e R s m args below meth c Z ad D cA A ml sc ce sl z := by
  obtain ⟨pc, ls, st, h⟩ := z
  have hx := hC.1
  have hb := hC.2.1
  unfold stp at hq
  split at hq
  · rename_i i n a bb v w sw hat
    have hok := okC_at hcd hat
    rw [Nat.zero_add] at hok
    simp only [okE, Bool.and_eq_true, decide_eq_true_eq] at hok
    obtain ⟨hd, hok⟩ := hok
    dsimp only at hd hok hq
    cases i
    case iload_n q => simp only [okx, beq_iff_eq] at hok; subst hok; exact sw_ldI hx hb hd (Or.inl ⟨q, rfl, rfl, rfl⟩) hq X
    case iload q => simp only [okx, beq_iff_eq] at hok; subst hok; exact sw_ldI hx hb hd (Or.inr ⟨rfl, rfl⟩) hq X
    case lload_n q => simp only [okx, beq_iff_eq] at hok; subst hok; exact sw_ldL hx hb hd (Or.inl ⟨q, rfl, rfl, rfl⟩) hq X
    case lload q => simp only [okx, beq_iff_eq] at hok; subst hok; exact sw_ldL hx hb hd (Or.inr ⟨rfl, rfl⟩) hq X
    case aload_n q => simp only [okx, beq_iff_eq] at hok; subst hok; exact sw_ldA hx hb hd (Or.inl ⟨q, rfl, rfl, rfl⟩) hq X
    case aload q => simp only [okx, beq_iff_eq] at hok; subst hok; exact sw_ldA hx hb hd (Or.inr ⟨rfl, rfl⟩) hq X
    case istore_n q => simp only [okx, beq_iff_eq] at hok; subst hok; exact sw_stI hx hb hd (Or.inl ⟨q, rfl, rfl, rfl⟩) hq X
    case istore q => simp only [okx, beq_iff_eq] at hok; subst hok; exact sw_stI hx hb hd (Or.inr ⟨rfl, rfl⟩) hq X
    case iconst q => simp only [okx, Bool.and_eq_true, beq_iff_eq, decide_eq_true_eq] at hok; obtain ⟨rfl, hv⟩ := hok; cases hq; exact xw_mv (fun H locs la hl w => lv_iconst hx hb hd hv w) X
    case bipush q => simp only [okx, Bool.and_eq_true, beq_iff_eq, decide_eq_true_eq] at hok; obtain ⟨rfl, hv⟩ := hok; cases hq; exact xw_mv (fun H locs la hl w => lv_bipush hx hb hd hv w) X
    case sipush q => simp only [okx, Bool.and_eq_true, beq_iff_eq, decide_eq_true_eq] at hok; obtain ⟨rfl, hv⟩ := hok; cases hq; exact xw_mv (fun H locs la hl w => lv_sipush hx hb hd hv w) X
    case lconst q => simp only [okx, Bool.and_eq_true, beq_iff_eq, decide_eq_true_eq] at hok; obtain ⟨rfl, hv⟩ := hok; cases hq; exact xw_mv (fun H locs la hl w => lv_lconst hx hb hd hv w) X
    case ldc q => simp only [okx, Bool.and_eq_true, beq_iff_eq] at hok; obtain ⟨rfl, hv⟩ := hok; exact sw_ldc hC hd hv hq X
    case ldc_w q => simp only [okx, Bool.and_eq_true, beq_iff_eq] at hok; obtain ⟨rfl, hv⟩ := hok; cases hq; exact sw_ldcw hC hd hv X
    case ldc2_w q => simp only [okx, Bool.and_eq_true, beq_iff_eq] at hok; obtain ⟨rfl, hv⟩ := hok; cases hq; exact sw_ldc2 hC hd hv X
    case iadd => simp only [okx, beq_iff_eq] at hok; subst hok; exact sw_I2 (fun H locs la rest x y w => lv_iadd hx hb hd w) hq X
    case isub => simp only [okx, beq_iff_eq] at hok; subst hok; exact sw_I2 (fun H locs la rest x y w => lv_isub hx hb hd w) hq X
    case imul => simp only [okx, beq_iff_eq] at hok; subst hok; exact sw_I2 (fun H locs la rest x y w => lv_imul hx hb hd w) hq X
    case iand => simp only [okx, beq_iff_eq] at hok; subst hok; exact sw_I2 (fun H locs la rest x y w => lv_iand hx hb hd w) hq X
    case ior => simp only [okx, beq_iff_eq] at hok; subst hok; exact sw_I2 (fun H locs la rest x y w => lv_ior hx hb hd w) hq X
    case ixor => simp only [okx, beq_iff_eq] at hok; subst hok; exact sw_I2 (fun H locs la rest x y w => lv_ixor hx hb hd w) hq X
    case ishl => simp only [okx, beq_iff_eq] at hok; subst hok; exact sw_I2 (fun H locs la rest x y w => lv_ishl hx hb hd w) hq X
    case ishr => simp only [okx, beq_iff_eq] at hok; subst hok; exact sw_I2 (fun H locs la rest x y w => lv_ishr hx hb hd w) hq X
    case iushr => simp only [okx, beq_iff_eq] at hok; subst hok; exact sw_I2 (fun H locs la rest x y w => lv_iushr hx hb hd rfl w) hq X
    case idiv => simp only [okx, beq_iff_eq] at hok; subst hok; exact sw_I2g (fun H locs la rest x y hy w => lv_idiv hx hb hd hy w) hq g X
    case irem => simp only [okx, beq_iff_eq] at hok; subst hok; exact sw_I2g (fun H locs la rest x y hy w => lv_irem hx hb hd hy w) hq g X
    case ineg => simp only [okx, beq_iff_eq] at hok; subst hok; exact sw_I1 (fun H locs la rest x w => lv_ineg hx hb hd w) hq X
    case i2b => simp only [okx, beq_iff_eq] at hok; subst hok; exact sw_I1 (fun H locs la rest x w => lv_i2b hx hb hd rfl w) hq X
    case i2s => simp only [okx, beq_iff_eq] at hok; subst hok; exact sw_I1 (fun H locs la rest x w => lv_i2s hx hb hd rfl w) hq X
    case i2c => simp only [okx, beq_iff_eq] at hok; subst hok; exact sw_I1 (fun H locs la rest x w => lv_i2c hx hb hd rfl w) hq X
    case i2l =>
      simp only [okx, beq_iff_eq] at hok; subst hok
      simp only [stI] at hq
      split at hq
      · cases hq; exact xw_mv (fun H locs la hl w => lv_i2l hx hb hd rfl w) X
      · cases hq
    case l2i =>
      simp only [okx, beq_iff_eq] at hok; subst hok
      simp only [stI] at hq
      split at hq
      · cases hq; exact xw_mv (fun H locs la hl w => lv_l2i hx hb hd rfl w) X
      · cases hq
    case ladd => simp only [okx, beq_iff_eq] at hok; subst hok; exact sw_L2 (fun H locs la rest x y w => lv_ladd hx hb hd w) hq X
    case lsub => simp only [okx, beq_iff_eq] at hok; subst hok; exact sw_L2 (fun H locs la rest x y w => lv_lsub hx hb hd w) hq X
    case lmul => simp only [okx, beq_iff_eq] at hok; subst hok; exact sw_L2 (fun H locs la rest x y w => lv_lmul hx hb hd w) hq X
    case lshl => simp only [okx, beq_iff_eq] at hok; subst hok; exact sw_LI (fun H locs la rest x y w => lv_lshl hx hb hd rfl w) hq X
    case lshr => simp only [okx, beq_iff_eq] at hok; subst hok; exact sw_LI (fun H locs la rest x y w => lv_lshr hx hb hd rfl w) hq X
    case lcmp =>
      simp only [okx, beq_iff_eq] at hok; subst hok
      simp only [stI] at hq
      split at hq
      · cases hq; exact xw_mv (fun H locs la hl w => W.lcmp hx hb hd w) X
      · cases hq
    case iinc k q => simp only [okx, Bool.and_eq_true, beq_iff_eq, decide_eq_true_eq] at hok; obtain ⟨rfl, hv⟩ := hok; exact sw_iinc hx hb hd hv hq X
    case ifCond q f => simp only [okx, Bool.and_eq_true, beq_iff_eq, decide_eq_true_eq] at hok; obtain ⟨rfl, hv⟩ := hok; exact sw_if hx hb hd hv hq X
    case if_icmp q f => simp only [okx, Bool.and_eq_true, beq_iff_eq, decide_eq_true_eq] at hok; obtain ⟨rfl, hv⟩ := hok; exact sw_ic hx hb hd hv hq X
    case goto f => simp only [okx, Bool.and_eq_true, beq_iff_eq, decide_eq_true_eq] at hok; obtain ⟨rfl, hv⟩ := hok; cases hq; exact xw_mv (fun H locs la hl w => lv_goto hx hb hd hv w) X
    case ifnull f =>
      simp only [okx, beq_iff_eq] at hok; subst hok
      simp only [stI] at hq
      split at hq
      · cases hq; exact xw_mv (fun H locs la hl w => lv_ifnull hx hb hd w) X
      · cases hq
    case ifnonnull f =>
      simp only [okx, Bool.and_eq_true, beq_iff_eq, decide_eq_true_eq] at hok; obtain ⟨rfl, hv⟩ := hok
      simp only [stI] at hq
      split at hq
      · cases hq; exact xw_mv (fun H locs la hl w => lv_ifnonnull hx hb hd hv w) X
      · cases hq
    case getfield k => rw [okx, Bool.and_eq_true, Bool.and_eq_true, Bool.and_eq_true, beq_iff_eq, decide_eq_true_eq] at hok; obtain ⟨⟨⟨rfl, hv0⟩, -⟩, hv⟩ := hok; exact sw_gf hC hd hv hv0 hq X
    case putfield k => rw [okx, Bool.and_eq_true, Bool.and_eq_true, Bool.and_eq_true, beq_iff_eq, decide_eq_true_eq] at hok; obtain ⟨⟨⟨rfl, hv0⟩, -⟩, hv⟩ := hok; exact sw_pf hC hd hv hv0 hq g X
    case getstatic k => rw [okx, Bool.and_eq_true, beq_iff_eq] at hok; obtain ⟨rfl, hv⟩ := hok; cases hq; exact sw_gs hC hd hv X
    case arraylength => simp only [okx, beq_iff_eq] at hok; subst hok; exact sw_al hC hd hq X
    case iaload => simp only [okx, beq_iff_eq] at hok; subst hok; exact sw_ial hC hd hq g X
    case baload => simp only [okx, beq_iff_eq] at hok; subst hok; exact sw_bal hC hd hq g X
    case laload => simp only [okx, beq_iff_eq] at hok; subst hok; exact sw_lal hC hd hq g X
    case iastore => simp only [okx, beq_iff_eq] at hok; subst hok; exact sw_ias hC hd hq g X
    case bastore => simp only [okx, beq_iff_eq] at hok; subst hok; exact sw_bas hC hd hq g X
    case lastore => simp only [okx, beq_iff_eq] at hok; subst hok; exact sw_las hC hd hq g X
    case dup =>
      simp only [okx, beq_iff_eq] at hok; subst hok
      simp only [stI] at hq
      split at hq
      · cases hq; exact xw_mv (fun H locs la hl w => lv_dup hx hb hd rfl w) X
      · cases hq; exact xw_mv (fun H locs la hl w => lv_dup hx hb hd rfl w) X
      · cases hq
    case pop =>
      simp only [okx, beq_iff_eq] at hok; subst hok
      simp only [stI] at hq
      split at hq
      · cases hq; exact xw_mv (fun H locs la hl w => lv_pop hx hb hd rfl w) X
      · cases hq; exact xw_mv (fun H locs la hl w => lv_pop hx hb hd rfl w) X
      · cases hq
    case dup2 =>
      simp only [okx, beq_iff_eq] at hok; subst hok
      simp only [stI] at hq
      split at hq
      · cases hq; exact xw_mv (fun H locs la hl w => lv_dup2_11 hx hb hd rfl rfl w) X
      · cases hq
    case tableswitch d lo hi offs =>
      simp only [okx, Bool.and_eq_true, decide_eq_true_eq] at hok
      obtain ⟨⟨⟨⟨⟨h1, h2⟩, h3⟩, h4⟩, h5⟩, h6⟩ := hok
      simp only [stI] at hq
      split at hq
      · cases hq; exact sw_ts hx hb hd h1 h2 h3 h4 h5 h6 X
      · cases hq
    case lookupswitch d ps =>
      rw [okx, Bool.and_eq_true, Bool.and_eq_true, Bool.and_eq_true, decide_eq_true_eq, decide_eq_true_eq] at hok
      obtain ⟨⟨⟨h1, h2⟩, h3⟩, h6⟩ := hok
      simp only [stI] at hq
      split at hq
      · cases hq; exact sw_ls hx hb hd h1 h2 h3 h6 X
      · cases hq
    case invokestatic k =>
      rw [okx, Bool.and_eq_true, beq_iff_eq] at hok
      obtain ⟨rfl, hv⟩ := hok
      simp only [stI] at hq
      split at hq
      · cases hq
      · rename_i ha
        rw [if_neg ha] at hv
        exact sw_lib hC hd ha hv hq g X
    all_goals (simp only [stI, reduceCtorEq] at hq)
  · cases hq
end SOUND
