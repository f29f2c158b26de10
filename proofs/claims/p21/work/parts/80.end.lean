/-! The claim (the skeleton of the kit, filled). -/
/-! THE CLAIM OUT OF ONE WALK OF THE LAW'S BODY. Your part is whole_start (and what it stands on); all else here is the same for every law, but numbers. -/
noncomputable def R_law : String := "PrisonShopsLaw"
noncomputable def lw_P (b : Addr) (xs : List Int32) (args : Array Value) (s : State) : Prop := args = #[.ref b] ∧ s.IntsAt b xs ∧ xs.length ≤ 3072 ∧ (Jvm.Cond.and given_1 narrow_1).before args s = true
noncomputable def lw_Q (_ : Array Value) (s : State) (o : Outcome) (t : State) : Prop := o = .returned (some (.int 1)) ∧ Framed s o t [] 600000 7302250
noncomputable def lw_Z (below : List Frame) (a : Array Value) (s : State) : State → Prop := fun t => ∃ o, t.status = .running ∧ Ended t below o ∧ lw_Q a s o t
/-- the law's own end, with 1 on the stack, nothing written that was there before, its room as the claim has it -/
theorem lw_ret {p : Program} {l : Launch} {e : Env} {s : State} {m : MethodId} {below : List Frame} {meth : Method} {c : Code} {b : Nat} (hx : p.tables.exec = Jvm.exec) (hb : c.code = code) (hr : meth.sig.returnType = ret) (hlocks : meth.locks = false) {pc : Nat} {H : Heap} {ls : Array Slot} (hdg : decode code pc = .ok (.ireturn, 1)) : W p l e room_1 s m #[Value.ref b] below meth c H [] 600000 7302250 (lw_Z below #[Value.ref b] s) (F0 m pc ls [.int 1]) := by
  intro T hT X
  obtain ⟨fs, hret, hrun, hended, hW, hframe⟩ := X.leave (v := some (.int 1)) (hlocks := hlocks) (fun h => by rw [hr] at h; cases h)
  have hmeth' : T.vm.method? m = some meth := X.method'
  refine ⟨T.setFrames fs, ?_, .returned (some (.int 1)), hrun, hended, rfl, ⟨_, rfl⟩, hW, hframe⟩
  jvm_step X.here [X.here.top, hx, hb, hdg, hmeth', hr, ret, narrow_b1]
  (try refine ⟨rfl, ?_⟩); (try refine ⟨rfl, ?_⟩)
  first | (intro acts; rw [hret _ acts rfl rfl rfl]) | rw [hret _ _ rfl rfl rfl]
  exact Steps.refl _
/-- what holds at the law's entry: the machine, the code, the tables' words (any of lw_tbl by 'hts w (by decide +kernel)'), the script of L ints xs at the cell b, what the Statement gives of the start (any of its parts by flat_of_before) -/
noncomputable def lw_At (p : Program) (s : State) (m : MethodId) (meth : Method) (c : Code) (b L : Nat) (xs : Nat → Int32) : Prop :=
  p.tables.exec = Jvm.exec ∧ c.code = code ∧ meth.sig.returnType = ret ∧ c.maxLocals = 4 ∧ s.vm.findClass R_law = some m.cls ∧ (∀ w ∈ lw_tbl, w.before #[Value.ref b] s = true) ∧ va_X b L xs s s.heap ∧ b < s.heap.size ∧ meth.locks = false ∧ (Jvm.Cond.and given_1 narrow_1).before #[Value.ref b] s = true
set_option maxRecDepth 100000 in
theorem whole_start {p : Program} {e : Env} {s : State} {m : MethodId} {below : List Frame} {meth : Method} {c : Code} (l : Launch) {b L : Nat} {xs : Nat → Int32} (hL : L ≤ 3072) (C0 : lw_At p s m meth c b L xs) : W p l e room_1 s m #[Value.ref b] below meth c s.heap [] 0 0 (lw_Z below #[Value.ref b] s) (entryFrame m ([Value.ref b] : List Value).toArray 4) := by
  obtain ⟨hx, hb, hr, hml, hown, hts0, hXs, hbl, hlocks, hgv⟩ := id C0
  have hts : ∀ w ∈ gT, w.before #[Value.ref b] s = true := fun w hw => hts0 w (gT_lw w hw)
  have hfl := flat_of_before _ hgv
  obtain ⟨G, hkto, hGl, hGs, hGk, hGr, hGf, hGx⟩ : ∃ G : List Kb, kto 900 12 16 z0K = some (16, lcK, [], G) ∧ G.length = 84 ∧ slG G ≤ 100000 ∧ (∀ i, i < 84 → kbA G i = true) ∧ rgT.all (rg0C G) = true ∧ (h0w G 66 4 = 0 ∧ h0w G 67 4 = 0 ∧ h0w G 66 0 = 0 ∧ h0w G 67 0 = 0) ∧ (h0w G 2 2 = 0 ∧ h0w G 66 1 = 0 ∧ h0w G 13 2 = 0 ∧ h0w G 67 1 = 0 ∧ h0w G 4 2 = 0 ∧ h0w G 66 2 = 0 ∧ h0w G 15 2 = 0 ∧ h0w G 67 2 = 0 ∧ h0w G 8 2 = 0 ∧ h0w G 66 4 = 0 ∧ h0w G 19 2 = 0 ∧ h0w G 67 4 = 0 ∧ h0w G 10 2 = 0 ∧ h0w G 66 5 = 0 ∧ h0w G 21 2 = 0 ∧ h0w G 67 5 = 0 ∧ h0w G 1 5 = 0 ∧ h0w G 12 5 = 0 ∧ h0w G 0 12 = 0 ∧ h0w G 65 3 = 0 ∧ h0w G 53 1 = 0 ∧ h0w G 65 16 = 0 ∧ h0w G 1 6 = 0 ∧ h0w G 66 6 = 0 ∧ h0w G 12 6 = 0 ∧ h0w G 67 6 = 0 ∧ h0w G 6 2 = 0 ∧ h0w G 66 3 = 0 ∧ h0w G 17 2 = 0 ∧ h0w G 67 3 = 0 ∧ h0w G 0 11 = 0 ∧ h0w G 65 34 = 0 ∧ rl0 G 0 = true ∧ rl0 G 5 = true ∧ rl0 G 16 = true ∧ rl0 G 21 = true ∧ rl0 G 32 = true ∧ rl0 G 37 = true ∧ rl0 G 48 = true ∧ rl0 G 53 = true ∧ rl0 G 64 = true ∧ rl0 G 69 = true ∧ rl0 G 80 = true ∧ rl0 G 85 = true ∧ rl0 G 96 = true ∧ rl0 G 101 = true ∧ rl0 G 112 = true ∧ rl0 G 117 = true ∧ rl0 G 128 = true ∧ rl0 G 133 = true ∧ rl0 G 144 = true ∧ rl0 G 149 = true ∧ rl0 G 208 = true ∧ rl0 G 213 = true ∧ rl0 G 224 = true ∧ rl0 G 229 = true ∧ rl0 G 240 = true ∧ rl0 G 245 = true ∧ rl0 G 256 = true ∧ rl0 G 261 = true ∧ rl0 G 288 = true ∧ rl0 G 293 = true ∧ rl0 G 304 = true ∧ rl0 G 309 = true ∧ rl0 G 320 = true ∧ rl0 G 325 = true ∧ rl0 G 336 = true ∧ rl0 G 341 = true ∧ rl0 G 352 = true ∧ rl0 G 357 = true ∧ rl0 G 368 = true ∧ rl0 G 373 = true ∧ rl0 G 384 = true ∧ rl0 G 389 = true ∧ rl0 G 400 = true ∧ rl0 G 405 = true ∧ rl0 G 416 = true ∧ rl0 G 421 = true ∧ rl0 G 432 = true ∧ rl0 G 437 = true ∧ rl0 G 448 = true ∧ rl0 G 453 = true ∧ rl0 G 464 = true ∧ rl0 G 469 = true ∧ rl0 G 480 = true ∧ rl0 G 485 = true ∧ rl0 G 512 = true ∧ rl0 G 517 = true ∧ rl0 G 528 = true ∧ rl0 G 533 = true ∧ rl0 G 544 = true ∧ rl0 G 549 = true ∧ rl0 G 560 = true ∧ rl0 G 565 = true ∧ rl0 G 576 = true ∧ rl0 G 581 = true ∧ rl0 G 592 = true ∧ rl0 G 597 = true ∧ rl0 G 2003 = true ∧ rl0 G 2005 = true ∧ rl0 G 2007 = true ∧ zr0 G 64 = true ∧ zr0 G 68 = true ∧ zr0 G 80 = true ∧ zr0 G 84 = true ∧ zr0 G 96 = true ∧ zr0 G 100 = true ∧ zr0 G 208 = true ∧ zr0 G 212 = true ∧ zr0 G 224 = true ∧ zr0 G 228 = true ∧ zr0 G 288 = true ∧ zr0 G 292 = true ∧ zr0 G 304 = true ∧ zr0 G 308 = true ∧ zr0 G 432 = true ∧ zr0 G 436 = true ∧ bg0 G 0 = true ∧ bg0 G 5 = true ∧ ub0 G 0 = true ∧ ub0 G 4 = true ∧ ub0 G 8 = true ∧ ub0 G 12 = true ∧ ub0 G 16 = true ∧ True ∧ hn0 G 0 = true ∧ hn0 G 0 = true ∧ ub0 G 1 = true ∧ ub0 G 5 = true ∧ ub0 G 9 = true ∧ ub0 G 13 = true ∧ ub0 G 17 = true ∧ True ∧ hn0 G 1 = true ∧ hn0 G 1 = true ∧ h0w G 74 0 = 0 ∧ h0w G 74 1 = 0 ∧ h0w G 74 2 = 0) := ⟨GK, kto_end, gk_len.1, gk_len.2, gk_ok, rg0_ok, h0_facts, h0_more⟩
  let A : Nat → Prop := fun q => s.heap.size ≤ q
  have hA0 : ∀ a : Nat, a < s.heap.size → ¬ A a := fun a h1 h2 => by
    have : s.heap.size ≤ a := h2
    omega
  obtain ⟨wT, wI, wC, wSI, wQ, wP, wW, wK⟩ := wd_T
  obtain ⟨adK, adV, hE, hTm⟩ := vk_Sof (args := #[Value.ref b]) (s := s) (N := 12) (tm := tmS) (len := stT'.map List.length) (byt := stT'.map (fun l => l.map nI)) (A := A) (fun i hi => by have := (jB_ok i hi).1; show jL i < _; omega) (fun i hi => hfl _ (pr_S i hi).1) (fun i hi => hfl _ (pr_S i hi).2.1) (fun i hi => hfl _ (pr_S i hi).2.2.1) (fun i hi => hfl _ (pr_S i hi).2.2.2) (fun i hi j hj => hfl _ (pr_E i hi j hj)) (fun i j hi hj hij => (pr_N i hi j hj hij).imp (hfl _) (hfl _)) hA0
  have hTb : ∀ k : Nat, ∃ t : Nat, k < 4 → (tmT k).eval #[Value.ref b] s none [] s = some (.ref t) ∧ va_T .int t 6 (fun j => .int ((roT (1200 + k)).getD j 0)) A s s.heap := fun k => by
    by_cases hk : k < 4
    · obtain ⟨t, h1, h2⟩ := va_Tof (f := fun j => .int ((roT (1200 + k)).getD j 0)) (A := A) (by decide) (hfl _ (pr_T k hk).1.1) (va_eqt (hfl _ (pr_T k hk).1.2)) (fun j hj => va_eqt (hfl _ ((pr_T k hk).2 j hj))) hA0
      exact ⟨t, fun _ => ⟨h1, h2⟩⟩
    · exact ⟨0, fun h => absurd h hk⟩
  obtain ⟨adT, hadT⟩ := Classical.axiomOfChoice hTb
  have hZq : va_Zq "jdk/internal/util/Preconditions" "SIOOBE_FORMATTER" "Ljava/util/function/BiFunction;" A s s.heap := va_Zqof (hts0 _ wQ) (hts0 _ wP) (hfl _ pr_C.2) hA0
  have hZc : va_Z "java/lang/String" "COMPACT_STRINGS" "Z" (.int 1) A s s.heap := va_Zof (hts0 _ wC) (hts0 _ wSI) (va_eqt (hfl _ pr_C.1)) hA0
  let ad : Nat → Nat := fun i => if i < 1000 then s.heap.size + i else if i < 1100 then adK (i - 1000) else if i < 1200 then adV (i - 1100) else if i < 1300 then adT (i - 1200) else b
  have had : ∀ i, i < 1000 → ad i = s.heap.size + i := fun i hi => if_pos hi
  have hadK : ∀ i, i < 12 → ad (1000 + i) = adK i := fun i hi => by
    show (if 1000 + i < 1000 then _ else if 1000 + i < 1100 then adK (1000 + i - 1000) else _) = _
    rw [if_neg (by omega), if_pos (by omega), Nat.add_sub_cancel_left]
  have hadV : ∀ i, i < 12 → ad (1100 + i) = adV i := fun i hi => by
    show (if 1100 + i < 1000 then _ else if 1100 + i < 1100 then _ else if 1100 + i < 1200 then adV (1100 + i - 1100) else _) = _
    rw [if_neg (by omega), if_neg (by omega), if_pos (by omega), Nat.add_sub_cancel_left]
  have hadT' : ∀ i, i < 4 → ad (1200 + i) = adT i := fun i hi => by
    show (if 1200 + i < 1000 then _ else if 1200 + i < 1100 then _ else if 1200 + i < 1200 then _ else if 1200 + i < 1300 then adT (1200 + i - 1200) else _) = _
    rw [if_neg (by omega), if_neg (by omega), if_neg (by omega), if_pos (by omega), Nat.add_sub_cancel_left]
  have hadb : ad 1300 = b := rfl
  let sc : Nat × (Nat → Int32) := (L, xs)
  have hXT : va_T .int (ad 1300) sc.1 (fun j => .int (sc.2 j)) A s s.heap := by
    obtain ⟨scr, h1, h2, h3, h4, h5⟩ := hXs
    exact ⟨scr, h1, h2, h3, by rw [h4]; exact Nat.le_refl _, by rw [h4], h5, hA0 _ hbl⟩
  have hJF : JF ad A s s.heap := by
    refine ⟨fun q hq => ?_, ⟨fun i hi => ?_, fun i j hi hj e => ?_⟩, hZc, hZq⟩
    · obtain ⟨i, hi, rfl⟩ := List.getElem_of_mem hq
      have hi12 : i < 12 := by rw [strT_len] at hi; exact hi
      have e1 : strT.getD i (0, "", 0) = strT[i] := by rw [List.getD_eq_getElem?_getD, List.getElem?_eq_getElem hi]; rfl
      have e2 := st_i i hi12
      rw [e1] at e2
      have e3 := hTm i hi12
      unfold tmS at e3
      rw [e1] at e3
      have hq2 : ∀ q : Nat × String × Nat, q ∈ strT → q.2.2 = 1000 + i → (Term.string "PrisonShops$Reader" q.1).eval #[Value.ref b] s none [] s = some (.ref (adK i)) → vk_R "PrisonShops$Reader" q.1 q.2.1 (ad q.2.2) s := fun q hq h2 h3 => by
        rw [h2, hadK i hi12]
        exact vk_R.of (A := #[Value.ref b]) (hts0 _ (wd_S _ hq)) h3
      exact hq2 _ hq e2 e3
    · dsimp only
      rw [hadK i hi, hadV i hi]
      exact hE.1 i hi
    · dsimp only at e
      rw [hadK i hi, hadK j hj] at e
      exact hE.2 i j hi hj e
  have hSF : SF ad A sc s s.heap := by
    refine ⟨fun k hk => ?_, hXT, va_Nw.of rfl (hts0 _ wW), va_Nw.of rfl (hts0 _ wK), hJF, ?_⟩
    · rw [hadT' k hk]
      exact ⟨va_Zref (hts0 _ (wT k hk)) (hts0 _ wI) (hadT k hk).1 hA0, (hadT k hk).2⟩
    · show L < 2 ^ 31
      omega
  have hNS : NS s := by
    intro q hq y hy
    have h1 := wd_N q hq
    cases hp : psK[q.2.2.1]? with
    | none => rw [hp] at hy; cases hy
    | some mk =>
      rw [hp] at hy h1
      cases hy
      exact va_Nw.of rfl (hts0 _ (by simpa using h1))
  obtain ⟨cA, hcA⟩ : ∃ cA : Nat → ClassId, ∀ (k : Nat) (q : ClassId × FieldType), (tysP cA)[k]? = some q → ArrOfT s q.1 q.2 ∧ va_RA s q.1 q.2 := by
    obtain ⟨c0, k0, m0, a1, a2, a3⟩ := Cond.arrayClass_spec (hts _ lb10)
    obtain ⟨c1, k1, m1, b1, b2, b3⟩ := Cond.arrayClass_spec (hts _ lb11)
    obtain ⟨c2, k2, m2, d1, d2, d3⟩ := Cond.arrayClass_spec (hts _ lb12)
    refine ⟨fun k => if k = 0 then c0 else if k = 1 then c1 else c2, fun k q hq => ?_⟩
    match k, hq with
    | 0, hq => cases hq; exact ⟨fun n z => ⟨fun k h => (by cases h), k0, a2, m0, a3⟩, a1⟩
    | 1, hq => cases hq; exact ⟨fun n z => ⟨fun k h => (by cases h), k1, b2, m1, b3⟩, b1⟩
    | 2, hq => cases hq; exact ⟨fun n z => ⟨fun k h => (by cases h), k2, d2, m2, d3⟩, d1⟩
    | k + 3, hq => simp [tysP] at hq
  have hKx : ∀ k : Nat, ∃ x : ClassId × (Nat → Nat), ∀ q, vwCl[k]? = some q → u_Kn s q.1 q.2.1 q.2.2 x.1 x.2 := fun k => by
    cases hk : vwCl[k]? with
    | none => exact ⟨(0, fun _ => 0), fun q h => by cases h⟩
    | some q =>
      have hk12 : k < 12 := (List.getElem?_eq_some_iff.mp hk).1
      have h1 := wd_K k hk12
      rw [hk] at h1
      obtain ⟨C, T, N⟩ := q
      obtain ⟨cC, iS, h2⟩ := u_known (C := C) (T := T) (N := N) (n := N) hts (vw_gT hk) (hts0 _ (by simpa using h1))
      exact ⟨(cC, iS), fun q h => by cases h; exact h2⟩
  obtain ⟨dK, hdK⟩ := Classical.axiomOfChoice hKx
  let D : va_G := (fun k => (dK k).1, fun k => (dK k).2)
  have hK : va_K D vwCl (tysP cA) s := ⟨fun k q hq => hdK k q hq, hcA⟩
  have hAi : ∀ q, A q ↔ s.heap.size ≤ q := fun q => Iff.rfl
  -- the constructors
  have hCK : CK p room_1 s m #[Value.ref b] meth c ad D cA A code 13 4 s.heap.size := ⟨hx, hb, hml, hown, hts, hK, hNS, fun h => absurd h (by decide), hAi, had, Nat.le_refl _, by decide, by decide⟩
  have hl := lv_entry ([Value.ref b] : List Value) (n := 4) (Nat.le_of_ble_eq_true rfl)
  rw [lg_entry_eq]
  generalize (lg_sl ([Value.ref b] : List Value) ++ List.replicate (4 - (lg_sl ([Value.ref b] : List Value)).length) Slot.unset).toArray = la at hl ⊢
  have hLH : LH ad la 4 [some (.ref 1300), none, none, none] := LH.of hl rfl (fun k v hk => by
    match k, hk with
    | 0, hk => cases hk; exact List.mem_cons_self
    | 1, hk => cases hk
    | 2, hk => cases hk
    | 3, hk => cases hk
    | k + 4, hk => simp at hk)
  have hCX : CX p room_1 s m #[Value.ref b] c ad D cA A code 13 4 sc 84 (slG G) := ⟨hx, hb, hml, hown, hts, hK, hSF, by decide, by decide, by decide, Nat.le_trans hGs (by decide)⟩
  have fin : XK p l e room_1 s m #[Value.ref b] below meth c (lw_Z below #[Value.ref b] s) ad D cA A 4 s.heap.size 0 0 (16, lcK, [], G) := by
    intro H locs la hl hz hP hD hS _ _
    have hclo : Clo (Call 118) cdL (some .boolean) (fun r _ => r = some (.int 1)) (XW p l e room_1 s m #[Value.ref b] below meth c (lw_Z below #[Value.ref b] s) ad D cA A 4 sc 84 (slG G)) := by
      refine ⟨fun z z' G hq g X => stp_W hCX cdL_ok hq g X, fun pc ls st h' mid' n' as' rest hcal hn hst hsum hcall => ?_, fun z G r hq g hQ => ?_⟩
      · have ih := co_of (l := l) (ad := ad) (D := D) (cA := cA) (A := A) (sc := sc) lb_of 118 mid' as' h' _ hcall
        subst hst
        unfold cal at hcal
        split at hcal
        · rename_i k n1 a1 b1 tl hat
          cases hcal
          obtain ⟨v1, w1, sw1⟩ := tl
          have hok := okC_at cdL_ok hat
          rw [Nat.zero_add] at hok
          simp only [okE, Bool.and_eq_true, decide_eq_true_eq] at hok
          exact ih p e _ s m _ below meth c _ code 13 4 84 (slG G) pc ls rest _ _ b1 v1 w1 sw1 hCX (by decide) (by decide) hok.1 hok.2 (Or.inl ⟨⟨k, rfl⟩, hn⟩) hsum (fun r h1 hr => hr)
        · rename_i k n1 a1 b1 tl hat
          split at hcal
          · rename_i h1000
            cases hcal
            obtain ⟨v1, w1, sw1⟩ := tl
            have hok := okC_at cdL_ok hat
            rw [Nat.zero_add] at hok
            simp only [okE, Bool.and_eq_true, decide_eq_true_eq] at hok
            exact ih p e _ s m _ below meth c _ code 13 4 84 (slG G) pc ls rest _ _ _ v1 w1 sw1 hCX (by decide) (by decide) hok.1 hok.2 (Or.inr ⟨⟨k, rfl⟩, h1000, hn⟩) hsum (fun r h1 hr => hr)
          · cases hcal
        · cases hcal
      · obtain ⟨pc, ls, st, h⟩ := z
        subst hQ
        unfold rtp at hq
        split at hq
        · rename_i i tl hat
          obtain ⟨n, a, bb, v, w, sw⟩ := tl
          have hok := okC_at cdL_ok hat
          rw [Nat.zero_add] at hok
          simp only [okE, Bool.and_eq_true, decide_eq_true_eq] at hok
          obtain ⟨hd, hok⟩ := hok
          dsimp only at hd hok hq
          unfold rok at hq
          split at hq
          · simp only [okx, beq_iff_eq] at hok
            subst hok
            cases hq
            intro hs H locs la hl hP hD hS
            refine va_forget (fun q hq => hS.2.2 q hq) ?_
            refine W.widen (k := 600000) (n := 7302250) (by decide) (Nat.le_trans hGs (by decide)) ?_
            exact lw_ret hx hb hr hlocks hd
          · cases hq
          · cases hq
          · cases hq
          · cases hq
        · cases hq
    have := law_X (d := 118) (Nat.le_refl _) (G := G) (sc := sc) hL hGr hGf hGx hclo (fun _ => rfl)
    have hw := this rfl H locs la hl (start_P hGk hP) (start_D had hAi) hS
    have e84 : G.length - 0 = 84 := by rw [hGl]
    rw [e84, Nat.sub_zero]
    exact hw
  have run := kto_W (l := l) (ad := ad) (D := D) (cA := cA) (A := A) (base := s.heap.size) 900 12 16 _ _ hkto p e room_1 s m #[Value.ref b] below meth c (lw_Z below #[Value.ref b] s) code 4 0 0 (by rw [kcd12]; exact hCK) (by rw [kcd12]; exact cdk12_ok) (by decide) (by decide) (by show G.length - 0 ≤ 600000; rw [hGl]; decide) (Nat.le_trans (Nat.sub_le _ _) (Nat.le_trans hGs (by decide))) fin
  exact run s.heap [] la hLH rfl (fun k q h => by simp [wlk, z0K] at h) ⟨fun i j p q h => by simp [wlk, z0K] at h, fun k q h => by simp [wlk, z0K] at h⟩ va_S.rf (Nat.zero_le _) (Nat.zero_le _)
set_option maxHeartbeats 4000000 in
theorem lw_walk (l : Launch) (b : Addr) (xs : List Int32) : MetFree l x (headSpec (Jvm.Cond.code x code maxLocals ret :: tables_1) room_1) (lw_P b xs) (fun _ _ _ _ _ => True) lw_Q := by
  refine MetFree.of_bodyS (code := code) (maxLocals := maxLocals) (ret := ret) (by decide) ?_ ?_
  · intro args s m h hn
    obtain ⟨meth, c, h1, h2, h3, h4, h5, h6, -, -⟩ := Cond.code_spec hn (atoms_spec (ws := Jvm.Cond.code x code maxLocals ret :: tables_1) h _ List.mem_cons_self)
    exact ⟨meth, c, h1, h2, h3, h4, h5, h6⟩
  · intro p e s m args below meth c s₁ B hml0 hP _
    obtain ⟨rfl, hx, hbd, hgv⟩ := hP
    obtain ⟨scr, harrAt, hlist, hof, hsmall⟩ := hx
    obtain ⟨hcb, hkn, -, -⟩ := State.arrayAt?_spec harrAt
    have hown : s.vm.findClass R_law = some m.cls := findClass_of_methodNamed B.named
    have hts0 : ∀ c ∈ (Jvm.Cond.code x code maxLocals ret :: tables_1), c.before #[Value.ref b] s = true := atoms_spec (ws := Jvm.Cond.code x code maxLocals ret :: tables_1) B.pre
    have hts : ∀ w ∈ lw_tbl, w.before #[Value.ref b] s = true := k2_hts_sels lw_privs (fun w hw => hts0 w (List.mem_cons_of_mem _ hw)) lw_privs_ok
    have hml : c.maxLocals = 4 := B.maxLocals_eq (hts0 _ List.mem_cons_self)
    have X₀ : Stand p l e room_1 s m #[Value.ref b] below meth c s₁ [] 0 0 := Stand.of_body B
    have hh0 : s₁.heap = s.heap := by rw [B.state]; rfl
    have hsz : scr.slots.size = xs.length := by rw [← Array.length_toList, hlist, List.length_map]
    have hval : ∀ j : Nat, j < xs.length → scr.slots[j]? = some (.int (xs.getD j 0)) := fun j hj => by
      rw [← Array.getElem?_toList, hlist]
      simp [hj]
    have hbl : b < s.heap.size := (Array.getElem?_eq_some_iff.mp hcb).1
    have hX : va_X b xs.length (fun j => xs.getD j 0) s s.heap := ⟨scr, hcb, hof, hkn, hsz, hval⟩
    have K : W p l e room_1 s m #[Value.ref b] below meth c s₁.heap [] 0 0 (lw_Z below #[Value.ref b] s) (entryFrame m ([Value.ref b] : List Value).toArray 4) := by
      rw [hh0]
      exact whole_start l hbd ⟨B.exec, B.bytes, B.returns, hml, hown, hts, hX, hbl, B.notSynchronized, hgv⟩
    obtain ⟨t, a1, o, b1, b2, b3⟩ := K s₁ rfl X₀
    exact ⟨t, o, a1, b1, b2, b3⟩
theorem lw_pre_spec {args : Array Value} {s : State} (h : (Jvm.Cond.and given_1 narrow_1).before args s = true) (hr : rest_1_c.before args s = true) : ∃ (b : Addr) (xs : List Int32), lw_P b xs args s := by
  have hs := flat_of_before _ h
  have hq := flat_of_before _ hr
  have hc : (Cond.count 1).before args s = true := hs _ (by decide +kernel)
  have harr : (Cond.arrayOf (.arg 0) .int).before args s = true := hs _ (by decide +kernel)
  have hle : (Cond.le (.length (.arg 0)) (.int 3072)).before args s = true := hs _ (by decide +kernel)
  have hlen : (Cond.isInt (.length (.arg 0))).before args s = true := hq _ (by decide +kernel)
  have hall : (Cond.all (.arg 0) (.isInt (.elem (.arg 0) (.index 0)))).before args s = true := hq _ (by decide +kernel)
  obtain ⟨b, xs, hb, hx⟩ := State.ints_of_pre rfl harr hlen hall
  have hsm : xs.length < 2 ^ 31 := hx.choose_spec.2.2.2
  have hev : (Term.length (.arg 0)).eval args s none [] s = some (.int xs.length.toInt32) := hx.length_eval hb
  have hv := Cond.le_ints hev (show (Term.int 3072).eval args s none [] s = some (.int 3072) from rfl)
  have hd : xs.length.toInt32 ≤ 3072 := by
    simpa [Cond.before, Cond.holds, hv] using hle
  have hN : xs.length ≤ 3072 := (Int32.ofNat_le_ofNat hsm (by decide)).mp (show Int32.ofNat xs.length ≤ Int32.ofNat 3072 from hd)
  exact ⟨b, xs, Cond.one_arg hc (show args[0]? = some (.ref b) from hb), hx, hN, h⟩
theorem lw_comes (l : Launch) : Comes l x (Jvm.Cond.code x code maxLocals ret :: tables_1) room_1 (fun tb e args s => Calls_1 tb e args s ∧ rest_1 tb e args s ∧ Pre_1 tb e args s)
    (fun _ _ args s o t => lw_Q args s o t) := by
  intro p e ha hc hk s m args below hf hfit hheap happ hpre
  obtain ⟨b, xs, hP⟩ := lw_pre_spec hpre.2.2 hpre.2.1
  obtain ⟨k, o, h1, h2, h3, hQ⟩ := lw_walk l b xs p e ha hc hk s m args below hf ((Spec.applies_iff_loose hf).mp happ).1 hP trivial
  exact ⟨k, o, h1, h2, h3, hQ⟩
theorem lw_frame {s t : State} {o : Outcome} {args : Array Value} (h : Framed s o t [] 600000 7302250) :
    Framed s o t (fieldLocs frame_1_writes args s ++ arrayLocs frame_1_arrays args s ++ staticLocs frame_1_statics s) 600000 7302250 := h
theorem lw_limb (L : Cond) (hL : ∀ (args : Array Value) (s t : State), L.after args s (.returned (some (.int 1))) t = true) :
    ArmFor flags0 classFile x code maxLocals ret World_1 tables_1 room_1 Calls_1 rest_1 Pre_1
      (fun tb e a s o t => postC L tb e a s o t ∧ Framed s o t (fieldLocs frame_1_writes a s ++ arrayLocs frame_1_arrays a s ++ staticLocs frame_1_statics s) 600000 7302250) := by
  intro l _ _ _ p e ha hc hk s m args below hf hfit hheap happ hpre
  obtain ⟨k, o, h1, h2, h3, rfl, hF⟩ := lw_comes l p e ha hc hk s m args below hf hfit hheap happ hpre
  exact ⟨k, _, h1, h2, h3, hL args s _, lw_frame hF⟩
theorem i_vc : Claimed_1_1 ∧ Claimed_1_2 := ⟨lw_limb limb_1_1 (fun args s t => by simp [limb_1_1, Cond.after, Cond.holds, Cond.value]), lw_limb limb_1_2 (fun args s t => Cond.after_iff.mpr (by
  first | (rw [show limb_1_2 = Cond.eq .result (.int 1) from rfl, Cond.eq_ints (x := 1) (y := 1) rfl rfl]; simp; done) | (simp [limb_1_2, Cond.value, Term.eval]; done)))⟩

