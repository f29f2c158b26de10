/-! The start: the cells behind the constructors, what nobody writes, the classes. -/
noncomputable def lcK : Lc := [some (.ref 1300), some (.ref 0), some (.ref 65), none]
noncomputable def z0K : Kf := (0, [some (.ref 1300), none, none, none], [], [])
noncomputable def lcB (ls : Lc) : Bool := match ls with
  | [some (.ref a), some (.ref b), some (.ref c), none] => Nat.beq a 1300 && Nat.beq b 0 && Nat.beq c 65
  | _ => false
theorem lcB_eq {ls : Lc} (h : lcB ls = true) : ls = lcK := by
  unfold lcB at h
  split at h
  · simp only [Bool.and_eq_true] at h
    obtain ⟨⟨h1, h2⟩, h3⟩ := h
    rw [Nat.eq_of_beq_eq_true h1, Nat.eq_of_beq_eq_true h2, Nat.eq_of_beq_eq_true h3]
    rfl
  · cases h
noncomputable def kend (o : Option Kf) : Bool := match o with
  | some (pc, ls, st, _) => Nat.beq pc 16 && lcB ls && st.isEmpty
  | none => false
noncomputable def kg (o : Option Kf) : List Kb := match o with
  | some z => z.2.2.2
  | none => []
noncomputable def GK : List Kb := kg (kto 900 12 16 z0K)
theorem kend_eq {o : Option Kf} (h : kend o = true) : o = some (16, lcK, [], kg o) := by
  cases o with
  | none => cases h
  | some z =>
    obtain ⟨pc, ls, st, g⟩ := z
    simp only [kend, Bool.and_eq_true] at h
    obtain ⟨⟨h1, h2⟩, h3⟩ := h
    have h3 : st = [] := by simpa using h3
    rw [Nat.eq_of_beq_eq_true h1, lcB_eq h2, h3]
    rfl
set_option maxRecDepth 1000000 in
theorem kz_ok : kend (kto 900 12 16 z0K) = true := by decide +kernel
theorem kto_end : kto 900 12 16 z0K = some (16, lcK, [], GK) := by
  unfold GK
  exact kend_eq kz_ok
noncomputable def h0w (G : List Kb) (i : Nat) (j : Int32) : Int32 := match G[i]? with
  | some (0, _, _, w) => lkK w j.toNatClampNeg
  | some (3, _, fs, _) => (match fs[j.toNatClampNeg]? with
    | some (.int x) => x
    | _ => 0)
  | _ => 0
noncomputable def HG (G : List Kb) (sc : Nat × (Nat → Int32)) : Hp := (h0w G, fun _ _ => 0, sc)
theorem HG_1 {G : List Kb} {sc : Nat × (Nat → Int32)} : (HG G sc).1 = h0w G := rfl
theorem HG_21 {G : List Kb} {sc : Nat × (Nat → Int32)} {o : Nat} {j : Int32} : (HG G sc).2.1 o j = 0 := rfl
noncomputable def kbC (G : List Kb) (i : Nat) (q : Kb) : Bool := if q.1 = 3 then oK i == 3 && q.2.1 == oP i && decide (q.2.2.1 = (List.range (oF i).length).map (fun k => match (oF i)[k]? with
  | some (some v) => v
  | _ => .int (h0w G i (nI k)))) else q.1 == oK i && q.2.1 == oP i && decide (q.1 < 3)
noncomputable def kbA (G : List Kb) (i : Nat) : Bool := match G[i]? with
  | some q => kbC G i q
  | none => false
set_option maxRecDepth 1000000 in
theorem gk_len : GK.length = 84 ∧ slG GK ≤ 100000 := by decide +kernel
set_option maxRecDepth 1000000 in
theorem gk_ok : ∀ i, i < 84 → kbA GK i = true := by decide +kernel
theorem h0w_0 {G : List Kb} {k n j : Nat} {f : List Value} {w : List (Nat × Int32)} (hg : G[k]? = some (0, n, f, w)) (hj : j < 2 ^ 31) : h0w G k (nI j) = lkK w j := by
  unfold h0w
  rw [hg]
  show lkK w (nI j).toNatClampNeg = _
  rw [nI_clamp hj]
theorem h0w_2 {G : List Kb} {k n : Nat} {j : Int32} {f : List Value} {w : List (Nat × Int32)} (hg : G[k]? = some (2, n, f, w)) : h0w G k j = 0 := by
  unfold h0w
  rw [hg]
  rfl
theorem start_P {ad : Nat → Nat} {D : va_G} {cA : Nat → ClassId} {H : Heap} {sc : Nat × (Nat → Int32)} {G : List Kb} (hG : ∀ i, i < 84 → kbA G i = true) (hP : va_P D vwCl (wlk ad cA G) H) : va_P D vwCl (wl ad cA (HG G sc)) H := by
  intro k q hk
  by_cases hkn : k < psNO
  · rw [wl_at hkn] at hk
    cases hk
    have h1 := hG k hkn
    unfold kbA at h1
    cases hg : G[k]? with
    | none => rw [hg] at h1; cases h1
    | some q =>
      rw [hg] at h1
      have hq := hP k _ (wlk_at hg)
      obtain ⟨qk, qn, qf, qw⟩ := q
      have h1 : kbC G k (qk, qn, qf, qw) = true := h1
      unfold kbC at h1
      split at h1
      · rename_i h3
        have h3 : qk = 3 := h3
        subst h3
        simp only [Bool.and_eq_true, beq_iff_eq, decide_eq_true_eq] at h1
        obtain ⟨⟨e1, e2⟩, e3⟩ := h1
        have e4 : entK ad cA (3, qn, qf, qw) = .inr (qn, qf.map (tr ad)) := rfl
        have ef : qf.map (tr ad) = fsL ad (HG G sc) k := by
          rw [e3]
          unfold fsL
          rw [List.map_map]
          apply List.map_congr_left
          intro j _
          unfold fv
          rw [HG_1]
          show tr ad (match (oF k)[j]? with
            | some (some v) => v
            | _ => .int (h0w G k (nI j))) = _
          generalize h0w G k (nI j) = z
          cases (oF k)[j]? with
          | none => rfl
          | some o => cases o <;> rfl
        rw [e4, ef, e2] at hq
        rw [ent_3 e1]
        exact hq
      · simp only [Bool.and_eq_true, beq_iff_eq, decide_eq_true_eq] at h1
        obtain ⟨⟨e1, e2⟩, e3⟩ := h1
        have hoP := oP_lt k
        rcases (show qk = 0 ∨ qk = 1 ∨ qk = 2 by omega) with rfl | rfl | rfl
        · rw [ent_0 e1.symm]
          have hq : H[ad k]? = some (arrV (cA 0) qn (fun j => .int (lkK qw j))) := hq
          show H[ad k]? = some (arrV (cA 0) (oP k) (fun j => .int ((HG G sc).1 k (nI j))))
          rw [hq, e2, HG_1, arrV_congr (N := oP k) (f := fun j => .int (lkK qw j)) (g := fun j => .int (h0w G k (nI j))) (fun j hj => by rw [h0w_0 hg (by omega)])]
        · rw [ent_1 e1.symm]
          have hq : H[ad k]? = some (arrV (cA 1) qn (fun j => .long 0)) := hq
          show H[ad k]? = some (arrV (cA 1) (oP k) (fun j => .long 0))
          rw [hq, e2]
        · rw [ent_2 e1.symm]
          have hq : H[ad k]? = some (arrV (cA 2) qn (fun j => .int 0)) := hq
          show H[ad k]? = some (arrV (cA 2) (oP k) (fun j => .int ((HG G sc).1 k (nI j))))
          rw [hq, e2, HG_1, arrV_congr (N := oP k) (f := fun j => .int 0) (g := fun j => .int (h0w G k (nI j))) (fun j hj => by rw [h0w_2 hg])]
  · rw [wl_none hkn] at hk
    cases hk
theorem start_D {ad : Nat → Nat} {cA : Nat → ClassId} {A : Nat → Prop} {h : Hp} {base : Nat} (had : ∀ i, i < 1000 → ad i = base + i) (hA : ∀ q, A q ↔ base ≤ q) : va_D A (wl ad cA h) := by
  have key : ∀ (k : Nat) (q : Nat × va_E), (wl ad cA h)[k]? = some q → k < psNO ∧ q.1 = base + k := by
    intro k q hk
    by_cases hkn : k < psNO
    · rw [wl_at hkn] at hk
      cases hk
      have : psNO = 84 := rfl
      exact ⟨hkn, had k (by omega)⟩
    · rw [wl_none hkn] at hk
      cases hk
  refine ⟨fun i j x y hi hj hxy => ?_, fun k q hk => ?_⟩
  · have h1 := (key i x hi).2
    have h2 := (key j y hj).2
    omega
  · rw [hA, (key k q hk).2]
    omega
noncomputable def rg0C (G : List Kb) (q : Rg) : Bool := (List.range q.2.2.2.1.toNat).all (fun k => decide (q.2.2.2.2.1 ≤ (h0w G q.1 (Int32.ofInt (q.2.1 + q.2.2.1 * (k : Int)))).toInt) && decide ((h0w G q.1 (Int32.ofInt (q.2.1 + q.2.2.1 * (k : Int)))).toInt ≤ q.2.2.2.2.2))
set_option maxRecDepth 1000000 in
theorem rg0_ok : rgT.all (rg0C GK) = true := by decide +kernel
/-- rows go along at the start -/
noncomputable def rl0 (G : List Kb) (r : Nat) : Bool := match rlD r with
  | some (k, (o1, b1, s1), (o2, b2, s2), n, cv) => Nat.beq k 1 || Nat.beq k 0 && (List.range n.toNat).all (fun t => decide ((h0w G o1 (Int32.ofInt (b1 + s1 * (t : Int)))).toInt = 0) && decide ((h0w G o2 (Int32.ofInt (b2 + s2 * (t : Int)))).toInt = 0) || Nat.beq cv 0 && decide ((h0w G o1 (Int32.ofInt (b1 + s1 * (t : Int)))).toInt = (h0w G o2 (Int32.ofInt (b2 + s2 * (t : Int)))).toInt))
  | none => false
theorem rl0_sp {G : List Kb} {sc : Nat × (Nat → Int32)} {r : Nat} (h : rl0 G r = true) : RLO (HG G sc) r 0 0 := by
  unfold rl0 at h
  split at h
  · rename_i k o1 b1 s1 o2 b2 s2 n cv hd
    refine ⟨k, o1, b1, s1, o2, b2, s2, n, cv, hd, fun t t0 t1 _ => ?_⟩
    simp only [Bool.or_eq_true, Bool.and_eq_true] at h
    rcases h with h | h
    · cases Nat.eq_of_beq_eq_true h
      show rlR cv ((0 : Int64).toInt) ((0 : Int64).toInt)
      unfold rlR
      split
      · exact Or.inr ⟨rfl, by decide⟩
      · split
        · exact Or.inr ⟨rfl, by decide, by decide⟩
        · split
          · exact fun z => absurd z (by decide)
          · split
            · exact fun z => absurd z (by decide)
            · rfl
    · cases Nat.eq_of_beq_eq_true h.1
      have h1 := List.all_eq_true.mp h.2 t.toNat (List.mem_range.mpr (by omega))
      rw [show ((t.toNat : Nat) : Int) = t by omega] at h1
      simp only [Bool.or_eq_true, Bool.and_eq_true, decide_eq_true_eq] at h1
      have e1 : rlV (HG G sc) 0 o1 (b1 + s1 * t) = (h0w G o1 (Int32.ofInt (b1 + s1 * t))).toInt := rfl
      have e2 : rlV (HG G sc) 0 o2 (b2 + s2 * t) = (h0w G o2 (Int32.ofInt (b2 + s2 * t))).toInt := rfl
      rw [e1, e2]
      rcases h1 with h1 | h1
      · rw [h1.1, h1.2]
        unfold rlR
        split
        · exact Or.inr ⟨rfl, by decide⟩
        · split
          · exact Or.inr ⟨rfl, by decide, by decide⟩
          · split
            · exact fun z => absurd z (by decide)
            · split
              · exact fun z => absurd z (by decide)
              · rfl
      · rw [Nat.eq_of_beq_eq_true h1.1]
        exact rlR0.mpr h1.2
  · cases h
/-- the cells of the class in the rows are 0 at the start -/
noncomputable def zr0 (G : List Kb) (r : Nat) : Bool := match rlD r with
  | some (k, (o1, b1, s1), _, n, _) => Nat.beq k 0 && (List.range n.toNat).all (fun t => decide ((h0w G o1 (Int32.ofInt (b1 + s1 * (t : Int)))).toInt = 0))
  | none => false
theorem zr0_sp {G : List Kb} {sc : Nat × (Nat → Int32)} {r : Nat} {y : Int} (h : zr0 G r = true) : ZRO (HG G sc) r y := by
  unfold zr0 at h
  split at h
  · rename_i k o1 b1 s1 q n cv hd
    rw [Bool.and_eq_true] at h
    cases Nat.eq_of_beq_eq_true h.1
    obtain ⟨o2, b2, s2⟩ := q
    refine ⟨o1, b1, s1, o2, b2, s2, n, cv, hd, fun t t0 _ t1 => ?_⟩
    have h1 := List.all_eq_true.mp h.2 t.toNat (List.mem_range.mpr (by omega))
    have h1 := of_decide_eq_true h1
    rw [show ((t.toNat : Nat) : Int) = t by omega] at h1
    exact h1
  · cases h
/-- nobody is barred at the start -/
noncomputable def bg0 (G : List Kb) (o : Nat) : Bool := Nat.blt o 12 && (List.range 10).all (fun a => decide ((h0w G (bgC o) (Int32.ofInt (12 + 14 * (a : Int)))).toInt = 0) && (List.range 10).all (fun b => decide ((h0w G (bgR o) (Int32.ofInt (200 + 10 * (a : Int) + (b : Int)))).toInt = 0)))
theorem bg0_sp {G : List Kb} {sc : Nat × (Nat → Int32)} {o : Nat} {y : Int} (h : bg0 G o = true) : BG (HG G sc) o y := by
  unfold bg0 at h
  rw [Bool.and_eq_true] at h
  refine ⟨bltT h.1, fun a b a0 a1 b0 b1 => ?_⟩
  have h1 := List.all_eq_true.mp h.2 a.toNat (List.mem_range.mpr (by omega))
  rw [Bool.and_eq_true] at h1
  have h2 := of_decide_eq_true h1.1
  rw [show ((a.toNat : Nat) : Int) = a by omega] at h2
  have e1 : rlV (HG G sc) 0 (bgC o) (12 + 14 * a) = 0 := h2
  have e2 : ∀ a b : Int, 0 ≤ a → a < 10 → 0 ≤ b → b < 10 → rlV (HG G sc) 0 (bgR o) (200 + 10 * a + b) = 0 := fun a b a0 a1 b0 b1 => by
    have h1 := List.all_eq_true.mp h.2 a.toNat (List.mem_range.mpr (by omega))
    rw [Bool.and_eq_true] at h1
    have h3 := of_decide_eq_true (List.all_eq_true.mp h1.2 b.toNat (List.mem_range.mpr (by omega)))
    rw [show ((a.toNat : Nat) : Int) = a by omega, show ((b.toNat : Nat) : Int) = b by omega] at h3
    exact h3
  have z : bitZ 0 b = 0 := by unfold bitZ; rw [show (0 : Int).toNat = 0 from rfl, Nat.zero_testBit]; rfl
  rw [e1, e2 a b a0 a1 b0 b1, e2 b a b0 b1 a0 a1, z]
  exact ⟨by decide, by decide, rfl, fun _ => rfl, rfl⟩
/-- counts are 0 at the start -/
noncomputable def ub0 (G : List Kb) (o : Nat) : Bool := match ubL[o / 4]? with
  | some q => decide ((h0w G (ubC o) (Int32.ofInt q.2.2.2.1)).toInt = 0)
  | none => false
theorem ub0_sp {G : List Kb} {sc : Nat × (Nat → Int32)} {o : Nat} {y : Int} (h : ub0 G o = true) : UBO (HG G sc) o y := by
  unfold ub0 at h
  split at h
  · rename_i q hq
    obtain ⟨b, s, n, c1, w, c2⟩ := q
    have h := of_decide_eq_true h
    refine ⟨b, s, n, c1, w, c2, hq, fun t t0 t1 t2 => ?_⟩
    have e1 : rlV (HG G sc) 0 (ubC o) c1 = 0 := h
    omega
  · cases h
theorem sm0_sp {h : Hp} {o : Nat} {y : Int} (hy : y ≤ 0) : SMO h o y := fun t t0 t1 _ => by omega
noncomputable def hn0 (G : List Kb) (o : Nat) : Bool := decide ((h0w G (ubC o) (Int32.ofInt 2)).toInt = 0)
theorem pl0_sp {G : List Kb} {sc : Nat × (Nat → Int32)} {o : Nat} (h : hn0 G o = true) : PLO (HG G sc) o := by
  have h : rlV (HG G sc) 0 (ubC o) 2 = 0 := of_decide_eq_true h
  refine fun k k0 k1 => Or.inl (List.countP_eq_zero.mpr (fun t _ q => ?_))
  unfold plB at q
  rw [Bool.and_eq_true] at q
  have q1 := of_decide_eq_true q.1
  omega
theorem fr0_sp {G : List Kb} {sc : Nat × (Nat → Int32)} {o : Nat} {x : Int} (h : hn0 G o = true) : FRO (HG G sc) o x := by
  have h : rlV (HG G sc) 0 (ubC o) 2 = 0 := of_decide_eq_true h
  exact fun t t0 t1 t2 => by omega
theorem rg0' {G : List Kb} {sc : Nat × (Nat → Int32)} {rg : List Rg} (h : rg.all (rg0C G) = true) : ∀ q ∈ rg, RgO (HG G sc) q := by
  intro q hq j k k0 k1 hj
  have h1 := List.all_eq_true.mp h q hq
  unfold rg0C at h1
  have h2 := List.all_eq_true.mp h1 k.toNat (List.mem_range.mpr (by omega))
  rw [show ((k.toNat : Nat) : Int) = k by omega, ← hj, Int32.ofInt_toInt] at h2
  simp only [Bool.and_eq_true, decide_eq_true_eq] at h2
  rw [HG_1]
  exact h2
set_option maxRecDepth 1000000 in
theorem h0_facts : h0w GK 66 4 = 0 ∧ h0w GK 67 4 = 0 ∧ h0w GK 66 0 = 0 ∧ h0w GK 67 0 = 0 := by decide +kernel
theorem wfx0 {G : List Kb} {sc : Nat × (Nat → Int32)} {o : Nat} (h : h0w G o 4 = 0) : WFX (HG G sc) o := by
  intro t t0 t1 t2
  rw [HG_1, h, Int32.toInt_zero] at t2
  omega
/-- the tables of the class, by their names -/
noncomputable def tmT (k : Nat) : Term := .static "PrisonShops" (stN (1200 + k)) "[I"
noncomputable def tmS (i : Nat) : Term := .string "PrisonShops$Reader" ((strT.getD i (0, "", 0)).1)
set_option maxRecDepth 1000000 in
theorem pr_T : ∀ k, k < 4 → (Cond.arrayOf (tmT k) .int ∈ flatC (Cond.and given_1 narrow_1) ∧ Cond.eq (.length (tmT k)) (.int (Int32.ofNat 6)) ∈ flatC (Cond.and given_1 narrow_1)) ∧ ∀ j, j < 6 → Cond.eq (.elem (tmT k) (.int (Int32.ofNat j))) (.int ((roT (1200 + k)).getD j 0)) ∈ flatC (Cond.and given_1 narrow_1) := by decide +kernel
set_option maxRecDepth 1000000 in
theorem pr_S : ∀ i, i < 12 → Cond.exactly (tmS i) "java/lang/String" ∈ flatC (Cond.and given_1 narrow_1) ∧ Cond.eq (.field (tmS i) "java/lang/String" "coder" "B") (.int 0) ∈ flatC (Cond.and given_1 narrow_1) ∧ Cond.arrayOf (.field (tmS i) "java/lang/String" "value" "[B") .byte ∈ flatC (Cond.and given_1 narrow_1) ∧ Cond.eq (.length (.field (tmS i) "java/lang/String" "value" "[B")) (.int (Int32.ofNat ((stT'.map List.length).getD i 0))) ∈ flatC (Cond.and given_1 narrow_1) := by decide +kernel
set_option maxRecDepth 1000000 in
theorem pr_E : ∀ i, i < 12 → ∀ j, j < (stT'.map List.length).getD i 0 → Cond.eq (.elem (.field (tmS i) "java/lang/String" "value" "[B") (.int (Int32.ofNat j))) (.int (((stT'.map (fun l => l.map nI)).getD i []).getD j 0)) ∈ flatC (Cond.and given_1 narrow_1) := by decide +kernel
set_option maxRecDepth 1000000 in
theorem pr_N : ∀ i, i < 12 → ∀ j, j < 12 → i ≠ j → Cond.not (Cond.eq (tmS i) (tmS j)) ∈ flatC (Cond.and given_1 narrow_1) ∨ Cond.not (Cond.eq (tmS j) (tmS i)) ∈ flatC (Cond.and given_1 narrow_1) := by decide +kernel
set_option maxRecDepth 1000000 in
theorem pr_C : Cond.eq (.static "java/lang/String" "COMPACT_STRINGS" "Z") (.int 1) ∈ flatC (Cond.and given_1 narrow_1) ∧ Cond.isRef (.static "jdk/internal/util/Preconditions" "SIOOBE_FORMATTER" "Ljava/util/function/BiFunction;") ∈ flatC (Cond.and given_1 narrow_1) := by decide +kernel
set_option maxRecDepth 1000000 in
theorem wd_T : (∀ k, k < 4 → Cond.laysStatic "PrisonShops" (stN (1200 + k)) "[I" ∈ lw_tbl) ∧ Cond.initialized "PrisonShops" ∈ lw_tbl ∧ Cond.laysStatic "java/lang/String" "COMPACT_STRINGS" "Z" ∈ lw_tbl ∧ Cond.initialized "java/lang/String" ∈ lw_tbl ∧ Cond.laysStatic "jdk/internal/util/Preconditions" "SIOOBE_FORMATTER" "Ljava/util/function/BiFunction;" ∈ lw_tbl ∧ Cond.initialized "jdk/internal/util/Preconditions" ∈ lw_tbl ∧ nwW ∈ lw_tbl ∧ nwK ∈ lw_tbl := by decide +kernel
set_option maxRecDepth 1000000 in
theorem wd_S : ∀ q ∈ strT, Cond.stringRef "PrisonShops$Reader" q.1 q.2.1 ∈ lw_tbl := by decide +kernel
set_option maxRecDepth 1000000 in
theorem wd_N : ∀ q ∈ nsT, (match psK[q.2.2.1]? with
  | some m => decide (Cond.methodLinkNest (nmO q.1) q.2.1 m.1 q.2.2.2 ∈ lw_tbl)
  | none => true) = true := by decide +kernel
set_option maxRecDepth 1000000 in
theorem wd_K : ∀ k, k < 12 → (match vwCl[k]? with
  | some q => decide (Cond.instantiable q.1 q.2.2 ∈ lw_tbl)
  | none => true) = true := by decide +kernel
set_option maxRecDepth 1000000 in
theorem st_i : ∀ i, i < 12 → (strT.getD i (0, "", 0)).2.2 = 1000 + i := by decide +kernel
theorem strT_len : strT.length = 12 := by decide +kernel
