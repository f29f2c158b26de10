/-! Two threads walked together: each alone up to a place where they meet. -/
def jpc (a b : Nat) : Nat := a * 65536 + b
/-- where a thread stands -/
abbrev Zx : Type := Nat × List (Option AV) × List AV
/-- what is known of two methods, one of each side: the other's number, how many arguments are the one's, what is known, what the other gives -/
abbrev Pm : Type := Nat × Nat × Sm × List (Option LE)
def pmW (p : Pm) : Bool := (p.2.2.1.2.2.2.2.2.2.zip p.2.2.2).all (fun oe => match oe.2 with
  | some e => scB (smG p.2.2.1 + oe.1.1.length) e
  | none => true)
def pmF (rg : List Rg) (ws : List Wr) (dp : Nat) (S : Sx) (mA mB k : Nat) (as : List AV) : List Pm → Option (Sx × List LE × Sm × List (Option LE))
  | [] => none
  | p :: r => if (Nat.beq p.1 mB && (Nat.beq p.2.1 k && pmW p)) = true then (match smF rg ws dp S mA as [p.2.2.1] with
    | some R => some (R.1, R.2.1, p.2.2)
    | none => pmF rg ws dp S mA mB k as r) else pmF rg ws dp S mA mB k as r
theorem pmF_sp {rg : List Rg} {ws : List Wr} {dp : Nat} {S : Sx} {mA mB k : Nat} {as : List AV} {R : Sx × List LE × Sm × List (Option LE)} : ∀ {T : List Pm}, pmF rg ws dp S mA mB k as T = some R → ∃ p ∈ T, p.1 = mB ∧ p.2.1 = k ∧ pmW p = true ∧ p.2.2 = R.2.2 ∧ ∃ s0, smF rg ws dp S mA as [p.2.2.1] = some (R.1, R.2.1, s0)
  | [], h => by cases h
  | p :: r, h => by
    have rc := fun (q : pmF rg ws dp S mA mB k as r = some R) => pmF_sp q
    have mv : (∃ p ∈ r, p.1 = mB ∧ p.2.1 = k ∧ pmW p = true ∧ p.2.2 = R.2.2 ∧ ∃ s0, smF rg ws dp S mA as [p.2.2.1] = some (R.1, R.2.1, s0)) → ∃ q ∈ p :: r, q.1 = mB ∧ q.2.1 = k ∧ pmW q = true ∧ q.2.2 = R.2.2 ∧ ∃ s0, smF rg ws dp S mA as [q.2.2.1] = some (R.1, R.2.1, s0) := fun ⟨q, hq, g⟩ => ⟨q, List.mem_cons_of_mem _ hq, g⟩
    unfold pmF at h
    split at h
    · rename_i hc
      simp only [Bool.and_eq_true] at hc
      split at h
      · rename_i R0 hR
        cases h
        exact ⟨p, List.mem_cons_self, beqT hc.1, beqT hc.2.1, hc.2.2, rfl, R0.2.2, hR⟩
      · exact mv (rc h)
    · exact mv (rc h)
/-- a call that stands here -/
def cAt (cd : Cd) (pc : Nat) : Option (Nat × Nat) := match cdAt cd pc with
  | some (i, _, a, b, _) => calI i a b
  | none => none
theorem cAt_cal {cd : Cd} {pc m n : Nat} (h : cAt cd pc = some (m, n)) (ls : Lc) (st : List Value) (hp : Hp) : cal cd (pc, ls, st, hp) = some (m, n) := by
  unfold cAt at h
  split at h
  · rename_i i n0 a b w hcd
    unfold cal
    dsimp only
    rw [hcd]
    unfold calI at h
    split at h <;> first | exact h | cases h
  · cases h
def pw (rg : List Rg) (ws : List Wr) (T : List Sm) (TP : List Pm) (ANa ANb : List (Nat × List (Nat × An))) (JN : List (Nat × An)) (yA yB : Nat → Bool) (nA gA gB dA dB : Nat) (bA bB : Bd) (fin2 : Sx → Option AV → Option AV → Bool) : Nat → List Al → Bool → Sx → Zx → Zx → Bool
  | 0, _, _, _, _, _ => false
  | n + 1, act, skip, S, a, b => ex rg ws T ANa (fun S1 r => ex rg ws T ANb (fun S2 r' => fin2 S2 r r') noS gB dB [] bB [] skip (S1, b.1, b.2.1, b.2.2))
      (fun S1 pa la sa => if yA pa = true then some (ex rg ws T ANb (fun _ _ => false) (fun S2 pb lb sb => if yB pb = true then some (match cAt bA.1 pa, cAt bB.1 pb with
        | some (mA, kA), some (mB, kB) => Nat.ble kA sa.length && Nat.ble (catS (sa.drop kA)) 8 && Nat.ble kB sb.length && Nat.ble (catS (sb.drop kB)) 8 && (match pmF rg ws dA S2 mA mB kA ((sa.take kA).reverse ++ (sb.take kB).reverse) TP with
          | some (S3, σ, s, es) => (s.2.2.2.2.2.2.zip es).all (fun oe => let R := smO S3 σ s.2.2.2.2.2.1 oe.1; match tgF R.1.2.1 (oe.1.2.2.2.map (leSb (fLL 0 (σ ++ frX S3.1 oe.1.1)))) with
            | none => true
            | some D => pw rg ws T TP ANa ANb JN yA yB nA gA gB dA dB bA bB fin2 n act false (R.1.1, D, R.1.2.2) (pa + 3, la, (match R.2 with
              | some e => [(0, e)]
              | none => []) ++ sa.drop kA) (pb + 3, lb, (match oe.2 with
              | some e => [(0, leSb (fLL 0 (σ ++ frX S3.1 oe.1.1)) e)]
              | none => []) ++ sb.drop kB))
          | none => false)
        | _, _ => sa.isEmpty && sb.isEmpty && Nat.beq la.length nA && Nat.beq (jpc pa pb / 65536) pa && Nat.beq (jpc pa pb % 65536) pb && (match alF act (jpc pa pb) with
        | some al => (let S3 := tch rg S2 al.2.2.1; match srcL S3 (la ++ lb) al.2.2.1 with
          | some σ => (let S4 := tch8 rg S3 (fLL al.2.1 σ) al.2.2.2.1.1.2.2; chkP al σ S4 (la ++ lb) && msr al σ S4.2.1)
          | none => false)
        | none => (match anF JN (jpc pa pb) with
          | some an => (let S3 := tch rg (tch rg S2 an.1) (an.2.2.1.map fun c => ((1, c.1, c.2.1, c.2.2.1), 0, 0)); match srcL S3 (la ++ lb) an.1 with
            | some σ => (let S4 := tch8 rg S3 (fLL 0 σ) an.2.2.1; match mkP an S4 (jpc pa pb) (la ++ lb) σ with
              | some al => alW al && chkP al σ S4 (la ++ lb) && pw rg ws T TP ANa ANb JN yA yB nA gA gB dA dB bA bB fin2 n (al :: act) true al.2.2.2.1.1 (pa, al.2.2.2.1.2.2.1.take nA, []) (pb, al.2.2.2.1.2.2.1.drop nA, [])
              | none => false)
            | none => false)
          | none => false))) else none) gB dB [] bB [] skip (S1, b.1, b.2.1, b.2.2)) else none)
      gA dA [] bA [] skip (S, a.1, a.2.1, a.2.2)
theorem LR.split {ρ : Nat → Int} {n : Nat} {ls : List (Option AV)} {a b : Lc} (h : LR ρ n ls (a ++ b)) : LR ρ n (ls.take a.length) a ∧ LR ρ n (ls.drop a.length) b := by
  have hl : ls.length = a.length + b.length := by rw [h.1, List.length_append]
  refine ⟨⟨by rw [List.length_take]; omega, fun k => ?_⟩, ⟨by rw [List.length_drop]; omega, fun k => ?_⟩⟩
  · by_cases hk : k < a.length
    · rw [List.getElem?_take_of_lt hk]
      have := h.2 k
      rw [List.getElem?_append_left hk] at this
      exact this
    · rw [List.getElem?_eq_none (by rw [List.length_take]; omega), List.getElem?_eq_none (by omega)]
      exact ⟨fun a ha => (by cases ha), fun ha => (by cases ha)⟩
  · rw [List.getElem?_drop]
    have := h.2 (a.length + k)
    rw [List.getElem?_append_right (by omega), Nat.add_sub_cancel_left] at this
    exact this
theorem LR.app {ρ : Nat → Int} {n : Nat} {la lb : List (Option AV)} {a b : Lc} (h : LR ρ n la a) (g : LR ρ n lb b) : LR ρ n (la ++ lb) (a ++ b) := by
  refine ⟨by rw [List.length_append, List.length_append, h.1, g.1], fun k => ?_⟩
  by_cases hk : k < la.length
  · rw [List.getElem?_append_left hk, List.getElem?_append_left (by rw [← h.1]; exact hk)]
    exact h.2 k
  · rw [List.getElem?_append_right (by omega), List.getElem?_append_right (by rw [← h.1]; omega), h.1]
    exact g.2 _
def PmPost (rg : List Rg) (s : Sm) (es : List (Option LE)) (ρ : Nat → Int) (h : Hp) (rA rB : Option Value) (H : Hp) : Prop := (∀ q ∈ rg, RgO H q) ∧ Frm s.2.2.2.2.2.1 h H ∧ ∃ oe ∈ s.2.2.2.2.2.2.zip es, ∃ ρ', Ag ρ ρ' (smG s) ∧ bdV ρ' oe.1.1 (smG s) ∧ rtV ρ' oe.1.2.1 rA ∧ rtV ρ' oe.2 rB ∧ (∀ c ∈ oe.1.2.2.1, kcV ρ' H c) ∧ (∀ f ∈ oe.1.2.2.2, 0 ≤ leV ρ' f)
def PmOK (rg : List Rg) (p : Pm) : Prop := ∀ d, p.2.2.1.2.1 ≤ d → ∀ (ρ : Nat → Int) (as bs : List Value) (h : Hp), as.length = p.2.1 → inV ρ p.2.2.1.2.2.1 0 (as ++ bs) → bdV ρ p.2.2.1.2.2.2.1 (nonR p.2.2.1.2.2.1) → (∀ c ∈ celG (nonR p.2.2.1.2.2.1) p.2.2.1.2.2.2.1, kcV ρ h c) → (∀ f ∈ p.2.2.1.2.2.2.2.1, 0 ≤ leV ρ f) → (∀ q ∈ rg, RgO h q) → ∃ rA hA rB hB, CRun d p.2.2.1.1 as h rA hA ∧ CRun d p.1 bs h rB hB ∧ hA.2.2 = h.2.2 ∧ hB.2.2 = h.2.2 ∧ (∀ v, rA = some v → vS true v) ∧ (∀ v, rB = some v → vS false v) ∧ PmPost rg p.2.2.1 p.2.2.2 ρ h rA rB (mxH true hA hB)
section PWS
variable {rg : List Rg} {ws : List Wr} {h0 : Hp} {T : List Sm} {TP : List Pm} {ANa ANb : List (Nat × List (Nat × An))} {JN : List (Nat × An)} {yA yB : Nat → Bool} {nA gA gB dA dB eA : Nat} {bA bB : Bd} {fin2 : Sx → Option AV → Option AV → Bool} {ρ0 : Nat → Int} {n0 : Nat} {s : Bool} {P : Option Value → Option Value → Hp → Prop}
/-- what is claimed where both meet -/
def XJ (s : Bool) (A B : Th) (nA : Nat) (P : Option Value → Option Value → Hp → Prop) (z : Cf) : Prop := ∀ la lb : Lc, z.2.1 = la ++ lb → la.length = nA → lS s la → lS (!s) lb → Two s A B (z.1 / 65536, la, []) (z.1 % 65536, lb, []) z.2.2.2 P
theorem pw_sp (hs : s = true) (hT : ∀ s ∈ T, SmOK rg s) (hTP : ∀ p ∈ TP, PmOK rg p) (hdA : dA ≤ eA) (hdB : dB ≤ eA) (hcA : cdS bA.1 = true) (hcB : cdS bB.1 = true) (hF : ∀ (ρ' : Nat → Int) (S : Sx) (h : Hp) (r r' : Option AV) (rv rv' : Option Value), Ag ρ0 ρ' n0 → n0 ≤ S.1 → Mo rg ws h0 ρ' S h → rvO ρ' S.1 r rv → rvO ρ' S.1 r' rv' → fin2 S r r' = true → P rv rv' h) : ∀ (n : Nat) (act : List Al) (skip : Bool) (S : Sx) (pa : Nat) (la : List (Option AV)) (sa : List AV) (pb : Nat) (lb : List (Option AV)) (sb : List AV) (ρ : Nat → Int) (h : Hp) (lcA lcB : Lc) (scA scB : List Value), pw rg ws T TP ANa ANb JN yA yB nA gA gB dA dB bA bB fin2 n act skip S (pa, la, sa) (pb, lb, sb) = true → Ag ρ0 ρ n0 → n0 ≤ S.1 → Mo rg ws h0 ρ S h → LR ρ S.1 la lcA → SR ρ S.1 sa scA → LR ρ S.1 lb lcB → SR ρ S.1 sb scB → (∀ al ∈ act, AlOK rg ws h0 ρ S.1 (XJ s (eA, bA.1, bA.2.1) (eA, bB.1, bB.2.1) nA P) al) → lS s lcA → sS s scA → lS (!s) lcB → sS (!s) scB → Two s (eA, bA.1, bA.2.1) (eA, bB.1, bB.2.1) (pa, lcA, scA) (pb, lcB, scB) h P := by
  intro n
  induction n with
  | zero => intro act skip S pa la sa pb lb sb ρ h lcA lcB scA scB hx; cases hx
  | succ n ih =>
    intro act skip S pa la sa pb lb sb ρ h lcA lcB scA scB hx hA hn M lA sA lB sB hAl uA vA uB vB
    unfold pw at hx
    dsimp only at hx
    have cloA := Two.clo (s := s) (A := (eA, bA.1, bA.2.1)) (B := (eA, bB.1, bB.2.1)) (zB := (pb, lcB, scB)) (P := P) hcA hcB uB vB
    refine ex_sp (rg := rg) (ws := ws) (h0 := h0) (ρ0 := ρ) (n0 := S.1) (δ := 0) (Q0 := fun r h => (∀ v, r = some v → vS s v) → ∃ rB hB, Run eA bB.1 bB.2.1 (Cz.at (pb, lcB, scB) h) rB hB ∧ hB.2.2 = h.2.2 ∧ P r rB (mxH s h hB)) (X0 := fun z => lS s z.2.1 → sS s z.2.2.1 → Two s (eA, bA.1, bA.2.1) (eA, bB.1, bB.2.1) (z.1, z.2.1, z.2.2.1) (pb, lcB, scB) z.2.2.2 P) (fun s hs => (hT s hs).q) (fun ρ1 S1 h1 r rv g1 g2 M1 hr hf => ?_) (fun ρ1 S1 h1 pa1 la1 sa1 lc1 sc1 g1 g2 M1 lA1 sA1 hst => ?_) gA dA eA [] bA [] skip _ ρ _ _ (pa, lcA, scA, h) hdA hx Ag.rf (Nat.le_refl _) ⟨M, rfl, lA, sA⟩ cloA (fun al hal => by cases hal) (fun _ z q => q) (fun r h q => q) uA vA
    · intro hrs
      have hQ : ∀ X : Cf → Prop, Clo (Call eA) bB.1 bB.2.1 (fun r' h' => P rv r' h') X → X (pb, lcB, scB, h1) := fun X hX => by
        refine ex_sp (rg := rg) (ws := ws) (h0 := h0) (ρ0 := ρ1) (n0 := S1.1) (δ := 0) (Q0 := fun r' h' => P rv r' h') (X0 := fun _ => False) (fun s hs => (hT s hs).q) (fun ρ2 S2 h2 r' rv' k1 k2 M2 hr' hf' => ?_) (fun _ _ _ _ _ _ _ _ _ _ _ _ _ q => by cases q) gB dB eA [] bB [] skip _ ρ1 X _ (pb, lcB, scB, h1) hdB hf Ag.rf (Nat.le_refl _) ⟨M1, rfl, lB.ext g1 g2, sB.ext g1 g2⟩ hX (fun al hal => by cases hal) (fun _ z q => q.elim) (fun r h q => q)
        exact hF ρ2 S2 h2 r r' rv rv' (hA.tr (g1.tr k1 g2) hn) (Nat.le_trans hn (Nat.le_trans g2 k2)) M2 (by
          cases r with
          | none => exact hr
          | some a => obtain ⟨x, e, g⟩ := hr; exact ⟨x, e, g.ext k1 k2⟩) hr' hf'
      obtain ⟨rB, hB, p1, p2⟩ := run_of hQ
      obtain ⟨o1, o2, -⟩ := Run.off (s := !s) hcB p2 uB vB
      refine ⟨rB, hB, p2, o2, ?_⟩
      rw [mx_sw (s := s) (h := h1) (k := hB) o2.symm, ← show hB = mxH (!s) hB h1 from o1]
      exact p1
    · intro u1 v1
      split at hst
      · have hst := Option.some.inj hst
        refine Two.ws ?_
        have cloB := Two.clo (s := !s) (A := (eA, bB.1, bB.2.1)) (B := (eA, bA.1, bA.2.1)) (zB := (pa1, lc1, sc1)) (P := fun b a => P a b) hcB hcA (by rw [Bool.not_not]; exact u1) (by rw [Bool.not_not]; exact v1)
        refine ex_sp (rg := rg) (ws := ws) (h0 := h0) (ρ0 := ρ1) (n0 := S1.1) (δ := 0) (Q0 := fun r h => (∀ v, r = some v → vS (!s) v) → ∃ rB hB, Run eA bA.1 bA.2.1 (Cz.at (pa1, lc1, sc1) h) rB hB ∧ hB.2.2 = h.2.2 ∧ P rB r (mxH (!s) h hB)) (X0 := fun z => lS (!s) z.2.1 → sS (!s) z.2.2.1 → Two (!s) (eA, bB.1, bB.2.1) (eA, bA.1, bA.2.1) (z.1, z.2.1, z.2.2.1) (pa1, lc1, sc1) z.2.2.2 (fun b a => P a b)) (fun s hs => (hT s hs).q) (fun _ _ _ _ _ _ _ _ _ hf => by cases hf) (fun ρ2 S2 h2 pb2 lb2 sb2 lc2 sc2 k1 k2 M2 lB2 sB2 hst2 => ?_) gB dB eA [] bB [] skip _ ρ1 _ _ (pb, lcB, scB, h1) hdB hst Ag.rf (Nat.le_refl _) ⟨M1, rfl, lB.ext g1 g2, sB.ext g1 g2⟩ cloB (fun al hal => by cases hal) (fun _ z q => q) (fun r h q => q) uB vB
        intro u2 v2
        split at hst2
        · have hst2 := Option.some.inj hst2
          refine Two.sw (s := s) (P := P) ?_
          split at hst2
          · rename_i mA kA mB kB hcA' hcB'
            subst hs
            simp only [Bool.and_eq_true] at hst2
            obtain ⟨⟨⟨⟨f1, f2⟩, f3⟩, f4⟩, hx2⟩ := hst2
            have sA2 := sA1.ext k1 k2
            have gk : Ag ρ ρ2 S.1 := g1.tr k1 g2
            have gn : S.1 ≤ S2.1 := Nat.le_trans g2 k2
            obtain ⟨va, ra, rfl, t1, t2, t3⟩ := SR.split sA2 (Nat.le_of_ble_eq_true f1)
            obtain ⟨vb, rb, rfl, t4, t5, t6⟩ := SR.split sB2 (Nat.le_of_ble_eq_true f3)
            split at hx2
            · rename_i S3 σ s0 es hpm
              obtain ⟨p, hp, hp1, hp2, hp3, hp4, sx, hsm⟩ := pmF_sp hpm
              dsimp only at hp4 hsm
              obtain ⟨j1, j2, j3, j4, j5, ρ3, a1, a2, M3, j6, j7, j8, j9, j10, j11, j12⟩ := smF_sp M2 (SR.app (SR.rev t1) (SR.rev t4)) hsm
              dsimp only at j1 j2 j3 j4 j5 a2 M3 j6 j7 j8 j9 j10 j11 j12
              have js : sx = s0 := by
                rcases List.mem_cons.mp j1 with j1 | j1
                · rw [j1, hp4]
                · cases j1
              subst js
              have hlA : va.reverse.length = p.2.1 := by rw [List.length_reverse, t3, hp2]
              have j2' : p.2.2.1.1 = mA := by rw [hp4]; exact j2
              obtain ⟨rA, hA', rB, hB', c1, c2, c3, c4, c5, c6, P1, P2, oe, P3, ρ', P4, P5, P6, P7, P8, P9⟩ := hTP p hp eA (by rw [hp4]; exact Nat.le_trans j3 hdA) (fun k => leV ρ3 (fLQ σ k)) va.reverse vb.reverse h2 hlA (by rw [hp4]; exact j8) (by rw [hp4]; exact j9) (by rw [hp4]; exact j10) (by rw [hp4]; exact j11) M3.2.2.1
              rw [hp4] at c1 P2 P3 P4 P5
              rw [hp1] at c2
              dsimp only at c1 P2 P3 P4 P5
              rw [j2] at c1
              have P4 : Ag (fun k => leV ρ3 (fLL 0 σ k)) ρ' (smG sx) := fun k hk => by
                rw [P4 k hk]
                show leV ρ3 (fLQ σ k) = leV ρ3 (fLL 0 σ k)
                rw [fLQ_lo (Nat.lt_of_lt_of_le hk j12)]
              obtain ⟨ρ4, z1, z2, z3, z4⟩ := smO_sp M3 j6 j7 j4 (List.of_mem_zip P3).1 j5 P1 P2 P4 P5 P6 P8 P9
              rw [List.all_eq_true] at hx2
              have hx2 := hx2 oe P3
              obtain ⟨D2, hD2, FD2⟩ := tgF_sp (l := oe.1.2.2.2.map (leSb (fLL 0 (σ ++ frX S3.1 oe.1.1)))) z2.1 (fun e he => (z2.1.2 e (List.mem_append_left _ he)).2)
              (try dsimp only at hx2)
              rw [hD2] at hx2
              have gz : Ag ρ2 ρ4 S2.1 := a1.tr z1 a2
              have len2 : S2.1 ≤ (smO S3 σ sx.2.2.2.2.2.1 oe.1).1.1 := Nat.le_trans a2 (Nat.le_add_right _ _)
              have gall : Ag ρ ρ4 S.1 := gk.tr gz gn
              have vra : sS true ra := fun v hv => v1 v (List.mem_append_right _ hv)
              have vrb : sS false rb := fun v hv => v2 v (List.mem_append_right _ hv)
              have w1 : sS true (rA.toList ++ ra) := sS_ret vra c5
              have w2 : sS false (rB.toList ++ rb) := sS_ret vrb c6
              refine Two.both (s := true) hcA hcB (aA := va.reverse) (aB := vb.reverse) (tA := ra) (tB := rb) (fun h => cAt_cal hcA' _ _ h) (by rw [List.length_reverse]; exact t3) (by rw [List.reverse_reverse]) (by rw [catS_sp t2]; exact Nat.le_of_ble_eq_true f2) (fun h => cAt_cal hcB' _ _ h) (by rw [List.length_reverse]; exact t6) (by rw [List.reverse_reverse]) (by rw [catS_sp t5]; exact Nat.le_of_ble_eq_true f4) c1 c2 c3 c4 u1 w1 u2 w2 ?_
              refine ih act false _ (pa1 + 3) _ _ (pb2 + 3) _ _ ρ4 _ lc1 lc2 _ _ hx2 (hA.tr gall hn) (Nat.le_trans hn (Nat.le_trans gn len2)) (z2.db FD2) ((lA1.ext k1 k2).ext gz len2) ?_ (lB2.ext gz len2) ?_ (fun al hal => (hAl al hal).ext gall (Nat.le_trans gn len2)) u1 w1 u2 w2
              · split at z3
                · rename_i e0
                  rw [e0, z3]
                  exact t2.ext gz len2
                · rename_i e0
                  rw [e0]
                  obtain ⟨x, rfl, gx⟩ := z3
                  exact SR.cons (av_i gx) (t2.ext gz len2)
              · have hw3 := hp3
                simp only [pmW, List.all_eq_true] at hw3
                rw [hp4] at hw3
                have hw3 := hw3 oe P3
                cases hoe : oe.2 with
                | none =>
                  rw [hoe] at P7
                  have P7 : rB = none := P7
                  rw [P7]
                  exact t5.ext gz len2
                | some e =>
                  rw [hoe] at P7 hw3
                  obtain ⟨x, e9, gx⟩ := P7
                  rw [e9]
                  have q := z4 e (scB_S hw3)
                  exact SR.cons (av_i ⟨q.1, q.2.trans gx⟩) (t5.ext gz len2)
            · cases hx2
          simp only [Bool.and_eq_true] at hst2
          obtain ⟨⟨⟨⟨⟨e1, e2⟩, e3⟩, e4⟩, e5⟩, hx2⟩ := hst2
          have q1 := SR.nil e1 sA1
          have q2 := SR.nil e2 sB2
          subst q1
          subst q2
          have lJ := LR.app (lA1.ext k1 k2) lB2
          have hlen : lc1.length = nA := by rw [← lA1.1]; exact beqT e3
          have e4 := beqT e4
          have e5 := beqT e5
          have gk : Ag ρ ρ2 S.1 := g1.tr k1 g2
          have gn : S.1 ≤ S2.1 := Nat.le_trans g2 k2
          have XX : XJ s (eA, bA.1, bA.2.1) (eA, bB.1, bB.2.1) nA P (jpc pa1 pb2, lc1 ++ lc2, [], h2) → Two s (eA, bA.1, bA.2.1) (eA, bB.1, bB.2.1) (pa1, lc1, []) (pb2, lc2, []) h2 P := fun X => by
            have X := X lc1 lc2 rfl hlen u1 u2
            dsimp only at X
            rw [e4, e5] at X
            exact X
          refine XX ?_
          split at hx2
          · rename_i al hal
            split at hx2
            · rename_i σ hσ
              rw [Bool.and_eq_true] at hx2
              obtain ⟨hm, hpc⟩ := alF_sp hal
              obtain ⟨ρ0', a1', a2', M1'⟩ := tch_sp (l := al.2.2.1) M2
              obtain ⟨ρ3, a1'', a2'', M3⟩ := tch8_sp (f := fLL al.2.1 σ) (kc := al.2.2.2.1.1.2.2) M1'
              have a1 := a1'.tr a1'' a2'
              have a2 := Nat.le_trans a2' a2''
              obtain ⟨b1, b2, b3, b4, b5⟩ := (hAl al hm).ext (gk.tr a1 gn) (Nat.le_trans gn a2)
              obtain ⟨c1, c2⟩ := chk_sp M3 (lJ.ext a1 a2) b1 b2 b4 hx2.1
              have := b5 _ _ fLL_ag c1 (c2 hx2.2)
              rw [hpc] at this
              exact this
            · cases hx2
          · split at hx2
            · rename_i an han
              split at hx2
              · rename_i σ hσ
                obtain ⟨ρ0', a1', a2', M1'⟩ := tch_sp (l := an.1) M2
                obtain ⟨ρ0'', a1'', a2'', M1''⟩ := tch_sp (l := an.2.2.1.map fun c => ((1, c.1, c.2.1, c.2.2.1), 0, 0)) M1'
                obtain ⟨ρ3, a1''', a2''', M3⟩ := tch8_sp (f := fLL 0 σ) (kc := an.2.2.1) M1''
                have a1 := (a1'.tr a1'' a2').tr a1''' (Nat.le_trans a2' a2'')
                have a2 := Nat.le_trans (Nat.le_trans a2' a2'') a2'''
                split at hx2
                · rename_i al hal2
                  simp only [Bool.and_eq_true] at hx2
                  obtain ⟨⟨hw, hchk⟩, hx3⟩ := hx2
                  obtain ⟨p1, p2, p3, p4⟩ := mkP_sp hal2
                  have hD : Fa ρ3 al.2.1 al.2.2.2.2.2.1 := by rw [p2, p3]; exact M3.1
                  have hPn : al.2.2.2.1.1.1 = al.2.1 + al.2.2.1.length := by
                    simp only [alW, Bool.and_eq_true] at hw
                    exact beqT hw.1.1.1.1.1.1
                  have hle : al.2.1 ≤ al.2.2.2.1.1.1 := by omega
                  have ga : Ag ρ ρ3 S.1 := gk.tr a1 gn
                  have gb : S.1 ≤ al.2.1 := by rw [p2]; exact Nat.le_trans gn a2
                  obtain ⟨c1, -⟩ := chk_sp M3 (lJ.ext a1 a2) hD hw p4 hchk
                  have p5 : al.2.2.2.1.2.1 = jpc pa1 pb2 := c1.2.1.symm.trans p1
                  have key : ∀ (m : Nat) (ρ' : Nat → Int) (z' : Cf), Ag ρ3 ρ' al.2.1 → Md rg ws h0 ρ' al.2.2.2.1 z' → mz al ρ' < m → XJ s (eA, bA.1, bA.2.1) (eA, bB.1, bB.2.1) nA P z' := by
                    intro m
                    induction m with
                    | zero => intro ρ' z' _ _ q; omega
                    | succ m ihm =>
                      intro ρ' z' hag hMd hmz la' lb' hab hnn ula ulb
                      obtain ⟨pz, lz, sz, hz⟩ := z'
                      obtain ⟨Mz, hpz, hLz, hSz⟩ := hMd
                      dsimp only at Mz hpz hLz hab
                      subst hab
                      have hsp := LR.split hLz
                      rw [hnn] at hsp
                      have ag' : Ag ρ ρ' S.1 := ga.tr hag gb
                      have := ih (al :: act) true al.2.2.2.1.1 pa1 _ [] pb2 _ [] ρ' hz la' lb' [] [] hx3 (hA.tr ag' hn) (Nat.le_trans hn (Nat.le_trans gb hle)) Mz hsp.1 rfl hsp.2 rfl ?_ ula (fun v hv => by cases hv) ulb (fun v hv => by cases hv)
                      · show Two s _ _ (pz / 65536, la', []) (pz % 65536, lb', []) hz P
                        rw [hpz, p5, e4, e5]
                        exact this
                      · intro al' hal'
                        rcases List.mem_cons.mp hal' with rfl | hal'
                        · exact ⟨hD.ext hag (Nat.le_refl _), hw, by omega, p4, fun ρ'' z'' q1 q2 q3 => ihm ρ'' z'' (hag.tr q1 (Nat.le_refl _)) q2 (by omega)⟩
                        · exact (hAl al' hal').ext ag' (Nat.le_trans gb hle)
                  have := key _ _ _ fLL_ag c1 (Nat.lt_succ_self _)
                  rw [p1] at this
                  exact this
                · cases hx2
              · cases hx2
            · cases hx2
        · cases hst2
      · cases hst
end PWS
