/-! Two threads walked together: each alone up to a place where they meet. -/
noncomputable def jk (m a b : Nat) : Nat := (m * 65536 + a) * 65536 + b
/-- where a thread stands -/
noncomputable abbrev Zx : Type := Nat × List (Option AV) × List AV
/-- what is known of two methods, one of each side: the other's number, how many arguments are the one's, what is known, what the other gives -/
noncomputable abbrev Pm : Type := Nat × Nat × Sm × List (Option LE)
noncomputable def pmW (p : Pm) : Bool := (p.2.2.1.2.2.2.2.2.2.zip p.2.2.2).all (fun oe => match oe.2 with
  | some e => scB (smG p.2.2.1 + oe.1.1.length) e
  | none => true)
noncomputable def pmF (rg : List Rg) (ws : List Wr) (dp : Nat) (S : Sx) (mA mB k : Nat) (as : List AV) : List Pm → Option (Sx × List LE × Sm × List (Option LE))
  | [] => none
  | p :: r => if (Nat.beq p.1 mB && (Nat.beq p.2.1 k && pmW p)) = true then (match smF rg ws dp S mA as [p.2.2.1] with
    | some R => some (R.1, R.2.1, p.2.2)
    | none => pmF rg ws dp S mA mB k as r) else pmF rg ws dp S mA mB k as r
theorem pmF_sp {rg : List Rg} {ws : List Wr} {dp : Nat} {S : Sx} {mA mB k : Nat} {as : List AV} {R : Sx × List LE × Sm × List (Option LE)} : ∀ {T : List Pm}, pmF rg ws dp S mA mB k as T = some R → ∃ p ∈ T, p.1 = mB ∧ p.2.1 = k ∧ pmW p = true ∧ p.2.2 = R.2.2 ∧ ∃ s0, smF rg ws dp S mA as [p.2.2.1] = some (R.1, R.2.1, s0)
  | [], h => by cases h
  | p :: r, h => by
    have rc := fun (q : pmF rg ws dp S mA mB k as r = some R) => pmF_sp q
    have mv : (∃ p ∈ r, p.1 = mB ∧ p.2.1 = k ∧ pmW p = true ∧ p.2.2 = R.2.2 ∧ ∃ s0, smF rg ws dp S mA as [p.2.2.1] = some (R.1, R.2.1, s0)) → ∃ q ∈ p :: r, q.1 = mB ∧ q.2.1 = k ∧ pmW q = true ∧ q.2.2 = R.2.2 ∧ ∃ s0, smF rg ws dp S mA as [q.2.2.1] = some (R.1, R.2.1, s0) := fun ⟨q, hq, g⟩ => ⟨q, List.mem_cons_of_mem _ hq, g⟩
    unfold pmF at h
    split at h
    · rename_i hc
      simp only [Bool.and_eq_true] at hc
      split at h
      · rename_i R0 hR
        cases h
        exact ⟨p, List.mem_cons_self, beqT hc.1, beqT hc.2.1, hc.2.2, rfl, R0.2.2, hR⟩
      · exact mv (rc h)
    · exact mv (rc h)
/-- a call that stands here -/
noncomputable def cAt (cd : Cd) (pc : Nat) : Option (Nat × Nat) := match cdX cd pc with
  | some (i, _, a, b, _) => calI i a b
  | none => none
theorem cAt_cal {cd : Cd} {pc m n : Nat} (h : cAt cd pc = some (m, n)) (ls : Lc) (st : List Value) (hp : Hp) : cal cd (pc, ls, st, hp) = some (m, n) := by
  unfold cAt at h
  split at h
  · rename_i i n0 a b w hcd
    rw [cdX_eq] at hcd
    unfold cal
    dsimp only
    rw [hcd]
    unfold calI at h
    split at h <;> first | exact h | cases h
  · cases h
/-- a loop of both that is open: does it close here? -/
noncomputable def jchk (rg : List Rg) (al : Al) (S : Sx) (ls : List (Option AV)) : Bool := let S3 := tch rg S al.2.2.1; match srcL S3 ls al.2.2.1 with
  | some σ => let S4 := tch8 rg S3 (fLL al.2.1 σ) al.2.2.2.1.1.2.2; chkP al σ S4 ls && msr al σ S4.2.1
  | none => false
/-- a loop of both, opened -/
noncomputable def jop (rg : List Rg) (an : An) (S : Sx) (key : Nat) (ls : List (Option AV)) : Option Al := let S3 := tch rg (tch rg S an.1) (an.2.2.1.map fun c => ((1, c.1, c.2.1, c.2.2.1), 0, 0)); match srcL S3 ls an.1 with
  | some σ => (let S4 := tch8 rg S3 (fLL 0 σ) an.2.2.1; match mkP an S4 key ls σ with
    | some al => if (alW al && chkP al σ S4 ls) = true then some al else none
    | none => none)
  | none => none
noncomputable def vfyE (m : Mi) (as : List AV) : Bool := Nat.ble (eLa as).length m.2.2.1 && (Nat.beq as.length (if m.2.2.2.2.2.2.1 = 0 then m.2.2.2.2.2.2.2.1 else m.2.2.2.2.2.2.2.1 + 1) && rcA m.2.2.2.2.2.2.1 m.2.2.2.2.1 as)
/-- both stand where they meet -/
noncomputable def pwD (rec : Nat → Nat → List Al → Bool → Bool → Sx → Zx → Zx → (Sx → Option AV → Zx → Bool → Bool) → Bool) (rg : List Rg) (ws : List Wr) (TP : List Pm) (JN : List (Nat × An)) (bg : Nat → Bool) (bB : Bd) (mA dA : Nat) (act : List Al) (fin : Sx → Option AV → Zx → Bool → Bool) (m : Mi) (pa : Nat) (la : List (Option AV)) (sa : List AV) (S2 : Sx) (pb : Nat) (lb : List (Option AV)) (sb : List AV) : Bool := match cAt m.2.2.2.2.2.1 pa, cAt bB.1 pb with
        | some (m1, kA), some (m2, kB) => Nat.ble kA sa.length && Nat.ble (catS (sa.drop kA)) 8 && Nat.ble kB sb.length && Nat.ble (catS (sb.drop kB)) 8 && (match pmF rg ws dA S2 m1 m2 kA ((sa.take kA).reverse ++ (sb.take kB).reverse) TP with
          | some (S3, σ, s, es) => (s.2.2.2.2.2.2.zip es).all (fun oe => let R := smO S3 σ s.2.2.2.2.2.1 oe.1; match tgF R.1.2.1 (oe.1.2.2.2.map (leSb (fLL 0 (σ ++ frX S3.1 oe.1.1)))) with
            | none => true
            | some D => rec mA dA act false false (R.1.1, D, R.1.2.2) (pa + 3, la, (match R.2 with
              | some e => [(0, e)]
              | none => []) ++ sa.drop kA) (pb + 3, lb, (match oe.2 with
              | some e => [(0, leSb (fLL 0 (σ ++ frX S3.1 oe.1.1)) e)]
              | none => []) ++ sb.drop kB) fin)
          | none => false)
        | some (m1, kA), none => if bg (jk mA pa pb) = true then rec mA dA act false true S2 (pa, la, sa) (pb, lb, sb) fin else Nat.ble 1 dA && Nat.ble kA sa.length && Nat.ble (catS (sa.drop kA)) 8 && (match psM[m1]? with
          | some m' => vfyE m' (sa.take kA).reverse && rec m1 (dA - 1) [] false false S2 (0, eLnA m'.2.2.1 (sa.take kA).reverse, []) (pb, lb, sb) (fun S3 r b3 sk3 => rec mA dA act false sk3 S3 (pa + 3, la, r.toList ++ sa.drop kA) b3 fin)
          | none => false)
        | none, some _ => rec mA dA act true false S2 (pa, la, sa) (pb, lb, sb) fin
        | none, none => sa.isEmpty && sb.isEmpty && Nat.beq la.length m.2.2.1 && Nat.beq (jk mA pa pb / 65536 % 65536) pa && Nat.beq (jk mA pa pb % 65536) pb && (act.any (fun al => Nat.beq al.1 (jk mA pa pb) && jchk rg al S2 (la ++ lb)) || JN.any (fun q => Nat.beq q.1 (jk mA pa pb) && (match jop rg q.2 S2 (jk mA pa pb) (la ++ lb) with
          | some al => rec mA dA (al :: act) true true al.2.2.2.1.1 (pa, al.2.2.2.1.2.2.1.take m.2.2.1, []) (pb, al.2.2.2.1.2.2.1.drop m.2.2.1, []) fin
          | none => false)))
noncomputable def pwC (rec : Nat → Nat → List Al → Bool → Bool → Sx → Zx → Zx → (Sx → Option AV → Zx → Bool → Bool) → Bool) (yB : Nat → Bool) (rg : List Rg) (ws : List Wr) (TP : List Pm) (JN : List (Nat × An)) (bg : Nat → Bool) (bB : Bd) (mA dA : Nat) (act : List Al) (fin : Sx → Option AV → Zx → Bool → Bool) (m : Mi) (pa : Nat) (la : List (Option AV)) (sa : List AV) (S2 : Sx) (pb : Nat) (lb : List (Option AV)) (sb : List AV) : Option Bool := Bool.rec (motive := fun _ => Option Bool) none (some (pwD rec rg ws TP JN bg bB mA dA act fin m pa la sa S2 pb lb sb)) (yB pb)
noncomputable def pwA (rec : Nat → Nat → List Al → Bool → Bool → Sx → Zx → Zx → (Sx → Option AV → Zx → Bool → Bool) → Bool) (rg : List Rg) (ws : List Wr) (T : List Sm) (TP : List Pm) (ANb : List (Nat × List (Nat × An))) (JN : List (Nat × An)) (yA : Nat → Nat → Bool) (yB : Nat → Bool) (bg : Nat → Bool) (gB dB : Nat) (bB : Bd) (mA dA : Nat) (act : List Al) (skB : Bool) (b : Zx) (fin : Sx → Option AV → Zx → Bool → Bool) (m : Mi) (S1 : Sx) (pa : Nat) (la : List (Option AV)) (sa : List AV) : Option Bool := Bool.rec (motive := fun _ => Option Bool) none (some (ex rg ws T ANb (fun _ _ => false) (pwC rec yB rg ws TP JN bg bB mA dA act fin m pa la sa) gB dB [] bB [] skB (S1, b.1, b.2.1, b.2.2))) (yA mA pa)
noncomputable def pw (rg : List Rg) (ws : List Wr) (T : List Sm) (TP : List Pm) (ANa ANb : List (Nat × List (Nat × An))) (JN : List (Nat × An)) (yA : Nat → Nat → Bool) (yB : Nat → Bool) (bg : Nat → Bool) (gA gB dB : Nat) (bB : Bd) : Nat → Nat → Nat → List Al → Bool → Bool → Sx → Zx → Zx → (Sx → Option AV → Zx → Bool → Bool) → Bool
  | 0, _, _, _, _, _, _, _, _, _ => false
  | n + 1, mA, dA, act, skA, skB, S, a, b, fin => match lk psM mA with
    | none => false
    | some m => ex rg ws T ANa (fun S1 r => match tgF S1.2.1 S1.2.1.2 with
        | none => true
        | some D => fin (S1.1, D, S1.2.2) r b skB)
      (pwA (pw rg ws T TP ANa ANb JN yA yB bg gA gB dB bB n) rg ws T TP ANb JN yA yB bg gB dB bB mA dA act skB b fin m)
      gA dA [] (m.2.2.2.2.2.1, m.2.2.2.1, anT ANa mA) [] skA (S, a.1, a.2.1, a.2.2)
theorem pwC_O {rec : Nat → Nat → List Al → Bool → Bool → Sx → Zx → Zx → (Sx → Option AV → Zx → Bool → Bool) → Bool} {yB : Nat → Bool} {rg : List Rg} {ws : List Wr} {TP : List Pm} {JN : List (Nat × An)} {bg : Nat → Bool} {bB : Bd} {mA dA : Nat} {act : List Al} {fin : Sx → Option AV → Zx → Bool → Bool} {m : Mi} {pa : Nat} {la : List (Option AV)} {sa : List AV} : pwC rec yB rg ws TP JN bg bB mA dA act fin m pa la sa = (fun S2 pb lb sb => if yB pb = true then some (match cAt m.2.2.2.2.2.1 pa, cAt bB.1 pb with
        | some (m1, kA), some (m2, kB) => Nat.ble kA sa.length && Nat.ble (catS (sa.drop kA)) 8 && Nat.ble kB sb.length && Nat.ble (catS (sb.drop kB)) 8 && (match pmF rg ws dA S2 m1 m2 kA ((sa.take kA).reverse ++ (sb.take kB).reverse) TP with
          | some (S3, σ, s, es) => (s.2.2.2.2.2.2.zip es).all (fun oe => let R := smO S3 σ s.2.2.2.2.2.1 oe.1; match tgF R.1.2.1 (oe.1.2.2.2.map (leSb (fLL 0 (σ ++ frX S3.1 oe.1.1)))) with
            | none => true
            | some D => rec mA dA act false false (R.1.1, D, R.1.2.2) (pa + 3, la, (match R.2 with
              | some e => [(0, e)]
              | none => []) ++ sa.drop kA) (pb + 3, lb, (match oe.2 with
              | some e => [(0, leSb (fLL 0 (σ ++ frX S3.1 oe.1.1)) e)]
              | none => []) ++ sb.drop kB) fin)
          | none => false)
        | some (m1, kA), none => if bg (jk mA pa pb) = true then rec mA dA act false true S2 (pa, la, sa) (pb, lb, sb) fin else Nat.ble 1 dA && Nat.ble kA sa.length && Nat.ble (catS (sa.drop kA)) 8 && (match psM[m1]? with
          | some m' => vfyE m' (sa.take kA).reverse && rec m1 (dA - 1) [] false false S2 (0, eLnA m'.2.2.1 (sa.take kA).reverse, []) (pb, lb, sb) (fun S3 r b3 sk3 => rec mA dA act false sk3 S3 (pa + 3, la, r.toList ++ sa.drop kA) b3 fin)
          | none => false)
        | none, some _ => rec mA dA act true false S2 (pa, la, sa) (pb, lb, sb) fin
        | none, none => sa.isEmpty && sb.isEmpty && Nat.beq la.length m.2.2.1 && Nat.beq (jk mA pa pb / 65536 % 65536) pa && Nat.beq (jk mA pa pb % 65536) pb && (act.any (fun al => Nat.beq al.1 (jk mA pa pb) && jchk rg al S2 (la ++ lb)) || JN.any (fun q => Nat.beq q.1 (jk mA pa pb) && (match jop rg q.2 S2 (jk mA pa pb) (la ++ lb) with
          | some al => rec mA dA (al :: act) true true al.2.2.2.1.1 (pa, al.2.2.2.1.2.2.1.take m.2.2.1, []) (pb, al.2.2.2.1.2.2.1.drop m.2.2.1, []) fin
          | none => false)))) else none) := by
  funext S2 pb lb sb
  unfold pwC
  cases yB pb with
  | false => rfl
  | true =>
    rw [if_pos rfl]
    unfold pwD
    rfl
theorem pwA_O {rec : Nat → Nat → List Al → Bool → Bool → Sx → Zx → Zx → (Sx → Option AV → Zx → Bool → Bool) → Bool} {rg : List Rg} {ws : List Wr} {T : List Sm} {TP : List Pm} {ANb : List (Nat × List (Nat × An))} {JN : List (Nat × An)} {yA : Nat → Nat → Bool} {yB : Nat → Bool} {bg : Nat → Bool} {gB dB : Nat} {bB : Bd} {mA dA : Nat} {act : List Al} {skB : Bool} {b : Zx} {fin : Sx → Option AV → Zx → Bool → Bool} {m : Mi} : pwA rec rg ws T TP ANb JN yA yB bg gB dB bB mA dA act skB b fin m = (fun S1 pa la sa => if yA mA pa = true then some (ex rg ws T ANb (fun _ _ => false) (fun S2 pb lb sb => if yB pb = true then some (match cAt m.2.2.2.2.2.1 pa, cAt bB.1 pb with
        | some (m1, kA), some (m2, kB) => Nat.ble kA sa.length && Nat.ble (catS (sa.drop kA)) 8 && Nat.ble kB sb.length && Nat.ble (catS (sb.drop kB)) 8 && (match pmF rg ws dA S2 m1 m2 kA ((sa.take kA).reverse ++ (sb.take kB).reverse) TP with
          | some (S3, σ, s, es) => (s.2.2.2.2.2.2.zip es).all (fun oe => let R := smO S3 σ s.2.2.2.2.2.1 oe.1; match tgF R.1.2.1 (oe.1.2.2.2.map (leSb (fLL 0 (σ ++ frX S3.1 oe.1.1)))) with
            | none => true
            | some D => rec mA dA act false false (R.1.1, D, R.1.2.2) (pa + 3, la, (match R.2 with
              | some e => [(0, e)]
              | none => []) ++ sa.drop kA) (pb + 3, lb, (match oe.2 with
              | some e => [(0, leSb (fLL 0 (σ ++ frX S3.1 oe.1.1)) e)]
              | none => []) ++ sb.drop kB) fin)
          | none => false)
        | some (m1, kA), none => if bg (jk mA pa pb) = true then rec mA dA act false true S2 (pa, la, sa) (pb, lb, sb) fin else Nat.ble 1 dA && Nat.ble kA sa.length && Nat.ble (catS (sa.drop kA)) 8 && (match psM[m1]? with
          | some m' => vfyE m' (sa.take kA).reverse && rec m1 (dA - 1) [] false false S2 (0, eLnA m'.2.2.1 (sa.take kA).reverse, []) (pb, lb, sb) (fun S3 r b3 sk3 => rec mA dA act false sk3 S3 (pa + 3, la, r.toList ++ sa.drop kA) b3 fin)
          | none => false)
        | none, some _ => rec mA dA act true false S2 (pa, la, sa) (pb, lb, sb) fin
        | none, none => sa.isEmpty && sb.isEmpty && Nat.beq la.length m.2.2.1 && Nat.beq (jk mA pa pb / 65536 % 65536) pa && Nat.beq (jk mA pa pb % 65536) pb && (act.any (fun al => Nat.beq al.1 (jk mA pa pb) && jchk rg al S2 (la ++ lb)) || JN.any (fun q => Nat.beq q.1 (jk mA pa pb) && (match jop rg q.2 S2 (jk mA pa pb) (la ++ lb) with
          | some al => rec mA dA (al :: act) true true al.2.2.2.1.1 (pa, al.2.2.2.1.2.2.1.take m.2.2.1, []) (pb, al.2.2.2.1.2.2.1.drop m.2.2.1, []) fin
          | none => false)))) else none) gB dB [] bB [] skB (S1, b.1, b.2.1, b.2.2)) else none) := by
  funext S1 pa la sa
  unfold pwA
  cases yA mA pa with
  | false => rfl
  | true =>
    rw [if_pos rfl, pwC_O]
theorem pw_succ {rg : List Rg} {ws : List Wr} {T : List Sm} {TP : List Pm} {ANa ANb : List (Nat × List (Nat × An))} {JN : List (Nat × An)} {yA : Nat → Nat → Bool} {yB : Nat → Bool} {bg : Nat → Bool} {gA gB dB : Nat} {bB : Bd} {n mA dA : Nat} {act : List Al} {skA skB : Bool} {S : Sx} {a b : Zx} {fin : Sx → Option AV → Zx → Bool → Bool} : pw rg ws T TP ANa ANb JN yA yB bg gA gB dB bB (n + 1) mA dA act skA skB S a b fin = (match lk psM mA with
    | none => false
    | some m => ex rg ws T ANa (fun S1 r => match tgF S1.2.1 S1.2.1.2 with
        | none => true
        | some D => fin (S1.1, D, S1.2.2) r b skB)
      (fun S1 pa la sa => if yA mA pa = true then some (ex rg ws T ANb (fun _ _ => false) (fun S2 pb lb sb => if yB pb = true then some (match cAt m.2.2.2.2.2.1 pa, cAt bB.1 pb with
        | some (m1, kA), some (m2, kB) => Nat.ble kA sa.length && Nat.ble (catS (sa.drop kA)) 8 && Nat.ble kB sb.length && Nat.ble (catS (sb.drop kB)) 8 && (match pmF rg ws dA S2 m1 m2 kA ((sa.take kA).reverse ++ (sb.take kB).reverse) TP with
          | some (S3, σ, s, es) => (s.2.2.2.2.2.2.zip es).all (fun oe => let R := smO S3 σ s.2.2.2.2.2.1 oe.1; match tgF R.1.2.1 (oe.1.2.2.2.map (leSb (fLL 0 (σ ++ frX S3.1 oe.1.1)))) with
            | none => true
            | some D => pw rg ws T TP ANa ANb JN yA yB bg gA gB dB bB n mA dA act false false (R.1.1, D, R.1.2.2) (pa + 3, la, (match R.2 with
              | some e => [(0, e)]
              | none => []) ++ sa.drop kA) (pb + 3, lb, (match oe.2 with
              | some e => [(0, leSb (fLL 0 (σ ++ frX S3.1 oe.1.1)) e)]
              | none => []) ++ sb.drop kB) fin)
          | none => false)
        | some (m1, kA), none => if bg (jk mA pa pb) = true then pw rg ws T TP ANa ANb JN yA yB bg gA gB dB bB n mA dA act false true S2 (pa, la, sa) (pb, lb, sb) fin else Nat.ble 1 dA && Nat.ble kA sa.length && Nat.ble (catS (sa.drop kA)) 8 && (match psM[m1]? with
          | some m' => vfyE m' (sa.take kA).reverse && pw rg ws T TP ANa ANb JN yA yB bg gA gB dB bB n m1 (dA - 1) [] false false S2 (0, eLnA m'.2.2.1 (sa.take kA).reverse, []) (pb, lb, sb) (fun S3 r b3 sk3 => pw rg ws T TP ANa ANb JN yA yB bg gA gB dB bB n mA dA act false sk3 S3 (pa + 3, la, r.toList ++ sa.drop kA) b3 fin)
          | none => false)
        | none, some _ => pw rg ws T TP ANa ANb JN yA yB bg gA gB dB bB n mA dA act true false S2 (pa, la, sa) (pb, lb, sb) fin
        | none, none => sa.isEmpty && sb.isEmpty && Nat.beq la.length m.2.2.1 && Nat.beq (jk mA pa pb / 65536 % 65536) pa && Nat.beq (jk mA pa pb % 65536) pb && (act.any (fun al => Nat.beq al.1 (jk mA pa pb) && jchk rg al S2 (la ++ lb)) || JN.any (fun q => Nat.beq q.1 (jk mA pa pb) && (match jop rg q.2 S2 (jk mA pa pb) (la ++ lb) with
          | some al => pw rg ws T TP ANa ANb JN yA yB bg gA gB dB bB n mA dA (al :: act) true true al.2.2.2.1.1 (pa, al.2.2.2.1.2.2.1.take m.2.2.1, []) (pb, al.2.2.2.1.2.2.1.drop m.2.2.1, []) fin
          | none => false)))) else none) gB dB [] bB [] skB (S1, b.1, b.2.1, b.2.2)) else none)
      gA dA [] (m.2.2.2.2.2.1, m.2.2.2.1, anT ANa mA) [] skA (S, a.1, a.2.1, a.2.2)) := by
  rw [pw]
  cases lk psM mA with
  | none => rfl
  | some m =>
    dsimp only
    rw [pwA_O]
theorem LR.split {ρ : Nat → Int} {n : Nat} {ls : List (Option AV)} {a b : Lc} (h : LR ρ n ls (a ++ b)) : LR ρ n (ls.take a.length) a ∧ LR ρ n (ls.drop a.length) b := by
  have hl : ls.length = a.length + b.length := by rw [h.1, List.length_append]
  refine ⟨⟨by rw [List.length_take]; omega, fun k => ?_⟩, ⟨by rw [List.length_drop]; omega, fun k => ?_⟩⟩
  · by_cases hk : k < a.length
    · rw [List.getElem?_take_of_lt hk]
      have := h.2 k
      rw [List.getElem?_append_left hk] at this
      exact this
    · rw [List.getElem?_eq_none (by rw [List.length_take]; omega), List.getElem?_eq_none (by omega)]
      exact ⟨fun a ha => (by cases ha), fun ha => (by cases ha)⟩
  · rw [List.getElem?_drop]
    have := h.2 (a.length + k)
    rw [List.getElem?_append_right (by omega), Nat.add_sub_cancel_left] at this
    exact this
theorem LR.app {ρ : Nat → Int} {n : Nat} {la lb : List (Option AV)} {a b : Lc} (h : LR ρ n la a) (g : LR ρ n lb b) : LR ρ n (la ++ lb) (a ++ b) := by
  refine ⟨by rw [List.length_append, List.length_append, h.1, g.1], fun k => ?_⟩
  by_cases hk : k < la.length
  · rw [List.getElem?_append_left hk, List.getElem?_append_left (by rw [← h.1]; exact hk)]
    exact h.2 k
  · rw [List.getElem?_append_right (by omega), List.getElem?_append_right (by rw [← h.1]; omega), h.1]
    exact g.2 _
noncomputable def PmPost (rg : List Rg) (s : Sm) (es : List (Option LE)) (ρ : Nat → Int) (h : Hp) (rA rB : Option Value) (H : Hp) : Prop := (∀ q ∈ rg, RgO H q) ∧ Frm s.2.2.2.2.2.1 h H ∧ ∃ oe ∈ s.2.2.2.2.2.2.zip es, ∃ ρ', Ag ρ ρ' (smG s) ∧ bdV ρ' oe.1.1 (smG s) ∧ rtV ρ' oe.1.2.1 rA ∧ rtV ρ' oe.2 rB ∧ (∀ c ∈ oe.1.2.2.1, kcV ρ' H c) ∧ (∀ f ∈ oe.1.2.2.2, 0 ≤ leV ρ' f)
noncomputable def PmOK (rg : List Rg) (p : Pm) : Prop := ∀ d, p.2.2.1.2.1 ≤ d → ∀ (ρ : Nat → Int) (as bs : List Value) (h : Hp), as.length = p.2.1 → inV ρ p.2.2.1.2.2.1 0 (as ++ bs) → bdV ρ p.2.2.1.2.2.2.1 (nonR p.2.2.1.2.2.1) → (∀ c ∈ celG (nonR p.2.2.1.2.2.1) p.2.2.1.2.2.2.1, kcV ρ h c) → (∀ f ∈ p.2.2.1.2.2.2.2.1, 0 ≤ leV ρ f) → (∀ q ∈ rg, RgO h q) → ∃ rA hA rB hB, CRun d p.2.2.1.1 as h rA hA ∧ CRun d p.1 bs h rB hB ∧ hA.2.2 = h.2.2 ∧ hB.2.2 = h.2.2 ∧ (∀ v, rA = some v → vS true v) ∧ (∀ v, rB = some v → vS false v) ∧ PmPost rg p.2.2.1 p.2.2.2 ρ h rA rB (mxH true hA hB)
/-- a caller of the first thread that waits: its thread, where it goes on, its locals, what stays on its stack -/
noncomputable abbrev Fr : Type := Th × Nat × Lc × List Value
noncomputable def RunF : List Fr → Th → Cf → Option Value → Hp → Prop
  | [], A, z, r, h' => Run A.1 A.2.1 A.2.2 z r h'
  | (T, pc, ls, st) :: fs, A, z, r, h' => ∃ r1 h1, Run A.1 A.2.1 A.2.2 z r1 h1 ∧ RunF fs T (pc, ls, r1.toList ++ st, h1) r h'
noncomputable def frW (s : Bool) (fs : List Fr) : Prop := ∀ f ∈ fs, cdS f.1.2.1 = true ∧ lS s f.2.2.1 ∧ sS s f.2.2.2
theorem RunF.step {fs : List Fr} {A : Th} {z z' : Cf} {G : Prop} {r : Option Value} {h' : Hp} (e : stp A.2.1 z = some (G, z')) (g : G) (x : RunF fs A z' r h') : RunF fs A z r h' := by
  cases fs with
  | nil => exact Run.step e g x
  | cons f fs =>
    obtain ⟨r1, h1, x1, x2⟩ := x
    exact ⟨r1, h1, Run.step e g x1, x2⟩
theorem RunF.call {fs : List Fr} {A : Th} {pc : Nat} {ls : Lc} {st : List Value} {h : Hp} {mid n : Nat} {as rest : List Value} {r1 r : Option Value} {h1 h' : Hp} (e1 : cal A.2.1 (pc, ls, st, h) = some (mid, n)) (e2 : as.length = n) (e3 : st = as.reverse ++ rest) (e4 : (rest.map fun v => v.category).sum ≤ 8) (k : CRun A.1 mid as h r1 h1) (x : RunF fs A (pc + 3, ls, r1.toList ++ rest, h1) r h') : RunF fs A (pc, ls, st, h) r h' := by
  cases fs with
  | nil => exact Run.call e1 e2 e3 e4 k x
  | cons f fs =>
    obtain ⟨r2, h2, x1, x2⟩ := x
    exact ⟨r2, h2, Run.call e1 e2 e3 e4 k x1, x2⟩
theorem RunF.mx {s : Bool} {K : Hp} : ∀ {fs : List Fr} {A : Th} {z : Cf} {r : Option Value} {h' : Hp}, cdS A.2.1 = true → frW s fs → RunF fs A z r h' → lS s z.2.1 → sS s z.2.2.1 → RunF fs A (mxZ s K z) r (mxH s h' K) ∧ ∀ v, r = some v → vS s v
  | [], A, z, r, h', hc, _, x, hl, hs => Run.mx hc x hl hs
  | (T, pc, ls, st) :: fs, A, z, r, h', hc, hf, x, hl, hs => by
    obtain ⟨r1, h1, x1, x2⟩ := x
    obtain ⟨y1, y2⟩ := Run.mx (K := K) hc x1 hl hs
    obtain ⟨f1, f2, f3⟩ := hf _ List.mem_cons_self
    obtain ⟨w1, w2⟩ := RunF.mx (K := K) f1 (fun f hm => hf f (List.mem_cons_of_mem _ hm)) x2 f2 (sS_ret f3 y2)
    exact ⟨⟨r1, _, y1, w1⟩, w2⟩
noncomputable def TwoF (s : Bool) (fs : List Fr) (A B : Th) (zA zB : Cz) (h : Hp) (P : Option Value → Option Value → Hp → Prop) : Prop := ∃ rA hA rB hB, RunF fs A (zA.at h) rA hA ∧ Run B.1 B.2.1 B.2.2 (zB.at h) rB hB ∧ hA.2.2 = h.2.2 ∧ hB.2.2 = h.2.2 ∧ P rA rB (mxH s hA hB)
/-- where the first thread's method ends -/
noncomputable def EndF (s : Bool) (fs : List Fr) (B : Th) (r : Option Value) (zB : Cz) (h : Hp) (P : Option Value → Option Value → Hp → Prop) : Prop := match fs with
  | [] => ∃ rB hB, Run B.1 B.2.1 B.2.2 (zB.at h) rB hB ∧ hB.2.2 = h.2.2 ∧ P r rB (mxH s h hB)
  | (T, pc, ls, st) :: fs => TwoF s fs T B (pc, ls, r.toList ++ st) zB h P
section TWOF
variable {s : Bool} {fs : List Fr} {A B : Th} {zA zB : Cz} {h : Hp} {P : Option Value → Option Value → Hp → Prop}
theorem TwoF.clo (hA : cdS A.2.1 = true) (hB : cdS B.2.1 = true) (lB : lS (!s) zB.2.1) (sB : sS (!s) zB.2.2) : Clo (Call A.1) A.2.1 A.2.2 (fun r h => (∀ v, r = some v → vS s v) → EndF s fs B r zB h P) (fun z => lS s z.2.1 → sS s z.2.2.1 → TwoF s fs A B (z.1, z.2.1, z.2.2.1) zB z.2.2.2 P) := by
  have back : ∀ {h h' : Hp} {rB : Option Value} {hB' : Hp}, h' = mxH s h' h → h'.2.2 = h.2.2 → Run B.1 B.2.1 B.2.2 (zB.at h') rB hB' → Run B.1 B.2.1 B.2.2 (zB.at h) rB (mxH (!s) hB' h) := by
    intro h h' rB hB' e1 e2 x
    have x := (Run.mx (s := !s) (K := h) hB x lB sB).1
    have e : mxZ (!s) h (zB.at h') = zB.at h := by
      show (zB.1, zB.2.1, zB.2.2, mxH (!s) h' h) = (zB.1, zB.2.1, zB.2.2, h)
      rw [show mxH (!s) h' h = h from mx_of (s := s) e1 e2]
    rw [e] at x
    exact x
  refine ⟨fun z z' G e g x hl hs => ?_, fun pc ls st h mid n as rest e1 e2 e3 e4 c hl hs => ?_, fun z G r e g hq hl hs => ?_⟩
  · obtain ⟨-, t2, t3, t4⟩ := stp_mx (K := z.2.2.2) hA hl hs e
    have t5 := stp_off hA hl hs e
    obtain ⟨rA, hA', rB, hB', x1, x2, x3, x4, x5⟩ := x t2 t3
    exact ⟨rA, hA', rB, mxH (!s) hB' z.2.2.2, RunF.step e g x1, back t5 t4 x2, x3.trans t4, x4.trans t4, by rw [mx_rr]; exact x5⟩
  · obtain ⟨s1, s2⟩ := sS_args e3 hs
    obtain ⟨r1, h1, ⟨x, y2, y3, y4⟩, k⟩ := (Call.off c s1).det
    obtain ⟨rA, hA', rB, hB', x1, x2, x3, x4, x5⟩ := x hl (sS_ret s2 y4)
    exact ⟨rA, hA', rB, mxH (!s) hB' h, RunF.call e1 e2 e3 e4 k x1, back y2 y3 x2, x3.trans y3, x4.trans y3, by rw [mx_rr]; exact x5⟩
  · have hq := hq (rtp_S e hs)
    cases fs with
    | nil =>
      obtain ⟨rB, hB', x1, x2, x3⟩ := hq
      exact ⟨r, z.2.2.2, rB, hB', Run.ret e g, x1, rfl, x2, x3⟩
    | cons f fs =>
      obtain ⟨T, pc, ls, st⟩ := f
      obtain ⟨rA, hA', rB, hB', x1, x2, x3, x4, x5⟩ := hq
      exact ⟨rA, hA', rB, hB', ⟨r, z.2.2.2, Run.ret e g, x1⟩, x2, x3, x4, x5⟩
theorem TwoF.cloB (hA : cdS A.2.1 = true) (hB : cdS B.2.1 = true) (hf : frW s fs) (lA : lS s zA.2.1) (sA : sS s zA.2.2) : Clo (Call B.1) B.2.1 B.2.2 (fun _ _ => False) (fun z => lS (!s) z.2.1 → sS (!s) z.2.2.1 → TwoF s fs A B zA (z.1, z.2.1, z.2.2.1) z.2.2.2 P) := by
  have back : ∀ {h h' : Hp} {rA : Option Value} {hA' : Hp}, h' = mxH (!s) h' h → h'.2.2 = h.2.2 → RunF fs A (zA.at h') rA hA' → RunF fs A (zA.at h) rA (mxH s hA' h) := by
    intro h h' rA hA' e1 e2 x
    have x := (RunF.mx (s := s) (K := h) hA hf x lA sA).1
    have e : mxZ s h (zA.at h') = zA.at h := by
      show (zA.1, zA.2.1, zA.2.2, mxH s h' h) = (zA.1, zA.2.1, zA.2.2, h)
      have := mx_of (s := !s) e1 e2
      rw [Bool.not_not] at this
      rw [this]
    rw [e] at x
    exact x
  refine ⟨fun z z' G e g x hl hs => ?_, fun pc ls st h mid n as rest e1 e2 e3 e4 c hl hs => ?_, fun z G r e g hq hl hs => hq.elim⟩
  · obtain ⟨-, t2, t3, t4⟩ := stp_mx (K := z.2.2.2) hB hl hs e
    have t5 := stp_off hB hl hs e
    obtain ⟨rA, hA', rB, hB', x1, x2, x3, x4, x5⟩ := x t2 t3
    exact ⟨rA, mxH s hA' z.2.2.2, rB, hB', back t5 t4 x1, Run.step e g x2, x3.trans t4, x4.trans t4, by rw [mx_l]; exact x5⟩
  · obtain ⟨s1, s2⟩ := sS_args e3 hs
    obtain ⟨r1, h1, ⟨x, y2, y3, y4⟩, k⟩ := (Call.off c s1).det
    obtain ⟨rA, hA', rB, hB', x1, x2, x3, x4, x5⟩ := x hl (sS_ret s2 y4)
    exact ⟨rA, mxH s hA' h, rB, hB', back y2 y3 x1, Run.call e1 e2 e3 e4 k x2, x3.trans y3, x4.trans y3, by rw [mx_l]; exact x5⟩
/-- both call -/
theorem TwoF.both (hA : cdS A.2.1 = true) (hB : cdS B.2.1 = true) (hf : frW s fs) {pA pB mA mB nA nB : Nat} {lA lB : Lc} {sA sB aA tA aB tB : List Value} {rA rB : Option Value} {h1 h2 : Hp} (eA1 : ∀ h, cal A.2.1 (pA, lA, sA, h) = some (mA, nA)) (eA2 : aA.length = nA) (eA3 : sA = aA.reverse ++ tA) (eA4 : (tA.map fun v => v.category).sum ≤ 8) (eB1 : ∀ h, cal B.2.1 (pB, lB, sB, h) = some (mB, nB)) (eB2 : aB.length = nB) (eB3 : sB = aB.reverse ++ tB) (eB4 : (tB.map fun v => v.category).sum ≤ 8) (kA : CRun A.1 mA aA h rA h1) (kB : CRun B.1 mB aB h rB h2) (qA : h1.2.2 = h.2.2) (qB : h2.2.2 = h.2.2) (uA : lS s lA) (vA : sS s (rA.toList ++ tA)) (uB : lS (!s) lB) (vB : sS (!s) (rB.toList ++ tB)) (H : TwoF s fs A B (pA + 3, lA, rA.toList ++ tA) (pB + 3, lB, rB.toList ++ tB) (mxH s h1 h2) P) : TwoF s fs A B (pA, lA, sA) (pB, lB, sB) h P := by
  obtain ⟨RA, HA, RB, HB, x1, x2, x3, x4, x5⟩ := H
  have y1 := (RunF.mx (s := s) (K := h1) hA hf x1 uA vA).1
  have y2 := (Run.mx (s := !s) (K := h2) hB x2 uB vB).1
  have e1 : mxZ s h1 (Cz.at (pA + 3, lA, rA.toList ++ tA) (mxH s h1 h2)) = (pA + 3, lA, rA.toList ++ tA, h1) := by
    show (_, _, _, mxH s (mxH s h1 h2) h1) = _
    rw [mx_l, mx_self]
    rfl
  have e2 : mxZ (!s) h2 (Cz.at (pB + 3, lB, rB.toList ++ tB) (mxH s h1 h2)) = (pB + 3, lB, rB.toList ++ tB, h2) := by
    show (_, _, _, mxH (!s) (mxH s h1 h2) h2) = _
    rw [mx_sw (h := h1) (k := h2) (qA.trans qB.symm), mx_l, mx_self]
    rfl
  rw [e1] at y1
  rw [e2] at y2
  exact ⟨RA, mxH s HA h1, RB, mxH (!s) HB h2, RunF.call (eA1 h) eA2 eA3 eA4 kA y1, Run.call (eB1 h) eB2 eB3 eB4 kB y2, x3.trans qA, x4.trans qA, by rw [mx_l, mx_rr]; exact x5⟩
end TWOF
/-- the callee of the first is entered -/
theorem TwoF.ent {s : Bool} {fs : List Fr} {B : Th} {zB : Cz} {h : Hp} {P : Option Value → Option Value → Hp → Prop} {e pA m1 nA : Nat} {cd : Cd} {rt : Option FieldType} {lA : Lc} {sA aA tA : List Value} {y : MethodName} {b : ByteArray} {ml : Nat} {rt' : Option FieldType} {o : Nat} {cd' : Cd} {q : Mp} (e1 : ∀ h, cal cd (pA, lA, sA, h) = some (m1, nA)) (e2 : aA.length = nA) (e3 : sA = aA.reverse ++ tA) (e4 : (tA.map fun v => v.category).sum ≤ 8) (hm : psM[m1]? = some (y, b, ml, rt', o, cd', q)) (h1 : Nat.ble (eL aA).length ml = true) (h2 : aA.length = (if q.1 = 0 then q.2.1 else q.2.1 + 1)) (h3 : rcv q.1 o aA) (H : TwoF s (((e + 1, cd, rt), pA + 3, lA, tA) :: fs) (e, cd', rt') B (0, eLn ml aA, []) zB h P) : TwoF s fs (e + 1, cd, rt) B (pA, lA, sA) zB h P := by
  obtain ⟨RA, HA, RB, HB, ⟨r1, h1', x0, x1⟩, x2, x3, x4, x5⟩ := H
  exact ⟨RA, HA, RB, HB, RunF.call (A := (e + 1, cd, rt)) (e1 h) e2 e3 e4 (crun_of hm h1 h2 h3 x0) x1, x2, x3, x4, x5⟩
/-- more depth does no harm -/
theorem Call.up : ∀ {d mid : Nat} {as : List Value} {h : Hp} {Q : Option Value → Hp → Prop}, Call d mid as h Q → Call (d + 1) mid as h Q
  | 0, _, _, _, _, hc => hc.elim
  | d + 1, mid, as, h, Q, hc => by
    rcases hc with hc | ⟨y, b, ml, rt, o, cd, q, h1, h2, h3, h4, hX⟩
    · exact Or.inl hc
    · exact Or.inr ⟨y, b, ml, rt, o, cd, q, h1, h2, h3, h4, fun X hc => hX X ⟨hc.1, fun pc ls st h mid n as rest e1 e2 e3 e4 c => hc.2.1 pc ls st h mid n as rest e1 e2 e3 e4 (Call.up c), hc.2.2⟩⟩
theorem CRun.le {d d' mid : Nat} {as : List Value} {h h' : Hp} {r : Option Value} (k : CRun d mid as h r h') (hd : d ≤ d') : CRun d' mid as h r h' := by
  obtain ⟨n, rfl⟩ := Nat.exists_eq_add_of_le hd
  clear hd
  induction n with
  | zero => exact k
  | succ n ih => exact fun Q q => (ih Q q).up
section PWS
variable {rg : List Rg} {ws : List Wr} {h0 : Hp} {T : List Sm} {TP : List Pm} {ANa ANb : List (Nat × List (Nat × An))} {JN : List (Nat × An)} {yA : Nat → Nat → Bool} {yB bg : Nat → Bool} {gA gB dB eB : Nat} {bB : Bd} {P : Option Value → Option Value → Hp → Prop}
/-- what is claimed where both meet -/
noncomputable def XJ (fs : List Fr) (A B : Th) (nA : Nat) (P : Option Value → Option Value → Hp → Prop) (z : Cf) : Prop := ∀ la lb : Lc, z.2.1 = la ++ lb → la.length = nA → lS true la → lS (!true) lb → TwoF true fs A B (z.1 / 65536 % 65536, la, []) (z.1 % 65536, lb, []) z.2.2.2 P
theorem pw_sp (hT : ∀ s ∈ T, SmOK rg s) (hTP : ∀ p ∈ TP, PmOK rg p) (hdB : dB ≤ eB) (hcB : cdS bB.1 = true) : ∀ (n mA dA eA : Nat) (act : List Al) (skA skB : Bool) (S : Sx) (pa : Nat) (la : List (Option AV)) (sa : List AV) (pb : Nat) (lb : List (Option AV)) (sb : List AV) (fin : Sx → Option AV → Zx → Bool → Bool) (fs : List Fr) (m : Mi) (ρ : Nat → Int) (h : Hp) (lcA lcB : Lc) (scA scB : List Value), pw rg ws T TP ANa ANb JN yA yB bg gA gB dB bB n mA dA act skA skB S (pa, la, sa) (pb, lb, sb) fin = true → psM[mA]? = some m → dA ≤ eA → eA ≤ eB → frW true fs → Mo rg ws h0 ρ S h → LR ρ S.1 la lcA → SR ρ S.1 sa scA → LR ρ S.1 lb lcB → SR ρ S.1 sb scB → (∀ al ∈ act, AlOK rg ws h0 ρ S.1 (XJ fs (eA, m.2.2.2.2.2.1, m.2.2.2.1) (eB, bB.1, bB.2.1) m.2.2.1 P) al) → lS true lcA → sS true scA → lS (!true) lcB → sS (!true) scB → (∀ (ρ' : Nat → Int) (S' : Sx) (h' : Hp) (r : Option AV) (rv : Option Value) (pb' : Nat) (lb' : List (Option AV)) (sb' : List AV) (lc' : Lc) (sc' : List Value) (sk : Bool), Ag ρ ρ' S.1 → S.1 ≤ S'.1 → Mo rg ws h0 ρ' S' h' → rvO ρ' S'.1 r rv → (∀ v, rv = some v → vS true v) → LR ρ' S'.1 lb' lc' → SR ρ' S'.1 sb' sc' → lS (!true) lc' → sS (!true) sc' → fin S' r (pb', lb', sb') sk = true → EndF true fs (eB, bB.1, bB.2.1) rv (pb', lc', sc') h' P) → TwoF true fs (eA, m.2.2.2.2.2.1, m.2.2.2.1) (eB, bB.1, bB.2.1) (pa, lcA, scA) (pb, lcB, scB) h P := by
  intro n
  induction n with
  | zero => intro mA dA eA act skA skB S pa la sa pb lb sb fin fs m ρ h lcA lcB scA scB hx; cases hx
  | succ n ih =>
    intro mA dA eA act skA skB S pa la sa pb lb sb fin fs m ρ h lcA lcB scA scB hx hm hdA hAB hfr M lA sA lB sB hAl uA vA uB vB hF
    rw [pw_succ] at hx
    dsimp only at hx
    rw [lk_eq, hm] at hx
    dsimp only at hx
    have hcA : cdS m.2.2.2.2.2.1 = true := psS_at hm
    have cloA := TwoF.clo (s := true) (fs := fs) (A := (eA, m.2.2.2.2.2.1, m.2.2.2.1)) (B := (eB, bB.1, bB.2.1)) (zB := (pb, lcB, scB)) (P := P) hcA hcB uB vB
    refine ex_sp (rg := rg) (ws := ws) (h0 := h0) (ρ0 := ρ) (n0 := S.1) (δ := 0) (Q0 := fun r h => (∀ v, r = some v → vS true v) → EndF true fs (eB, bB.1, bB.2.1) r (pb, lcB, scB) h P) (X0 := fun z => lS true z.2.1 → sS true z.2.2.1 → TwoF true fs (eA, m.2.2.2.2.2.1, m.2.2.2.1) (eB, bB.1, bB.2.1) (z.1, z.2.1, z.2.2.1) (pb, lcB, scB) z.2.2.2 P) (fun s hs => (hT s hs).q) (fun ρ1 S1 h1 r rv g1 g2 M1 hr hf => ?_) (fun ρ1 S1 h1 pa1 la1 sa1 lc1 sc1 g1 g2 M1 lA1 sA1 hst => ?_) gA dA eA [] (m.2.2.2.2.2.1, m.2.2.2.1, anT ANa mA) [] skA _ ρ _ _ (pa, lcA, scA, h) hdA hx Ag.rf (Nat.le_refl _) ⟨M, rfl, lA, sA⟩ cloA (fun al hal => by cases hal) (fun _ z q => q) (fun r h q => q) uA vA
    · intro hrs
      obtain ⟨D, hD, FD⟩ := tgF_sp (l := S1.2.1.2) M1.1 (fun e he => (M1.1.2 e he).2)
      rw [hD] at hf
      exact hF ρ1 (S1.1, D, S1.2.2) h1 r rv pb lb sb lcB scB skB g1 g2 (M1.db FD) hr hrs (lB.ext g1 g2) (sB.ext g1 g2) uB vB hf
    · intro u1 v1
      split at hst
      case isFalse => cases hst
      have hst := Option.some.inj hst
      have cloB := TwoF.cloB (s := true) (fs := fs) (A := (eA, m.2.2.2.2.2.1, m.2.2.2.1)) (B := (eB, bB.1, bB.2.1)) (zA := (pa1, lc1, sc1)) (P := P) hcA hcB hfr u1 v1
      refine ex_sp (rg := rg) (ws := ws) (h0 := h0) (ρ0 := ρ1) (n0 := S1.1) (δ := 0) (Q0 := fun _ _ => False) (X0 := fun z => lS (!true) z.2.1 → sS (!true) z.2.2.1 → TwoF true fs (eA, m.2.2.2.2.2.1, m.2.2.2.1) (eB, bB.1, bB.2.1) (pa1, lc1, sc1) (z.1, z.2.1, z.2.2.1) z.2.2.2 P) (fun s hs => (hT s hs).q) (fun _ _ _ _ _ _ _ _ _ hf => by cases hf) (fun ρ2 S2 h2 pb2 lb2 sb2 lc2 sc2 k1 k2 M2 lB2 sB2 hst2 => ?_) gB dB eB [] bB [] skB _ ρ1 _ _ (pb, lcB, scB, h1) hdB hst Ag.rf (Nat.le_refl _) ⟨M1, rfl, lB.ext g1 g2, sB.ext g1 g2⟩ cloB (fun al hal => by cases hal) (fun _ z q => q) (fun r h q => q) uB vB
      intro u2 v2
      split at hst2
      case isFalse => cases hst2
      have hst2 := Option.some.inj hst2
      have gk : Ag ρ ρ2 S.1 := g1.tr k1 g2
      have gn : S.1 ≤ S2.1 := Nat.le_trans g2 k2
      have lA2 := lA1.ext k1 k2
      have sA2 := sA1.ext k1 k2
      have hF2 : ∀ {ρ0' : Nat → Int} {n0' : Nat}, Ag ρ ρ0' S.1 → S.1 ≤ n0' → ∀ (ρ' : Nat → Int) (S' : Sx) (h' : Hp) (r : Option AV) (rv : Option Value) (pb' : Nat) (lb' : List (Option AV)) (sb' : List AV) (lc' : Lc) (sc' : List Value) (sk : Bool), Ag ρ0' ρ' n0' → n0' ≤ S'.1 → Mo rg ws h0 ρ' S' h' → rvO ρ' S'.1 r rv → (∀ v, rv = some v → vS true v) → LR ρ' S'.1 lb' lc' → SR ρ' S'.1 sb' sc' → lS (!true) lc' → sS (!true) sc' → fin S' r (pb', lb', sb') sk = true → EndF true fs (eB, bB.1, bB.2.1) rv (pb', lc', sc') h' P := fun a1 a2 ρ' S' h' r rv pb' lb' sb' lc' sc' sk b1 b2 => hF ρ' S' h' r rv pb' lb' sb' lc' sc' sk (a1.tr b1 a2) (Nat.le_trans a2 b2)
      split at hst2
      · -- both call
        rename_i mA1 kA mB kB hcA' hcB'
        simp only [Bool.and_eq_true] at hst2
        obtain ⟨⟨⟨⟨f1, f2⟩, f3⟩, f4⟩, hx2⟩ := hst2
        obtain ⟨va, ra, rfl, t1, t2, t3⟩ := SR.split sA2 (Nat.le_of_ble_eq_true f1)
        obtain ⟨vb, rb, rfl, t4, t5, t6⟩ := SR.split sB2 (Nat.le_of_ble_eq_true f3)
        split at hx2
        · rename_i S3 σ s0 es hpm
          obtain ⟨p, hp, hp1, hp2, hp3, hp4, sx, hsm⟩ := pmF_sp hpm
          dsimp only at hp4 hsm
          obtain ⟨j1, j2, j3, j4, j5, ρ3, a1, a2, M3, j6, j7, j8, j9, j10, j11, j12⟩ := smF_sp M2 (SR.app (SR.rev t1) (SR.rev t4)) hsm
          dsimp only at j1 j2 j3 j4 j5 a2 M3 j6 j7 j8 j9 j10 j11 j12
          have js : sx = s0 := by
            rcases List.mem_cons.mp j1 with j1 | j1
            · rw [j1, hp4]
            · cases j1
          subst js
          have hlA : va.reverse.length = p.2.1 := by rw [List.length_reverse, t3, hp2]
          have j2' : p.2.2.1.1 = mA1 := by rw [hp4]; exact j2
          obtain ⟨rA, hA', rB, hB', c1, c2, c3, c4, c5, c6, P1, P2, oe, P3, ρ', P4, P5, P6, P7, P8, P9⟩ := hTP p hp eA (by rw [hp4]; exact Nat.le_trans j3 hdA) (fun k => leV ρ3 (fLQ σ k)) va.reverse vb.reverse h2 hlA (by rw [hp4]; exact j8) (by rw [hp4]; exact j9) (by rw [hp4]; exact j10) (by rw [hp4]; exact j11) M3.2.2.1
          rw [hp4] at c1 P2 P3 P4 P5
          rw [hp1] at c2
          dsimp only at c1 P2 P3 P4 P5
          rw [j2] at c1
          have P4 : Ag (fun k => leV ρ3 (fLL 0 σ k)) ρ' (smG sx) := fun k hk => by
            rw [P4 k hk]
            show leV ρ3 (fLQ σ k) = leV ρ3 (fLL 0 σ k)
            rw [fLQ_lo (Nat.lt_of_lt_of_le hk j12)]
          obtain ⟨ρ4, z1, z2, z3, z4⟩ := smO_sp M3 j6 j7 j4 (List.of_mem_zip P3).1 j5 P1 P2 P4 P5 P6 P8 P9
          rw [List.all_eq_true] at hx2
          have hx2 := hx2 oe P3
          obtain ⟨D2, hD2, FD2⟩ := tgF_sp (l := oe.1.2.2.2.map (leSb (fLL 0 (σ ++ frX S3.1 oe.1.1)))) z2.1 (fun e he => (z2.1.2 e (List.mem_append_left _ he)).2)
          (try dsimp only at hx2)
          rw [hD2] at hx2
          have gz : Ag ρ2 ρ4 S2.1 := a1.tr z1 a2
          have len2 : S2.1 ≤ (smO S3 σ sx.2.2.2.2.2.1 oe.1).1.1 := Nat.le_trans a2 (Nat.le_add_right _ _)
          have gall : Ag ρ ρ4 S.1 := gk.tr gz gn
          have vra : sS true ra := fun v hv => v1 v (List.mem_append_right _ hv)
          have vrb : sS (!true) rb := fun v hv => v2 v (List.mem_append_right _ hv)
          have w1 : sS true (rA.toList ++ ra) := sS_ret vra c5
          have w2 : sS (!true) (rB.toList ++ rb) := sS_ret vrb c6
          refine TwoF.both (s := true) hcA hcB hfr (aA := va.reverse) (aB := vb.reverse) (tA := ra) (tB := rb) (fun h => cAt_cal hcA' _ _ h) (by rw [List.length_reverse]; exact t3) (by rw [List.reverse_reverse]) (by rw [catS_sp t2]; exact Nat.le_of_ble_eq_true f2) (fun h => cAt_cal hcB' _ _ h) (by rw [List.length_reverse]; exact t6) (by rw [List.reverse_reverse]) (by rw [catS_sp t5]; exact Nat.le_of_ble_eq_true f4) c1 (c2.le hAB) c3 c4 u1 w1 u2 w2 ?_
          refine ih mA dA eA act false false _ (pa1 + 3) _ _ (pb2 + 3) _ _ fin fs m ρ4 _ lc1 lc2 _ _ hx2 hm hdA hAB hfr (z2.db FD2) ((lA1.ext k1 k2).ext gz len2) ?_ (lB2.ext gz len2) ?_ (fun al hal => (hAl al hal).ext gall (Nat.le_trans gn len2)) u1 w1 u2 w2 (hF2 gall (Nat.le_trans gn len2))
          · split at z3
            · rename_i e0
              rw [e0, z3]
              exact t2.ext gz len2
            · rename_i e0
              rw [e0]
              obtain ⟨x, rfl, gx⟩ := z3
              exact SR.cons (av_i gx) (t2.ext gz len2)
          · have hw3 := hp3
            simp only [pmW, List.all_eq_true] at hw3
            rw [hp4] at hw3
            have hw3 := hw3 oe P3
            cases hoe : oe.2 with
            | none =>
              rw [hoe] at P7
              have P7 : rB = none := P7
              rw [P7]
              exact t5.ext gz len2
            | some e =>
              rw [hoe] at P7 hw3
              obtain ⟨x, e9, gx⟩ := P7
              rw [e9]
              have q := z4 e (scB_S hw3)
              exact SR.cons (av_i ⟨q.1, q.2.trans gx⟩) (t5.ext gz len2)
        · cases hx2
      · -- the first calls
        rename_i m1 kA hcA' hcB'
        split at hst2
        · exact ih mA dA eA act false true S2 pa1 la1 sa1 pb2 lb2 sb2 fin fs m ρ2 h2 lc1 lc2 sc1 sc2 hst2 hm hdA hAB hfr M2 lA2 sA2 lB2 sB2 (fun al hal => (hAl al hal).ext gk gn) u1 v1 u2 v2 (hF2 gk gn)
        · simp only [Bool.and_eq_true] at hst2
          obtain ⟨⟨⟨f0, f1⟩, f2⟩, hx2⟩ := hst2
          split at hx2
          · rename_i m' hm'
            rw [Bool.and_eq_true] at hx2
            obtain ⟨hv, hx2⟩ := hx2
            have f0 := Nat.le_of_ble_eq_true f0
            obtain ⟨e, rfl⟩ : ∃ e, eA = e + 1 := ⟨eA - 1, by omega⟩
            obtain ⟨va, ra, rfl, t1, t2, t3⟩ := SR.split sA2 (Nat.le_of_ble_eq_true f1)
            have vra : sS true ra := fun v hv => v1 v (List.mem_append_right _ hv)
            have vva : sS true va.reverse := fun v hv => v1 v (List.mem_append_left _ (List.mem_reverse.mp hv))
            have tr := SR.rev t1
            obtain ⟨yy, bb, ml, rt, o, cd, q⟩ := m'
            simp only [vfyE, Bool.and_eq_true] at hv
            dsimp only at hv hx2
            refine TwoF.ent (aA := va.reverse) (tA := ra) (fun h => cAt_cal hcA' _ _ h) (by rw [List.length_reverse]; exact t3) (by rw [List.reverse_reverse]) (by rw [catS_sp t2]; exact Nat.le_of_ble_eq_true f2) hm' (by rw [← eLa_len tr]; exact hv.1) (by rw [SR.len tr]; exact beqT hv.2.1) (rcA_sp tr hv.2.2) ?_
            have hfr' : frW true (((e + 1, m.2.2.2.2.2.1, m.2.2.2.1), pa1 + 3, lc1, ra) :: fs) := fun f hf => by
              rcases List.mem_cons.mp hf with rfl | hf
              · exact ⟨hcA, u1, vra⟩
              · exact hfr f hf
            refine ih m1 (dA - 1) e [] false false S2 0 _ [] pb2 lb2 sb2 _ _ (yy, bb, ml, rt, o, cd, q) ρ2 h2 _ lc2 [] sc2 hx2 hm' (by omega) (by omega) hfr' M2 (eLnA_LR tr) rfl lB2 sB2 (fun al hal => by cases hal) (lS_eLn vva) (fun v hv => by cases hv) u2 v2 ?_
            intro ρ' S' h' r rv pb' lb' sb' lc' sc' sk b1 b2 M' hr hrs lB' sB' uB' vB' hfin
            have gb : Ag ρ ρ' S.1 := gk.tr b1 gn
            have gbn : S.1 ≤ S'.1 := Nat.le_trans gn b2
            show TwoF true fs (e + 1, m.2.2.2.2.2.1, m.2.2.2.1) (eB, bB.1, bB.2.1) (pa1 + 3, lc1, rv.toList ++ ra) (pb', lc', sc') h' P
            exact ih mA dA (e + 1) act false sk S' (pa1 + 3) la1 _ pb' lb' sb' fin fs m ρ' h' lc1 lc' _ sc' hfin hm hdA hAB hfr M' (lA2.ext b1 b2) (rv_app hr (t2.ext b1 b2)) lB' sB' (fun al hal => (hAl al hal).ext gb gbn) u1 (sS_ret vra hrs) uB' vB' (hF2 gb gbn)
          · cases hx2
      · -- the first goes on
        exact ih mA dA eA act true false S2 pa1 la1 sa1 pb2 lb2 sb2 fin fs m ρ2 h2 lc1 lc2 sc1 sc2 hst2 hm hdA hAB hfr M2 lA2 sA2 lB2 sB2 (fun al hal => (hAl al hal).ext gk gn) u1 v1 u2 v2 (hF2 gk gn)
      · -- the head of a loop of both
        simp only [Bool.and_eq_true, Bool.or_eq_true] at hst2
        obtain ⟨⟨⟨⟨⟨e1, e2⟩, e3⟩, e4⟩, e5⟩, hx2⟩ := hst2
        have q1 := SR.nil e1 sA2
        have q2 := SR.nil e2 sB2
        subst q1
        subst q2
        have lJ := LR.app lA2 lB2
        have hlen : lc1.length = m.2.2.1 := by rw [← lA2.1]; exact beqT e3
        have e4 := beqT e4
        have e5 := beqT e5
        have XX : XJ fs (eA, m.2.2.2.2.2.1, m.2.2.2.1) (eB, bB.1, bB.2.1) m.2.2.1 P (jk mA pa1 pb2, lc1 ++ lc2, [], h2) → TwoF true fs (eA, m.2.2.2.2.2.1, m.2.2.2.1) (eB, bB.1, bB.2.1) (pa1, lc1, []) (pb2, lc2, []) h2 P := fun X => by
          have X := X lc1 lc2 rfl hlen u1 u2
          dsimp only at X
          rw [e4, e5] at X
          exact X
        refine XX ?_
        rcases hx2 with hx2 | hx2
        · rw [List.any_eq_true] at hx2
          obtain ⟨al, hm1, hx2⟩ := hx2
          rw [Bool.and_eq_true] at hx2
          obtain ⟨hpc, hx2⟩ := hx2
          have hpc := beqT hpc
          unfold jchk at hx2
          dsimp only at hx2
          split at hx2
          · rename_i σ hσ
            rw [Bool.and_eq_true] at hx2
            obtain ⟨ρ0', a1', a2', M1'⟩ := tch_sp (l := al.2.2.1) M2
            obtain ⟨ρ3, a1'', a2'', M3⟩ := tch8_sp (f := fLL al.2.1 σ) (kc := al.2.2.2.1.1.2.2) M1'
            have a1 := a1'.tr a1'' a2'
            have a2 := Nat.le_trans a2' a2''
            obtain ⟨b1, b2, b3, b4, b5⟩ := (hAl al hm1).ext (gk.tr a1 gn) (Nat.le_trans gn a2)
            obtain ⟨c1, c2⟩ := chk_sp M3 (lJ.ext a1 a2) b1 b2 b4 hx2.1
            have := b5 _ _ fLL_ag c1 (c2 hx2.2)
            rw [hpc] at this
            exact this
          · cases hx2
        · rw [List.any_eq_true] at hx2
          obtain ⟨qn, -, hx2⟩ := hx2
          rw [Bool.and_eq_true] at hx2
          have hx2 := hx2.2
          split at hx2
          · rename_i al hal2
            unfold jop at hal2
            dsimp only at hal2
            split at hal2
            · rename_i σ hσ
              obtain ⟨ρ0', a1', a2', M1'⟩ := tch_sp (l := qn.2.1) M2
              obtain ⟨ρ0'', a1'', a2'', M1''⟩ := tch_sp (l := qn.2.2.2.1.map fun c => ((1, c.1, c.2.1, c.2.2.1), 0, 0)) M1'
              obtain ⟨ρ3, a1''', a2''', M3⟩ := tch8_sp (f := fLL 0 σ) (kc := qn.2.2.2.1) M1''
              have a1 := (a1'.tr a1'' a2').tr a1''' (Nat.le_trans a2' a2'')
              have a2 := Nat.le_trans (Nat.le_trans a2' a2'') a2'''
              split at hal2
              · rename_i al' hal3
                split at hal2
                · rename_i hck
                  cases hal2
                  rw [Bool.and_eq_true] at hck
                  obtain ⟨hw, hchk⟩ := hck
                  obtain ⟨p1, p2, p3, p4⟩ := mkP_sp hal3
                  have hD : Fa ρ3 al.2.1 al.2.2.2.2.2.1 := by rw [p2, p3]; exact M3.1
                  have hPn : al.2.2.2.1.1.1 = al.2.1 + al.2.2.1.length := by
                    simp only [alW, Bool.and_eq_true] at hw
                    exact beqT hw.1.1.1.1.1.1
                  have hle : al.2.1 ≤ al.2.2.2.1.1.1 := by omega
                  have ga : Ag ρ ρ3 S.1 := gk.tr a1 gn
                  have gb : S.1 ≤ al.2.1 := by rw [p2]; exact Nat.le_trans gn a2
                  obtain ⟨c1, -⟩ := chk_sp M3 (lJ.ext a1 a2) hD hw p4 hchk
                  have p5 : al.2.2.2.1.2.1 = jk mA pa1 pb2 := c1.2.1.symm.trans p1
                  have key : ∀ (k : Nat) (ρ' : Nat → Int) (z' : Cf), Ag ρ3 ρ' al.2.1 → Md rg ws h0 ρ' al.2.2.2.1 z' → mz al ρ' < k → XJ fs (eA, m.2.2.2.2.2.1, m.2.2.2.1) (eB, bB.1, bB.2.1) m.2.2.1 P z' := by
                    intro k
                    induction k with
                    | zero => intro ρ' z' _ _ q; omega
                    | succ k ihm =>
                      intro ρ' z' hag hMd hmz la' lb' hab hnn ula ulb
                      obtain ⟨pz, lz, sz, hz⟩ := z'
                      obtain ⟨Mz, hpz, hLz, hSz⟩ := hMd
                      dsimp only at Mz hpz hLz hab
                      subst hab
                      have hsp := LR.split hLz
                      rw [hnn] at hsp
                      have ag' : Ag ρ ρ' S.1 := ga.tr hag gb
                      have := ih mA dA eA (al :: act) true true al.2.2.2.1.1 pa1 _ [] pb2 _ [] fin fs m ρ' hz la' lb' [] [] hx2 hm hdA hAB hfr Mz hsp.1 rfl hsp.2 rfl ?_ ula (fun v hv => by cases hv) ulb (fun v hv => by cases hv) (hF2 ag' (Nat.le_trans gb hle))
                      · show TwoF true fs _ _ (pz / 65536 % 65536, la', []) (pz % 65536, lb', []) hz P
                        rw [hpz, p5, e4, e5]
                        exact this
                      · intro al' hal'
                        rcases List.mem_cons.mp hal' with rfl | hal'
                        · exact ⟨hD.ext hag (Nat.le_refl _), hw, by omega, p4, fun ρ'' z'' q1 q2 q3 => ihm ρ'' z'' (hag.tr q1 (Nat.le_refl _)) q2 (by omega)⟩
                        · exact (hAl al' hal').ext ag' (Nat.le_trans gb hle)
                  have := key _ _ _ fLL_ag c1 (Nat.lt_succ_self _)
                  rw [p1] at this
                  exact this
                · cases hal2
              · cases hal2
            · cases hal2
          · cases hx2
end PWS
