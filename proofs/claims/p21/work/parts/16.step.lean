/-! One step of what is known. -/
noncomputable def Md (rg : List Rg) (ws : List Wr) (h0 : Hp) (ρ : Nat → Int) (c : Cc) (z : Cf) : Prop := Mo rg ws h0 ρ c.1 z.2.2.2 ∧ z.1 = c.2.1 ∧ LR ρ c.1.1 c.2.2.1 z.2.1 ∧ SR ρ c.1.1 c.2.2.2 z.2.2.1
noncomputable def Kn (rg : List Rg) (ws : List Wr) (h0 : Hp) (ρ : Nat → Int) (n : Nat) (X : Cf → Prop) (L : List Cc) : Prop := ∀ c ∈ L, ∀ ρ' z, Ag ρ ρ' n → n ≤ c.1.1 → Md rg ws h0 ρ' c z → X z
noncomputable def notL : Option (Option AV) → Bool
  | some (some (t, _)) => !(Nat.beq t 1)
  | _ => true
noncomputable def axLd (t : Nat) (ls : List (Option AV)) (k n pc : Nat) (S : Sx) (st : List AV) : Option (List Cc) := match ls[k]? with
  | some (some (u, e)) => if Nat.beq u t = true then some [(S, pc + n, ls, (t, e) :: st)] else none
  | _ => none
noncomputable def axSt (ls : List (Option AV)) (k n pc : Nat) (S : Sx) (e : LE) (st : List AV) : Option (List Cc) := if (notL ls[k]? && notL ls[k - 1]? && Nat.blt k ls.length) = true then some [(S, pc + n, ls.set k (some (0, e)), st)] else none
noncomputable def axIs (ls : List (Option AV)) (k n pc : Nat) (S : Sx) (st : List AV) : Option (List Cc) := match st with
  | (0, e) :: r => axSt ls k n pc S e r
  | _ => none
noncomputable def pI (R : Sx × LE) (pc : Nat) (ls : List (Option AV)) (st : List AV) : Option (List Cc) := some [(R.1, pc, ls, (0, R.2) :: st)]
noncomputable def pL (R : Sx × LE) (pc : Nat) (ls : List (Option AV)) (st : List AV) : Option (List Cc) := some [(R.1, pc, ls, (1, R.2) :: st)]
/-- sums that may wrap, other operations: the same of the same is the same -/
noncomputable def exv (S : Sx) (e : LE) : Sx × LE := if inR32 S.2.1 e = true then (S, e) else pur S 2 e I32lo I32hi
noncomputable def opq (q : Nat) (S : Sx) (e1 e2 : LE) (R : Sx × LE) : Sx × LE := let key := leA (nrm S.2.1 e1) (leSc 1099511627776 (nrm S.2.1 e2)); match kcF S.2.2 13 q key with
  | some y => (S, y)
  | none => ((R.1.1, R.1.2.1, (13, q, key, R.2) :: R.1.2.2), R.2)
noncomputable def boV (i : Instr) (S : Sx) (e1 e2 : LE) (R : Sx × LE) : Sx × LE := match i with
  | .iadd => exv S (leA e1 e2)
  | .isub => exv S (leSub e1 e2)
  | .imul => (match (nrm S.2.1 e2).2 with
    | [] => exv S (leSc (nrm S.2.1 e2).1 e1)
    | _ => match (nrm S.2.1 e1).2 with
      | [] => exv S (leSc (nrm S.2.1 e1).1 e2)
      | _ => opq 6 S e1 e2 R)
  | .ior => if leEq (nrm S.2.1 e2) (leC 0) = true then (S, e1) else opq 0 S e1 e2 R
  | .iand => opq 1 S e1 e2 R
  | .ixor => opq 2 S e1 e2 R
  | .ishl => opq 3 S e1 e2 R
  | .ishr => opq 4 S e1 e2 R
  | .iushr => opq 5 S e1 e2 R
  | .idiv => opq 7 S e1 e2 R
  | .irem => if ((nrm S.2.1 e1).2.isEmpty && ((nrm S.2.1 e2).2.isEmpty && (ile 0 (nrm S.2.1 e1).1 && ile 1 (nrm S.2.1 e2).1))) = true then (S, leC ((nrm S.2.1 e1).1 % (nrm S.2.1 e2).1)) else opq 8 S e1 e2 R
  | _ => R
noncomputable def axB (i : Instr) (pc : Nat) (S : Sx) (ls : List (Option AV)) (st : List AV) : Option (List Cc) := match st with
  | (0, e2) :: (0, e1) :: r => (match bo i S e1 e2 with
    | some R => pI (if vnF = true then boV i S e1 e2 R else R) (pc + 1) ls r
    | none => none)
  | _ => none
noncomputable def oDb (S : Sx) (D : Option Db) (pc : Nat) (ls : List (Option AV)) (st : List AV) : List Cc := match D with
  | some D => [((S.1, D, S.2.2), pc, ls, st)]
  | none => []
/-- a branch on the sign of e -/
noncomputable def axIf (q : ClassFile.Cond) (t f : Nat) (S : Sx) (e : LE) (ls : List (Option AV)) (st : List AV) : List Cc := match q with
  | .eq => oDb S (adE S.2.1 e) t ls st ++ oDb S (adN S.2.1 e) f ls st
  | .ne => oDb S (adN S.2.1 e) t ls st ++ oDb S (adE S.2.1 e) f ls st
  | .lt => oDb S (adG S.2.1 (leK (leSc (-1) e) (-1))) t ls st ++ oDb S (adG S.2.1 e) f ls st
  | .ge => oDb S (adG S.2.1 e) t ls st ++ oDb S (adG S.2.1 (leK (leSc (-1) e) (-1))) f ls st
  | .gt => oDb S (adG S.2.1 (leK e (-1))) t ls st ++ oDb S (adG S.2.1 (leSc (-1) e)) f ls st
  | .le => oDb S (adG S.2.1 (leSc (-1) e)) t ls st ++ oDb S (adG S.2.1 (leK e (-1))) f ls st
/-- not 0: above or below, where neither is known -/
noncomputable def oNe (S : Sx) (e : LE) (pc : Nat) (ls : List (Option AV)) (st : List AV) : List Cc := if (en S.2.1 e || en S.2.1 (leSc (-1) e)) = true then oDb S (adN S.2.1 e) pc ls st else oDb S (adG S.2.1 (leK e (-1))) pc ls st ++ oDb S (adG S.2.1 (leK (leSc (-1) e) (-1))) pc ls st
noncomputable def axIf0 (q : ClassFile.Cond) (t f : Nat) (S : Sx) (e : LE) (ls : List (Option AV)) (st : List AV) : List Cc := match q with
  | .eq => oDb S (adE S.2.1 e) t ls st ++ oNe S e f ls st
  | .ne => oNe S e t ls st ++ oDb S (adE S.2.1 e) f ls st
  | q => axIf q t f S e ls st
/-- all others are greater -/
noncomputable def srtK (k : Int32) (r : List (Int32 × Nat)) : Bool := r.all fun q => ile (k.toInt + 1) q.1.toInt
noncomputable def axSw (S : Sx) (D : Db) (e : LE) (ls : List (Option AV)) (st : List AV) : List (Int32 × Nat) → Nat → List Cc
  | [], d => [((S.1, D, S.2.2), d, ls, st)]
  | (k, t) :: r, d => oDb S (adE D (leK e (-k.toInt))) t ls st ++ (if (xsF && srtK k r) = true then oDb S (adG D (leK (leSc (-1) e) (k.toInt - 1))) d ls st ++ (match adG D (leK e (-k.toInt - 1)) with
    | some D' => axSw S D' e ls st r d
    | none => []) else match adN D (leK e (-k.toInt)) with
    | some D' => axSw S D' e ls st r d
    | none => [])
noncomputable def bdI (D : Db) (j : LE) (n : Nat) : Bool := en2 D j && en2 D (leK (leSc (-1) j) ((n : Int) - 1)) && Nat.ble n 4000
/-- what rows tell of a known cell: facts of it -/
noncomputable def ubF (S : Sx) (D : Db) (u c : Kc) : List LE := if (Nat.beq c.1 14 && (Nat.beq u.1 0 && Nat.beq u.2.1 (ubR c.2.1))) = true then (match ubL[c.2.1 / 4]? with
  | some (b, s, n, c1, w, c2) => (match rlE s b u.2.2.1, kcF S.2.2 0 (ubC c.2.1) (leC c1) with
    | some e0, some N1 => if (!(Nat.beq w 1) && (en D e0 && (en D (leK (leSc (-1) e0) (n - 1)) && en2 D (leK (leSub N1 e0) (-1))))) = true then (if Nat.beq w 2 = true then [u.2.2.2, leSub c.2.2.2 u.2.2.2] else (match kcF S.2.2 0 (ubC c.2.1) (leC c2) with
      | some N2 => if (Nat.beq w 0 || en D (leK (leSc (-1) u.2.2.2) 2)) = true then [leK (leSub N2 u.2.2.2) (-1)] else []
      | none => [])) else []
    | _, _ => [])
  | none => []) else []
/-- whether it is told that the cell is not 0 -/
noncomputable def ubN (S : Sx) (D : Db) (u c : Kc) : Bool := Nat.beq c.1 14 && (Nat.beq u.1 0 && (Nat.beq u.2.1 (ubR c.2.1) && (match ubL[c.2.1 / 4]? with
  | some (b, s, n, c1, w, _) => (match rlE s b u.2.2.1, kcF S.2.2 0 (ubC c.2.1) (leC c1) with
    | some e0, some N1 => Nat.beq w 1 && (en D e0 && (en D (leK (leSc (-1) e0) (n - 1)) && en2 D (leK (leSub N1 e0) (-1))))
    | _, _ => false)
  | none => false)))
noncomputable def ubA (D : Db) : List LE → Db
  | [] => D
  | q :: r => ubA (match adG D q with
    | some D' => D'
    | none => D) r
noncomputable def ubD (S : Sx) (u : Kc) : List Kc → Db → Db
  | [], D => D
  | c :: r, D => ubD S u r (ubA D (ubF S D u c))
/-- what rows tell of the two cells that were told last -/
noncomputable def ubS (S : Sx) : List Sx := match S.2.2 with
  | u :: u2 :: _ => (let D := ubD S u2 S.2.2 (ubD S u S.2.2 S.2.1); if S.2.2.any (ubN S D u) = true then ((match adG D (leK u.2.2.2 (-1)) with
      | some D' => [(S.1, D', S.2.2)]
      | none => []) ++ (match adG D (leK (leSc (-1) u.2.2.2) (-1)) with
      | some D' => [(S.1, D', S.2.2)]
      | none => [])) else if S.2.2.any (ubN S D u2) = true then ((match adG D (leK u2.2.2.2 (-1)) with
      | some D' => [(S.1, D', S.2.2)]
      | none => []) ++ (match adG D (leK (leSc (-1) u2.2.2.2) (-1)) with
      | some D' => [(S.1, D', S.2.2)]
      | none => [])) else [(S.1, D, S.2.2)])
  | _ => [S]
noncomputable def ubK (R : Sx × LE) (pc : Nat) (ls : List (Option AV)) (t : List AV) : List Cc := if ubFl = true then (ubS R.1).map (fun S => (S, pc, ls, (0, R.2) :: t)) else [(R.1, pc, ls, (0, R.2) :: t)]
/-- a value of a table, place by place -/
noncomputable def axTb (S : Sx) (j : LE) (pc : Nat) (ls : List (Option AV)) (st : List AV) : Int → List Int32 → List Cc
  | _, [] => []
  | k, x :: r => oDb S (adE S.2.1 (leK j (-k))) pc ls ((0, leC x.toInt) :: st) ++ axTb S j pc ls st (k + 1) r
noncomputable def adGs (D : Db) : List LE → Option Db
  | [] => some D
  | e :: r => match adG D e with
    | some D' => adGs D' r
    | none => none
noncomputable def mmx (S : Sx) (e1 e2 : LE) : Option (Sx × LE) := if en S.2.1 (leSub e1 e2) = true then some (S, e1) else if en S.2.1 (leSub e2 e1) = true then some (S, e2) else let T := nwS S I32lo I32hi; match adGs T.2.1 [leSub (leX S.1) e1, leSub (leX S.1) e2, leK (leSc (-1) (leX S.1)) (imax (hiE S.2.1.1 e1) (hiE S.2.1.1 e2))] with
  | some D => some ((T.1, D, T.2.2), leX S.1)
  | none => none
noncomputable def mmn (S : Sx) (e1 e2 : LE) : Option (Sx × LE) := if en S.2.1 (leSub e2 e1) = true then some (S, e1) else if en S.2.1 (leSub e1 e2) = true then some (S, e2) else let T := nwS S I32lo I32hi; match adGs T.2.1 [leSub e1 (leX S.1), leSub e2 (leX S.1), leK (leX S.1) (-(imin (loE' S.2.1.1 e1) (loE' S.2.1.1 e2)))] with
  | some D => some ((T.1, D, T.2.2), leX S.1)
  | none => none
noncomputable def catS : List AV → Nat
  | [] => 0
  | (t, _) :: r => (if Nat.beq t 1 = true then 2 else 1) + catS r
noncomputable def cpO (D : Db) (sp dp n : LE) (ls ld : Nat) : Bool := en D sp && en D dp && en D n && en2 D (leK (leSc (-1) (leA sp n)) ls) && en2 D (leK (leSc (-1) (leA dp n)) ld) && Nat.ble ls 4000 && Nat.ble ld 4000
noncomputable def okC2 (ws : List Wr) (D : Db) (k o : Nat) (dp n : LE) : Bool := ws.any fun w => Nat.beq w.1 k && Nat.beq w.2.1 o && en D (leK dp (-w.2.2.1)) && en2 D (leK (leSc (-1) (leA dp n)) (w.2.2.2 + 1))
/-- the greater, or the less, told apart -/
noncomputable def axMm (mx : Bool) (pc : Nat) (S : Sx) (e1 e2 : LE) (ls : List (Option AV)) (r : List AV) : List Cc := if en S.2.1 (leSub e2 e1) = true then oDb S (some S.2.1) pc ls ((0, if mx = true then e2 else e1) :: r) else oDb S (adG S.2.1 (leSub e1 e2)) pc ls ((0, if mx = true then e1 else e2) :: r) ++ oDb S (adG S.2.1 (leK (leSc (-1) (leSub e1 e2)) (-1))) pc ls ((0, if mx = true then e2 else e1) :: r)
/-- the same rows of another image -/
noncomputable def rlSm (r r' s d ls : Nat) : Bool := match rlD r, rlD r' with
  | some (k, (o1, b1, s1), (o2, b2, s2), n, cv), some (k', (o1', b1', s1'), (o2', b2', s2'), n', cv') => Nat.beq k 0 && Nat.beq k' 0 && Nat.beq o1 s && Nat.beq o1' d && Nat.beq o2 o2' && iz (b1 - b1') && iz (s1 - s1') && iz (b2 - b2') && iz (s2 - s2') && iz (n - n') && Nat.beq cv cv' && ile (b1 + s1 * (n - 1) + 1) ls
  | _, _ => false
noncomputable def rlTo (r s d ls : Nat) : List Nat := if Nat.blt r 2000 = true then ([0, 4, 8].map fun c => r - r % 16 + c + r % 4).filter fun r' => rlSm r r' s d ls else []
noncomputable def cpR1 (D : Db) (s d ls : Nat) (c : Kc) : List Kc := if (Nat.beq c.1 9 && en D (leSub c.2.2.1 c.2.2.2)) = true then (rlTo c.2.1 s d ls).map (fun r' => (9, r', leC 0, leC 0)) else if Nat.beq c.1 11 = true then (rlTo c.2.1 s d ls).map (fun r' => (11, r', c.2.2.1, c.2.2.2)) else if (Nat.beq c.1 12 && (Nat.beq s (bgC c.2.1) && Nat.beq ls 140)) = true then ([0, 1, 2].filter (fun q => Nat.beq (5 + 11 * q) d)).map (fun q => (12, 4 * q + c.2.1 % 4, c.2.2.1, c.2.2.2)) else if (Nat.beq c.1 15 && (Nat.beq s (smC c.2.1) && Nat.beq ls 1200)) = true then ([0, 1, 2].filter (fun q => Nat.beq (9 + 11 * q) d)).map (fun q => (15, 4 * q + c.2.1 % 4, c.2.2.1, c.2.2.2)) else []
/-- rows that go along behind a copy of a whole object -/
noncomputable def cpR (S : Sx) (sp dp n : LE) (s d : Nat) : List Kc := if (leEq sp (leC 0) && leEq dp (leC 0) && leEq n (leC (oP s)) && Nat.ble (oP s) 4000) = true then S.2.2.flatMap (cpR1 S.2.1 s d (oP s)) else []
/-- so many longs are read, one after another -/
noncomputable def cpV (S : Sx) (s : Nat) (sp : LE) : Nat → Nat → Sx × List LE
  | 0, _ => (S, [])
  | n + 1, k => let R := rdL S s (nrm S.2.1 (leK sp k)); let T := cpV R.1 s sp n (k + 1); (T.1, R.2 :: T.2)
/-- and written -/
noncomputable def cpU (ws : List Wr) (d : Nat) (dp : LE) : Sx → List LE → Nat → Option Sx
  | S, [], _ => some S
  | S, e :: r, k => match wrL ws S d (nrm S.2.1 (leK dp k)) e with
    | some S' => cpU ws d dp S' r (k + 1)
    | none => none
noncomputable def axCp (rg : List Rg) (ws : List Wr) (pc : Nat) (S : Sx) (ls : List (Option AV)) (st : List AV) : Option (List Cc) := match st with
  | (0, n) :: (0, dp) :: (2, (.ofNat d, _)) :: (0, sp) :: (2, (.ofNat s, _)) :: t => if (Nat.blt d 1000 && Nat.blt s 1000 && cpO S.2.1 sp dp n (oP s) (oP d)) = true then (if (Nat.beq (oK d) 0 && Nat.beq (oK s) 0) = true then (if (okC2 ws S.2.1 0 d dp n && rg.all (fun q => !(Nat.beq q.1 d))) = true then some [((S.1, S.2.1, cpR S sp dp n s d ++ kpL S.2.1 [(0, d, I64lo, I64hi)] S.2.2), pc + 3, ls, t)] else none)
      else if (Nat.beq (oK d) 1 && Nat.beq (oK s) 1) = true then (if ((nrm S.2.1 n).2.isEmpty && ile 0 (nrm S.2.1 n).1 && ile (nrm S.2.1 n).1 24) = true then (let R := cpV S s sp (nrm S.2.1 n).1.toNat 0; match cpU ws d dp R.1 R.2 0 with
        | some S' => some [(S', pc + 3, ls, t)]
        | none => none) else if okC2 ws S.2.1 1 d dp n = true then some [((S.1, S.2.1, kpL S.2.1 [(1, d, I64lo, I64hi)] S.2.2), pc + 3, ls, t)] else none) else none) else none
  | _ => none
noncomputable def axO (rg : List Rg) (ws : List Wr) (i : Instr) (a b : Nat) (v : Int32) (w : Int64) (sw : List (Int32 × Nat)) (pc : Nat) (S : Sx) (ls : List (Option AV)) (st : List AV) : Option (List Cc) := match i with
  | .iload_n k => axLd 0 ls k 1 pc S st
  | .iload k => axLd 0 ls k 2 pc S st
  | .aload_n k => axLd 2 ls k 1 pc S st
  | .aload k => axLd 2 ls k 2 pc S st
  | .lload_n k => axLd 1 ls k 1 pc S st
  | .lload k => axLd 1 ls k 2 pc S st
  | .istore_n k => axIs ls k 1 pc S st
  | .istore k => axIs ls k 2 pc S st
  | .iconst _ => pI (S, leC v.toInt) (pc + 1) ls st
  | .bipush _ => pI (S, leC v.toInt) (pc + 2) ls st
  | .sipush _ => pI (S, leC v.toInt) (pc + 3) ls st
  | .lconst _ => pL (S, leC w.toInt) (pc + 1) ls st
  | .ldc _ => if a = 0 then pI (S, leC v.toInt) (pc + 2) ls st else some [(S, pc + 2, ls, (2, (Int.ofNat a, [])) :: st)]
  | .ldc_w _ => pI (S, leC v.toInt) (pc + 3) ls st
  | .ldc2_w _ => pL (S, leC w.toInt) (pc + 3) ls st
  | .iadd => axB .iadd pc S ls st
  | .isub => axB .isub pc S ls st
  | .imul => axB .imul pc S ls st
  | .iand => axB .iand pc S ls st
  | .ior => axB .ior pc S ls st
  | .ixor => axB .ixor pc S ls st
  | .ishl => axB .ishl pc S ls st
  | .ishr => axB .ishr pc S ls st
  | .iushr => axB .iushr pc S ls st
  | .idiv => axB .idiv pc S ls st
  | .irem => axB .irem pc S ls st
  | .ineg => (match st with
    | (0, e) :: r => pI (exa S (leSc (-1) e)) (pc + 1) ls r
    | _ => none)
  | .i2b => (match st with
    | (0, e) :: r => pI (exn S 0 (-128) 127 e) (pc + 1) ls r
    | _ => none)
  | .i2s => (match st with
    | (0, e) :: r => pI (exn S 1 (-32768) 32767 e) (pc + 1) ls r
    | _ => none)
  | .i2c => (match st with
    | (0, _) :: r => pI (topI S 0 65535) (pc + 1) ls r
    | _ => none)
  | .i2l => (match st with
    | (0, e) :: r => pL (S, e) (pc + 1) ls r
    | _ => none)
  | .l2i => (match st with
    | (1, e) :: r => pI (exi S e) (pc + 1) ls r
    | _ => none)
  | .ladd => (match st with
    | (1, e2) :: (1, e1) :: r => pL (exw S (leA e1 e2)) (pc + 1) ls r
    | _ => none)
  | .lsub => (match st with
    | (1, e2) :: (1, e1) :: r => pL (exw S (leSub e1 e2)) (pc + 1) ls r
    | _ => none)
  | .lmul => (match st with
    | (1, e2) :: (1, e1) :: r => pL (lmu S e1 e2) (pc + 1) ls r
    | _ => none)
  | .lshl => (match st with
    | (0, s) :: (1, e) :: r => pL (exs S e s) (pc + 1) ls r
    | _ => none)
  | .lshr => (match st with
    | (0, s) :: (1, e) :: r => pL (exr S e s) (pc + 1) ls r
    | _ => none)
  | .lcmp => (match st with
    | (1, e2) :: (1, e1) :: r => some [(S, pc + 1, ls, (3, leSub e1 e2) :: r)]
    | _ => none)
  | .iinc k _ => (match ls[k]? with
    | some (some (0, e)) => (let R := exa S (leK e v.toInt); axSt ls k 3 pc R.1 R.2 st)
    | _ => none)
  | .ifCond q _ => (match st with
    | (0, e) :: r => some (axIf0 q a (pc + 3) S e ls r)
    | (3, e) :: r => some (if icF = true then axIf0 q a (pc + 3) S e ls r else axIf q a (pc + 3) S e ls r)
    | _ => none)
  | .if_icmp q _ => (match st with
    | (0, e2) :: (0, e1) :: r => some (if icF = true then axIf0 q a (pc + 3) S (leSub e1 e2) ls r else axIf q a (pc + 3) S (leSub e1 e2) ls r)
    | _ => none)
  | .goto _ => some [(S, a, ls, st)]
  | .ifnull _ => (match st with
    | (2, _) :: r => some [(S, pc + 3, ls, r)]
    | _ => none)
  | .ifnonnull _ => (match st with
    | (2, _) :: r => some [(S, a, ls, r)]
    | _ => none)
  | .getfield _ => (match st with
    | (2, (.ofNat r, _)) :: t => if isCl r a = true then (match (oF r)[b]? with
      | some (some (.int c)) => pI (S, leC c.toInt) (pc + 3) ls t
      | some (some (.ref c)) => some [(S, pc + 3, ls, (2, (Int.ofNat c, [])) :: t)]
      | some none => pI (rdI rg S r (leC v.toInt)) (pc + 3) ls t
      | _ => none) else none
    | _ => none)
  | .putfield _ => (match st with
    | (0, e) :: (2, (.ofNat r, _)) :: t => if isCl r a = true then (match (oF r)[b]? with
      | some none => if (!(isZf a b) || en S.2.1 e && en S.2.1 (leK (leSc (-1) e) 1)) = true then (match wrI rg ws S r (leC v.toInt) e with
        | some S' => some [(S', pc + 3, ls, t)]
        | none => none) else none
      | _ => none) else none
    | _ => none)
  | .getstatic _ => some [(S, pc + 3, ls, (2, (Int.ofNat a, [])) :: st)]
  | .arraylength => (match st with
    | (2, (.ofNat r, _)) :: t => if isIA r = true then (if Nat.blt r 1000 = true then (if Nat.ble (oP r) 4000 = true then pI (S, leC (oP r)) (pc + 1) ls t else none) else if Nat.beq r 1300 = true then (match kcF S.2.2 2 1300 (leC 0) with
      | some e => if en S.2.1 (leK (leSc (-1) e) 4000) = true then pI (S, e) (pc + 1) ls t else none
      | none => none) else pI (S, leC ((roT r).length)) (pc + 1) ls t) else none
    | _ => none)
  | .iaload => (match st with
    | (0, j) :: (2, (.ofNat r, _)) :: t => if isIA r = true then (if Nat.blt r 1000 = true then (if bdI S.2.1 j (oP r) = true then (match (if cvF = true then rdC rg S r (nrm S.2.1 j) else none) with
      | some L => some (L.flatMap fun R => ubK R (pc + 1) ls t)
      | none => some (ubK (rdI rg S r (nrm S.2.1 j)) (pc + 1) ls t)) else none) else if Nat.beq r 1300 = true then (match kcF S.2.2 2 1300 (leC 0) with
      | some e => if (en S.2.1 j && en2 S.2.1 (leK (leSub e j) (-1)) && en S.2.1 (leK (leSc (-1) e) 4000)) = true then pI (rdT S j) (pc + 1) ls t else none
      | none => none) else if bdI S.2.1 j (roT r).length = true then some (axTb S j (pc + 1) ls t 0 (roT r)) else none) else none
    | _ => none)
  | .baload => (match st with
    | (0, j) :: (2, (.ofNat r, _)) :: t => if (Nat.blt r 1000 && Nat.beq (oK r) 2 && bdI S.2.1 j (oP r)) = true then pI (rdI rg S r (nrm S.2.1 j)) (pc + 1) ls t else none
    | _ => none)
  | .laload => (match st with
    | (0, j) :: (2, (.ofNat r, _)) :: t => if (Nat.blt r 1000 && Nat.beq (oK r) 1 && bdI S.2.1 j (oP r)) = true then pL (rdL S r (nrm S.2.1 j)) (pc + 1) ls t else none
    | _ => none)
  | .iastore => (match st with
    | (0, e) :: (0, j) :: (2, (.ofNat r, _)) :: t => if (Nat.blt r 1000 && Nat.beq (oK r) 0 && bdI S.2.1 j (oP r)) = true then (match wrI rg ws S r (nrm S.2.1 j) e with
      | some S' => some [(S', pc + 1, ls, t)]
      | none => none) else none
    | _ => none)
  | .bastore => (match st with
    | (0, e) :: (0, j) :: (2, (.ofNat r, _)) :: t => if (Nat.blt r 1000 && Nat.beq (oK r) 2 && bdI S.2.1 j (oP r) && en S.2.1 e && en S.2.1 (leK (leSc (-1) e) 1)) = true then (match wrI rg ws S r (nrm S.2.1 j) e with
      | some S' => some [(S', pc + 1, ls, t)]
      | none => none) else none
    | _ => none)
  | .lastore => (match st with
    | (1, e) :: (0, j) :: (2, (.ofNat r, _)) :: t => if (Nat.blt r 1000 && Nat.beq (oK r) 1 && bdI S.2.1 j (oP r)) = true then (match wrL ws S r (nrm S.2.1 j) e with
      | some S' => some [(S', pc + 1, ls, t)]
      | none => none) else none
    | _ => none)
  | .dup => (match st with
    | (0, e) :: r => some [(S, pc + 1, ls, (0, e) :: (0, e) :: r)]
    | (2, e) :: r => some [(S, pc + 1, ls, (2, e) :: (2, e) :: r)]
    | _ => none)
  | .pop => (match st with
    | (0, _) :: r => some [(S, pc + 1, ls, r)]
    | (2, _) :: r => some [(S, pc + 1, ls, r)]
    | _ => none)
  | .dup2 => (match st with
    | (0, e) :: (2, f) :: r => some [(S, pc + 1, ls, (0, e) :: (2, f) :: (0, e) :: (2, f) :: r)]
    | _ => none)
  | .tableswitch _ _ _ _ => (match st with
    | (0, e) :: r => some (axSw S S.2.1 e ls r sw a)
    | _ => none)
  | .lookupswitch _ _ => (match st with
    | (0, e) :: r => some (axSw S S.2.1 e ls r sw a)
    | _ => none)
  | .invokestatic _ => if a < 1000 then none else (match st with
    | (0, e2) :: (0, e1) :: r => if Nat.ble (catS r) 16 = true then (if a = 1001 then (if mmF = true then some (axMm true (pc + 3) S e1 e2 ls r) else match mmx S e1 e2 with
        | some R => pI R (pc + 3) ls r
        | none => none) else if a = 1002 then (if mmF = true then some (axMm false (pc + 3) S e1 e2 ls r) else match mmn S e1 e2 with
        | some R => pI R (pc + 3) ls r
        | none => none) else if a = 1003 then axCp rg ws pc S ls st else none) else none
    | _ => none)
  | _ => none
/-- the same, quick in the kernel: nothing is put into the alternatives that are not taken -/
noncomputable def axT (i : Instr) : List Rg → List Wr → Nat → Nat → Int32 → Int64 → List (Int32 × Nat) → Nat → Sx → List (Option AV) → List AV → Option (List Cc) := Instr.rec (motive := fun _ => List Rg → List Wr → Nat → Nat → Int32 → Int64 → List (Int32 × Nat) → Nat → Sx → List (Option AV) → List AV → Option (List Cc))
  (fun _ _ _ _ _ _ _ _ _ _ _ => none)
  (fun _ _ _ _ _ _ _ _ _ _ _ => none)
  (fun _ _ _ _ _ _ _ _ _ _ _ => none)
  (fun k rg ws a b v w sw pc S ls st => axLd 2 ls k 2 pc S st)
  (fun k rg ws a b v w sw pc S ls st => axLd 2 ls k 1 pc S st)
  (fun _ _ _ _ _ _ _ _ _ _ _ _ => none)
  (fun _ _ _ _ _ _ _ _ _ _ _ => none)
  (fun rg ws a b v w sw pc S ls st => (match st with
    | (2, (.ofNat r, _)) :: t => if isIA r = true then (if Nat.blt r 1000 = true then (if Nat.ble (oP r) 4000 = true then pI (S, leC (oP r)) (pc + 1) ls t else none) else if Nat.beq r 1300 = true then (match kcF S.2.2 2 1300 (leC 0) with
      | some e => if en S.2.1 (leK (leSc (-1) e) 4000) = true then pI (S, e) (pc + 1) ls t else none
      | none => none) else pI (S, leC ((roT r).length)) (pc + 1) ls t) else none
    | _ => none))
  (fun _ _ _ _ _ _ _ _ _ _ _ _ => none)
  (fun _ _ _ _ _ _ _ _ _ _ _ _ => none)
  (fun _ _ _ _ _ _ _ _ _ _ _ => none)
  (fun rg ws a b v w sw pc S ls st => (match st with
    | (0, j) :: (2, (.ofNat r, _)) :: t => if (Nat.blt r 1000 && Nat.beq (oK r) 2 && bdI S.2.1 j (oP r)) = true then pI (rdI rg S r (nrm S.2.1 j)) (pc + 1) ls t else none
    | _ => none))
  (fun rg ws a b v w sw pc S ls st => (match st with
    | (0, e) :: (0, j) :: (2, (.ofNat r, _)) :: t => if (Nat.blt r 1000 && Nat.beq (oK r) 2 && bdI S.2.1 j (oP r) && en S.2.1 e && en S.2.1 (leK (leSc (-1) e) 1)) = true then (match wrI rg ws S r (nrm S.2.1 j) e with
      | some S' => some [(S', pc + 1, ls, t)]
      | none => none) else none
    | _ => none))
  (fun _ rg ws a b v w sw pc S ls st => pI (S, leC v.toInt) (pc + 2) ls st)
  (fun _ _ _ _ _ _ _ _ _ _ _ => none)
  (fun _ _ _ _ _ _ _ _ _ _ _ => none)
  (fun _ _ _ _ _ _ _ _ _ _ _ _ => none)
  (fun _ _ _ _ _ _ _ _ _ _ _ => none)
  (fun _ _ _ _ _ _ _ _ _ _ _ => none)
  (fun _ _ _ _ _ _ _ _ _ _ _ => none)
  (fun _ _ _ _ _ _ _ _ _ _ _ => none)
  (fun _ _ _ _ _ _ _ _ _ _ _ => none)
  (fun _ _ _ _ _ _ _ _ _ _ _ => none)
  (fun _ _ _ _ _ _ _ _ _ _ _ _ => none)
  (fun _ _ _ _ _ _ _ _ _ _ _ _ => none)
  (fun _ _ _ _ _ _ _ _ _ _ _ => none)
  (fun _ _ _ _ _ _ _ _ _ _ _ _ => none)
  (fun _ _ _ _ _ _ _ _ _ _ _ _ => none)
  (fun _ _ _ _ _ _ _ _ _ _ _ => none)
  (fun _ _ _ _ _ _ _ _ _ _ _ => none)
  (fun _ _ _ _ _ _ _ _ _ _ _ => none)
  (fun _ _ _ _ _ _ _ _ _ _ _ => none)
  (fun _ _ _ _ _ _ _ _ _ _ _ _ => none)
  (fun _ _ _ _ _ _ _ _ _ _ _ _ => none)
  (fun _ _ _ _ _ _ _ _ _ _ _ => none)
  (fun rg ws a b v w sw pc S ls st => (match st with
    | (0, e) :: r => some [(S, pc + 1, ls, (0, e) :: (0, e) :: r)]
    | (2, e) :: r => some [(S, pc + 1, ls, (2, e) :: (2, e) :: r)]
    | _ => none))
  (fun _ _ _ _ _ _ _ _ _ _ _ => none)
  (fun _ _ _ _ _ _ _ _ _ _ _ => none)
  (fun rg ws a b v w sw pc S ls st => (match st with
    | (0, e) :: (2, f) :: r => some [(S, pc + 1, ls, (0, e) :: (2, f) :: (0, e) :: (2, f) :: r)]
    | _ => none))
  (fun _ _ _ _ _ _ _ _ _ _ _ => none)
  (fun _ _ _ _ _ _ _ _ _ _ _ => none)
  (fun _ _ _ _ _ _ _ _ _ _ _ => none)
  (fun _ _ _ _ _ _ _ _ _ _ _ => none)
  (fun _ _ _ _ _ _ _ _ _ _ _ => none)
  (fun _ _ _ _ _ _ _ _ _ _ _ => none)
  (fun _ _ _ _ _ _ _ _ _ _ _ => none)
  (fun _ _ _ _ _ _ _ _ _ _ _ => none)
  (fun _ _ _ _ _ _ _ _ _ _ _ _ => none)
  (fun _ _ _ _ _ _ _ _ _ _ _ _ => none)
  (fun _ _ _ _ _ _ _ _ _ _ _ => none)
  (fun _ _ _ _ _ _ _ _ _ _ _ _ => none)
  (fun _ _ _ _ _ _ _ _ _ _ _ _ => none)
  (fun _ _ _ _ _ _ _ _ _ _ _ => none)
  (fun _ _ _ _ _ _ _ _ _ _ _ => none)
  (fun _ _ _ _ _ _ _ _ _ _ _ => none)
  (fun _ _ _ _ _ _ _ _ _ _ _ => none)
  (fun _ _ _ _ _ _ _ _ _ _ _ _ => none)
  (fun _ _ _ _ _ _ _ _ _ _ _ _ => none)
  (fun _ _ _ _ _ _ _ _ _ _ _ => none)
  (fun _ rg ws a b v w sw pc S ls st => (match st with
    | (2, (.ofNat r, _)) :: t => if isCl r a = true then (match (oF r)[b]? with
      | some (some (.int c)) => pI (S, leC c.toInt) (pc + 3) ls t
      | some (some (.ref c)) => some [(S, pc + 3, ls, (2, (Int.ofNat c, [])) :: t)]
      | some none => pI (rdI rg S r (leC v.toInt)) (pc + 3) ls t
      | _ => none) else none
    | _ => none))
  (fun _ rg ws a b v w sw pc S ls st => some [(S, pc + 3, ls, (2, (Int.ofNat a, [])) :: st)])
  (fun _ rg ws a b v w sw pc S ls st => some [(S, a, ls, st)])
  (fun _ _ _ _ _ _ _ _ _ _ _ _ => none)
  (fun rg ws a b v w sw pc S ls st => (match st with
    | (0, e) :: r => pI (exn S 0 (-128) 127 e) (pc + 1) ls r
    | _ => none))
  (fun rg ws a b v w sw pc S ls st => (match st with
    | (0, _) :: r => pI (topI S 0 65535) (pc + 1) ls r
    | _ => none))
  (fun _ _ _ _ _ _ _ _ _ _ _ => none)
  (fun _ _ _ _ _ _ _ _ _ _ _ => none)
  (fun rg ws a b v w sw pc S ls st => (match st with
    | (0, e) :: r => pL (S, e) (pc + 1) ls r
    | _ => none))
  (fun rg ws a b v w sw pc S ls st => (match st with
    | (0, e) :: r => pI (exn S 1 (-32768) 32767 e) (pc + 1) ls r
    | _ => none))
  (fun rg ws a b v w sw pc S ls st => axB .iadd pc S ls st)
  (fun rg ws a b v w sw pc S ls st => (match st with
    | (0, j) :: (2, (.ofNat r, _)) :: t => if isIA r = true then (if Nat.blt r 1000 = true then (if bdI S.2.1 j (oP r) = true then (match (if cvF = true then rdC rg S r (nrm S.2.1 j) else none) with
      | some L => some (L.flatMap fun R => ubK R (pc + 1) ls t)
      | none => some (ubK (rdI rg S r (nrm S.2.1 j)) (pc + 1) ls t)) else none) else if Nat.beq r 1300 = true then (match kcF S.2.2 2 1300 (leC 0) with
      | some e => if (en S.2.1 j && en2 S.2.1 (leK (leSub e j) (-1)) && en S.2.1 (leK (leSc (-1) e) 4000)) = true then pI (rdT S j) (pc + 1) ls t else none
      | none => none) else if bdI S.2.1 j (roT r).length = true then some (axTb S j (pc + 1) ls t 0 (roT r)) else none) else none
    | _ => none))
  (fun rg ws a b v w sw pc S ls st => axB .iand pc S ls st)
  (fun rg ws a b v w sw pc S ls st => (match st with
    | (0, e) :: (0, j) :: (2, (.ofNat r, _)) :: t => if (Nat.blt r 1000 && Nat.beq (oK r) 0 && bdI S.2.1 j (oP r)) = true then (match wrI rg ws S r (nrm S.2.1 j) e with
      | some S' => some [(S', pc + 1, ls, t)]
      | none => none) else none
    | _ => none))
  (fun _ rg ws a b v w sw pc S ls st => pI (S, leC v.toInt) (pc + 1) ls st)
  (fun rg ws a b v w sw pc S ls st => axB .idiv pc S ls st)
  (fun _ _ _ _ _ _ _ _ _ _ _ _ _ => none)
  (fun q _ rg ws a b v w sw pc S ls st => (match st with
    | (0, e2) :: (0, e1) :: r => some (if icF = true then axIf0 q a (pc + 3) S (leSub e1 e2) ls r else axIf q a (pc + 3) S (leSub e1 e2) ls r)
    | _ => none))
  (fun q _ rg ws a b v w sw pc S ls st => (match st with
    | (0, e) :: r => some (axIf0 q a (pc + 3) S e ls r)
    | (3, e) :: r => some (if icF = true then axIf0 q a (pc + 3) S e ls r else axIf q a (pc + 3) S e ls r)
    | _ => none))
  (fun _ rg ws a b v w sw pc S ls st => (match st with
    | (2, _) :: r => some [(S, a, ls, r)]
    | _ => none))
  (fun _ rg ws a b v w sw pc S ls st => (match st with
    | (2, _) :: r => some [(S, pc + 3, ls, r)]
    | _ => none))
  (fun k _ rg ws a b v w sw pc S ls st => (match ls[k]? with
    | some (some (0, e)) => (let R := exa S (leK e v.toInt); axSt ls k 3 pc R.1 R.2 st)
    | _ => none))
  (fun k rg ws a b v w sw pc S ls st => axLd 0 ls k 2 pc S st)
  (fun k rg ws a b v w sw pc S ls st => axLd 0 ls k 1 pc S st)
  (fun rg ws a b v w sw pc S ls st => axB .imul pc S ls st)
  (fun rg ws a b v w sw pc S ls st => (match st with
    | (0, e) :: r => pI (exa S (leSc (-1) e)) (pc + 1) ls r
    | _ => none))
  (fun _ _ _ _ _ _ _ _ _ _ _ _ => none)
  (fun _ _ _ _ _ _ _ _ _ _ _ _ => none)
  (fun _ _ _ _ _ _ _ _ _ _ _ _ _ => none)
  (fun _ _ _ _ _ _ _ _ _ _ _ _ => none)
  (fun _ rg ws a b v w sw pc S ls st => if a < 1000 then none else (match st with
    | (0, e2) :: (0, e1) :: r => if Nat.ble (catS r) 16 = true then (if a = 1001 then (if mmF = true then some (axMm true (pc + 3) S e1 e2 ls r) else match mmx S e1 e2 with
        | some R => pI R (pc + 3) ls r
        | none => none) else if a = 1002 then (if mmF = true then some (axMm false (pc + 3) S e1 e2 ls r) else match mmn S e1 e2 with
        | some R => pI R (pc + 3) ls r
        | none => none) else if a = 1003 then axCp rg ws pc S ls st else none) else none
    | _ => none))
  (fun _ _ _ _ _ _ _ _ _ _ _ _ => none)
  (fun rg ws a b v w sw pc S ls st => axB .ior pc S ls st)
  (fun rg ws a b v w sw pc S ls st => axB .irem pc S ls st)
  (fun _ _ _ _ _ _ _ _ _ _ _ => none)
  (fun rg ws a b v w sw pc S ls st => axB .ishl pc S ls st)
  (fun rg ws a b v w sw pc S ls st => axB .ishr pc S ls st)
  (fun k rg ws a b v w sw pc S ls st => axIs ls k 2 pc S st)
  (fun k rg ws a b v w sw pc S ls st => axIs ls k 1 pc S st)
  (fun rg ws a b v w sw pc S ls st => axB .isub pc S ls st)
  (fun rg ws a b v w sw pc S ls st => axB .iushr pc S ls st)
  (fun rg ws a b v w sw pc S ls st => axB .ixor pc S ls st)
  (fun _ _ _ _ _ _ _ _ _ _ _ _ => none)
  (fun _ _ _ _ _ _ _ _ _ _ _ _ => none)
  (fun _ _ _ _ _ _ _ _ _ _ _ => none)
  (fun _ _ _ _ _ _ _ _ _ _ _ => none)
  (fun rg ws a b v w sw pc S ls st => (match st with
    | (1, e) :: r => pI (exi S e) (pc + 1) ls r
    | _ => none))
  (fun rg ws a b v w sw pc S ls st => (match st with
    | (1, e2) :: (1, e1) :: r => pL (exw S (leA e1 e2)) (pc + 1) ls r
    | _ => none))
  (fun rg ws a b v w sw pc S ls st => (match st with
    | (0, j) :: (2, (.ofNat r, _)) :: t => if (Nat.blt r 1000 && Nat.beq (oK r) 1 && bdI S.2.1 j (oP r)) = true then pL (rdL S r (nrm S.2.1 j)) (pc + 1) ls t else none
    | _ => none))
  (fun _ _ _ _ _ _ _ _ _ _ _ => none)
  (fun rg ws a b v w sw pc S ls st => (match st with
    | (1, e) :: (0, j) :: (2, (.ofNat r, _)) :: t => if (Nat.blt r 1000 && Nat.beq (oK r) 1 && bdI S.2.1 j (oP r)) = true then (match wrL ws S r (nrm S.2.1 j) e with
      | some S' => some [(S', pc + 1, ls, t)]
      | none => none) else none
    | _ => none))
  (fun rg ws a b v w sw pc S ls st => (match st with
    | (1, e2) :: (1, e1) :: r => some [(S, pc + 1, ls, (3, leSub e1 e2) :: r)]
    | _ => none))
  (fun _ rg ws a b v w sw pc S ls st => pL (S, leC w.toInt) (pc + 1) ls st)
  (fun _ rg ws a b v w sw pc S ls st => if a = 0 then pI (S, leC v.toInt) (pc + 2) ls st else some [(S, pc + 2, ls, (2, (Int.ofNat a, [])) :: st)])
  (fun _ rg ws a b v w sw pc S ls st => pI (S, leC v.toInt) (pc + 3) ls st)
  (fun _ rg ws a b v w sw pc S ls st => pL (S, leC w.toInt) (pc + 3) ls st)
  (fun _ _ _ _ _ _ _ _ _ _ _ => none)
  (fun k rg ws a b v w sw pc S ls st => axLd 1 ls k 2 pc S st)
  (fun k rg ws a b v w sw pc S ls st => axLd 1 ls k 1 pc S st)
  (fun rg ws a b v w sw pc S ls st => (match st with
    | (1, e2) :: (1, e1) :: r => pL (lmu S e1 e2) (pc + 1) ls r
    | _ => none))
  (fun _ _ _ _ _ _ _ _ _ _ _ => none)
  (fun _ _ rg ws a b v w sw pc S ls st => (match st with
    | (0, e) :: r => some (axSw S S.2.1 e ls r sw a)
    | _ => none))
  (fun _ _ _ _ _ _ _ _ _ _ _ => none)
  (fun _ _ _ _ _ _ _ _ _ _ _ => none)
  (fun _ _ _ _ _ _ _ _ _ _ _ => none)
  (fun rg ws a b v w sw pc S ls st => (match st with
    | (0, s) :: (1, e) :: r => pL (exs S e s) (pc + 1) ls r
    | _ => none))
  (fun rg ws a b v w sw pc S ls st => (match st with
    | (0, s) :: (1, e) :: r => pL (exr S e s) (pc + 1) ls r
    | _ => none))
  (fun _ _ _ _ _ _ _ _ _ _ _ _ => none)
  (fun _ _ _ _ _ _ _ _ _ _ _ _ => none)
  (fun rg ws a b v w sw pc S ls st => (match st with
    | (1, e2) :: (1, e1) :: r => pL (exw S (leSub e1 e2)) (pc + 1) ls r
    | _ => none))
  (fun _ _ _ _ _ _ _ _ _ _ _ => none)
  (fun _ _ _ _ _ _ _ _ _ _ _ => none)
  (fun _ _ _ _ _ _ _ _ _ _ _ => none)
  (fun _ _ _ _ _ _ _ _ _ _ _ => none)
  (fun _ _ _ _ _ _ _ _ _ _ _ _ _ => none)
  (fun _ _ _ _ _ _ _ _ _ _ _ _ => none)
  (fun _ _ _ _ _ _ _ _ _ _ _ _ => none)
  (fun _ _ _ _ _ _ _ _ _ _ _ => none)
  (fun rg ws a b v w sw pc S ls st => (match st with
    | (0, _) :: r => some [(S, pc + 1, ls, r)]
    | (2, _) :: r => some [(S, pc + 1, ls, r)]
    | _ => none))
  (fun _ _ _ _ _ _ _ _ _ _ _ => none)
  (fun _ rg ws a b v w sw pc S ls st => (match st with
    | (0, e) :: (2, (.ofNat r, _)) :: t => if isCl r a = true then (match (oF r)[b]? with
      | some none => if (!(isZf a b) || en S.2.1 e && en S.2.1 (leK (leSc (-1) e) 1)) = true then (match wrI rg ws S r (leC v.toInt) e with
        | some S' => some [(S', pc + 3, ls, t)]
        | none => none) else none
      | _ => none) else none
    | _ => none))
  (fun _ _ _ _ _ _ _ _ _ _ _ _ => none)
  (fun _ _ _ _ _ _ _ _ _ _ _ _ => none)
  (fun _ _ _ _ _ _ _ _ _ _ _ => none)
  (fun _ _ _ _ _ _ _ _ _ _ _ => none)
  (fun _ _ _ _ _ _ _ _ _ _ _ => none)
  (fun _ rg ws a b v w sw pc S ls st => pI (S, leC v.toInt) (pc + 3) ls st)
  (fun _ _ _ _ _ _ _ _ _ _ _ => none)
  (fun _ _ _ _ rg ws a b v w sw pc S ls st => (match st with
    | (0, e) :: r => some (axSw S S.2.1 e ls r sw a)
    | _ => none))
  i
noncomputable def ax (rg : List Rg) (ws : List Wr) (i : Instr) (a b : Nat) (v : Int32) (w : Int64) (sw : List (Int32 × Nat)) (pc : Nat) (S : Sx) (ls : List (Option AV)) (st : List AV) : Option (List Cc) := axT i rg ws a b v w sw pc S ls st
theorem ax_O {rg : List Rg} {ws : List Wr} {i : Instr} {a b : Nat} {v : Int32} {w : Int64} {sw : List (Int32 × Nat)} {pc : Nat} {S : Sx} {ls : List (Option AV)} {st : List AV} : ax rg ws i a b v w sw pc S ls st = axO rg ws i a b v w sw pc S ls st := by
  cases i <;> rfl
