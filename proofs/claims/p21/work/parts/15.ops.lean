/-! Arithmetic of what is known. -/
noncomputable def RS (rg : List Rg) (ws : List Wr) (h0 h : Hp) (ρ : Nat → Int) (S : Sx) (R : Sx × LE) (x : Int) : Prop := ∃ ρ', Ag ρ ρ' S.1 ∧ S.1 ≤ R.1.1 ∧ Mo rg ws h0 ρ' R.1 h ∧ GG ρ' R.1.1 R.2 x
noncomputable def inR32 (D : Db) (e : LE) : Bool := en D (leK e 2147483648) && en D (leK (leSc (-1) e) 2147483647)
noncomputable def inR64 (D : Db) (e : LE) : Bool := en D (leK e 9223372036854775808) && en D (leK (leSc (-1) e) 9223372036854775807)
noncomputable def topI (S : Sx) (l u : Int) : Sx × LE := (nwS S l u, leX S.1)
noncomputable def exa (S : Sx) (e : LE) : Sx × LE := if inR32 S.2.1 e = true then (S, e) else topI S I32lo I32hi
noncomputable def exl (S : Sx) (e : LE) : Sx × LE := if inR64 S.2.1 e = true then (S, e) else topI S I64lo I64hi
theorem inR32_sp {ρ : Nat → Int} {n : Nat} {D : Db} (F : Fa ρ n D) {e : LE} (g : inR32 D e = true) : -2147483648 ≤ leV ρ e ∧ leV ρ e ≤ 2147483647 := by
  simp only [inR32, Bool.and_eq_true] at g
  have g1 := en_sp F g.1
  have g2 := en_sp F g.2
  rw [leV_K] at g1
  rw [leV_K, leV_sc] at g2
  omega
theorem inR64_sp {ρ : Nat → Int} {n : Nat} {D : Db} (F : Fa ρ n D) {e : LE} (g : inR64 D e = true) : -9223372036854775808 ≤ leV ρ e ∧ leV ρ e ≤ 9223372036854775807 := by
  simp only [inR64, Bool.and_eq_true] at g
  have g1 := en_sp F g.1
  have g2 := en_sp F g.2
  rw [leV_K] at g1
  rw [leV_K, leV_sc] at g2
  omega
/-- a place that holds the same, but NONE here is -1 there -/
noncomputable def cvP1 (mm : Nat) (D : Db) (o : Nat) (i : LE) (c : Kc) : Option (Bool × Nat × LE) := if Nat.beq c.1 9 = true then (match rlD c.2.1 with
  | some (k, (o1, b1, s1), (o2, b2, s2), n, cv) => if (Nat.beq k 0 && Nat.beq cv mm) = true then (if Nat.beq o o1 = true then (match rlE s1 b1 i with
      | some e0 => if rlI D c n e0 = true then some (false, o2, leK (leSc s2 e0) b2) else none
      | none => none) else if Nat.beq o o2 = true then (match rlE s2 b2 i with
      | some e0 => if rlI D c n e0 = true then some (true, o1, leK (leSc s1 e0) b1) else none
      | none => none) else none) else none
  | none => none) else none
noncomputable def cvP (mm : Nat) (D : Db) (o : Nat) (i : LE) : List Kc → Option (Bool × Nat × LE)
  | [] => none
  | c :: r => match cvP1 mm D o i c with
    | some q => some q
    | none => cvP mm D o i r
/-- reading a place where NONE here is 3 there: what it may be -/
noncomputable def rdC2 (S : Sx) (o : Nat) (i : LE) : Option (List (Sx × LE)) := match cvP 2 S.2.1 o i S.2.2 with
  | none => none
  | some (sd, o2, i2) => let a : Int := if sd = true then 3 else -1000000005; let b : Int := if sd = true then -1000000005 else 3; match kcF S.2.2 0 o2 i2 with
    | some _ => none
    | none => let T := nwS S 0 2; some [((S.1, S.2.1, (0, o, i, leC a) :: (0, o2, i2, leC b) :: S.2.2), leC a), ((T.1, T.2.1, (0, o, i, leX S.1) :: (0, o2, i2, leX S.1) :: T.2.2), leX S.1)]
/-- reading such a place: what it may be -/
noncomputable def rdC (rg : List Rg) (S : Sx) (o : Nat) (i : LE) : Option (List (Sx × LE)) := match kcF S.2.2 0 o i with
  | some _ => none
  | none => match cvP 1 S.2.1 o i S.2.2 with
    | none => rdC2 S o i
    | some (sd, o2, i2) => let a : Int := if sd = true then -1 else -1000000005; let b : Int := if sd = true then -1000000005 else -1; match kcF S.2.2 0 o2 i2 with
      | some w => if en S.2.1 w = true then some [((S.1, S.2.1, (0, o, i, w) :: S.2.2), w)] else if eqvD S.2.1 w (leC b) = true then some [((S.1, S.2.1, (0, o, i, leC a) :: S.2.2), leC a)] else some ((match adE S.2.1 (leK w (-b)) with
          | some D => [((S.1, D, (0, o, i, leC a) :: S.2.2), leC a)]
          | none => []) ++ (match adG S.2.1 w with
          | some D => [((S.1, D, (0, o, i, w) :: S.2.2), w)]
          | none => []))
      | none => let T := nwS S 0 (if sd = true then (rgF rg S.2.1 o i).2 else (rgF rg S.2.1 o2 i2).2); some [((S.1, S.2.1, (0, o, i, leC a) :: (0, o2, i2, leC b) :: S.2.2), leC a), ((T.1, T.2.1, (0, o, i, leX S.1) :: (0, o2, i2, leX S.1) :: T.2.2), leX S.1)]
section OPS
variable {rg : List Rg} {ws : List Wr} {h0 h : Hp} {ρ : Nat → Int} {S : Sx}
theorem cvP1_sp {mm : Nat} {D : Db} {n o : Nat} {i : LE} {c : Kc} {q : Bool × Nat × LE} {j : Int32} (F : Fa ρ n D) (K : kcO ρ n h c) (hi : GG ρ n i j.toInt) (g : cvP1 mm D o i c = some q) : leS n q.2.2 ∧ ∃ j2 : Int32, leV ρ q.2.2 = j2.toInt ∧ (q.1 = false → rlR mm (h.1 o j).toInt (h.1 q.2.1 j2).toInt) ∧ (q.1 = true → rlR mm (h.1 q.2.1 j2).toInt (h.1 o j).toInt) := by
  unfold cvP1 at g
  split at g
  case isFalse => cases g
  rename_i h9
  obtain ⟨ck, co, cx, cy⟩ := c
  have h9 : ck = 9 := Nat.eq_of_beq_eq_true h9
  subst h9
  obtain ⟨kx, ky, k, o1, b1, s1, o2, b2, s2, m, cv, hd, K⟩ := K
  dsimp only at g hd K
  rw [hd] at g
  obtain ⟨-, d1, d2, d3, d4, d5, d6⟩ := rlD_ok hd
  dsimp only at g
  split at g
  case isFalse => cases g
  rename_i hk
  rw [Bool.and_eq_true] at hk
  cases Nat.eq_of_beq_eq_true hk.1
  cases Nat.eq_of_beq_eq_true hk.2
  have bd : ∀ (s b x : Int), 0 ≤ b → 0 < s → b + s * m ≤ 100000 → 0 ≤ x → x < m → 0 ≤ b + s * x ∧ b + s * x ≤ 100000 := fun s b x a1 a2 a3 a4 a5 => by
    have h1 := Int.mul_nonneg (Int.le_of_lt a2) a4
    have h2 := Int.mul_le_mul_of_nonneg_left (show x ≤ m by omega) (Int.le_of_lt a2)
    omega
  have ej : Int32.ofInt j.toInt = j := Int32.ofInt_toInt j
  split at g
  · rename_i ho
    cases Nat.eq_of_beq_eq_true ho
    split at g
    · rename_i e0 he
      obtain ⟨s0, v0⟩ := rlE_sp (ρ := ρ) he hi.1
      split at g
      · rename_i hI
        cases g
        obtain ⟨t0, t1, t2⟩ := rlI_sp F hI
        have w := K _ t0 t1 t2
        obtain ⟨z1, z2⟩ := bd s2 b2 _ d3 d4 d6 t0 t1
        have ei : leV ρ (leK (leSc s2 e0) b2) = b2 + s2 * leV ρ e0 := by rw [leV_K, leV_sc, Int.add_comm]
        refine ⟨leS_K (leS_sc s0), Int32.ofInt (b2 + s2 * leV ρ e0), by rw [ei, i32of (by omega) (by omega)], fun _ => ?_, fun z => by cases z⟩
        rw [← v0, hi.2] at w
        have w : rlR mm ((h.1 o (Int32.ofInt j.toInt)).toInt) ((h.1 o2 (Int32.ofInt (b2 + s2 * leV ρ e0))).toInt) := w
        rw [ej] at w
        exact w
      · cases g
    · cases g
  · split at g
    · rename_i ho
      cases Nat.eq_of_beq_eq_true ho
      split at g
      · rename_i e0 he
        obtain ⟨s0, v0⟩ := rlE_sp (ρ := ρ) he hi.1
        split at g
        · rename_i hI
          cases g
          obtain ⟨t0, t1, t2⟩ := rlI_sp F hI
          have w := K _ t0 t1 t2
          obtain ⟨z1, z2⟩ := bd s1 b1 _ d1 d2 d5 t0 t1
          have ei : leV ρ (leK (leSc s1 e0) b1) = b1 + s1 * leV ρ e0 := by rw [leV_K, leV_sc, Int.add_comm]
          refine ⟨leS_K (leS_sc s0), Int32.ofInt (b1 + s1 * leV ρ e0), by rw [ei, i32of (by omega) (by omega)], (fun z => by cases z), fun _ => ?_⟩
          rw [← v0, hi.2] at w
          have w : rlR mm ((h.1 o1 (Int32.ofInt (b1 + s1 * leV ρ e0))).toInt) ((h.1 o (Int32.ofInt j.toInt)).toInt) := w
          rw [ej] at w
          exact w
        · cases g
      · cases g
    · cases g
theorem cvP_sp {mm : Nat} {D : Db} {n o : Nat} {i : LE} {j : Int32} (F : Fa ρ n D) (hi : GG ρ n i j.toInt) : ∀ {l : List Kc} {q : Bool × Nat × LE}, (∀ c ∈ l, kcO ρ n h c) → cvP mm D o i l = some q → leS n q.2.2 ∧ ∃ j2 : Int32, leV ρ q.2.2 = j2.toInt ∧ (q.1 = false → rlR mm (h.1 o j).toInt (h.1 q.2.1 j2).toInt) ∧ (q.1 = true → rlR mm (h.1 q.2.1 j2).toInt (h.1 o j).toInt)
  | [], _, _, g => by cases g
  | c :: r, q, K, g => by
    unfold cvP at g
    split at g
    · rename_i q' hq
      cases g
      exact cvP1_sp F (K c List.mem_cons_self) hi hq
    · exact cvP_sp F hi (fun c hc => K c (List.mem_cons_of_mem _ hc)) g
/-- of two such values: the one is this and the other that, or they are the same -/
theorem rdC2_sp (M : Mo rg ws h0 ρ S h) {o : Nat} {i : LE} {j : Int32} (hi : GG ρ S.1 i j.toInt) {L : List (Sx × LE)} (g : rdC2 S o i = some L) : ∃ R ∈ L, RS rg ws h0 h ρ S R (h.1 o j).toInt := by
  unfold rdC2 at g
  split at g
  · cases g
  rename_i sd o2 i2 hp
  obtain ⟨si, j2, e2, r1, r2⟩ := cvP_sp M.1 hi M.2.1 hp
  dsimp only at si e2 r1 r2 g
  have hi2 : GG ρ S.1 i2 j2.toInt := ⟨si, e2⟩
  have two : ((h.1 o j).toInt = (if sd = true then 3 else -1000000005) ∧ (h.1 o2 j2).toInt = (if sd = true then -1000000005 else 3)) ∨ ((h.1 o j).toInt = (h.1 o2 j2).toInt ∧ 0 ≤ (h.1 o j).toInt ∧ (h.1 o j).toInt ≤ 2) := by
    cases sd
    · have r := r1 rfl
      unfold rlR at r
      rw [if_neg (by decide), if_pos rfl] at r
      rcases r with r | r
      · exact Or.inl r
      · exact Or.inr ⟨r.1, by omega, by omega⟩
    · have r := r2 rfl
      unfold rlR at r
      rw [if_neg (by decide), if_pos rfl] at r
      rcases r with r | r
      · exact Or.inl ⟨r.2, r.1⟩
      · exact Or.inr ⟨r.1.symm, by omega, by omega⟩
  clear r1 r2
  generalize (if sd = true then (3 : Int) else -1000000005) = a at two g
  generalize (if sd = true then (-1000000005 : Int) else 3) = b at two g
  split at g
  · cases g
  · cases g
    rcases two with t | t
    · exact ⟨_, List.mem_cons_self, ρ, Ag.rf, Nat.le_refl _, ((M.kc (c := (0, o2, i2, leC b)) (kcO.i hi2 (by rw [t.2]; exact GG.c))).kc (c := (0, o, i, leC a)) (kcO.i hi (by rw [t.1]; exact GG.c))), by rw [t.1]; exact GG.c⟩
    · refine ⟨_, List.mem_cons_of_mem _ List.mem_cons_self, updS ρ S.1 (h.1 o j).toInt, upd_ag, Nat.le_succ _, ?_, upd_at⟩
      refine Mo.kc (S := (_, _, _)) (Mo.kc (M.nw t.2.1 t.2.2) (c := (0, o2, i2, leX S.1)) (kcO.i (hi2.ext upd_ag (Nat.le_succ _)) (by rw [← t.1]; exact upd_at))) (c := (0, o, i, leX S.1)) (kcO.i (hi.ext upd_ag (Nat.le_succ _)) upd_at)
theorem rdC_sp (M : Mo rg ws h0 ρ S h) {o : Nat} {i : LE} {j : Int32} (hi : GG ρ S.1 i j.toInt) {L : List (Sx × LE)} (g : rdC rg S o i = some L) : ∃ R ∈ L, RS rg ws h0 h ρ S R (h.1 o j).toInt := by
  unfold rdC at g
  split at g
  · cases g
  split at g
  · exact rdC2_sp M hi g
  rename_i sd o2 i2 hp
  obtain ⟨si, j2, e2, r1, r2⟩ := cvP_sp M.1 hi M.2.1 hp
  dsimp only at si e2 r1 r2 g
  have hi2 : GG ρ S.1 i2 j2.toInt := ⟨si, e2⟩
  have two : ((h.1 o j).toInt = (if sd = true then -1 else -1000000005) ∧ (h.1 o2 j2).toInt = (if sd = true then -1000000005 else -1)) ∨ ((h.1 o j).toInt = (h.1 o2 j2).toInt ∧ 0 ≤ (h.1 o j).toInt) := by
    cases sd
    · have r := r1 rfl
      unfold rlR at r
      rw [if_pos rfl] at r
      rcases r with r | r
      · exact Or.inl r
      · exact Or.inr ⟨r.1, by omega⟩
    · have r := r2 rfl
      unfold rlR at r
      rw [if_pos rfl] at r
      rcases r with r | r
      · exact Or.inl ⟨r.2, r.1⟩
      · exact Or.inr ⟨r.1.symm, by omega⟩
  clear r1 r2
  generalize (if sd = true then (-1 : Int) else -1000000005) = a at two g
  have bneg : (if sd = true then (-1000000005 : Int) else -1) < 0 := by split <;> decide
  generalize (if sd = true then (-1000000005 : Int) else -1) = b at two g bneg
  have cst : ∀ {D : Db}, Fa ρ S.1 D → (h.1 o j).toInt = a → RS rg ws h0 h ρ S ((S.1, D, (0, o, i, leC a) :: S.2.2), leC a) (h.1 o j).toInt := fun FD e => ⟨ρ, Ag.rf, Nat.le_refl _, (M.db FD).kc (kcO.i hi (by rw [e]; exact GG.c)), by rw [e]; exact GG.c⟩
  split at g
  · rename_i w hw
    obtain ⟨w0, w1, jw, w2, w3⟩ := M.2.1 _ (kcF_sp hw)
    obtain rfl : jw = j2 := Int32.toInt_inj.mp (w2.symm.trans e2)
    dsimp only at w1 w3
    have same : ∀ {D : Db}, Fa ρ S.1 D → (h.1 o j).toInt = (h.1 o2 jw).toInt → RS rg ws h0 h ρ S ((S.1, D, (0, o, i, w) :: S.2.2), w) (h.1 o j).toInt := fun FD e => ⟨ρ, Ag.rf, Nat.le_refl _, (M.db FD).kc (kcO.i hi ⟨w1, by rw [e]; exact w3⟩), w1, by rw [e]; exact w3⟩
    split at g
    · rename_i hz
      cases g
      have hz := en_sp M.1 hz
      rcases two with t | t
      · omega
      · exact ⟨_, List.mem_cons_self, same M.1 t.1⟩
    · split at g
      · rename_i hz
        cases g
        have hz := eqvD_sp M.1 hz
        rw [leV_C] at hz
        rcases two with t | t
        · exact ⟨_, List.mem_cons_self, cst M.1 t.1⟩
        · omega
      · cases g
        rcases two with t | t
        · obtain ⟨D, hD, FD⟩ := adE_sp M.1 (e := leK w (-b)) (leS_K w1) (by rw [leV_K]; omega)
          rw [hD]
          exact ⟨_, List.mem_append_left _ List.mem_cons_self, cst FD t.1⟩
        · obtain ⟨D, hD, FD⟩ := adG_sp M.1 (e := w) w1 (by omega)
          rw [hD]
          exact ⟨_, List.mem_append_right _ List.mem_cons_self, same FD t.1⟩
  · cases g
    rcases two with t | t
    · exact ⟨_, List.mem_cons_self, ρ, Ag.rf, Nat.le_refl _, ((M.kc (c := (0, o2, i2, leC b)) (kcO.i hi2 (by rw [t.2]; exact GG.c))).kc (c := (0, o, i, leC a)) (kcO.i hi (by rw [t.1]; exact GG.c))), by rw [t.1]; exact GG.c⟩
    · have hu : (h.1 o j).toInt ≤ (if sd = true then (rgF rg S.2.1 o i).2 else (rgF rg S.2.1 o2 i2).2) := by
        split
        · exact (rgF_sp M.1 hi M.2.2.1).2
        · rw [t.1]
          exact (rgF_sp M.1 hi2 M.2.2.1).2
      refine ⟨_, List.mem_cons_of_mem _ List.mem_cons_self, updS ρ S.1 (h.1 o j).toInt, upd_ag, Nat.le_succ _, ?_, upd_at⟩
      refine Mo.kc (S := (_, _, _)) (Mo.kc (M.nw t.2 hu) (c := (0, o2, i2, leX S.1)) (kcO.i (hi2.ext upd_ag (Nat.le_succ _)) (by rw [← t.1]; exact upd_at))) (c := (0, o, i, leX S.1)) (kcO.i (hi.ext upd_ag (Nat.le_succ _)) upd_at)
theorem topI_sp (M : Mo rg ws h0 ρ S h) {x l u : Int} (hl : l ≤ x) (hu : x ≤ u) : RS rg ws h0 h ρ S (topI S l u) x := ⟨_, upd_ag, Nat.le_succ _, M.nw hl hu, upd_at⟩
theorem RS.rf (M : Mo rg ws h0 ρ S h) {e : LE} {x : Int} (g : GG ρ S.1 e x) : RS rg ws h0 h ρ S (S, e) x := ⟨ρ, Ag.rf, Nat.le_refl _, M, g⟩
theorem exa_sp (M : Mo rg ws h0 ρ S h) {e : LE} {v : Int32} (hs : leS S.1 e) (hv : -2147483648 ≤ leV ρ e → leV ρ e ≤ 2147483647 → v.toInt = leV ρ e) : RS rg ws h0 h ρ S (exa S e) v.toInt := by
  unfold exa
  split
  · rename_i g
    have := inR32_sp M.1 g
    exact RS.rf M ⟨hs, (hv this.1 this.2).symm⟩
  · exact topI_sp M (i32b v).1 (i32b v).2
theorem exl_sp (M : Mo rg ws h0 ρ S h) {e : LE} {v : Int64} (hs : leS S.1 e) (hv : -9223372036854775808 ≤ leV ρ e → leV ρ e ≤ 9223372036854775807 → v.toInt = leV ρ e) : RS rg ws h0 h ρ S (exl S e) v.toInt := by
  unfold exl
  split
  · rename_i g
    have := inR64_sp M.1 g
    exact RS.rf M ⟨hs, (hv this.1 this.2).symm⟩
  · exact topI_sp M (i64b v).1 (i64b v).2
theorem b32 {x : Int} (h1 : -2147483648 ≤ x) (h2 : x ≤ 2147483647) : x.bmod (2 ^ 32) = x := by
  rw [Int.bmod_eq_of_le] <;> omega
theorem b64 {x : Int} (h1 : -9223372036854775808 ≤ x) (h2 : x ≤ 9223372036854775807) : x.bmod (2 ^ 64) = x := by
  rw [Int.bmod_eq_of_le] <;> omega
/-- two ints make one -/
noncomputable def bo (i : Instr) (S : Sx) (e1 e2 : LE) : Option (Sx × LE) := match i with
  | .iadd => some (exa S (leA e1 e2))
  | .isub => some (exa S (leSub e1 e2))
  | .imul => (match e2.2 with
    | [] => some (exa S (leSc e2.1 e1))
    | _ => match e1.2 with
      | [] => some (exa S (leSc e1.1 e2))
      | _ => some (topI S I32lo I32hi))
  | .iand => (match e2.2, ile 0 e2.1 with
    | [], true => some (topI S 0 e2.1)
    | _, _ => match e1.2, ile 0 e1.1 with
      | [], true => some (topI S 0 e1.1)
      | _, _ => some (topI S I32lo I32hi))
  | .ior => some (topI S I32lo I32hi)
  | .ixor => some (topI S I32lo I32hi)
  | .ishl => some (topI S I32lo I32hi)
  | .ishr => some (topI S I32lo I32hi)
  | .iushr => some (topI S I32lo I32hi)
  | .idiv => if (en S.2.1 (leK e2 (-1)) || en S.2.1 (leK (leSc (-1) e2) (-1))) = true then some (topI S I32lo I32hi) else none
  | .irem => if en S.2.1 (leK e2 (-1)) = true then (if en S.2.1 e1 = true then (let T := nwS S 0 I32hi; match adG T.2.1 (leK (leSub e2 (leX S.1)) (-1)) with
      | some D => some ((T.1, D, T.2.2), leX S.1)
      | none => none) else some (topI S I32lo I32hi)) else none
  | _ => none
theorem and_b {x m : Int32} (hm : 0 ≤ m.toInt) : 0 ≤ (x &&& m).toInt ∧ (x &&& m).toInt ≤ m.toInt := by
  have e : (x &&& m).toInt = ((x.toBitVec &&& m.toBitVec).toInt : Int) := rfl
  have em : m.toInt = m.toBitVec.toInt := rfl
  have hlt : m.toBitVec.toNat < 2 ^ 31 := by
    have := m.toBitVec.isLt
    rw [em, BitVec.toInt_eq_toNat_cond] at hm
    split at hm <;> omega
  have hle : (x.toBitVec &&& m.toBitVec).toNat ≤ m.toBitVec.toNat := by rw [BitVec.toNat_and]; exact Nat.and_le_right
  rw [e, em, BitVec.toInt_eq_toNat_cond, BitVec.toInt_eq_toNat_cond, if_pos (by omega), if_pos (by omega)]
  omega
theorem and_b' {x m : Int32} (hm : 0 ≤ m.toInt) : 0 ≤ (m &&& x).toInt ∧ (m &&& x).toInt ≤ m.toInt := by
  have e : (m &&& x).toInt = ((m.toBitVec &&& x.toBitVec).toInt : Int) := rfl
  have em : m.toInt = m.toBitVec.toInt := rfl
  have hlt : m.toBitVec.toNat < 2 ^ 31 := by
    have := m.toBitVec.isLt
    rw [em, BitVec.toInt_eq_toNat_cond] at hm
    split at hm <;> omega
  have hle : (m.toBitVec &&& x.toBitVec).toNat ≤ m.toBitVec.toNat := by rw [BitVec.toNat_and]; exact Nat.and_le_left
  rw [e, em, BitVec.toInt_eq_toNat_cond, BitVec.toInt_eq_toNat_cond, if_pos (by omega), if_pos (by omega)]
  omega
theorem rem_b {x y : Int32} (hx : 0 ≤ x.toInt) (hy : 1 ≤ y.toInt) : 0 ≤ (x - x / y * y).toInt ∧ (x - x / y * y).toInt < y.toInt := by
  have hb := i32b x
  have hd : (x / y).toInt = x.toInt / y.toInt := by
    rw [Int32.toInt_div_of_ne_right x y (fun e => by rw [e] at hy; exact absurd hy (by decide)), Int.tdiv_eq_ediv_of_nonneg hx]
  have h1 : x.toInt / y.toInt * y.toInt ≤ x.toInt := Int.ediv_mul_le x.toInt (by omega)
  have h2 : 0 ≤ x.toInt / y.toInt * y.toInt := Int.mul_nonneg (Int.ediv_nonneg hx (by omega)) (by omega)
  have hm : (x / y * y).toInt = x.toInt / y.toInt * y.toInt := by
    rw [Int32.toInt_mul, hd, b32] <;> (simp only [I32lo, I32hi] at hb; omega)
  have hs : (x - x / y * y).toInt = x.toInt - x.toInt / y.toInt * y.toInt := by
    rw [Int32.toInt_sub, hm, b32] <;> (simp only [I32lo, I32hi] at hb; omega)
  have h3 := Int.emod_nonneg x.toInt (show y.toInt ≠ 0 by omega)
  have h4 := Int.emod_lt_of_pos x.toInt (show 0 < y.toInt by omega)
  have h5 : x.toInt % y.toInt = x.toInt - x.toInt / y.toInt * y.toInt := by rw [Int.emod_def, Int.mul_comm]
  rw [hs]
  omega
theorem rem_e {x y : Int32} (hx : 0 ≤ x.toInt) (hy : 1 ≤ y.toInt) : (x - x / y * y).toInt = x.toInt % y.toInt := by
  have hb := i32b x
  have hd : (x / y).toInt = x.toInt / y.toInt := by
    rw [Int32.toInt_div_of_ne_right x y (fun e => by rw [e] at hy; exact absurd hy (by decide)), Int.tdiv_eq_ediv_of_nonneg hx]
  have h1 : x.toInt / y.toInt * y.toInt ≤ x.toInt := Int.ediv_mul_le x.toInt (by omega)
  have h2 : 0 ≤ x.toInt / y.toInt * y.toInt := Int.mul_nonneg (Int.ediv_nonneg hx (by omega)) (by omega)
  have hm : (x / y * y).toInt = x.toInt / y.toInt * y.toInt := by
    rw [Int32.toInt_mul, hd, b32] <;> (simp only [I32lo, I32hi] at hb; omega)
  rw [Int32.toInt_sub, hm, b32 (by simp only [I32lo, I32hi] at hb; omega) (by simp only [I32lo, I32hi] at hb; omega), Int.emod_def, Int.mul_comm y.toInt]
theorem bo_sp (M : Mo rg ws h0 ρ S h) {i : Instr} {e1 e2 : LE} {x y : Int32} (g1 : GG ρ S.1 e1 x.toInt) (g2 : GG ρ S.1 e2 y.toInt) {R : Sx × LE} (hb : bo i S e1 e2 = some R) : (i = .iadd → RS rg ws h0 h ρ S R (x + y).toInt) ∧ (i = .isub → RS rg ws h0 h ρ S R (x - y).toInt) ∧ (i = .imul → RS rg ws h0 h ρ S R (x * y).toInt) ∧ (i = .iand → RS rg ws h0 h ρ S R (x &&& y).toInt) ∧ (∀ v : Int32, (i = .ior ∨ i = .ixor ∨ i = .ishl ∨ i = .ishr ∨ i = .iushr ∨ i = .idiv) → RS rg ws h0 h ρ S R v.toInt) ∧ (i = .irem → RS rg ws h0 h ρ S R (x - x / y * y).toInt) ∧ (i = .idiv ∨ i = .irem → ¬ y = 0) := by
  have tp : ∀ v : Int32, RS rg ws h0 h ρ S (topI S I32lo I32hi) v.toInt := fun v => topI_sp M (i32b v).1 (i32b v).2
  have y0 : (en S.2.1 (leK e2 (-1)) = true ∨ en S.2.1 (leK (leSc (-1) e2) (-1)) = true) → ¬ y = 0 := by
    rintro (q | q) rfl
    · have := en_sp M.1 q
      rw [leV_K, g2.2, Int32.toInt_zero] at this
      omega
    · have := en_sp M.1 q
      rw [leV_K, leV_sc, g2.2, Int32.toInt_zero] at this
      omega
  unfold bo at hb
  split at hb
  · cases hb
    refine ⟨fun _ => exa_sp M (leS_add g1.1 g2.1) (fun a b => ?_), by simp, by simp, by simp, by simp, by simp, by simp⟩
    rw [leV_add, g1.2, g2.2] at a b ⊢
    rw [Int32.toInt_add, b32 a b]
  · cases hb
    refine ⟨by simp, fun _ => exa_sp M (leS_sub g1.1 g2.1) (fun a b => ?_), by simp, by simp, by simp, by simp, by simp⟩
    rw [leV_sub, g1.2, g2.2] at a b ⊢
    rw [Int32.toInt_sub, b32 a b]
  · refine ⟨by simp, by simp, fun _ => ?_, by simp, by simp, by simp, by simp⟩
    split at hb
    · rename_i hc
      cases hb
      refine exa_sp M (leS_sc g1.1) (fun a b => ?_)
      have : y.toInt = e2.1 := by rw [← g2.2]; simp [leV, hc, leT]
      rw [leV_sc, g1.2, ← this, Int.mul_comm] at a b ⊢
      rw [Int32.toInt_mul, b32 a b]
    · split at hb
      · rename_i hc
        cases hb
        refine exa_sp M (leS_sc g2.1) (fun a b => ?_)
        have : x.toInt = e1.1 := by rw [← g1.2]; simp [leV, hc, leT]
        rw [leV_sc, g2.2, ← this] at a b ⊢
        rw [Int32.toInt_mul, b32 a b]
      · cases hb
        exact tp _
  · refine ⟨by simp, by simp, by simp, fun _ => ?_, by simp, by simp, by simp⟩
    split at hb
    · rename_i hc hl
      cases hb
      have : y.toInt = e2.1 := by rw [← g2.2]; simp [leV, hc, leT]
      have hl := ile_le hl
      rw [← this] at hl ⊢
      exact topI_sp M (and_b hl).1 (and_b hl).2
    · split at hb
      · rename_i hc hl
        cases hb
        have : x.toInt = e1.1 := by rw [← g1.2]; simp [leV, hc, leT]
        have hl := ile_le hl
        rw [← this] at hl ⊢
        exact topI_sp M (and_b' hl).1 (and_b' hl).2
      · cases hb
        exact tp _
  · cases hb
    exact ⟨by simp, by simp, by simp, by simp, fun v _ => tp v, by simp, by simp⟩
  · cases hb
    exact ⟨by simp, by simp, by simp, by simp, fun v _ => tp v, by simp, by simp⟩
  · cases hb
    exact ⟨by simp, by simp, by simp, by simp, fun v _ => tp v, by simp, by simp⟩
  · cases hb
    exact ⟨by simp, by simp, by simp, by simp, fun v _ => tp v, by simp, by simp⟩
  · cases hb
    exact ⟨by simp, by simp, by simp, by simp, fun v _ => tp v, by simp, by simp⟩
  · split at hb
    · rename_i hc
      cases hb
      exact ⟨by simp, by simp, by simp, by simp, fun v _ => tp v, by simp, fun _ => y0 (by simpa using hc)⟩
    · cases hb
  · split at hb
    · rename_i hc
      refine ⟨by simp, by simp, by simp, by simp, by simp, fun _ => ?_, fun _ => y0 (Or.inl hc)⟩
      split at hb
      · rename_i hx
        have hx := en_sp M.1 hx
        have hy := en_sp M.1 hc
        rw [g1.2] at hx
        rw [leV_K, g2.2] at hy
        have hr := rem_b (x := x) (y := y) hx (by omega)
        have hb32 := i32b (x - x / y * y)
        have M1 := M.nw hr.1 hb32.2
        obtain ⟨D, hD, FD⟩ := adG_sp M1.1 (e := leK (leSub e2 (leX S.1)) (-1)) (leS_K (leS_sub (leS_mono g2.1 (Nat.le_succ _)) (leS_X (Nat.lt_succ_self _)))) (by
          rw [leV_K, leV_sub, leV_ext g2.1 upd_ag, g2.2, upd_at.2]
          omega)
        dsimp only at hb
        rw [hD] at hb
        cases hb
        exact ⟨_, upd_ag, Nat.le_succ _, M1.db FD, upd_at⟩
      · cases hb
        exact tp _
    · cases hb
  · cases hb
/-- what is known to wrap to this -/
noncomputable def inv (S : Sx) (k : Nat) (e : LE) : Option LE := match S.2.2.find? (fun c => Nat.beq c.1 10 && Nat.beq c.2.1 k && leEq c.2.2.2 e) with
  | some c => some c.2.2.1
  | none => none
theorem inv_sp (M : Mo rg ws h0 ρ S h) {k : Nat} {e f : LE} (q : inv S k e = some f) : leS S.1 f ∧ PU k (leV ρ f) (leV ρ e) := by
  unfold inv at q
  split at q
  · rename_i c hc
    cases q
    have h1 := List.find?_some hc
    have h2 := List.mem_of_find?_eq_some hc
    simp only [Bool.and_eq_true] at h1
    obtain ⟨a, b, K⟩ := M.2.1 c h2
    rw [Nat.eq_of_beq_eq_true h1.1.1, Nat.eq_of_beq_eq_true h1.1.2] at K
    rw [← leEq_eq h1.2]
    exact ⟨a, K⟩
  · cases q
/-- what a number wraps to, known by the number -/
noncomputable def pur (S : Sx) (k : Nat) (e : LE) (l u : Int) : Sx × LE := match kcF S.2.2 10 k e with
  | some y => (S, y)
  | none => let T := nwS S l u; ((T.1, T.2.1, (10, k, e, leX S.1) :: T.2.2), leX S.1)
theorem pur_sp (M : Mo rg ws h0 ρ S h) {k : Nat} {e : LE} {x l u : Int} (hs : leS S.1 e) (hl : l ≤ x) (hu : x ≤ u) (hk : PU k (leV ρ e) x) (hq : ∀ y, PU k (leV ρ e) y → y = x) : RS rg ws h0 h ρ S (pur S k e l u) x := by
  unfold pur
  split
  · rename_i y hy
    obtain ⟨a, b, K⟩ := M.2.1 _ (kcF_sp hy)
    exact RS.rf M ⟨b, hq _ K⟩
  · refine ⟨_, upd_ag, Nat.le_succ _, (M.nw hl hu).kc ⟨leS_mono hs (Nat.le_succ _), leS_X (Nat.lt_succ_self _), ?_⟩, upd_at⟩
    show PU k (leV (updS ρ S.1 x) e) (leV (updS ρ S.1 x) (leX S.1))
    rw [leV_ext hs upd_ag, (upd_at (ρ := ρ) (n := S.1) (x := x)).2]
    exact hk
noncomputable def bas (S : Sx) (e : LE) : LE := match inv S 3 e with
  | some f => f
  | none => e
noncomputable def bas2 (S : Sx) (e : LE) : LE := match inv S 2 e with
  | some f => bas S f
  | none => bas S e
theorem bm {x : Int} {m n : Nat} (h : n ∣ m) : (x.bmod m).bmod n = x.bmod n := Int.bmod_bmod_of_dvd h
theorem bas_sp (M : Mo rg ws h0 ρ S h) {e : LE} (hs : leS S.1 e) {n : Nat} (hn : n ∣ 18446744073709551616) : leS S.1 (bas S e) ∧ (leV ρ (bas S e)).bmod n = (leV ρ e).bmod n := by
  unfold bas
  split
  · rename_i f hf
    obtain ⟨a, K⟩ := inv_sp M hf
    have K : leV ρ e = (leV ρ f).bmod 18446744073709551616 := K
    exact ⟨a, by rw [K, bm hn]⟩
  · exact ⟨hs, rfl⟩
theorem bas2_sp (M : Mo rg ws h0 ρ S h) {e : LE} (hs : leS S.1 e) {n : Nat} (hn : n ∣ 4294967296) : leS S.1 (bas2 S e) ∧ (leV ρ (bas2 S e)).bmod n = (leV ρ e).bmod n := by
  have h2 : n ∣ 18446744073709551616 := Nat.dvd_trans hn ⟨4294967296, by decide⟩
  unfold bas2
  split
  · rename_i f hf
    obtain ⟨a, K⟩ := inv_sp M hf
    have K : leV ρ e = (leV ρ f).bmod 4294967296 := K
    obtain ⟨b1, b2⟩ := bas_sp M a h2
    exact ⟨b1, by rw [b2, K, bm hn]⟩
  · exact bas_sp M hs h2
noncomputable def exw (S : Sx) (e : LE) : Sx × LE := if inR64 S.2.1 e = true then (S, e) else pur S 3 e I64lo I64hi
theorem exw_sp (M : Mo rg ws h0 ρ S h) {e : LE} {v : Int64} (hs : leS S.1 e) (hv : v.toInt = (leV ρ e).bmod 18446744073709551616) : RS rg ws h0 h ρ S (exw S e) v.toInt := by
  unfold exw
  split
  · rename_i g
    have := inR64_sp M.1 g
    exact RS.rf M ⟨hs, by rw [hv]; exact (b64 this.1 this.2).symm⟩
  · exact pur_sp M hs (i64b v).1 (i64b v).2 hv (fun y hy => by rw [hv]; exact hy)
noncomputable def exi (S : Sx) (e : LE) : Sx × LE := if inR32 S.2.1 e = true then (S, e) else pur S 2 (bas S e) I32lo I32hi
theorem exi_sp (M : Mo rg ws h0 ρ S h) {e : LE} {v : Int32} (hs : leS S.1 e) (hv : v.toInt = (leV ρ e).bmod 4294967296) : RS rg ws h0 h ρ S (exi S e) v.toInt := by
  unfold exi
  split
  · rename_i g
    have := inR32_sp M.1 g
    exact RS.rf M ⟨hs, by rw [hv]; exact (b32 this.1 this.2).symm⟩
  · obtain ⟨a, b⟩ := bas_sp M hs (n := 4294967296) ⟨4294967296, by decide⟩
    rw [← b] at hv
    exact pur_sp M a (i32b v).1 (i32b v).2 hv (fun y hy => by rw [hv]; exact hy)
/-- the lowest 8, 16 bits -/
noncomputable def exn (S : Sx) (k : Nat) (l u : Int) (e : LE) : Sx × LE := if (en S.2.1 (leK e (-l)) && en S.2.1 (leK (leSc (-1) e) u)) = true then (S, e) else pur S k (bas2 S e) l u
theorem exn_sp (M : Mo rg ws h0 ρ S h) {e : LE} {x l u : Int} {k m : Nat} (hs : leS S.1 e) (hm : m ∣ 4294967296) (hx : x = (leV ρ e).bmod m) (hl : l ≤ x) (hu : x ≤ u) (hr : l ≤ leV ρ e → leV ρ e ≤ u → (leV ρ e).bmod m = leV ρ e) (hk : ∀ a b, PU k a b ↔ b = a.bmod m) : RS rg ws h0 h ρ S (exn S k l u e) x := by
  unfold exn
  split
  · rename_i g
    rw [Bool.and_eq_true] at g
    have g1 := en_sp M.1 g.1
    have g2 := en_sp M.1 g.2
    rw [leV_K] at g1
    rw [leV_K, leV_sc] at g2
    exact RS.rf M ⟨hs, by rw [hx]; exact (hr (by omega) (by omega)).symm⟩
  · obtain ⟨a, b⟩ := bas2_sp M hs hm
    exact pur_sp M a hl hu ((hk _ _).mpr (by rw [b]; exact hx)) (fun y hy => by rw [(hk _ _).mp hy, b]; exact hx.symm)
/-- shifted up by 56, 48 -/
noncomputable def exs (S : Sx) (e s : LE) : Sx × LE := if leEq s (leC 56) = true then pur S 4 (bas S e) I64lo I64hi else if leEq s (leC 48) = true then pur S 5 (bas S e) I64lo I64hi else topI S I64lo I64hi
/-- and down again -/
noncomputable def exr (S : Sx) (e s : LE) : Sx × LE := if leEq s (leC 56) = true then (match inv S 4 e with
    | some f => exn S 0 (-128) 127 f
    | none => topI S I64lo I64hi) else if leEq s (leC 48) = true then (match inv S 5 e with
    | some f => exn S 1 (-32768) 32767 f
    | none => topI S I64lo I64hi) else topI S I64lo I64hi
theorem shl56 (x : Int64) : (x <<< (56 : Int64)).toInt = (x.toInt * 72057594037927936).bmod 18446744073709551616 := by
  show (x <<< (56 : Int64)).toBitVec.toInt = (x.toBitVec.toInt * 72057594037927936).bmod 18446744073709551616
  rw [Int64.toBitVec_shiftLeft, show (56 : Int64).toBitVec.smod 64 = 56#64 by decide]
  show (x.toBitVec <<< (56 : Nat)).toInt = _
  rw [BitVec.toInt_shiftLeft, Nat.shiftLeft_eq, BitVec.toInt_eq_toNat_bmod]
  show (((x.toBitVec.toNat * 72057594037927936 : Nat)) : Int).bmod 18446744073709551616 = (((x.toBitVec.toNat : Int).bmod 18446744073709551616) * 72057594037927936).bmod 18446744073709551616
  rw [Int.bmod_mul_bmod, Int.natCast_mul]
  rfl
theorem shl48 (x : Int64) : (x <<< (48 : Int64)).toInt = (x.toInt * 281474976710656).bmod 18446744073709551616 := by
  show (x <<< (48 : Int64)).toBitVec.toInt = (x.toBitVec.toInt * 281474976710656).bmod 18446744073709551616
  rw [Int64.toBitVec_shiftLeft, show (48 : Int64).toBitVec.smod 64 = 48#64 by decide]
  show (x.toBitVec <<< (48 : Nat)).toInt = _
  rw [BitVec.toInt_shiftLeft, Nat.shiftLeft_eq, BitVec.toInt_eq_toNat_bmod]
  show (((x.toBitVec.toNat * 281474976710656 : Nat)) : Int).bmod 18446744073709551616 = (((x.toBitVec.toNat : Int).bmod 18446744073709551616) * 281474976710656).bmod 18446744073709551616
  rw [Int.bmod_mul_bmod, Int.natCast_mul]
  rfl
theorem shr56 (x : Int64) : (x >>> (56 : Int64)).toInt = x.toInt / 72057594037927936 := by
  show (x >>> (56 : Int64)).toBitVec.toInt = x.toBitVec.toInt / 72057594037927936
  rw [Int64.toBitVec_shiftRight, show (56 : Int64).toBitVec.smod 64 = 56#64 by decide]
  show (x.toBitVec.sshiftRight 56).toInt = _
  rw [BitVec.toInt_sshiftRight, Int.shiftRight_eq_div_pow]
  rfl
theorem shr48 (x : Int64) : (x >>> (48 : Int64)).toInt = x.toInt / 281474976710656 := by
  show (x >>> (48 : Int64)).toBitVec.toInt = x.toBitVec.toInt / 281474976710656
  rw [Int64.toBitVec_shiftRight, show (48 : Int64).toBitVec.smod 64 = 48#64 by decide]
  show (x.toBitVec.sshiftRight 48).toInt = _
  rw [BitVec.toInt_sshiftRight, Int.shiftRight_eq_div_pow]
  rfl
theorem ar56 (f : Int) : (f * 72057594037927936).bmod 18446744073709551616 / 72057594037927936 = f.bmod 256 := by
  unfold Int.bmod
  dsimp only
  split <;> split <;> omega
theorem ar48 (f : Int) : (f * 281474976710656).bmod 18446744073709551616 / 281474976710656 = f.bmod 65536 := by
  unfold Int.bmod
  dsimp only
  split <;> split <;> omega
theorem bm8 (f : Int) : -128 ≤ f.bmod 256 ∧ f.bmod 256 ≤ 127 := by
  unfold Int.bmod
  dsimp only
  split <;> omega
theorem bm16 (f : Int) : -32768 ≤ f.bmod 65536 ∧ f.bmod 65536 ≤ 32767 := by
  unfold Int.bmod
  dsimp only
  split <;> omega
theorem bi8 {f : Int} (h1 : -128 ≤ f) (h2 : f ≤ 127) : f.bmod 256 = f := by
  unfold Int.bmod
  dsimp only
  split <;> omega
theorem bi16 {f : Int} (h1 : -32768 ≤ f) (h2 : f ≤ 32767) : f.bmod 65536 = f := by
  unfold Int.bmod
  dsimp only
  split <;> omega
theorem ex8_sp (M : Mo rg ws h0 ρ S h) {e : LE} {x : Int} (hs : leS S.1 e) (hx : x = (leV ρ e).bmod 256) : RS rg ws h0 h ρ S (exn S 0 (-128) 127 e) x := exn_sp M hs ⟨16777216, by decide⟩ hx (by rw [hx]; exact (bm8 _).1) (by rw [hx]; exact (bm8 _).2) (fun a b => bi8 a b) (fun _ _ => Iff.rfl)
theorem ex16_sp (M : Mo rg ws h0 ρ S h) {e : LE} {x : Int} (hs : leS S.1 e) (hx : x = (leV ρ e).bmod 65536) : RS rg ws h0 h ρ S (exn S 1 (-32768) 32767 e) x := exn_sp M hs ⟨65536, by decide⟩ hx (by rw [hx]; exact (bm16 _).1) (by rw [hx]; exact (bm16 _).2) (fun a b => bi16 a b) (fun _ _ => Iff.rfl)
theorem bmm {a b c : Int} (h : a.bmod 18446744073709551616 = b.bmod 18446744073709551616) : (a * c).bmod 18446744073709551616 = (b * c).bmod 18446744073709551616 := by
  rw [← Int.bmod_mul_bmod, h, Int.bmod_mul_bmod]
theorem exs_sp (M : Mo rg ws h0 ρ S h) {e s : LE} {x : Int64} {y : Int32} (g1 : GG ρ S.1 e x.toInt) (g2 : GG ρ S.1 s y.toInt) : RS rg ws h0 h ρ S (exs S e s) (x <<< (y.toInt64 &&& 63)).toInt := by
  have tq : RS rg ws h0 h ρ S (topI S I64lo I64hi) (x <<< (y.toInt64 &&& 63)).toInt := topI_sp M (i64b _).1 (i64b _).2
  obtain ⟨b1, b2⟩ := bas_sp M g1.1 (n := 18446744073709551616) ⟨1, by decide⟩
  rw [g1.2] at b2
  unfold exs
  split
  · rename_i hs
    have hy : y = 56 := Int32.toInt_inj.mp (by rw [← g2.2, leEq_eq hs, leV_C]; rfl)
    subst hy
    rw [show ((56 : Int32).toInt64 &&& 63) = (56 : Int64) by decide]
    refine pur_sp M b1 (i64b _).1 (i64b _).2 ?_ (fun z hz => ?_)
    · rw [shl56]
      exact (bmm b2).symm
    · have hz : z = (leV ρ (bas S e) * 72057594037927936).bmod 18446744073709551616 := hz
      rw [hz, shl56]
      exact bmm b2
  split
  · rename_i hs
    have hy : y = 48 := Int32.toInt_inj.mp (by rw [← g2.2, leEq_eq hs, leV_C]; rfl)
    subst hy
    rw [show ((48 : Int32).toInt64 &&& 63) = (48 : Int64) by decide]
    refine pur_sp M b1 (i64b _).1 (i64b _).2 ?_ (fun z hz => ?_)
    · rw [shl48]
      exact (bmm b2).symm
    · have hz : z = (leV ρ (bas S e) * 281474976710656).bmod 18446744073709551616 := hz
      rw [hz, shl48]
      exact bmm b2
  · exact tq
theorem exr_sp (M : Mo rg ws h0 ρ S h) {e s : LE} {x : Int64} {y : Int32} (g1 : GG ρ S.1 e x.toInt) (g2 : GG ρ S.1 s y.toInt) : RS rg ws h0 h ρ S (exr S e s) (x >>> (y.toInt64 &&& 63)).toInt := by
  have tq : RS rg ws h0 h ρ S (topI S I64lo I64hi) (x >>> (y.toInt64 &&& 63)).toInt := topI_sp M (i64b _).1 (i64b _).2
  unfold exr
  split
  · rename_i hs
    have hy : y = 56 := Int32.toInt_inj.mp (by rw [← g2.2, leEq_eq hs, leV_C]; rfl)
    split
    · rename_i f hf
      subst hy
      obtain ⟨a, K⟩ := inv_sp M hf
      have K : leV ρ e = (leV ρ f * 72057594037927936).bmod 18446744073709551616 := K
      refine ex8_sp M a ?_
      rw [show ((56 : Int32).toInt64 &&& 63) = (56 : Int64) by decide, shr56, ← g1.2, K, ar56]
    · exact tq
  split
  · rename_i hs
    have hy : y = 48 := Int32.toInt_inj.mp (by rw [← g2.2, leEq_eq hs, leV_C]; rfl)
    split
    · rename_i f hf
      subst hy
      obtain ⟨a, K⟩ := inv_sp M hf
      have K : leV ρ e = (leV ρ f * 281474976710656).bmod 18446744073709551616 := K
      refine ex16_sp M a ?_
      rw [show ((48 : Int32).toInt64 &&& 63) = (48 : Int64) by decide, shr48, ← g1.2, K, ar48]
    · exact tq
  · exact tq
noncomputable def lmu (S : Sx) (e1 e2 : LE) : Sx × LE := match e2.2 with
  | [] => exw S (leSc e2.1 e1)
  | _ => match e1.2 with
    | [] => exw S (leSc e1.1 e2)
    | _ => topI S I64lo I64hi
theorem lmu_sp (M : Mo rg ws h0 ρ S h) {e1 e2 : LE} {x y : Int64} (g1 : GG ρ S.1 e1 x.toInt) (g2 : GG ρ S.1 e2 y.toInt) : RS rg ws h0 h ρ S (lmu S e1 e2) (x * y).toInt := by
  unfold lmu
  split
  · rename_i hc
    refine exw_sp M (leS_sc g1.1) ?_
    have : y.toInt = e2.1 := by rw [← g2.2]; simp [leV, hc, leT]
    rw [leV_sc, g1.2, ← this, Int.mul_comm, Int64.toInt_mul]
  · split
    · rename_i hc
      refine exw_sp M (leS_sc g2.1) ?_
      have : x.toInt = e1.1 := by rw [← g1.2]; simp [leV, hc, leT]
      rw [leV_sc, g2.2, ← this, Int64.toInt_mul]
    · exact topI_sp M (i64b _).1 (i64b _).2
end OPS
