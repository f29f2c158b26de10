/-! What is known of a configuration, and what a heap's reading and writing make of it. -/
abbrev AV : Type := Nat × LE
abbrev Kc : Type := Nat × Nat × LE × LE
abbrev Sx : Type := Nat × Db × List Kc
abbrev Cc : Type := Sx × Nat × List (Option AV) × List AV
/-- a region: object, base, stride, how many; least, most -/
abbrev Rg : Type := Nat × Int × Int × Int × Int × Int
/-- what may be written: kind, object, from, to -/
abbrev Wr : Type := Nat × Nat × Int × Int
def av (ρ : Nat → Int) (n : Nat) (a : AV) (v : Value) : Prop := match a.1 with
  | 0 => ∃ x : Int32, v = .int x ∧ GG ρ n a.2 x.toInt
  | 1 => ∃ x : Int64, v = .long x ∧ GG ρ n a.2 x.toInt
  | 2 => ∃ r : Nat, v = .ref r ∧ a.2 = (Int.ofNat r, [])
  | _ => ∃ x y : Int64, v = .int (lg_cmp x y) ∧ GG ρ n a.2 (x.toInt - y.toInt)
def kcO (ρ : Nat → Int) (n : Nat) (h : Hp) (c : Kc) : Prop := match c.1 with
  | 0 => ∃ j : Int32, GG ρ n c.2.2.1 j.toInt ∧ GG ρ n c.2.2.2 (h.1 c.2.1 j).toInt
  | 1 => ∃ j : Int32, GG ρ n c.2.2.1 j.toInt ∧ GG ρ n c.2.2.2 (h.2.1 c.2.1 j).toInt
  | 2 => GG ρ n c.2.2.2 (h.2.2.1 : Int)
  | _ => ∃ j : Int32, GG ρ n c.2.2.1 j.toInt ∧ GG ρ n c.2.2.2 (h.2.2.2 j.toNatClampNeg).toInt
def RgO (h : Hp) (q : Rg) : Prop := ∀ (j : Int32) (k : Int), 0 ≤ k → k < q.2.2.2.1 → j.toInt = q.2.1 + q.2.2.1 * k → q.2.2.2.2.1 ≤ (h.1 q.1 j).toInt ∧ (h.1 q.1 j).toInt ≤ q.2.2.2.2.2
def inW (ws : List Wr) (k o : Nat) (j : Int32) : Prop := ∃ w ∈ ws, w.1 = k ∧ w.2.1 = o ∧ w.2.2.1 ≤ j.toInt ∧ j.toInt ≤ w.2.2.2
def Frm (ws : List Wr) (h0 h : Hp) : Prop := (∀ o j, ¬ inW ws 0 o j → h.1 o j = h0.1 o j) ∧ (∀ o j, ¬ inW ws 1 o j → h.2.1 o j = h0.2.1 o j) ∧ h.2.2 = h0.2.2
def Mo (rg : List Rg) (ws : List Wr) (h0 : Hp) (ρ : Nat → Int) (S : Sx) (h : Hp) : Prop := Fa ρ S.1 S.2.1 ∧ (∀ c ∈ S.2.2, kcO ρ S.1 h c) ∧ (∀ q ∈ rg, RgO h q) ∧ Frm ws h0 h
def Ag (ρ ρ' : Nat → Int) (n : Nat) : Prop := ∀ k, k < n → ρ' k = ρ k
theorem Ag.rf {ρ : Nat → Int} {n : Nat} : Ag ρ ρ n := fun _ _ => rfl
theorem Ag.tr {ρ ρ' ρ'' : Nat → Int} {n m : Nat} (a : Ag ρ ρ' n) (b : Ag ρ' ρ'' m) (h : n ≤ m) : Ag ρ ρ'' n := fun k hk => (b k (Nat.lt_of_lt_of_le hk h)).trans (a k hk)
theorem av.ext {ρ ρ' : Nat → Int} {n m : Nat} {a : AV} {v : Value} (h : av ρ n a v) (g : Ag ρ ρ' n) (hm : n ≤ m) : av ρ' m a v := by
  unfold av at h ⊢
  split at h
  · obtain ⟨x, h1, h2⟩ := h; exact ⟨x, h1, h2.ext g hm⟩
  · obtain ⟨x, h1, h2⟩ := h; exact ⟨x, h1, h2.ext g hm⟩
  · exact h
  · obtain ⟨x, y, h1, h2⟩ := h; exact ⟨x, y, h1, h2.ext g hm⟩
theorem kcO.ext {ρ ρ' : Nat → Int} {n m : Nat} {h : Hp} {c : Kc} (k : kcO ρ n h c) (g : Ag ρ ρ' n) (hm : n ≤ m) : kcO ρ' m h c := by
  unfold kcO at k ⊢
  split at k
  · obtain ⟨x, h1, h2⟩ := k; exact ⟨x, h1.ext g hm, h2.ext g hm⟩
  · obtain ⟨x, h1, h2⟩ := k; exact ⟨x, h1.ext g hm, h2.ext g hm⟩
  · exact k.ext g hm
  · obtain ⟨x, h1, h2⟩ := k; exact ⟨x, h1.ext g hm, h2.ext g hm⟩
theorem Fa.ext {ρ ρ' : Nat → Int} {n m : Nat} {D : Db} (F : Fa ρ n D) (g : Ag ρ ρ' n) (hm : n ≤ m) : Fa ρ' m D := by
  refine ⟨fun q hq => ?_, fun f hf => ?_⟩
  · obtain ⟨a, b, c⟩ := F.1 q hq
    rw [g _ a]
    exact ⟨Nat.lt_of_lt_of_le a hm, b, c⟩
  · obtain ⟨a, b⟩ := F.2 f hf
    exact ⟨leS_mono a hm, by rw [leV_ext a g]; exact b⟩
/-- locals, and the stack -/
def isLv (v : Option (Option Value)) : Prop := isLong v = true
def LR (ρ : Nat → Int) (n : Nat) (as : List (Option AV)) (ls : Lc) : Prop := as.length = ls.length ∧ ∀ k : Nat, (∀ a, as[k]? = some (some a) → ∃ v, ls[k]? = some (some v) ∧ av ρ n a v) ∧ (as[k]? = some none → isLong ls[k]? = false)
def SR (ρ : Nat → Int) (n : Nat) : List AV → List Value → Prop
  | [], st => st = []
  | a :: as, st => ∃ v r, st = v :: r ∧ av ρ n a v ∧ SR ρ n as r
theorem LR.ext {ρ ρ' : Nat → Int} {n m : Nat} {as : List (Option AV)} {ls : Lc} (h : LR ρ n as ls) (g : Ag ρ ρ' n) (hm : n ≤ m) : LR ρ' m as ls := ⟨h.1, fun k => ⟨fun a ha => by
  obtain ⟨v, h1, h2⟩ := (h.2 k).1 a ha
  exact ⟨v, h1, h2.ext g hm⟩, (h.2 k).2⟩⟩
theorem SR.ext {ρ ρ' : Nat → Int} {n m : Nat} : ∀ {as : List AV} {st : List Value}, SR ρ n as st → Ag ρ ρ' n → n ≤ m → SR ρ' m as st
  | [], _, h, _, _ => h
  | _ :: _, _, h, g, hm => by
    obtain ⟨v, r, h1, h2, h3⟩ := h
    exact ⟨v, r, h1, h2.ext g hm, SR.ext h3 g hm⟩
/-- one more symbol -/
def nwS (S : Sx) (l u : Int) : Sx := (S.1 + 1, ((S.1, l, u) :: S.2.1.1, S.2.1.2), S.2.2)
def updS (ρ : Nat → Int) (n : Nat) (x : Int) : Nat → Int := fun k => if k = n then x else ρ k
theorem upd_ag {ρ : Nat → Int} {n : Nat} {x : Int} : Ag ρ (updS ρ n x) n := fun k hk => by unfold updS; rw [if_neg (by omega)]
theorem upd_at {ρ : Nat → Int} {n : Nat} {x : Int} : GG (updS ρ n x) (n + 1) (leX n) x := ⟨leS_X (Nat.lt_succ_self n), by rw [leV_X]; unfold updS; rw [if_pos rfl]⟩
section MO
variable {rg : List Rg} {ws : List Wr} {h0 h : Hp} {ρ : Nat → Int} {S : Sx}
theorem Mo.nw (M : Mo rg ws h0 ρ S h) {x l u : Int} (hl : l ≤ x) (hu : x ≤ u) : Mo rg ws h0 (updS ρ S.1 x) (nwS S l u) h := by
  obtain ⟨F, K, R, W⟩ := M
  refine ⟨⟨fun q hq => ?_, fun f hf => ?_⟩, fun c hc => (K c hc).ext upd_ag (Nat.le_succ _), R, W⟩
  · rcases List.mem_cons.mp hq with rfl | hq
    · exact ⟨Nat.lt_succ_self _, by show l ≤ updS ρ S.1 x S.1; unfold updS; rw [if_pos rfl]; exact hl, by show updS ρ S.1 x S.1 ≤ u; unfold updS; rw [if_pos rfl]; exact hu⟩
    · exact (F.ext upd_ag (Nat.le_succ _)).1 q hq
  · exact (F.ext (m := S.1 + 1) upd_ag (Nat.le_succ _)).2 f hf
theorem Mo.db (M : Mo rg ws h0 ρ S h) {D : Db} (F : Fa ρ S.1 D) : Mo rg ws h0 ρ (S.1, D, S.2.2) h := ⟨F, M.2⟩
theorem Mo.kc (M : Mo rg ws h0 ρ S h) {c : Kc} (F : kcO ρ S.1 h c) : Mo rg ws h0 ρ (S.1, S.2.1, c :: S.2.2) h := ⟨M.1, fun d hd => by
  rcases List.mem_cons.mp hd with rfl | hd
  · exact F
  · exact M.2.1 d hd, M.2.2⟩
abbrev I32lo : Int := -2147483648
abbrev I32hi : Int := 2147483647
abbrev I64lo : Int := -9223372036854775808
abbrev I64hi : Int := 9223372036854775807
theorem i32b (x : Int32) : I32lo ≤ x.toInt ∧ x.toInt ≤ I32hi := by
  have h1 := x.le_toInt
  have h2 := x.toInt_lt
  show -2147483648 ≤ x.toInt ∧ x.toInt ≤ 2147483647
  omega
theorem i64b (x : Int64) : I64lo ≤ x.toInt ∧ x.toInt ≤ I64hi := by
  have h1 := x.le_toInt
  have h2 := x.toInt_lt
  show -9223372036854775808 ≤ x.toInt ∧ x.toInt ≤ 9223372036854775807
  omega
/-- reading -/
def kcF : List Kc → Nat → Nat → LE → Option LE
  | [], _, _, _ => none
  | (k', o', i', e) :: r, k, o, i => if (Nat.beq k' k && Nat.beq o' o && leEq i' i) = true then some e else kcF r k o i
theorem kcF_sp : ∀ {l : List Kc} {k o : Nat} {i e : LE}, kcF l k o i = some e → (k, o, i, e) ∈ l
  | [], _, _, _, _, h => by cases h
  | (k', o', i', e') :: r, k, o, i, e, h => by
    unfold kcF at h
    split at h
    · rename_i g
      simp only [Bool.and_eq_true] at g
      cases h
      rw [← Nat.eq_of_beq_eq_true g.1.1, ← Nat.eq_of_beq_eq_true g.1.2, ← leEq_eq g.2]
      exact List.mem_cons_self
    · exact List.mem_cons_of_mem _ (kcF_sp h)
/-- the quotient of a form -/
def leDv (s : Int) (e : LE) : LE := (e.1 / s, e.2.map fun p => (p.1, p.2 / s))
def rgM (D : Db) (q : Rg) (o : Nat) (i : LE) : Bool := Nat.beq q.1 o && (let d := leK i (-q.2.1); let e := leDv q.2.2.1 d; leEq (leSc q.2.2.1 e) d && en D e && en D (leK (leSc (-1) e) (q.2.2.2.1 - 1)))
def rgF : List Rg → Db → Nat → LE → Int × Int
  | [], _, _, _ => (I32lo, I32hi)
  | q :: r, D, o, i => if rgM D q o i = true then (q.2.2.2.2.1, q.2.2.2.2.2) else rgF r D o i
theorem rgF_sp {j : Int32} {o : Nat} {i : LE} {D : Db} {n : Nat} (F : Fa ρ n D) (hi : GG ρ n i j.toInt) : ∀ {rg : List Rg}, (∀ q ∈ rg, RgO h q) → (rgF rg D o i).1 ≤ (h.1 o j).toInt ∧ (h.1 o j).toInt ≤ (rgF rg D o i).2
  | [], _ => i32b _
  | q :: r, R => by
    unfold rgF
    split
    · rename_i g
      simp only [rgM, Bool.and_eq_true] at g
      obtain ⟨g1, ⟨g2, g3⟩, g4⟩ := g
      have e1 := Nat.eq_of_beq_eq_true g1
      have e2 := congrArg (leV ρ) (leEq_eq g2)
      have e3 := en_sp F g3
      have e4 := en_sp F g4
      rw [leV_sc, leV_K, hi.2] at e2
      rw [leV_K, leV_sc] at e4
      have := R q List.mem_cons_self j (leV ρ (leDv q.2.2.1 (leK i (-q.2.1)))) e3 (by omega) (by omega)
      rw [e1] at this
      exact this
    · exact rgF_sp F hi (fun q hq => R q (List.mem_cons_of_mem _ hq))
def rdI (rg : List Rg) (S : Sx) (o : Nat) (i : LE) : Sx × LE := match kcF S.2.2 0 o i with
  | some e => (S, e)
  | none => let b := rgF rg S.2.1 o i; let T := nwS S b.1 b.2; ((T.1, T.2.1, (0, o, i, leX S.1) :: T.2.2), leX S.1)
theorem rdI_sp (M : Mo rg ws h0 ρ S h) {o : Nat} {i : LE} {j : Int32} (hi : GG ρ S.1 i j.toInt) : ∃ ρ', Ag ρ ρ' S.1 ∧ S.1 ≤ (rdI rg S o i).1.1 ∧ Mo rg ws h0 ρ' (rdI rg S o i).1 h ∧ GG ρ' (rdI rg S o i).1.1 (rdI rg S o i).2 (h.1 o j).toInt := by
  unfold rdI
  split
  · rename_i e he
    obtain ⟨j', g1, g2⟩ := M.2.1 _ (kcF_sp he)
    have : j' = j := Int32.toInt_inj.mp (g1.2.symm.trans hi.2)
    subst this
    exact ⟨ρ, Ag.rf, Nat.le_refl _, M, g2⟩
  · have b := rgF_sp (h := h) (o := o) M.1 hi M.2.2.1
    refine ⟨_, upd_ag, Nat.le_succ _, (M.nw b.1 b.2).kc ⟨j, hi.ext upd_ag (Nat.le_succ _), upd_at⟩, upd_at⟩
def rdL (S : Sx) (o : Nat) (i : LE) : Sx × LE := match kcF S.2.2 1 o i with
  | some e => (S, e)
  | none => let T := nwS S I64lo I64hi; ((T.1, T.2.1, (1, o, i, leX S.1) :: T.2.2), leX S.1)
theorem rdL_sp (M : Mo rg ws h0 ρ S h) {o : Nat} {i : LE} {j : Int32} (hi : GG ρ S.1 i j.toInt) : ∃ ρ', Ag ρ ρ' S.1 ∧ S.1 ≤ (rdL S o i).1.1 ∧ Mo rg ws h0 ρ' (rdL S o i).1 h ∧ GG ρ' (rdL S o i).1.1 (rdL S o i).2 (h.2.1 o j).toInt := by
  unfold rdL
  split
  · rename_i e he
    obtain ⟨j', g1, g2⟩ := M.2.1 _ (kcF_sp he)
    have : j' = j := Int32.toInt_inj.mp (g1.2.symm.trans hi.2)
    subst this
    exact ⟨ρ, Ag.rf, Nat.le_refl _, M, g2⟩
  · refine ⟨_, upd_ag, Nat.le_succ _, (M.nw (i64b _).1 (i64b _).2).kc ⟨j, hi.ext upd_ag (Nat.le_succ _), upd_at⟩, upd_at⟩
/-- writing -/
def okW (ws : List Wr) (D : Db) (k o : Nat) (i : LE) : Bool := ws.any fun w => Nat.beq w.1 k && Nat.beq w.2.1 o && en D (leK i (-w.2.2.1)) && en D (leK (leSc (-1) i) w.2.2.2)
theorem okW_sp {D : Db} {n k o : Nat} {i : LE} {j : Int32} (F : Fa ρ n D) (hi : GG ρ n i j.toInt) (g : okW ws D k o i = true) : inW ws k o j := by
  simp only [okW, List.any_eq_true, Bool.and_eq_true] at g
  obtain ⟨w, hw, ⟨⟨g1, g2⟩, g3⟩, g4⟩ := g
  have e3 := en_sp F g3
  have e4 := en_sp F g4
  rw [leV_K, hi.2] at e3
  rw [leV_K, leV_sc, hi.2] at e4
  exact ⟨w, hw, Nat.eq_of_beq_eq_true g1, Nat.eq_of_beq_eq_true g2, by omega, by omega⟩
/-- no form with these coefficients is a multiple of s away from b -/
def rsd (s : Int) (i : LE) (b : Int) : Bool := leEq (leSc s (leDv s (0, i.2))) (0, i.2) && !iz ((i.1 - b) % s)
theorem rsd_sp {s b : Int} {i : LE} (g : rsd s i b = true) (k : Int) : leV ρ i ≠ b + s * k := by
  simp only [rsd, Bool.and_eq_true, Bool.not_eq_true'] at g
  obtain ⟨g1, g2⟩ := g
  have e1 := congrArg (leV ρ) (leEq_eq g1)
  rw [leV_sc] at e1
  intro q
  have e0 : leV ρ i = i.1 + leV ρ (0, i.2) := by simp [leV]
  have : i.1 - b = s * (k - leV ρ (leDv s (0, i.2))) := by rw [Int.mul_sub]; omega
  rw [this, Int.mul_emod_right] at g2
  cases g2
def okR (D : Db) (o : Nat) (i e : LE) (q : Rg) : Bool := !(Nat.beq q.1 o) || en D (leK (leSc (-1) i) (q.2.1 - 1)) || en D (leK i (-(q.2.1 + q.2.2.1 * (q.2.2.2.1 - 1)) - 1)) && ile 0 q.2.2.1 || rsd q.2.2.1 i q.2.1 || en D (leK e (-q.2.2.2.2.1)) && en D (leK (leSc (-1) e) q.2.2.2.2.2)
theorem okR_sp {D : Db} {n o : Nat} {i e : LE} {j v : Int32} {q : Rg} (F : Fa ρ n D) (hi : GG ρ n i j.toInt) (he : GG ρ n e v.toInt) (g : okR D o i e q = true) (hs : 0 ≤ q.2.2.1) (R : RgO h q) : RgO (hI h o j v) q := by
  intro j' k k0 k1 hj
  have hR := R j' k k0 k1 hj
  show q.2.2.2.2.1 ≤ (if q.1 = o ∧ j' = j then v else h.1 q.1 j').toInt ∧ (if q.1 = o ∧ j' = j then v else h.1 q.1 j').toInt ≤ q.2.2.2.2.2
  by_cases hc : q.1 = o ∧ j' = j
  · rw [if_pos hc]
    obtain ⟨rfl, rfl⟩ := hc
    simp only [okR, Bool.or_eq_true, Bool.and_eq_true, Bool.not_eq_true'] at g
    rcases g with (((g | g) | g) | g) | g
    · have := Nat.beq_refl q.1
      rw [g] at this
      cases this
    · have := en_sp F g
      rw [leV_K, leV_sc, hi.2] at this
      have := Int.mul_nonneg hs k0
      omega
    · have := en_sp F g.1
      rw [leV_K, hi.2] at this
      have := Int.mul_le_mul_of_nonneg_left (show k ≤ q.2.2.2.1 - 1 by omega) hs
      omega
    · exact absurd (hi.2.trans hj) (rsd_sp g k)
    · have g1 := en_sp F g.1
      have g2 := en_sp F g.2
      rw [leV_K, he.2] at g1
      rw [leV_K, leV_sc, he.2] at g2
      exact ⟨by omega, by omega⟩
  · rw [if_neg hc]
    exact hR
def gcdT : List (Nat × Int) → Nat
  | [] => 0
  | (_, a) :: r => Nat.gcd a.natAbs (gcdT r)
/-- the two places differ -/
def dif (D : Db) (i i' : LE) : Bool := let d := leSub i i'; en D (leK d (-1)) || en D (leK (leSc (-1) d) (-1)) || rsd (gcdT d.2) d 0
theorem dif_sp {D : Db} {n : Nat} {i i' : LE} {x y : Int} (F : Fa ρ n D) (hi : GG ρ n i x) (hi' : GG ρ n i' y) (g : dif D i i' = true) : x ≠ y := by
  simp only [dif, Bool.or_eq_true] at g
  intro hxy
  have e0 : leV ρ (leSub i i') = 0 := by rw [leV_sub, hi.2, hi'.2]; omega
  rcases g with (g | g) | g
  · have := en_sp F g
    rw [leV_K, e0] at this
    omega
  · have := en_sp F g
    rw [leV_K, leV_sc, e0] at this
    omega
  · exact rsd_sp g 0 (by rw [e0]; simp)
def kpt (D : Db) (k o : Nat) (i : LE) (c : Kc) : Bool := Nat.ble 2 c.1 || !(Nat.beq c.1 k) || !(Nat.beq c.2.1 o) || dif D c.2.2.1 i
def wrI (rg : List Rg) (ws : List Wr) (S : Sx) (o : Nat) (i e : LE) : Option Sx := if (okW ws S.2.1 0 o i && rg.all (fun q => okR S.2.1 o i e q && ile 0 q.2.2.1)) = true then some (S.1, S.2.1, (0, o, i, e) :: S.2.2.filter (kpt S.2.1 0 o i)) else none
theorem nbeq {a b : Nat} (h : Nat.beq a b = false) : a ≠ b := fun e => by rw [e, Nat.beq_refl] at h; cases h
theorem wrI_sp (M : Mo rg ws h0 ρ S h) {o : Nat} {i e : LE} {j v : Int32} {S' : Sx} (hi : GG ρ S.1 i j.toInt) (he : GG ρ S.1 e v.toInt) (g : wrI rg ws S o i e = some S') : S'.1 = S.1 ∧ Mo rg ws h0 ρ S' (hI h o j v) := by
  unfold wrI at g
  split at g
  · rename_i g0
    cases g
    simp only [Bool.and_eq_true, List.all_eq_true] at g0
    obtain ⟨g1, g2⟩ := g0
    obtain ⟨F, K, R, W⟩ := M
    refine ⟨rfl, F, fun c hc => ?_, fun q hq => okR_sp F hi he (g2 q hq).1 (ile_le (g2 q hq).2) (R q hq), ?_⟩
    · rcases List.mem_cons.mp hc with rfl | hc
      · exact ⟨j, hi, by show GG ρ S.1 e (if o = o ∧ j = j then v else h.1 o j).toInt; rw [if_pos ⟨rfl, rfl⟩]; exact he⟩
      · obtain ⟨hc, hk⟩ := List.mem_filter.mp hc
        have hK := K c hc
        obtain ⟨ck, co, ci, ce⟩ := c
        unfold kcO at hK ⊢
        simp only [kpt, Bool.or_eq_true, Bool.not_eq_true'] at hk
        dsimp only at hK ⊢ hk
        split at hK
        · obtain ⟨j', k1, k2⟩ := hK
          refine ⟨j', k1, ?_⟩
          show GG ρ S.1 ce (if co = o ∧ j' = j then v else h.1 co j').toInt
          rw [if_neg]
          · exact k2
          · rintro ⟨rfl, rfl⟩
            rcases hk with ((hk | hk) | hk) | hk
            · cases hk
            · cases hk
            · exact nbeq hk rfl
            · exact dif_sp F k1 hi hk rfl
        · exact hK
        · exact hK
        · exact hK
    · refine ⟨fun o' j' hn => ?_, W.2.1, W.2.2⟩
      show (if o' = o ∧ j' = j then v else h.1 o' j') = _
      rw [if_neg]
      · exact W.1 o' j' hn
      · rintro ⟨rfl, rfl⟩
        exact hn (okW_sp F hi g1)
  · cases g
def wrL (ws : List Wr) (S : Sx) (o : Nat) (i e : LE) : Option Sx := if okW ws S.2.1 1 o i = true then some (S.1, S.2.1, (1, o, i, e) :: S.2.2.filter (kpt S.2.1 1 o i)) else none
theorem wrL_sp (M : Mo rg ws h0 ρ S h) {o : Nat} {i e : LE} {j : Int32} {v : Int64} {S' : Sx} (hi : GG ρ S.1 i j.toInt) (he : GG ρ S.1 e v.toInt) (g : wrL ws S o i e = some S') : S'.1 = S.1 ∧ Mo rg ws h0 ρ S' (hL h o j v) := by
  unfold wrL at g
  split at g
  · rename_i g1
    cases g
    obtain ⟨F, K, R, W⟩ := M
    refine ⟨rfl, F, fun c hc => ?_, R, ?_⟩
    · rcases List.mem_cons.mp hc with rfl | hc
      · exact ⟨j, hi, by show GG ρ S.1 e (if o = o ∧ j = j then v else h.2.1 o j).toInt; rw [if_pos ⟨rfl, rfl⟩]; exact he⟩
      · obtain ⟨hc, hk⟩ := List.mem_filter.mp hc
        have hK := K c hc
        obtain ⟨ck, co, ci, ce⟩ := c
        unfold kcO at hK ⊢
        simp only [kpt, Bool.or_eq_true, Bool.not_eq_true'] at hk
        dsimp only at hK ⊢ hk
        split at hK
        · exact hK
        · obtain ⟨j', k1, k2⟩ := hK
          refine ⟨j', k1, ?_⟩
          show GG ρ S.1 ce (if co = o ∧ j' = j then v else h.2.1 co j').toInt
          rw [if_neg]
          · exact k2
          · rintro ⟨rfl, rfl⟩
            rcases hk with ((hk | hk) | hk) | hk
            · cases hk
            · cases hk
            · exact nbeq hk rfl
            · exact dif_sp F k1 hi hk rfl
        · exact hK
        · exact hK
    · refine ⟨W.1, fun o' j' hn => ?_, W.2.2⟩
      show (if o' = o ∧ j' = j then v else h.2.1 o' j') = _
      rw [if_neg]
      · exact W.2.1 o' j' hn
      · rintro ⟨rfl, rfl⟩
        exact hn (okW_sp F hi g1)
  · cases g
/-- what is left of the known cells where so much may have been written -/
def kpW (D : Db) (w : Wr) (c : Kc) : Bool := Nat.ble 2 c.1 || !(Nat.beq c.1 w.1) || !(Nat.beq c.2.1 w.2.1) || en D (leK (leSc (-1) c.2.2.1) (w.2.2.1 - 1)) || en D (leK c.2.2.1 (-w.2.2.2 - 1))
def kpL (D : Db) (vs : List Wr) (kc : List Kc) : List Kc := kc.filter fun c => vs.all fun w => kpW D w c
theorem kpL_sp {D : Db} {n : Nat} {vs : List Wr} {kc : List Kc} {h' : Hp} (F : Fa ρ n D) (K : ∀ c ∈ kc, kcO ρ n h c) (W : Frm vs h h') : ∀ c ∈ kpL D vs kc, kcO ρ n h' c := by
  intro c hc
  obtain ⟨hc, hk⟩ := List.mem_filter.mp hc
  rw [List.all_eq_true] at hk
  have hK := K c hc
  obtain ⟨ck, co, ci, ce⟩ := c
  have nin : ∀ k j, ck = k → k < 2 → GG ρ n ci j.toInt → ¬ inW vs k co j := by
    rintro k j e1 e2 gi ⟨w, hw, w1, w2, w3, w4⟩
    have hk := hk w hw
    simp only [kpW, Bool.or_eq_true, Bool.not_eq_true'] at hk
    rcases hk with (((hk | hk) | hk) | hk) | hk
    · have : 2 ≤ ck := Nat.le_of_ble_eq_true hk
      omega
    · exact nbeq hk (e1.trans w1.symm)
    · exact nbeq hk w2.symm
    · have := en_sp F hk
      rw [leV_K, leV_sc, gi.2] at this
      omega
    · have := en_sp F hk
      rw [leV_K, gi.2] at this
      omega
  unfold kcO at hK ⊢
  dsimp only at hK ⊢
  split at hK
  · obtain ⟨j, k1, k2⟩ := hK
    exact ⟨j, k1, by rw [W.1 _ _ (nin 0 j rfl (by decide) k1)]; exact k2⟩
  · obtain ⟨j, k1, k2⟩ := hK
    exact ⟨j, k1, by rw [W.2.1 _ _ (nin 1 j rfl (by decide) k1)]; exact k2⟩
  · rw [W.2.2]
    exact hK
  · rw [W.2.2]
    exact hK
/-- reading the script -/
def rdT (S : Sx) (i : LE) : Sx × LE := match kcF S.2.2 3 1300 i with
  | some e => (S, e)
  | none => let T := nwS S I32lo I32hi; ((T.1, T.2.1, (3, 1300, i, leX S.1) :: T.2.2), leX S.1)
theorem rdT_sp (M : Mo rg ws h0 ρ S h) {i : LE} {j : Int32} (hi : GG ρ S.1 i j.toInt) : ∃ ρ', Ag ρ ρ' S.1 ∧ S.1 ≤ (rdT S i).1.1 ∧ Mo rg ws h0 ρ' (rdT S i).1 h ∧ GG ρ' (rdT S i).1.1 (rdT S i).2 (h.2.2.2 j.toNatClampNeg).toInt := by
  unfold rdT
  split
  · rename_i e he
    obtain ⟨j', g1, g2⟩ := M.2.1 _ (kcF_sp he)
    have : j' = j := Int32.toInt_inj.mp (g1.2.symm.trans hi.2)
    subst this
    exact ⟨ρ, Ag.rf, Nat.le_refl _, M, g2⟩
  · refine ⟨_, upd_ag, Nat.le_succ _, (M.nw (i32b _).1 (i32b _).2).kc ⟨j, hi.ext upd_ag (Nat.le_succ _), upd_at⟩, upd_at⟩
end MO
