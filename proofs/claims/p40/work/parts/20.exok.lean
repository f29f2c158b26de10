/-! The walk is sound. -/
/-- a cell, an argument, by their forms alone -/
def kcV (ρ : Nat → Int) (h : Hp) (c : Kc) : Prop := match c.1 with
  | 0 => ∃ j : Int32, leV ρ c.2.2.1 = j.toInt ∧ leV ρ c.2.2.2 = (h.1 c.2.1 j).toInt
  | 1 => ∃ j : Int32, leV ρ c.2.2.1 = j.toInt ∧ leV ρ c.2.2.2 = (h.2.1 c.2.1 j).toInt
  | 2 => leV ρ c.2.2.2 = (h.2.2.1 : Int)
  | _ => ∃ j : Int32, leV ρ c.2.2.1 = j.toInt ∧ leV ρ c.2.2.2 = (h.2.2.2 j.toNatClampNeg).toInt
/-- the arguments, from the k-th symbol on -/
def inV (ρ : Nat → Int) : List (Nat × Int × Int) → Nat → List Value → Prop
  | [], _, as => as = []
  | (t, l, u) :: r, k, as => ∃ v s, as = v :: s ∧ (if t = 2 then v = .ref l.toNat ∧ 0 ≤ l ∧ inV ρ r k s else (l ≤ ρ k ∧ ρ k ≤ u) ∧ (if t = 0 then ∃ x : Int32, v = .int x ∧ ρ k = x.toInt else t = 1 ∧ ∃ x : Int64, v = .long x ∧ ρ k = x.toInt) ∧ inV ρ r (k + 1) s)
def nonR (l : List (Nat × Int × Int)) : Nat := (l.filter (fun q => !(Nat.beq q.1 2))).length
def bdV (ρ : Nat → Int) (l : List Gen) (k : Nat) : Prop := ∀ q ∈ gbL l k, q.2.1 ≤ ρ q.1 ∧ ρ q.1 ≤ q.2.2
def rtV (ρ : Nat → Int) (e : Option LE) (r : Option Value) : Prop := match e with
  | none => r = none
  | some e => ∃ x : Int32, r = some (.int x) ∧ leV ρ e = x.toInt
def SmOK (rg : List Rg) (s : Sm) : Prop := ∀ d, s.2.1 ≤ d → ∀ (ρ : Nat → Int) (as : List Value) (h : Hp), inV ρ s.2.2.1 0 as → bdV ρ s.2.2.2.1 (nonR s.2.2.1) → (∀ c ∈ celG (nonR s.2.2.1) s.2.2.2.1, kcV ρ h c) → (∀ f ∈ s.2.2.2.2.1, 0 ≤ leV ρ f) → (∀ q ∈ rg, RgO h q) → Call d s.1 as h (fun r h' => (∀ q ∈ rg, RgO h' q) ∧ Frm s.2.2.2.2.2.1 h h' ∧ ∃ o ∈ s.2.2.2.2.2.2, ∃ ρ', Ag ρ ρ' (smG s) ∧ bdV ρ' o.1 (smG s) ∧ rtV ρ' o.2.1 r ∧ (∀ c ∈ o.2.2.1, kcV ρ' h' c) ∧ (∀ f ∈ o.2.2.2, 0 ≤ leV ρ' f))
def mz (al : Al) (ρ : Nat → Int) : Nat := let g := al.2.2.1.getD al.2.2.2.2.2.2.1 ((0, 0, 0, leC 0), 0, 0); let x := ρ (al.2.1 + al.2.2.2.2.2.2.1); if al.2.2.2.2.2.2.2 = true then (g.2.2 - x).toNat else (x - g.2.1).toNat
def AlOK (rg : List Rg) (ws : List Wr) (h0 : Hp) (ρ : Nat → Int) (n : Nat) (X : Cf → Prop) (al : Al) : Prop := Fa ρ al.2.1 al.2.2.2.2.2.1 ∧ alW al = true ∧ al.2.1 + al.2.2.1.length ≤ n ∧ al.2.2.2.1.1.2.1 = (gbL al.2.2.1 al.2.1 ++ al.2.2.2.2.2.1.1, al.2.2.2.2.1 ++ al.2.2.2.2.2.1.2) ∧ ∀ ρ' z, Ag ρ ρ' al.2.1 → Md rg ws h0 ρ' al.2.2.2.1 z → mz al ρ' < mz al ρ → X z
theorem Ag.mono {ρ ρ' : Nat → Int} {n m : Nat} (h : Ag ρ ρ' n) (g : m ≤ n) : Ag ρ ρ' m := fun k hk => h k (Nat.lt_of_lt_of_le hk g)
theorem Ag.sy {ρ ρ' : Nat → Int} {n : Nat} (h : Ag ρ ρ' n) : Ag ρ' ρ n := fun k hk => (h k hk).symm
theorem alW_t {al : Al} (h : alW al = true) : al.2.2.2.2.2.2.1 < al.2.2.1.length := by
  simp only [alW, Bool.and_eq_true] at h
  exact bltT h.2
section EXOK
variable {rg : List Rg} {ws : List Wr} {h0 : Hp}
theorem AlOK.ext {ρ ρ' : Nat → Int} {n m : Nat} {X : Cf → Prop} {al : Al} (h : AlOK rg ws h0 ρ n X al) (g : Ag ρ ρ' n) (hm : n ≤ m) : AlOK rg ws h0 ρ' m X al := by
  obtain ⟨a, b, c, d, e⟩ := h
  have hn : al.2.1 ≤ n := by omega
  have hz : mz al ρ' = mz al ρ := by
    have := alW_t b
    unfold mz
    dsimp only
    rw [g _ (by omega)]
  exact ⟨a.ext (g.mono hn) (Nat.le_refl _), b, by omega, d, fun ρ'' z g2 M k => e ρ'' z ((g.mono hn).tr g2 (Nat.le_refl _)) M (by rw [← hz]; exact k)⟩
/-- the callers that wait -/
def FrOK (rg : List Rg) (ws : List Wr) (h0 : Hp) (ρ : Nat → Int) (n : Nat) (Q0 : Option Value → Hp → Prop) : Nat → List Fm → (Option Value → Hp → Prop) → Prop
  | _, [], Q => ∀ r h, Q0 r h → Q r h
  | d, (bd, pc, ls, st, act) :: fs, Q => ∃ (X : Cf → Prop) (Q' : Option Value → Hp → Prop) (lc : Lc) (sc : List Value), Clo (Call (d + 1)) bd.1 bd.2.1 Q' X ∧ (∀ r h, X (pc, lc, r.toList ++ sc, h) → Q r h) ∧ LR ρ n ls lc ∧ SR ρ n st sc ∧ (∀ al ∈ act, AlOK rg ws h0 ρ n X al) ∧ FrOK rg ws h0 ρ n Q0 (d + 1) fs Q'
theorem FrOK.ext {ρ ρ' : Nat → Int} {n m : Nat} {Q0 : Option Value → Hp → Prop} (g : Ag ρ ρ' n) (hm : n ≤ m) : ∀ {fs : List Fm} {d : Nat} {Q : Option Value → Hp → Prop}, FrOK rg ws h0 ρ n Q0 d fs Q → FrOK rg ws h0 ρ' m Q0 d fs Q
  | [], _, _, h => h
  | (bd, pc, ls, st, act) :: fs, d, Q, h => by
    obtain ⟨X, Q', lc, sc, a, b, c, e, f, k⟩ := h
    exact ⟨X, Q', lc, sc, a, b, c.ext g hm, e.ext g hm, fun al ha => (f al ha).ext g hm, FrOK.ext g hm k⟩
theorem tch_sp {h : Hp} : ∀ {l : List Gen} {S : Sx} {ρ : Nat → Int}, Mo rg ws h0 ρ S h → ∃ ρ', Ag ρ ρ' S.1 ∧ S.1 ≤ (tch rg S l).1 ∧ Mo rg ws h0 ρ' (tch rg S l) h := by
  intro l
  induction l with
  | nil => intro S ρ M; exact ⟨ρ, Ag.rf, Nat.le_refl _, M⟩
  | cons q r ih =>
    intro S ρ M
    unfold tch
    split
    · exact ⟨ρ, Ag.rf, Nat.le_refl _, M⟩
    · rename_i o i b r' heq
      cases heq
      split
      · rename_i hc
        have hi : i.2 = [] := by simpa using hc.1
        have hr := inR32_sp M.1 hc.2
        have hv : leV ρ i = i.1 := by simp [leV, hi, leT]
        rw [hv] at hr
        have hj : (Int32.ofInt i.1).toInt = i.1 := Int32.toInt_ofInt_of_le (by omega) (by omega)
        obtain ⟨ρ1, a1, a2, a3, -⟩ := rdI_sp (o := o) (i := i) (j := Int32.ofInt i.1) M ⟨fun p hp => by rw [hi] at hp; (cases hp), by rw [hv, hj]⟩
        obtain ⟨ρ2, b1, b2, b3⟩ := ih a3
        exact ⟨ρ2, a1.tr b1 a2, Nat.le_trans a2 b2, b3⟩
      · exact ih M
    · rename_i heq
      cases heq
      exact ih M
theorem srcV_S {ρ : Nat → Int} {S : Sx} {h : Hp} {ls : List (Option AV)} {lc : Lc} (M : Mo rg ws h0 ρ S h) (hL : LR ρ S.1 ls lc) {s : Src} {e : LE} (q : srcV S ls s = some e) : leS S.1 e := by
  unfold srcV at q
  split at q
  · split at q
    · rename_i hk
      cases q
      obtain ⟨x, -, g⟩ := hL.j hk
      exact g.1
    · cases q
  · have := M.2.1 _ (kcF_sp q)
    unfold kcO at this
    dsimp only at this
    split at this
    · obtain ⟨j, -, g⟩ := this; exact g.1
    · obtain ⟨j, -, g⟩ := this; exact g.1
    · exact this.1
    · obtain ⟨j, -, g⟩ := this; exact g.1
  · cases q
theorem srcL_S {ρ : Nat → Int} {S : Sx} {h : Hp} {ls : List (Option AV)} {lc : Lc} (M : Mo rg ws h0 ρ S h) (hL : LR ρ S.1 ls lc) : ∀ {gs : List Gen} {σ : List LE}, srcL S ls gs = some σ → σ.length = gs.length ∧ ∀ e ∈ σ, leS S.1 e
  | [], _, q => by cases q; exact ⟨rfl, fun e he => by cases he⟩
  | g :: r, σ, q => by
    unfold srcL at q
    split at q
    · rename_i e l h1 h2
      cases q
      obtain ⟨i1, i2⟩ := srcL_S M hL h2
      refine ⟨by simp [i1], fun f hf => ?_⟩
      rcases List.mem_cons.mp hf with rfl | hf
      · exact srcV_S M hL h1
      · exact i2 f hf
    · cases q
end EXOK
