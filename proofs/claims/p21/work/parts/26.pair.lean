/-! Two threads, the class's and the reference's: neither reads nor writes what is the other's. -/
/-- whose an object is: the class's, or not -/
noncomputable def sd (r : Nat) : Bool := Nat.blt r 65
/-- one side of a heap with the other side of another -/
noncomputable def mxH (s : Bool) (h k : Hp) : Hp := (fun a j => if sd a = s then h.1 a j else k.1 a j, fun a j => if sd a = s then h.2.1 a j else k.2.1 a j, h.2.2)
noncomputable def vS (s : Bool) : Value → Prop
  | .ref r => r < 1000 → sd r = s
  | _ => True
noncomputable def sS (s : Bool) (st : List Value) : Prop := ∀ v ∈ st, vS s v
noncomputable def lS (s : Bool) (ls : Lc) : Prop := ∀ v, some v ∈ ls → vS s v
noncomputable def mxZ (s : Bool) (k : Hp) (z : Cf) : Cf := (z.1, z.2.1, z.2.2.1, mxH s z.2.2.2 k)
noncomputable def Lo (s : Bool) (k : Hp) (F : Hp → St) : Prop := ∀ (h : Hp) (G : Prop) (z' : Cf), F h = some (G, z') → F (mxH s h k) = some (G, mxZ s k z') ∧ lS s z'.2.1 ∧ sS s z'.2.2.1 ∧ z'.2.2.2.2.2 = h.2.2
theorem mx_at {s : Bool} {h k : Hp} {r : Nat} {j : Int32} (e : sd r = s) : (mxH s h k).1 r j = h.1 r j := if_pos e
theorem mx_atL {s : Bool} {h k : Hp} {r : Nat} {j : Int32} (e : sd r = s) : (mxH s h k).2.1 r j = h.2.1 r j := if_pos e
theorem mx_off {s : Bool} {h k : Hp} {r : Nat} {j : Int32} (e : ¬ sd r = s) : (mxH s h k).1 r j = k.1 r j := if_neg e
theorem mx_offL {s : Bool} {h k : Hp} {r : Nat} {j : Int32} (e : ¬ sd r = s) : (mxH s h k).2.1 r j = k.2.1 r j := if_neg e
theorem mx_ext {h k : Hp} (a : ∀ r j, h.1 r j = k.1 r j) (b : ∀ r j, h.2.1 r j = k.2.1 r j) (c : h.2.2 = k.2.2) : h = k := Prod.ext (funext fun r => funext fun j => a r j) (Prod.ext (funext fun r => funext fun j => b r j) c)
theorem mx_self {s : Bool} {h : Hp} : mxH s h h = h := mx_ext (fun r j => by unfold mxH; dsimp only; split <;> rfl) (fun r j => by unfold mxH; dsimp only; split <;> rfl) rfl
theorem mx_l {s : Bool} {h k l : Hp} : mxH s (mxH s h k) l = mxH s h l := mx_ext (fun r j => by unfold mxH; dsimp only; split <;> rfl) (fun r j => by unfold mxH; dsimp only; split <;> rfl) rfl
theorem mx_r {s : Bool} {h k l : Hp} : mxH s h (mxH s k l) = mxH s h l := mx_ext (fun r j => by unfold mxH; dsimp only; split <;> rfl) (fun r j => by unfold mxH; dsimp only; split <;> rfl) rfl
theorem mx_sw {s : Bool} {h k : Hp} (e : h.2.2 = k.2.2) : mxH s h k = mxH (!s) k h := mx_ext (fun r j => by unfold mxH; dsimp only; cases s <;> cases sd r <;> rfl) (fun r j => by unfold mxH; dsimp only; cases s <;> cases sd r <;> rfl) e
theorem hI_mx {s : Bool} {h k : Hp} {r : Nat} {j v : Int32} (e : sd r = s) : hI (mxH s h k) r j v = mxH s (hI h r j v) k := mx_ext (fun a b => by
  unfold hI mxH
  dsimp only
  by_cases c : a = r ∧ b = j
  · rw [if_pos c, if_pos (by rw [c.1]; exact e), if_pos c]
  · rw [if_neg c, if_neg c]) (fun a b => rfl) rfl
theorem hL_mx {s : Bool} {h k : Hp} {r : Nat} {j : Int32} {v : Int64} (e : sd r = s) : hL (mxH s h k) r j v = mxH s (hL h r j v) k := mx_ext (fun a b => rfl) (fun a b => by
  unfold hL mxH
  dsimp only
  by_cases c : a = r ∧ b = j
  · rw [if_pos c, if_pos (by rw [c.1]; exact e), if_pos c]
  · rw [if_neg c, if_neg c]) rfl
theorem hC_mx {s : Bool} {h k : Hp} {a0 d : Nat} {sp dp n : Int32} (e0 : sd a0 = s) (e : sd d = s) : hC (mxH s h k) a0 sp d dp n = mxH s (hC h a0 sp d dp n) k := mx_ext (fun a b => by
  unfold hC mxH
  dsimp only
  by_cases c : a = d ∧ dp ≤ b ∧ b < dp + n
  · rw [if_pos c, if_pos e0, if_pos (show sd a = s by rw [c.1]; exact e), if_pos c]
  · rw [if_neg c, if_neg c]) (fun a b => rfl) rfl
theorem hCL_mx {s : Bool} {h k : Hp} {a0 d : Nat} {sp dp n : Int32} (e0 : sd a0 = s) (e : sd d = s) : hCL (mxH s h k) a0 sp d dp n = mxH s (hCL h a0 sp d dp n) k := mx_ext (fun a b => rfl) (fun a b => by
  unfold hCL mxH
  dsimp only
  by_cases c : a = d ∧ dp ≤ b ∧ b < dp + n
  · rw [if_pos c, if_pos e0, if_pos (show sd a = s by rw [c.1]; exact e), if_pos c]
  · rw [if_neg c, if_neg c]) rfl
theorem sS.tl {s : Bool} {v : Value} {st : List Value} (h : sS s (v :: st)) : sS s st := fun x hx => h x (List.mem_cons_of_mem _ hx)
theorem sS.hd {s : Bool} {v : Value} {st : List Value} (h : sS s (v :: st)) : vS s v := h v List.mem_cons_self
theorem sS.cons {s : Bool} {v : Value} {st : List Value} (h : sS s st) (g : vS s v) : sS s (v :: st) := fun x hx => by
  rcases List.mem_cons.mp hx with rfl | hx
  · exact g
  · exact h x hx
theorem sS.app {s : Bool} {a b : List Value} (h : sS s a) (g : sS s b) : sS s (a ++ b) := fun x hx => by
  rcases List.mem_append.mp hx with hx | hx
  · exact h x hx
  · exact g x hx
theorem lS.set {s : Bool} {ls : Lc} {k : Nat} {v : Value} (h : lS s ls) (g : vS s v) : lS s (ls.set k (some v)) := fun x hx => by
  rcases List.mem_or_eq_of_mem_set hx with hx | hx
  · exact h x hx
  · cases hx; exact g
/-- the fields that stand are of the same side -/
noncomputable def gOK : Bool := (List.range 1000).all fun r => (oF r).all fun o => match o with
  | some (.ref x) => Nat.ble 1000 x || (sd x == sd r)
  | _ => true
theorem gOK_t : gOK = true := by decide +kernel
theorem gOK_sp {r b : Nat} {v : Value} (hr : r < 1000) (h : (oF r)[b]? = some (some v)) : vS (sd r) v := by
  have g := gOK_t
  unfold gOK at g
  rw [List.all_eq_true] at g
  have g := g r (List.mem_range.mpr hr)
  rw [List.all_eq_true] at g
  have g := g _ (List.mem_of_getElem? h)
  unfold vS
  split
  · rename_i x
    dsimp only at g
    rw [Bool.or_eq_true] at g
    intro hx
    rcases g with g | g
    · exact absurd hx (Nat.not_lt.mpr (Nat.le_of_ble_eq_true g))
    · exact eq_of_beq g
  · trivial
theorem isCl_lt {r a : Nat} (h : isCl r a = true) : r < 1000 := by
  simp only [isCl, Bool.and_eq_true, decide_eq_true_eq] at h
  exact h.1.1
section LO
variable {s : Bool} {K : Hp} {ls : Lc} {st : List Value} {pc a b k n : Nat} {vv : Int32}
theorem lo_LdI (hl : lS s ls) (hs : sS s st) : Lo s K (fLdI ls k n pc st) := fun h G z' q => by
  unfold fLdI at q ⊢
  split at q
  · rename_i x e
    cases q
    exact ⟨rfl, hl, hs.cons trivial, rfl⟩
  · cases q
theorem lo_LdL (hl : lS s ls) (hs : sS s st) : Lo s K (fLdL ls k n pc st) := fun h G z' q => by
  unfold fLdL at q ⊢
  split at q
  · rename_i x e
    cases q
    exact ⟨rfl, hl, hs.cons trivial, rfl⟩
  · cases q
theorem lo_LdA (hl : lS s ls) (hs : sS s st) : Lo s K (fLdA ls k n pc st) := fun h G z' q => by
  unfold fLdA at q ⊢
  split at q
  · rename_i x e
    cases q
    exact ⟨rfl, hl, hs.cons (hl _ (List.mem_of_getElem? e)), rfl⟩
  · cases q
theorem lo_St {v : Value} (hl : lS s ls) (hs : sS s st) (hv : vS s v) : Lo s K (fSt ls k n pc v st) := fun h G z' q => by
  unfold fSt at q ⊢
  split at q
  · cases q
  · rename_i e1
    split at q
    · cases q
    · rename_i e2
      split at q
      · rename_i e3
        cases q
        rw [if_neg e1, if_neg e2, if_pos e3]
        exact ⟨rfl, hl.set hv, hs, rfl⟩
      · cases q
theorem lo_StI (hl : lS s ls) (hs : sS s st) : Lo s K (fStI ls k n pc st) := fun h G z' q => by
  unfold fStI at q ⊢
  split at q
  · exact lo_St (v := .int _) hl hs.tl trivial h G z' q
  · cases q
theorem lo_I2 {f : Int32 → Int32 → Int32} (hl : lS s ls) (hs : sS s st) : Lo s K (fI2 f ls pc st) := fun h G z' q => by
  unfold fI2 at q ⊢
  split at q
  · cases q
    exact ⟨rfl, hl, hs.tl.tl.cons trivial, rfl⟩
  · cases q
theorem lo_I2g {f : Int32 → Int32 → Int32} (hl : lS s ls) (hs : sS s st) : Lo s K (fI2g f ls pc st) := fun h G z' q => by
  unfold fI2g at q ⊢
  split at q
  · cases q
    exact ⟨rfl, hl, hs.tl.tl.cons trivial, rfl⟩
  · cases q
theorem lo_I1 {f : Int32 → Int32} (hl : lS s ls) (hs : sS s st) : Lo s K (fI1 f ls pc st) := fun h G z' q => by
  unfold fI1 at q ⊢
  split at q
  · cases q
    exact ⟨rfl, hl, hs.tl.cons trivial, rfl⟩
  · cases q
theorem lo_L2 {f : Int64 → Int64 → Int64} (hl : lS s ls) (hs : sS s st) : Lo s K (fL2 f ls pc st) := fun h G z' q => by
  unfold fL2 at q ⊢
  split at q
  · cases q
    exact ⟨rfl, hl, hs.tl.tl.cons trivial, rfl⟩
  · cases q
theorem lo_LI {f : Int64 → Int32 → Int64} (hl : lS s ls) (hs : sS s st) : Lo s K (fLI f ls pc st) := fun h G z' q => by
  unfold fLI at q ⊢
  split at q
  · cases q
    exact ⟨rfl, hl, hs.tl.tl.cons trivial, rfl⟩
  · cases q
theorem lo_If {c : ClassFile.Cond} (hl : lS s ls) (hs : sS s st) : Lo s K (fIf c a ls pc st) := fun h G z' q => by
  unfold fIf at q ⊢
  split at q
  · cases q
    exact ⟨rfl, hl, hs.tl, rfl⟩
  · cases q
theorem lo_Ic {c : ClassFile.Cond} (hl : lS s ls) (hs : sS s st) : Lo s K (fIc c a ls pc st) := fun h G z' q => by
  unfold fIc at q ⊢
  split at q
  · cases q
    exact ⟨rfl, hl, hs.tl.tl, rfl⟩
  · cases q
theorem lo_Gf (hl : lS s ls) (hs : sS s st) : Lo s K (fGf a b vv ls pc st) := fun h G z' q => by
  unfold fGf at q ⊢
  split at q
  · rename_i r t
    split at q
    · rename_i e1
      split at q
      · rename_i v e2
        cases q
        have h1 := isCl_lt e1
        have hr := hs.hd h1
        have e3 : gfv (mxH s h K) r b vv = gfv h r b vv := by
          unfold gfv
          split
          · rfl
          · rw [mx_at hr]
          · rfl
        rw [if_pos e1, e3, e2]
        refine ⟨rfl, hl, hs.tl.cons ?_, rfl⟩
        unfold gfv at e2
        split at e2
        · rename_i v' e'
          cases e2
          rw [← hr]
          exact gOK_sp h1 e'
        · cases e2
          trivial
        · cases e2
      · cases q
    · cases q
  · cases q
theorem lo_Pf (hl : lS s ls) (hs : sS s st) : Lo s K (fPf a b vv ls pc st) := fun h G z' q => by
  unfold fPf at q ⊢
  split at q
  · rename_i v r t
    split at q
    · rename_i e1
      split at q
      · rename_i e2
        cases q
        have hr := hs.tl.hd (isCl_lt e1)
        rw [if_pos e1]
        try rw [e2]
        rw [hI_mx hr]
        exact ⟨rfl, hl, hs.tl.tl, rfl⟩
      · cases q
    · cases q
  · cases q
theorem lo_Al (hl : lS s ls) (hs : sS s st) : Lo s K (fAl ls pc st) := fun h G z' q => by
  unfold fAl at q ⊢
  split at q
  · split at q
    · rename_i e1
      cases q
      rw [if_pos e1]
      exact ⟨rfl, hl, hs.tl.cons trivial, rfl⟩
    · cases q
  · cases q
theorem agt_mx {h : Hp} {r : Nat} {j : Int32} (hr : r < 1000 → sd r = s) : agt (mxH s h K) r j = agt h r j := by
  unfold agt
  split
  · rename_i h1
    exact mx_at (hr h1)
  · rfl
theorem lo_Ial (hl : lS s ls) (hs : sS s st) : Lo s K (fIal ls pc st) := fun h G z' q => by
  unfold fIal at q ⊢
  split at q
  · split at q
    · rename_i e1
      cases q
      rw [if_pos e1, agt_mx hs.tl.hd]
      exact ⟨rfl, hl, hs.tl.tl.cons trivial, rfl⟩
    · cases q
  · cases q
theorem lo_Bal (hl : lS s ls) (hs : sS s st) : Lo s K (fBal ls pc st) := fun h G z' q => by
  unfold fBal at q ⊢
  split at q
  · split at q
    · rename_i e1
      cases q
      rw [if_pos e1, mx_at (hs.tl.hd e1.1)]
      exact ⟨rfl, hl, hs.tl.tl.cons trivial, rfl⟩
    · cases q
  · cases q
theorem lo_Lal (hl : lS s ls) (hs : sS s st) : Lo s K (fLal ls pc st) := fun h G z' q => by
  unfold fLal at q ⊢
  split at q
  · split at q
    · rename_i e1
      cases q
      rw [if_pos e1, mx_atL (hs.tl.hd e1.1)]
      exact ⟨rfl, hl, hs.tl.tl.cons trivial, rfl⟩
    · cases q
  · cases q
theorem lo_Ias (hl : lS s ls) (hs : sS s st) : Lo s K (fIas ls pc st) := fun h G z' q => by
  unfold fIas at q ⊢
  split at q
  · split at q
    · rename_i e1
      cases q
      rw [if_pos e1, hI_mx (hs.tl.tl.hd e1.1)]
      exact ⟨rfl, hl, hs.tl.tl.tl, rfl⟩
    · cases q
  · cases q
theorem lo_Bas (hl : lS s ls) (hs : sS s st) : Lo s K (fBas ls pc st) := fun h G z' q => by
  unfold fBas at q ⊢
  split at q
  · split at q
    · rename_i e1
      cases q
      rw [if_pos e1, hI_mx (hs.tl.tl.hd e1.1)]
      exact ⟨rfl, hl, hs.tl.tl.tl, rfl⟩
    · cases q
  · cases q
theorem lo_Las (hl : lS s ls) (hs : sS s st) : Lo s K (fLas ls pc st) := fun h G z' q => by
  unfold fLas at q ⊢
  split at q
  · split at q
    · rename_i e1
      cases q
      rw [if_pos e1, hL_mx (hs.tl.tl.hd e1.1)]
      exact ⟨rfl, hl, hs.tl.tl.tl, rfl⟩
    · cases q
  · cases q
theorem lo_Lib (hl : lS s ls) (hs : sS s st) : Lo s K (fLib a ls pc st) := fun h G z' q => by
  unfold fLib at q ⊢
  split at q
  · rename_i y x r
    split at q
    · cases q
    · rename_i e0
      rw [if_neg e0]
      split at q
      · rename_i e1
        cases q
        rw [if_pos e1]
        exact ⟨rfl, hl, hs.tl.tl.cons trivial, rfl⟩
      · rename_i e1
        rw [if_neg e1]
        split at q
        · rename_i e2
          cases q
          rw [if_pos e2]
          exact ⟨rfl, hl, hs.tl.tl.cons trivial, rfl⟩
        · rename_i e2
          rw [if_neg e2]
          split at q
          · rename_i d sp s0 t
            split at q
            · rename_i e3
              try dsimp only
              rw [if_pos e3]
              split at q
              · rename_i e4
                cases q
                rw [if_pos e4, hC_mx (hs.tl.tl.tl.tl.hd e4.2.1) (hs.tl.tl.hd e4.1)]
                exact ⟨rfl, hl, hs.tl.tl.tl.tl.tl, rfl⟩
              · rename_i e4
                rw [if_neg e4]
                split at q
                · rename_i e5
                  cases q
                  rw [if_pos e5, hCL_mx (hs.tl.tl.tl.tl.hd e5.2.1) (hs.tl.tl.hd e5.1)]
                  exact ⟨rfl, hl, hs.tl.tl.tl.tl.tl, rfl⟩
                · cases q
            · cases q
          · cases q
  · cases q
/-- what an instruction names is nobody's -/
noncomputable def atB (i : Instr) (a : Nat) : Bool := match i with
  | .ldc _ => Nat.beq a 0 || Nat.ble 1000 a
  | .getstatic _ => Nat.ble 1000 a
  | _ => true
theorem lo_ps {G0 : Prop} {p : Nat} {l : Lc} {t : List Value} (hl : lS s l) (hs : sS s t) : Lo s K (fun h => some (G0, p, l, t, h)) := fun h G z' q => by
  cases q
  exact ⟨rfl, hl, hs, rfl⟩
theorem stI_lo {i : Instr} {w : Int64} {sw : List (Int32 × Nat)} (ha : atB i a = true) (hl : lS s ls) (hs : sS s st) : Lo s K (stI i a b vv w sw pc ls st) := fun h G z' q => by
  unfold stI at q
  split at q
  case h_13 =>
    split at q
    · rename_i e
      unfold stI
      cases q
      rw [if_pos e]
      exact ⟨rfl, hl, hs.cons trivial, rfl⟩
    · rename_i e
      unfold stI
      cases q
      rw [if_neg e]
      refine ⟨rfl, hl, hs.cons (fun g => ?_), rfl⟩
      simp only [atB, Bool.or_eq_true] at ha
      rcases ha with ha | ha
      · exact (e (Nat.eq_of_beq_eq_true ha)).elim
      · exact absurd g (Nat.not_lt.mpr (Nat.le_of_ble_eq_true ha))
  all_goals first
    | exact lo_LdI hl hs h G z' q
    | exact lo_LdA hl hs h G z' q
    | exact lo_LdL hl hs h G z' q
    | exact lo_StI hl hs h G z' q
    | exact lo_I2 hl hs h G z' q
    | exact lo_I2g hl hs h G z' q
    | exact lo_I1 hl hs h G z' q
    | exact lo_L2 hl hs h G z' q
    | exact lo_LI hl hs h G z' q
    | exact lo_If hl hs h G z' q
    | exact lo_Ic hl hs h G z' q
    | exact lo_Gf hl hs h G z' q
    | exact lo_Pf hl hs h G z' q
    | exact lo_Al hl hs h G z' q
    | exact lo_Ial hl hs h G z' q
    | exact lo_Bal hl hs h G z' q
    | exact lo_Lal hl hs h G z' q
    | exact lo_Ias hl hs h G z' q
    | exact lo_Bas hl hs h G z' q
    | exact lo_Las hl hs h G z' q
    | (cases q; done)
    | (cases q; exact ⟨rfl, hl, hs, rfl⟩)
    | (cases q; exact ⟨rfl, hl, hs.cons trivial, rfl⟩)
    | (cases q; exact ⟨rfl, hl, hs.cons (fun g => absurd g (Nat.not_lt.mpr (Nat.le_of_ble_eq_true ha))), rfl⟩)
    | (split at q <;> first
      | (cases q; done)
      | (cases q; exact ⟨rfl, hl, hs.tl, rfl⟩)
      | (cases q; exact ⟨rfl, hl, hs.tl.cons trivial, rfl⟩)
      | (cases q; exact ⟨rfl, hl, hs.tl.tl.cons trivial, rfl⟩)
      | (cases q; exact ⟨rfl, hl, hs.cons hs.hd, rfl⟩)
      | (cases q; exact ⟨rfl, hl, (hs.cons hs.tl.hd).cons trivial, rfl⟩)
      | (rename_i e; have t := lo_Lib (K := K) hl hs h G z' q; refine ⟨?_, t.2⟩; unfold stI; rw [if_neg e]; exact t.1)
      | (rename_i e; have t := lo_St (K := K) (v := .int _) hl hs trivial h G z' q; refine ⟨?_, t.2⟩; unfold stI; simp only [e]; exact t.1))
    | skip
end LO
noncomputable def cdS (cd : Cd) : Bool := cd.all fun o => match o with
  | some (i, _, a, _) => atB i a
  | none => true
theorem cdS_at {cd : Cd} {pc : Nat} {i : Instr} {n a : Nat} {r : Nat × Int32 × Int64 × List (Int32 × Nat)} (h : cdS cd = true) (e : cdAt cd pc = some (i, n, a, r)) : atB i a = true := by
  unfold cdAt at e
  split at e
  · rename_i q eq
    cases e
    rw [cdS, List.all_eq_true] at h
    exact h _ (List.mem_of_getElem? eq)
  · cases e
noncomputable def psS : Bool := psM.all fun m => cdS m.2.2.2.2.2.1
theorem psS_t : psS = true := by decide +kernel
theorem psS_at {mid : Nat} {y : MethodName} {b : ByteArray} {ml : Nat} {rt : Option FieldType} {o : Nat} {cd : Cd} {q : Mp} (h : psM[mid]? = some (y, b, ml, rt, o, cd, q)) : cdS cd = true := by
  have g := psS_t
  rw [psS, List.all_eq_true] at g
  exact g _ (List.mem_of_getElem? h)
theorem stp_mx {s : Bool} {K : Hp} {cd : Cd} {z z' : Cf} {G : Prop} (hc : cdS cd = true) (hl : lS s z.2.1) (hs : sS s z.2.2.1) (e : stp cd z = some (G, z')) : stp cd (mxZ s K z) = some (G, mxZ s K z') ∧ lS s z'.2.1 ∧ sS s z'.2.2.1 ∧ z'.2.2.2.2.2 = z.2.2.2.2.2 := by
  unfold stp at e
  split at e
  · rename_i i n a b v w sw hat
    obtain ⟨t1, t2⟩ := stI_lo (K := K) (cdS_at hc hat) hl hs _ _ _ e
    refine ⟨?_, t2⟩
    unfold stp mxZ
    dsimp only
    rw [hat]
    exact t1
  · cases e
theorem rok_S {s : Bool} {rt : Option FieldType} {i : Instr} {st : List Value} {G : Prop} {r : Option Value} (h : rok rt i st = some (G, r)) (hs : sS s st) : ∀ v, r = some v → vS s v := by
  intro v e
  subst e
  unfold rok at h
  split at h
  · split at h
    · cases h; trivial
    · cases h; trivial
    · cases h
  · split at h
    · cases h; trivial
    · cases h
  · split at h
    · cases h; exact hs.hd
    · cases h
  · split at h
    · cases h
    · cases h
  · cases h
theorem rtp_S {s : Bool} {cd : Cd} {rt : Option FieldType} {z : Cf} {G : Prop} {r : Option Value} (h : rtp cd rt z = some (G, r)) (hs : sS s z.2.2.1) : ∀ v, r = some v → vS s v := by
  unfold rtp at h
  split at h
  · exact rok_S h hs
  · cases h
theorem lS_eL {s : Bool} : ∀ {as : List Value}, sS s as → lS s (eL as)
  | [], _ => fun v hv => by cases hv
  | a :: r, h => fun v hv => by
    unfold eL at hv
    split at hv
    · rcases List.mem_cons.mp hv with e | hv
      · cases e; exact h.hd
      · rcases List.mem_cons.mp hv with e | hv
        · cases e
        · exact lS_eL h.tl v hv
    · rcases List.mem_cons.mp hv with e | hv
      · cases e; exact h.hd
      · exact lS_eL h.tl v hv
theorem lS_eLn {s : Bool} {n : Nat} {as : List Value} (h : sS s as) : lS s (eLn n as) := fun v hv => by
  unfold eLn at hv
  rcases List.mem_append.mp hv with hv | hv
  · exact lS_eL h v hv
  · cases (List.mem_replicate.mp hv).2
theorem sS_ret {s : Bool} {r : Option Value} {st : List Value} (h : sS s st) (g : ∀ v, r = some v → vS s v) : sS s (r.toList ++ st) := sS.app (fun v hv => g v (by cases r with
  | none => cases hv
  | some x => simp at hv; rw [hv])) h
theorem sS_args {s : Bool} {as rest st : List Value} (e : st = as.reverse ++ rest) (h : sS s st) : sS s as ∧ sS s rest := by
  subst e
  exact ⟨fun v hv => h v (List.mem_append_left _ (List.mem_reverse.mpr hv)), fun v hv => h v (List.mem_append_right _ hv)⟩
/-- a call is the same whatever lies on the other side -/
theorem Call.mx {s : Bool} {K : Hp} : ∀ {d mid : Nat} {as : List Value} {h : Hp} {Q : Option Value → Hp → Prop}, Call d mid as h Q → sS s as → Call d mid as (mxH s h K) (fun r h' => ∃ h1, Q r h1 ∧ h' = mxH s h1 K ∧ ∀ v, r = some v → vS s v)
  | 0, _, _, _, _, hc, _ => hc.elim
  | d + 1, mid, as, h, Q, hc, ha => by
    rcases hc with hc | ⟨y, b, ml, rt, o, cd, q, h1, h2, h3, h4, hX⟩
    · refine Or.inl ?_
      unfold lib at hc ⊢
      split at hc
      · obtain ⟨e, i, l, a1, a2, a3⟩ := hc
        exact ⟨e, i, l, a1, a2, h, a3, rfl, fun v e => by cases e; trivial⟩
      · obtain ⟨i, l, a1, a2, a3⟩ := hc
        refine ⟨i, l, a1, a2, ?_⟩
        rcases a3 with ⟨e, k, c, b1, b2, b3⟩ | ⟨e, b1, b2⟩
        · exact Or.inl ⟨e, k, c, b1, b2, h, b3, rfl, fun v e => by cases e; trivial⟩
        · exact Or.inr ⟨e, b1, h, b2, rfl, fun v e => by cases e; trivial⟩
      · exact hc.elim
    · refine Or.inr ⟨y, b, ml, rt, o, cd, q, h1, h2, h3, h4, fun X hc => ?_⟩
      have hcd := psS_at h1
      have key := hX (fun z => lS s z.2.1 → sS s z.2.2.1 → X (mxZ s K z)) ⟨fun z z' G e g x hl hs => by
          obtain ⟨t1, t2, t3, -⟩ := stp_mx (K := K) hcd hl hs e
          exact hc.1 _ _ G t1 g (x t2 t3),
        fun pc ls st h mid n as rest e1 e2 e3 e4 c hl hs => by
          obtain ⟨s1, s2⟩ := sS_args e3 hs
          exact hc.2.1 pc ls st _ mid n as rest e1 e2 e3 e4 ((Call.mx (K := K) c s1).mono (fun r h' ⟨h1, x, e, hr⟩ => by
            subst e
            exact x hl (sS_ret s2 hr))),
        fun z G r e g hq hl hs => hc.2.2 (mxZ s K z) G r e g ⟨z.2.2.2, hq, rfl, rtp_S e hs⟩⟩
      exact key (lS_eLn ha) (fun v hv => by cases hv)
/-- a call has one outcome -/
theorem Call.det : ∀ {d mid : Nat} {as : List Value} {h : Hp} {Q : Option Value → Hp → Prop}, Call d mid as h Q → ∃ r h', Q r h' ∧ ∀ Q' : Option Value → Hp → Prop, Q' r h' → Call d mid as h Q'
  | 0, _, _, _, _, hc => hc.elim
  | d + 1, mid, as, h, Q, hc => by
    rcases hc with hc | ⟨y, b, ml, rt, o, cd, q, h1, h2, h3, h4, hX⟩
    · unfold lib at hc
      split at hc
      · obtain ⟨e, i, l, a1, a2, a3⟩ := hc
        exact ⟨_, _, a3, fun Q' q => Or.inl (by unfold lib; exact ⟨e, i, l, a1, a2, q⟩)⟩
      · obtain ⟨i, l, a1, a2, a3⟩ := hc
        rcases a3 with ⟨e, k, c, b1, b2, b3⟩ | ⟨e, b1, b2⟩
        · exact ⟨_, _, b3, fun Q' q => Or.inl (by unfold lib; exact ⟨i, l, a1, a2, Or.inl ⟨e, k, c, b1, b2, q⟩⟩)⟩
        · exact ⟨_, _, b2, fun Q' q => Or.inl (by unfold lib; exact ⟨i, l, a1, a2, Or.inr ⟨e, b1, q⟩⟩)⟩
      · exact hc.elim
    · obtain ⟨r, h', x1, x2⟩ := hX (fun z => ∃ r h', Q r h' ∧ ∀ Q' : Option Value → Hp → Prop, Q' r h' → ∀ X' : Cf → Prop, Clo (Call d) cd rt Q' X' → X' z) ⟨fun z z' G e g ⟨r, h', x1, x2⟩ => ⟨r, h', x1, fun Q' q X' c => c.1 z z' G e g (x2 Q' q X' c)⟩,
        fun pc ls st h mid n as rest e1 e2 e3 e4 c => by
          obtain ⟨r1, h1, ⟨r, h', x1, x2⟩, k⟩ := Call.det c
          exact ⟨r, h', x1, fun Q' q X' cX => cX.2.1 pc ls st h mid n as rest e1 e2 e3 e4 (k (fun r h' => X' (pc + 3, ls, r.toList ++ rest, h')) (x2 Q' q X' cX))⟩,
        fun z G r e g hq => ⟨r, z.2.2.2, hq, fun Q' q X' c => c.2.2 z G r e g q⟩⟩
      exact ⟨r, h', x1, fun Q' q' => Or.inr ⟨y, b, ml, rt, o, cd, q, h1, h2, h3, h4, fun X' c => x2 Q' q' X' c⟩⟩
/-- where a place leads to -/
noncomputable def Run (d : Nat) (cd : Cd) (rt : Option FieldType) (z : Cf) (r : Option Value) (h' : Hp) : Prop := ∀ Q : Option Value → Hp → Prop, Q r h' → ∀ X : Cf → Prop, Clo (Call d) cd rt Q X → X z
noncomputable def CRun (d mid : Nat) (as : List Value) (h : Hp) (r : Option Value) (h' : Hp) : Prop := ∀ Q : Option Value → Hp → Prop, Q r h' → Call d mid as h Q
section RUN
variable {d : Nat} {cd : Cd} {rt : Option FieldType}
theorem Run.step {z z' : Cf} {G : Prop} {r : Option Value} {h' : Hp} (e : stp cd z = some (G, z')) (g : G) (x : Run d cd rt z' r h') : Run d cd rt z r h' := fun Q q X c => c.1 z z' G e g (x Q q X c)
theorem Run.call {pc : Nat} {ls : Lc} {st : List Value} {h : Hp} {mid n : Nat} {as rest : List Value} {r1 r : Option Value} {h1 h' : Hp} (e1 : cal cd (pc, ls, st, h) = some (mid, n)) (e2 : as.length = n) (e3 : st = as.reverse ++ rest) (e4 : (rest.map fun v => v.category).sum ≤ 8) (k : CRun d mid as h r1 h1) (x : Run d cd rt (pc + 3, ls, r1.toList ++ rest, h1) r h') : Run d cd rt (pc, ls, st, h) r h' := fun Q q X c => c.2.1 pc ls st h mid n as rest e1 e2 e3 e4 (k (fun r h' => X (pc + 3, ls, r.toList ++ rest, h')) (x Q q X c))
theorem Run.ret {z : Cf} {G : Prop} {r : Option Value} (e : rtp cd rt z = some (G, r)) (g : G) : Run d cd rt z r z.2.2.2 := fun Q q X c => c.2.2 z G r e g q
theorem clo_run1 {P : Option Value → Hp → Prop} : Clo (Call d) cd rt P (fun z => ∃ r h', P r h' ∧ Run d cd rt z r h') := ⟨fun z z' G e g ⟨r, h', x1, x2⟩ => ⟨r, h', x1, Run.step e g x2⟩, fun pc ls st h mid n as rest e1 e2 e3 e4 c => by
  obtain ⟨r1, h1, ⟨r, h', x1, x2⟩, k⟩ := Call.det c
  exact ⟨r, h', x1, Run.call e1 e2 e3 e4 k x2⟩, fun z G r e g hq => ⟨r, z.2.2.2, hq, Run.ret e g⟩⟩
theorem run_of {P : Option Value → Hp → Prop} {z : Cf} (H : ∀ X : Cf → Prop, Clo (Call d) cd rt P X → X z) : ∃ r h', P r h' ∧ Run d cd rt z r h' := H _ clo_run1
theorem Run.mx {s : Bool} {K : Hp} {z : Cf} {r : Option Value} {h' : Hp} (hcd : cdS cd = true) (x : Run d cd rt z r h') (hl : lS s z.2.1) (hs : sS s z.2.2.1) : Run d cd rt (mxZ s K z) r (mxH s h' K) ∧ ∀ v, r = some v → vS s v :=
  x (fun r1 h1 => r1 = r ∧ h1 = h') ⟨rfl, rfl⟩ (fun z => lS s z.2.1 → sS s z.2.2.1 → Run d cd rt (mxZ s K z) r (mxH s h' K) ∧ ∀ v, r = some v → vS s v) ⟨fun z z' G e g x hl hs => by
      obtain ⟨t1, t2, t3, -⟩ := stp_mx (K := K) hcd hl hs e
      obtain ⟨x1, x2⟩ := x t2 t3
      exact ⟨Run.step t1 g x1, x2⟩,
    fun pc ls st h mid n as rest e1 e2 e3 e4 c hl hs => by
      obtain ⟨s1, s2⟩ := sS_args e3 hs
      obtain ⟨r2, h2, ⟨h1, y1, y2, y3⟩, k⟩ := (Call.mx (K := K) c s1).det
      subst y2
      obtain ⟨x1, x2⟩ := y1 hl (sS_ret s2 y3)
      exact ⟨Run.call e1 e2 e3 e4 k x1, x2⟩,
    fun z G r1 e g hq hl hs => by
      obtain ⟨rfl, rfl⟩ := hq
      exact ⟨Run.ret (z := mxZ s K z) e g, rtp_S e hs⟩⟩ hl hs
end RUN
/-- two places, one of each thread: both end, so -/
noncomputable abbrev Cz : Type := Nat × Lc × List Value
noncomputable def Cz.at (z : Cz) (h : Hp) : Cf := (z.1, z.2.1, z.2.2, h)
/-- a thread: how deep it may call, its code, what it gives -/
noncomputable abbrev Th : Type := Nat × Cd × Option FieldType
noncomputable def Two (s : Bool) (A B : Th) (zA zB : Cz) (h : Hp) (P : Option Value → Option Value → Hp → Prop) : Prop := ∃ rA hA rB hB, Run A.1 A.2.1 A.2.2 (zA.at h) rA hA ∧ Run B.1 B.2.1 B.2.2 (zB.at h) rB hB ∧ hA.2.2 = h.2.2 ∧ hB.2.2 = h.2.2 ∧ P rA rB (mxH s hA hB)
theorem mxH_id {s : Bool} {h h' : Hp} (e : ∀ r j, sd r = s → h'.1 r j = h.1 r j) (e2 : ∀ r j, sd r = s → h'.2.1 r j = h.2.1 r j) (e3 : h'.2.2 = h.2.2) : mxH s h' h = h := mx_ext (fun r j => by
  by_cases c : sd r = s
  · rw [mx_at c]; exact e r j c
  · rw [mx_off c]) (fun r j => by
  by_cases c : sd r = s
  · rw [mx_atL c]; exact e2 r j c
  · rw [mx_offL c]) e3
theorem stp_off {s : Bool} {cd : Cd} {z z' : Cf} {G : Prop} (hc : cdS cd = true) (hl : lS s z.2.1) (hs : sS s z.2.2.1) (e : stp cd z = some (G, z')) : z'.2.2.2 = mxH s z'.2.2.2 z.2.2.2 := by
  obtain ⟨t1, -⟩ := stp_mx (K := z.2.2.2) hc hl hs e
  have e0 : mxZ s z.2.2.2 z = z := by unfold mxZ; rw [mx_self]
  rw [e0, e] at t1
  have t1 : z' = mxZ s z.2.2.2 z' := by injection t1 with t1; injection t1
  exact congrArg (fun q : Cf => q.2.2.2) t1
/-- a call leaves the other side alone -/
theorem Call.off {s : Bool} : ∀ {d mid : Nat} {as : List Value} {h : Hp} {Q : Option Value → Hp → Prop}, Call d mid as h Q → sS s as → Call d mid as h (fun r h' => Q r h' ∧ h' = mxH s h' h ∧ h'.2.2 = h.2.2 ∧ ∀ v, r = some v → vS s v)
  | 0, _, _, _, _, hc, _ => hc.elim
  | d + 1, mid, as, h, Q, hc, ha => by
    rcases hc with hc | ⟨y, b, ml, rt, o, cd, q, h1, h2, h3, h4, hX⟩
    · refine Or.inl ?_
      unfold lib at hc ⊢
      split at hc
      · obtain ⟨e, i, l, a1, a2, a3⟩ := hc
        exact ⟨e, i, l, a1, a2, a3, mx_self.symm, rfl, fun v e => by cases e; trivial⟩
      · obtain ⟨i, l, a1, a2, a3⟩ := hc
        refine ⟨i, l, a1, a2, ?_⟩
        rcases a3 with ⟨e, k, c, b1, b2, b3⟩ | ⟨e, b1, b2⟩
        · exact Or.inl ⟨e, k, c, b1, b2, b3, mx_self.symm, rfl, fun v e => by cases e; trivial⟩
        · exact Or.inr ⟨e, b1, b2, mx_self.symm, rfl, fun v e => by cases e; trivial⟩
      · exact hc.elim
    · refine Or.inr ⟨y, b, ml, rt, o, cd, q, h1, h2, h3, h4, fun X hc => ?_⟩
      have hcd := psS_at h1
      have key := hX (fun z => lS s z.2.1 → sS s z.2.2.1 → z.2.2.2 = mxH s z.2.2.2 h → z.2.2.2.2.2 = h.2.2 → X z) ⟨fun z z' G e g x hl hs ho hp => by
          obtain ⟨-, t2, t3, t4⟩ := stp_mx (K := z.2.2.2) hcd hl hs e
          have t5 := stp_off hcd hl hs e
          refine hc.1 z z' G e g (x t2 t3 ?_ (t4.trans hp))
          rw [ho, mx_r] at t5
          exact t5,
        fun pc ls st h2 mid n as rest e1 e2 e3 e4 c hl hs ho hp => by
          have ho : h2 = mxH s h2 h := ho
          obtain ⟨s1, s2⟩ := sS_args e3 hs
          exact hc.2.1 pc ls st _ mid n as rest e1 e2 e3 e4 ((Call.off c s1).mono (fun r h' ⟨x, e, e5, hr⟩ => x hl (sS_ret s2 hr) (by rw [ho, mx_r] at e; exact e) (e5.trans hp))),
        fun z G r e g hq hl hs ho hp => hc.2.2 z G r e g ⟨hq, ho, hp, rtp_S e hs⟩⟩
      exact key (lS_eLn ha) (fun v hv => by cases hv) mx_self.symm rfl
theorem Run.off {s : Bool} {d : Nat} {cd : Cd} {rt : Option FieldType} {z : Cf} {r : Option Value} {h' : Hp} (hcd : cdS cd = true) (x : Run d cd rt z r h') (hl : lS s z.2.1) (hs : sS s z.2.2.1) : h' = mxH s h' z.2.2.2 ∧ h'.2.2 = z.2.2.2.2.2 ∧ ∀ v, r = some v → vS s v := by
  have key := x (fun r1 h1 => r1 = r ∧ h1 = h') ⟨rfl, rfl⟩ (fun z1 => lS s z1.2.1 → sS s z1.2.2.1 → z1.2.2.2 = mxH s z1.2.2.2 z.2.2.2 → z1.2.2.2.2.2 = z.2.2.2.2.2 → h' = mxH s h' z.2.2.2 ∧ h'.2.2 = z.2.2.2.2.2 ∧ ∀ v, r = some v → vS s v) ⟨fun z1 z' G e g x hl hs ho hp => by
      obtain ⟨-, t2, t3, t4⟩ := stp_mx (K := z1.2.2.2) hcd hl hs e
      have t5 := stp_off hcd hl hs e
      refine x t2 t3 ?_ (t4.trans hp)
      rw [ho, mx_r] at t5
      exact t5,
    fun pc ls st h mid n as rest e1 e2 e3 e4 c hl hs ho hp => by
      have ho : h = mxH s h z.2.2.2 := ho
      obtain ⟨s1, s2⟩ := sS_args e3 hs
      obtain ⟨r2, h2, ⟨y1, y2, y3, y4⟩, -⟩ := (Call.off c s1).det
      exact y1 hl (sS_ret s2 y4) (by rw [ho, mx_r] at y2; exact y2) (y3.trans hp),
    fun z1 G r1 e g hq hl hs ho hp => by
      obtain ⟨rfl, rfl⟩ := hq
      exact ⟨ho, hp, rtp_S e hs⟩⟩
  exact key hl hs mx_self.symm rfl
theorem mx_of {s : Bool} {h h' : Hp} (e : h' = mxH s h' h) (e3 : h'.2.2 = h.2.2) : mxH (!s) h' h = h := by
  rw [e, mx_sw (s := s) (by exact e3), mx_l, mx_self]
theorem mx_rr {s : Bool} {a b c : Hp} : mxH s a (mxH (!s) b c) = mxH s a b := mx_ext (fun r j => by unfold mxH; dsimp only; cases s <;> cases sd r <;> rfl) (fun r j => by unfold mxH; dsimp only; cases s <;> cases sd r <;> rfl) rfl
theorem Two.sw {s : Bool} {A B : Th} {zA zB : Cz} {h : Hp} {P : Option Value → Option Value → Hp → Prop} (H : Two s A B zA zB h P) : Two (!s) B A zB zA h (fun b a => P a b) := by
  obtain ⟨rA, hA, rB, hB, x1, x2, x3, x4, x5⟩ := H
  exact ⟨rB, hB, rA, hA, x2, x1, x4, x3, by rw [← mx_sw (x3.trans x4.symm)]; exact x5⟩
theorem Two.ws {s : Bool} {A B : Th} {zA zB : Cz} {h : Hp} {P : Option Value → Option Value → Hp → Prop} (H : Two (!s) B A zB zA h (fun b a => P a b)) : Two s A B zA zB h P := by
  have := H.sw
  rw [Bool.not_not] at this
  exact this
section TWO
variable {s : Bool} {A B : Th} {zA zB : Cz} {h : Hp} {P : Option Value → Option Value → Hp → Prop}
/-- one thread goes on while the other waits -/
theorem Two.clo (hA : cdS A.2.1 = true) (hB : cdS B.2.1 = true) (lB : lS (!s) zB.2.1) (sB : sS (!s) zB.2.2) : Clo (Call A.1) A.2.1 A.2.2 (fun r h => (∀ v, r = some v → vS s v) → ∃ rB hB, Run B.1 B.2.1 B.2.2 (zB.at h) rB hB ∧ hB.2.2 = h.2.2 ∧ P r rB (mxH s h hB)) (fun z => lS s z.2.1 → sS s z.2.2.1 → Two s A B (z.1, z.2.1, z.2.2.1) zB z.2.2.2 P) := by
  have back : ∀ {h h' : Hp} {rB : Option Value} {hB' : Hp}, h' = mxH s h' h → h'.2.2 = h.2.2 → Run B.1 B.2.1 B.2.2 (zB.at h') rB hB' → Run B.1 B.2.1 B.2.2 (zB.at h) rB (mxH (!s) hB' h) := by
    intro h h' rB hB' e1 e2 x
    have x := (Run.mx (s := !s) (K := h) hB x lB sB).1
    have e : mxZ (!s) h (zB.at h') = zB.at h := by
      show (zB.1, zB.2.1, zB.2.2, mxH (!s) h' h) = (zB.1, zB.2.1, zB.2.2, h)
      rw [show mxH (!s) h' h = h from mx_of (s := s) e1 e2]
    rw [e] at x
    exact x
  refine ⟨fun z z' G e g x hl hs => ?_, fun pc ls st h mid n as rest e1 e2 e3 e4 c hl hs => ?_, fun z G r e g hq hl hs => ?_⟩
  · obtain ⟨-, t2, t3, t4⟩ := stp_mx (K := z.2.2.2) hA hl hs e
    have t5 := stp_off hA hl hs e
    obtain ⟨rA, hA', rB, hB', x1, x2, x3, x4, x5⟩ := x t2 t3
    exact ⟨rA, hA', rB, mxH (!s) hB' z.2.2.2, Run.step e g x1, back t5 t4 x2, x3.trans t4, x4.trans t4, by rw [mx_rr]; exact x5⟩
  · obtain ⟨s1, s2⟩ := sS_args e3 hs
    obtain ⟨r1, h1, ⟨x, y2, y3, y4⟩, k⟩ := (Call.off c s1).det
    obtain ⟨rA, hA', rB, hB', x1, x2, x3, x4, x5⟩ := x hl (sS_ret s2 y4)
    exact ⟨rA, hA', rB, mxH (!s) hB' h, Run.call e1 e2 e3 e4 k x1, back y2 y3 x2, x3.trans y3, x4.trans y3, by rw [mx_rr]; exact x5⟩
  · obtain ⟨rB, hB', x1, x2, x3⟩ := hq (rtp_S e hs)
    exact ⟨r, z.2.2.2, rB, hB', Run.ret e g, x1, rfl, x2, x3⟩
/-- both call -/
theorem Two.both (hA : cdS A.2.1 = true) (hB : cdS B.2.1 = true) {pA pB mA mB nA nB : Nat} {lA lB : Lc} {sA sB aA tA aB tB : List Value} {rA rB : Option Value} {h1 h2 : Hp} (eA1 : ∀ h, cal A.2.1 (pA, lA, sA, h) = some (mA, nA)) (eA2 : aA.length = nA) (eA3 : sA = aA.reverse ++ tA) (eA4 : (tA.map fun v => v.category).sum ≤ 8) (eB1 : ∀ h, cal B.2.1 (pB, lB, sB, h) = some (mB, nB)) (eB2 : aB.length = nB) (eB3 : sB = aB.reverse ++ tB) (eB4 : (tB.map fun v => v.category).sum ≤ 8) (kA : CRun A.1 mA aA h rA h1) (kB : CRun B.1 mB aB h rB h2) (qA : h1.2.2 = h.2.2) (qB : h2.2.2 = h.2.2) (uA : lS s lA) (vA : sS s (rA.toList ++ tA)) (uB : lS (!s) lB) (vB : sS (!s) (rB.toList ++ tB)) (H : Two s A B (pA + 3, lA, rA.toList ++ tA) (pB + 3, lB, rB.toList ++ tB) (mxH s h1 h2) P) : Two s A B (pA, lA, sA) (pB, lB, sB) h P := by
  obtain ⟨RA, HA, RB, HB, x1, x2, x3, x4, x5⟩ := H
  have y1 := (Run.mx (s := s) (K := h1) hA x1 uA vA).1
  have y2 := (Run.mx (s := !s) (K := h2) hB x2 uB vB).1
  have e1 : mxZ s h1 (Cz.at (pA + 3, lA, rA.toList ++ tA) (mxH s h1 h2)) = (pA + 3, lA, rA.toList ++ tA, h1) := by
    show (_, _, _, mxH s (mxH s h1 h2) h1) = _
    rw [mx_l, mx_self]
    rfl
  have e2 : mxZ (!s) h2 (Cz.at (pB + 3, lB, rB.toList ++ tB) (mxH s h1 h2)) = (pB + 3, lB, rB.toList ++ tB, h2) := by
    show (_, _, _, mxH (!s) (mxH s h1 h2) h2) = _
    rw [mx_sw (h := h1) (k := h2) (qA.trans qB.symm), mx_l, mx_self]
    rfl
  rw [e1] at y1
  rw [e2] at y2
  exact ⟨RA, mxH s HA h1, RB, mxH (!s) HB h2, Run.call (eA1 h) eA2 eA3 eA4 kA y1, Run.call (eB1 h) eB2 eB3 eB4 kB y2, x3.trans qA, x4.trans qA, by rw [mx_l, mx_rr]; exact x5⟩
end TWO
theorem crun_of {d mid : Nat} {as : List Value} {h h' : Hp} {r : Option Value} {y : MethodName} {b : ByteArray} {ml : Nat} {rt : Option FieldType} {o : Nat} {cd : Cd} {q : Mp} (hm : psM[mid]? = some (y, b, ml, rt, o, cd, q)) (h1 : Nat.ble (eL as).length ml = true) (h2 : as.length = (if q.1 = 0 then q.2.1 else q.2.1 + 1)) (h3 : rcv q.1 o as) (x : Run d cd rt (0, eLn ml as, [], h) r h') : CRun (d + 1) mid as h r h' := fun Q k => call_of hm h1 h2 h3 (fun X c => x Q k X c)
theorem CRun.mx {s : Bool} {K : Hp} {d mid : Nat} {as : List Value} {h h' : Hp} {r : Option Value} (k : CRun d mid as h r h') (ha : sS s as) : CRun d mid as (mxH s h K) r (mxH s h' K) := fun Q q => (Call.mx (K := K) (k (fun r1 h1 => r1 = r ∧ h1 = h') ⟨rfl, rfl⟩) ha).mono (fun r2 h2 ⟨h1, ⟨e1, e2⟩, e3, _⟩ => by
  subst e1
  subst e2
  subst e3
  exact q)
theorem CRun.off {s : Bool} {d mid : Nat} {as : List Value} {h h' : Hp} {r : Option Value} (k : CRun d mid as h r h') (ha : sS s as) : h' = mxH s h' h ∧ h'.2.2 = h.2.2 ∧ ∀ v, r = some v → vS s v := by
  obtain ⟨r1, h1, ⟨⟨e1, e2⟩, e3⟩, -⟩ := (Call.off (k (fun r1 h1 => r1 = r ∧ h1 = h') ⟨rfl, rfl⟩) ha).det
  subst e1
  subst e2
  exact e3
/-- one behind the other, as the law calls them -/
theorem CRun.seq {d mA mB : Nat} {as bs : List Value} {h hA hB : Hp} {rA rB : Option Value} (cA : CRun d mA as h rA hA) (cB : CRun d mB bs h rB hB) (sA : sS true as) (sB : sS false bs) : CRun d mB bs hA rB (mxH true hA hB) := by
  obtain ⟨o1, o2, -⟩ := cA.off sA
  obtain ⟨p1, p2, -⟩ := cB.off sB
  have k := cB.mx (s := false) (K := hA) sB
  have e1 : mxH false h hA = hA := by
    rw [show mxH false h hA = mxH true hA h from (mx_sw (s := true) o2).symm]
    exact o1.symm
  have e2 : mxH false hB hA = mxH true hA hB := (mx_sw (s := true) (o2.trans p2.symm)).symm
  rw [e1, e2] at k
  exact k
