/-! The world: the cells of the object graph at their addresses; how each store changes it. -/
def tr (ad : Nat → Nat) : Value → Value
  | .ref r => .ref (ad r)
  | v => v
def fv (ad : Nat → Nat) (h : Hp) (i k : Nat) : Value := match (oF i)[k]? with
  | some (some v) => tr ad v
  | _ => .int (h.1 i (nI k))
def fsL (ad : Nat → Nat) (h : Hp) (i : Nat) : List Value := (List.range (oF i).length).map (fv ad h i)
def ent (ad : Nat → Nat) (cA : Nat → ClassId) (h : Hp) (i : Nat) : va_E := if oK i = 0 then .inl (cA 0, (oP i, .inl (fun j => h.1 i (nI j)))) else if oK i = 1 then .inl (cA 1, (oP i, .inr (.inl (fun j => h.2.1 i (nI j))))) else if oK i = 2 then .inl (cA 2, (oP i, .inl (fun j => h.1 i (nI j)))) else .inr (oP i, fsL ad h i)
def wl (ad : Nat → Nat) (cA : Nat → ClassId) (h : Hp) : va_W := (List.range psNO).map (fun i => (ad i, ent ad cA h i))
def tysP (cA : Nat → ClassId) : List (ClassId × FieldType) := [(cA 0, .int), (cA 1, .long), (cA 2, .boolean)]
theorem oT_len : oT.length = psNO := by decide +kernel
theorem oK_lt {i : Nat} (h : oK i ≠ 9) : i < psNO := by
  rcases Nat.lt_or_ge i psNO with q | q
  · exact q
  · exact absurd (by unfold oK; rw [List.getD_eq_getElem?_getD, List.getElem?_eq_none (by rw [oT_len]; exact q)]; rfl) h
theorem wl_at {ad : Nat → Nat} {cA : Nat → ClassId} {h : Hp} {i : Nat} (hi : i < psNO) : (wl ad cA h)[i]? = some (ad i, ent ad cA h i) := by
  unfold wl
  rw [List.getElem?_map, List.getElem?_range hi]
  rfl
theorem wl_none {ad : Nat → Nat} {cA : Nat → ClassId} {h : Hp} {i : Nat} (hi : ¬ i < psNO) : (wl ad cA h)[i]? = none := List.getElem?_eq_none (by unfold wl; simp; omega)
/-- a cell is another now: the world of the new heap -/
theorem wl_P {ad : Nat → Nat} {D : va_G} {cA : Nat → ClassId} {h h' : Hp} {i : Nat} {e : va_E} {H : Heap} (hi : i < psNO) (he : va_at D vwCl (ad i, e) H → va_at D vwCl (ad i, ent ad cA h' i) H) (ho : ∀ j, j ≠ i → ent ad cA h' j = ent ad cA h j) (hP : va_P D vwCl ((wl ad cA h).set i (ad i, e)) H) : va_P D vwCl (wl ad cA h') H := by
  have hl : i < (wl ad cA h).length := by unfold wl; simpa using hi
  intro k q hk
  by_cases hkn : k < psNO
  · rw [wl_at hkn] at hk
    cases hk
    by_cases hki : k = i
    · subst hki
      exact he (hP k _ (List.getElem?_set_self hl))
    · have := hP k (ad k, ent ad cA h k) (by rw [List.getElem?_set_ne (fun q => hki q.symm)]; exact wl_at hkn)
      rw [ho k hki]
      exact this
  · rw [wl_none hkn] at hk
    cases hk
theorem wl_D {ad : Nat → Nat} {cA : Nat → ClassId} {A : Nat → Prop} {h h' : Hp} (hD : va_D A (wl ad cA h)) : va_D A (wl ad cA h') := by
  have key : ∀ (k : Nat) (q : Nat × va_E), (wl ad cA h')[k]? = some q → ∃ q0, (wl ad cA h)[k]? = some q0 ∧ q0.1 = q.1 := by
    intro k q hk
    by_cases hkn : k < psNO
    · rw [wl_at hkn] at hk
      cases hk
      exact ⟨_, wl_at hkn, rfl⟩
    · rw [wl_none hkn] at hk
      cases hk
  refine ⟨fun i j x y hi hj hxy => ?_, fun k q hk => ?_⟩
  · obtain ⟨x0, h1, h2⟩ := key i x hi
    obtain ⟨y0, h3, h4⟩ := key j y hj
    exact hD.1 i j x0 y0 h1 h3 (h2.trans (hxy.trans h4.symm))
  · obtain ⟨q0, h1, h2⟩ := key k q hk
    rw [← h2]
    exact hD.2 k q0 h1
theorem arrV_congr {cI : ClassId} {N : Nat} {f g : Nat → Value} (h : ∀ j, j < N → f j = g j) : arrV cI N f = arrV cI N g := by
  unfold arrV
  congr 1
  apply Array.ext
  · simp
  · intro i h1 h2
    simp only [Array.getElem_ofFn]
    exact h i (by simpa using h1)
/-- what is read at a place in range -/
theorem nI_at {j : Int32} {n : Nat} (h : ibd j n) (hn : n < 2 ^ 31) : ∃ k, k < n ∧ j = nI k ∧ j.toNatClampNeg = k := by
  obtain ⟨h0, h1⟩ := h
  obtain ⟨k, hk, rfl⟩ := nI_of (x := j) (by rw [Int32.lt_iff_toInt_lt, Int32.toInt_zero]; rw [Int32.le_iff_toInt_le, Int32.toInt_zero] at h0; omega)
  rw [nI_ltI hk hn] at h1
  exact ⟨k, h1, rfl, nI_clamp hk⟩
theorem ibd_in {j : Int32} {n : Nat} (h : ibd j n) (hn : n < 2 ^ 31) : vp_in j n := by
  obtain ⟨k, h1, rfl, -⟩ := nI_at h hn
  exact vp_in_nI h1 hn
theorem oP_small : oT.all (fun q => decide (q.2.1 < 100000)) = true := by decide +kernel
theorem oP_lt (r : Nat) : oP r < 2 ^ 31 := by
  unfold oP
  rw [List.getD_eq_getElem?_getD]
  cases h : oT[r]? with
  | none => show 0 < _; decide
  | some q =>
    have := List.all_eq_true.mp oP_small q (List.mem_of_getElem? h)
    simp only [decide_eq_true_eq] at this
    show q.2.1 < _
    omega
theorem fsL_at {ad : Nat → Nat} {h : Hp} {i k : Nat} {v : Value} (hv : gfv h i k (nI k) = some v) : (fsL ad h i)[k]? = some (tr ad v) := by
  unfold gfv at hv
  have hk : k < (oF i).length := by
    rcases Nat.lt_or_ge k (oF i).length with q | q
    · exact q
    · rw [List.getElem?_eq_none q] at hv; cases hv
  unfold fsL
  rw [List.getElem?_map, List.getElem?_range hk]
  show some (fv ad h i k) = _
  unfold fv
  cases hq : (oF i)[k]? with
  | none => rw [hq] at hv; cases hv
  | some o =>
    rw [hq] at hv
    cases o with
    | some w => cases hv; rfl
    | none => cases hv; rfl
theorem hI_ne {h : Hp} {i a : Nat} {j b v : Int32} (hn : a ≠ i) : (hI h i j v).1 a b = h.1 a b := by
  show (if a = i ∧ b = j then v else h.1 a b) = _
  rw [if_neg (fun q => hn q.1)]
theorem hI_rowne {h : Hp} {i a : Nat} {j v : Int32} (hn : a ≠ i) : (hI h i j v).1 a = h.1 a := by
  funext b
  exact hI_ne hn
theorem hL_rowne {h : Hp} {i a : Nat} {j : Int32} {v : Int64} (hn : a ≠ i) : (hL h i j v).2.1 a = h.2.1 a := by
  funext b
  show (if a = i ∧ b = j then v else h.2.1 a b) = _
  rw [if_neg (fun q => hn q.1)]
theorem hC_rowne {h : Hp} {s d a : Nat} {sp dp n : Int32} (hn : a ≠ d) : (hC h s sp d dp n).1 a = h.1 a := by
  funext b
  show (if a = d ∧ _ then _ else h.1 a b) = _
  rw [if_neg (fun q => hn q.1)]
theorem hCL_rowne {h : Hp} {s d a : Nat} {sp dp n : Int32} (hn : a ≠ d) : (hCL h s sp d dp n).2.1 a = h.2.1 a := by
  funext b
  show (if a = d ∧ _ then _ else h.2.1 a b) = _
  rw [if_neg (fun q => hn q.1)]
/-- a store at a place in range, as the cells have it -/
theorem hI_cell {h : Hp} {i n k : Nat} {j v : Int32} (h1 : ibd j n) (hn : n < 2 ^ 31) (hk : k < n) : upd (fun j => h.1 i (nI j)) j.toNatClampNeg v k = (hI h i j v).1 i (nI k) := by
  obtain ⟨m, hm, rfl, e⟩ := nI_at h1 hn
  rw [e]
  show (if k = m then v else h.1 i (nI k)) = (if i = i ∧ nI k = nI m then v else h.1 i (nI k))
  by_cases hkm : k = m
  · subst hkm; simp
  · rw [if_neg hkm, if_neg (fun q => hkm ((nI_eq (by omega) (by omega)).mp q.2))]
theorem hL_cell {h : Hp} {i n k : Nat} {j : Int32} {v : Int64} (h1 : ibd j n) (hn : n < 2 ^ 31) (hk : k < n) : vp_updL (fun j => h.2.1 i (nI j)) j.toNatClampNeg v k = (hL h i j v).2.1 i (nI k) := by
  obtain ⟨m, hm, rfl, e⟩ := nI_at h1 hn
  rw [e]
  show (if k = m then v else h.2.1 i (nI k)) = (if i = i ∧ nI k = nI m then v else h.2.1 i (nI k))
  by_cases hkm : k = m
  · subst hkm; simp
  · rw [if_neg hkm, if_neg (fun q => hkm ((nI_eq (by omega) (by omega)).mp q.2))]
theorem cpG_nat {sp dp n : Int32} {ls ld : Nat} (h : cpG sp dp n ls ld) (h1 : ls < 2 ^ 31) (h2 : ld < 2 ^ 31) : ∃ a b c : Nat, sp = nI a ∧ dp = nI b ∧ n = nI c ∧ a + c ≤ ls ∧ b + c ≤ ld := by
  obtain ⟨g1, g2, g3, g4, g5, g6, g7⟩ := h
  have pos : ∀ {x : Int32}, 0 ≤ x → ∃ j : Nat, j < 2 ^ 31 ∧ x = nI j := fun {x} hx => nI_of (x := x) (by rw [Int32.lt_iff_toInt_lt, Int32.toInt_zero]; rw [Int32.le_iff_toInt_le, Int32.toInt_zero] at hx; omega)
  obtain ⟨a, ha, rfl⟩ := pos g1
  obtain ⟨b, hb, rfl⟩ := pos g2
  obtain ⟨c, hc, rfl⟩ := pos g3
  rw [nI_leI hc h1] at g4
  rw [nI_leI hc h2] at g6
  rw [pk_sub g4, nI_leI ha (by omega)] at g5
  rw [pk_sub g6, nI_leI hb (by omega)] at g7
  exact ⟨a, b, c, rfl, rfl, rfl, by omega, by omega⟩
theorem nI_cpy {b k a : Nat} (hb : b ≤ k) (hk : k < 2 ^ 31) : nI a + (nI k - nI b) = nI (a + (k - b)) := by rw [pk_sub hb, nI_add]
theorem hC_cell {h : Hp} {s d k ls ld : Nat} {sp dp n : Int32} (hg : cpG sp dp n ls ld) (h1 : ls < 2 ^ 31) (h2 : ld < 2 ^ 31) (hk : k < ld) : va_cpy (fun j => h.1 s (nI j)) (fun j => h.1 d (nI j)) sp.toNatClampNeg dp.toNatClampNeg n.toNatClampNeg k = (hC h s sp d dp n).1 d (nI k) := by
  obtain ⟨a, b, c, rfl, rfl, rfl, e1, e2⟩ := cpG_nat hg h1 h2
  rw [nI_clamp (by omega), nI_clamp (by omega), nI_clamp (by omega)]
  show (if b ≤ k ∧ k < b + c then h.1 s (nI (a + (k - b))) else h.1 d (nI k)) = (if d = d ∧ nI b ≤ nI k ∧ nI k < nI b + nI c then h.1 s (nI a + (nI k - nI b)) else h.1 d (nI k))
  have hh : (d = d ∧ nI b ≤ nI k ∧ nI k < nI b + nI c) ↔ (b ≤ k ∧ k < b + c) := by
    rw [nI_add, nI_leI (by omega) (by omega), nI_ltI (by omega) (by omega)]
    exact ⟨fun q => q.2, fun q => ⟨rfl, q⟩⟩
  by_cases hc : b ≤ k ∧ k < b + c
  · rw [if_pos hc, if_pos (hh.mpr hc), nI_cpy hc.1 (by omega)]
  · rw [if_neg hc, if_neg (fun q => hc (hh.mp q))]
theorem hCL_cell {h : Hp} {s d k ls ld : Nat} {sp dp n : Int32} (hg : cpG sp dp n ls ld) (h1 : ls < 2 ^ 31) (h2 : ld < 2 ^ 31) (hk : k < ld) : va_cpy (fun j => h.2.1 s (nI j)) (fun j => h.2.1 d (nI j)) sp.toNatClampNeg dp.toNatClampNeg n.toNatClampNeg k = (hCL h s sp d dp n).2.1 d (nI k) := by
  obtain ⟨a, b, c, rfl, rfl, rfl, e1, e2⟩ := cpG_nat hg h1 h2
  rw [nI_clamp (by omega), nI_clamp (by omega), nI_clamp (by omega)]
  show (if b ≤ k ∧ k < b + c then h.2.1 s (nI (a + (k - b))) else h.2.1 d (nI k)) = (if d = d ∧ nI b ≤ nI k ∧ nI k < nI b + nI c then h.2.1 s (nI a + (nI k - nI b)) else h.2.1 d (nI k))
  have hh : (d = d ∧ nI b ≤ nI k ∧ nI k < nI b + nI c) ↔ (b ≤ k ∧ k < b + c) := by
    rw [nI_add, nI_leI (by omega) (by omega), nI_ltI (by omega) (by omega)]
    exact ⟨fun q => q.2, fun q => ⟨rfl, q⟩⟩
  by_cases hc : b ≤ k ∧ k < b + c
  · rw [if_pos hc, if_pos (hh.mpr hc), nI_cpy hc.1 (by omega)]
  · rw [if_neg hc, if_neg (fun q => hc (hh.mp q))]
theorem ent_ne {ad : Nat → Nat} {cA : Nat → ClassId} {h h' : Hp} {j : Nat} (h1 : h'.1 j = h.1 j) (h2 : h'.2.1 j = h.2.1 j) : ent ad cA h' j = ent ad cA h j := by
  have hf : fsL ad h' j = fsL ad h j := by
    unfold fsL
    congr 1
    funext k
    unfold fv
    rw [h1]
  unfold ent
  rw [h1, h2, hf]
theorem ent_0 {ad : Nat → Nat} {cA : Nat → ClassId} {h : Hp} {i : Nat} (hk : oK i = 0) : ent ad cA h i = .inl (cA 0, (oP i, .inl (fun j => h.1 i (nI j)))) := by unfold ent; rw [if_pos hk]
theorem ent_1 {ad : Nat → Nat} {cA : Nat → ClassId} {h : Hp} {i : Nat} (hk : oK i = 1) : ent ad cA h i = .inl (cA 1, (oP i, .inr (.inl (fun j => h.2.1 i (nI j))))) := by unfold ent; rw [if_neg (by omega), if_pos hk]
theorem ent_2 {ad : Nat → Nat} {cA : Nat → ClassId} {h : Hp} {i : Nat} (hk : oK i = 2) : ent ad cA h i = .inl (cA 2, (oP i, .inl (fun j => h.1 i (nI j)))) := by unfold ent; rw [if_neg (by omega), if_neg (by omega), if_pos hk]
theorem ent_3 {ad : Nat → Nat} {cA : Nat → ClassId} {h : Hp} {i : Nat} (hk : oK i = 3) : ent ad cA h i = .inr (oP i, fsL ad h i) := by unfold ent; rw [if_neg (by omega), if_neg (by omega), if_neg (by omega)]
theorem oF_len0 : oT.all (fun q => decide (q.2.2.length < 100)) = true := by decide +kernel
theorem oF_lt (r : Nat) : (oF r).length < 100 := by
  unfold oF
  rw [List.getD_eq_getElem?_getD]
  cases h : oT[r]? with
  | none => show 0 < _; decide
  | some q =>
    have := List.all_eq_true.mp oF_len0 q (List.mem_of_getElem? h)
    simp only [decide_eq_true_eq] at this
    exact this
theorem fsL_set {ad : Nat → Nat} {h : Hp} {i k : Nat} {v : Int32} (hk : (oF i)[k]? = some none) : (fsL ad h i).set k (.int v) = fsL ad (hI h i (nI k) v) i := by
  have hl : k < (oF i).length := (List.getElem?_eq_some_iff.mp hk).1
  have h100 := oF_lt i
  apply List.ext_getElem?
  intro j
  by_cases hj : j = k
  · subst hj
    rw [List.getElem?_set_self (by unfold fsL; simpa using hl)]
    unfold fsL
    rw [List.getElem?_map, List.getElem?_range hl]
    show _ = some (fv ad (hI h i (nI j) v) i j)
    unfold fv
    rw [hk]
    show _ = some (Value.int (if i = i ∧ nI j = nI j then v else h.1 i (nI j)))
    simp
  · rw [List.getElem?_set_ne (fun q => hj q.symm)]
    unfold fsL
    rw [List.getElem?_map, List.getElem?_map]
    cases hq : (List.range (oF i).length)[j]? with
    | none => rfl
    | some j' =>
      have hjl := List.getElem?_eq_some_iff.mp hq
      obtain ⟨hjl1, e⟩ := hjl
      have : j' = j := by simpa using e.symm
      subst this
      have hjl2 : j' < (oF i).length := by simpa using hjl1
      show some (fv ad h i j') = some (fv ad (hI h i (nI k) v) i j')
      have hne : ¬ (i = i ∧ nI j' = nI k) := fun q => hj ((nI_eq (by omega) (by omega)).mp q.2)
      unfold fv
      cases (oF i)[j']? with
      | none =>
        show some (Value.int (h.1 i (nI j'))) = some (Value.int (if i = i ∧ nI j' = nI k then v else h.1 i (nI j')))
        rw [if_neg hne]
      | some o =>
        cases o with
        | some w => rfl
        | none =>
          show some (Value.int (h.1 i (nI j'))) = some (Value.int (if i = i ∧ nI j' = nI k then v else h.1 i (nI j')))
          rw [if_neg hne]
/-- the fields that a method may write -/
def pfC (a b : Nat) : Bool := match vwCl[a]? with
  | some (_, T, N) => decide (b < N) && !(T b).2.2.2 && decide ((T b).2.2.1 = (if isZf a b = true then "Z" else "I"))
  | none => false
set_option maxRecDepth 100000 in
theorem pf_all : (List.range psNO).all (fun r => (List.range 40).all (fun b => if oK r = 3 then (match (oF r)[b]? with
  | some none => pfC (oP r) b
  | _ => true) else true)) = true := by decide +kernel
set_option maxRecDepth 100000 in
theorem oF_len : (List.range psNO).all (fun r => decide ((oF r).length ≤ 40)) = true := by decide +kernel
theorem pf_ok {r b : Nat} (h3 : oK r = 3) (hb : (oF r)[b]? = some none) : pfC (oP r) b = true := by
  have hr : r < psNO := oK_lt (by omega)
  have hl := List.all_eq_true.mp oF_len r (List.mem_range.mpr hr)
  have hb2 : b < 40 := Nat.lt_of_lt_of_le (List.getElem?_eq_some_iff.mp hb).1 (by simpa using hl)
  have h := List.all_eq_true.mp (List.all_eq_true.mp pf_all r (List.mem_range.mpr hr)) b (List.mem_range.mpr hb2)
  rw [if_pos h3, hb] at h
  exact h
theorem vw_ty {ci : Nat} {C : String} {T : u_T} {N : Nat} (h : vwCl[ci]? = some (C, T, N)) : (∃ ty0 : Nat → FieldType, ∀ k, k < N → parseFieldDescriptor (T k).2.2.1 = some (ty0 k)) ∧ (∀ a, a < N → ∀ b, b < N → a ≠ b → (T a).2.1 ≠ (T b).2.1) := by
  match ci, h with
  | 0, h => cases h; exact ⟨⟨tyX0, tyX0_ok⟩, nmX0⟩
  | 1, h => cases h; exact ⟨⟨tyX1, tyX1_ok⟩, nmX1⟩
  | 2, h => cases h; exact ⟨⟨tyX2, tyX2_ok⟩, nmX2⟩
  | 3, h => cases h; exact ⟨⟨tyX3, tyX3_ok⟩, nmX3⟩
  | 4, h => cases h; exact ⟨⟨tyX4, tyX4_ok⟩, nmX4⟩
  | 5, h => cases h; exact ⟨⟨tyX5, tyX5_ok⟩, nmX5⟩
  | 6, h => cases h; exact ⟨⟨tyX6, tyX6_ok⟩, nmX6⟩
  | 7, h => cases h; exact ⟨⟨tyX7, tyX7_ok⟩, nmX7⟩
  | 8, h => cases h; exact ⟨⟨tyX8, tyX8_ok⟩, nmX8⟩
  | 9, h => cases h; exact ⟨⟨tyX9, tyX9_ok⟩, nmX9⟩
  | 10, h => cases h; exact ⟨⟨tyX10, tyX10_ok⟩, nmX10⟩
  | 11, h => cases h; exact ⟨⟨tyX11, tyX11_ok⟩, nmX11⟩
  | n + 12, h => simp [vwCl] at h
/-- the locals: what is known of each -/
def LH (ad : Nat → Nat) (la : Array Slot) (n : Nat) (ls : Lc) : Prop := la.size = n ∧ lv_wf la ∧ ls.length = n ∧ ∀ (k : Nat) (v : Value), ls[k]? = some (some v) → la[k]? = some (.val (tr ad v))
def knL (ad : Nat → Nat) (ls : Lc) : List (Nat × Value) := (List.range ls.length).filterMap (fun k => match ls[k]? with
  | some (some v) => some (k, tr ad v)
  | _ => none)
theorem knL_in {ad : Nat → Nat} {ls : Lc} {q : Nat × Value} : q ∈ knL ad ls ↔ ∃ v, ls[q.1]? = some (some v) ∧ q.2 = tr ad v := by
  unfold knL
  rw [List.mem_filterMap]
  constructor
  · rintro ⟨k, -, hk⟩
    cases h : ls[k]? with
    | none => rw [h] at hk; cases hk
    | some o =>
      rw [h] at hk
      cases o with
      | none => cases hk
      | some v => cases hk; exact ⟨v, h, rfl⟩
  · rintro ⟨v, h, e⟩
    refine ⟨q.1, List.mem_range.mpr (List.getElem?_eq_some_iff.mp h).1, ?_⟩
    rw [h]
    show some (q.1, tr ad v) = some q
    rw [← e]
theorem LH.has {ad : Nat → Nat} {la : Array Slot} {n : Nat} {ls : Lc} (h : LH ad la n ls) : lv_has la n (knL ad ls) := by
  refine ⟨h.1, h.2.1, fun q hq => ?_⟩
  obtain ⟨v, h1, h2⟩ := knL_in.mp hq
  rw [h2]
  exact h.2.2.2 _ _ h1
theorem LH.of {ad : Nat → Nat} {la : Array Slot} {n : Nat} {ls : Lc} {l : List (Nat × Value)} (h : lv_has la n l) (hn : ls.length = n) (hk : ∀ (k : Nat) (v : Value), ls[k]? = some (some v) → (k, tr ad v) ∈ l) : LH ad la n ls := ⟨h.1, h.2.1, hn, fun k v hv => h.2.2 (k, tr ad v) (hk k v hv)⟩
theorem tr_cat (ad : Nat → Nat) (v : Value) : (tr ad v).category = v.category := by cases v <;> rfl
/-- the locals behind a store of one slot -/
theorem LH.store {ad : Nat → Nat} {la' : Array Slot} {n k : Nat} {ls : Lc} {v : Value} (hn : ls.length = n) (hp : isLong ls[k - 1]? = false) (h : lv_has la' n ((k, tr ad v) :: (knL ad ls).filter (fun q => !(q.1 == k) && !(q.1 + 1 == k && q.2.category == 2)))) : LH ad la' n (ls.set k (some v)) := by
  refine LH.of h (by rw [List.length_set]; exact hn) (fun j w hw => ?_)
  by_cases hj : j = k
  · subst hj
    by_cases hl : j < ls.length
    · rw [List.getElem?_set_self hl] at hw
      cases hw
      exact List.mem_cons_self
    · rw [List.getElem?_eq_none (by rw [List.length_set]; omega)] at hw
      cases hw
  · rw [List.getElem?_set_ne (fun q => hj q.symm)] at hw
    refine List.mem_cons_of_mem _ (List.mem_filter.mpr ⟨knL_in.mpr ⟨w, hw, rfl⟩, ?_⟩)
    have e1 : (j == k) = false := by simpa using hj
    by_cases h2 : j + 1 = k
    · have : k - 1 = j := by omega
      rw [this, hw] at hp
      have hc : ((tr ad w).category == 2) = false := by rw [tr_cat]; exact hp
      simp [e1, hc]
    · simp [e1, h2]
