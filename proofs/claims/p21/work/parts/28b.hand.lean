/-! By hand, with the walk's own writes. -/
theorem hand_M {rg : List Rg} {s : Sm} {ρ : Nat → Int} {as : List Value} {h : Hp} (hw : smW s = true) (hsc : s.2.2.2.2.1.all (scB (smG s)) = true) (hin : inV ρ s.2.2.1 0 as) (hb : bdV ρ s.2.2.2.1 (nonR s.2.2.1)) (hc : ∀ c ∈ celG (nonR s.2.2.1) s.2.2.2.1, kcV ρ h c) (hf : ∀ f ∈ s.2.2.2.2.1, 0 ≤ leV ρ f) (hR : ∀ q ∈ rg, RgO h q) : Mo rg s.2.2.2.2.2.1 h ρ (cnS s) h := by
  rw [List.all_eq_true] at hsc
  have hG : nonR s.2.2.1 + s.2.2.2.1.length = smG s := rfl
  simp only [smW, Bool.and_eq_true, List.all_eq_true] at hw
  have M : Mo rg s.2.2.2.2.2.1 h ρ (smS s) h := by
    refine ⟨⟨fun q hq => ?_, fun f hf' => ⟨scB_S (hsc f hf'), hf f hf'⟩⟩, fun c hc' => ?_, hR, Frm.rf⟩
    · rcases List.mem_append.mp hq with hq | hq
      · have := gbI_sp hin q hq
        exact ⟨by show q.1 < smG s; omega, this.2⟩
      · have := gbL_lt q hq
        exact ⟨by show q.1 < smG s; omega, hb q hq⟩
    · have := celG_S hw.1 (show nonR s.2.2.1 ≤ smG s by omega) (Nat.le_of_eq hG) c hc'
      exact kcV_O (hc c hc') this.1 this.2
  have HF : ∀ f ∈ s.2.2.2.2.1, leS (smG s) f ∧ 0 ≤ leV ρ f := M.1.2
  refine ⟨M.1, fun c hc => ?_, M.2.2⟩
  obtain ⟨c0, hc0, rfl⟩ := List.mem_map.mp hc
  obtain ⟨s1, s2, k⟩ := M.2.1 c0 hc0
  obtain ⟨q1, q2⟩ := cno_sp HF s2
  refine ⟨s1, q1, ?_⟩
  dsimp only
  rw [q2]
  exact k
theorem Mo.kill {rg : List Rg} {ws vs : List Wr} {h0 h h' : Hp} {ρ : Nat → Int} {S : Sx} (M : Mo rg ws h0 ρ S h) (W : Frm vs h h') (R : ∀ q ∈ rg, RgO h' q) (sub : ∀ v ∈ vs, v ∈ ws) : Mo rg ws h0 ρ (S.1, S.2.1, kpL S.2.1 vs S.2.2) h' := by
  have nin : ∀ k o j, ¬ inW ws k o j → ¬ inW vs k o j := fun k o j q ⟨w, hw, r⟩ => q ⟨w, sub w hw, r⟩
  refine ⟨M.1, kpL_sp M.1 M.2.1 W, R, fun o j q => ?_, fun o j q => ?_, ?_⟩
  · exact (W.1 o j (nin _ _ _ q)).trans (M.2.2.2.1 o j q)
  · exact (W.2.1 o j (nin _ _ _ q)).trans (M.2.2.2.2.1 o j q)
  · exact W.2.2.trans M.2.2.2.2.2
theorem Mo.wr {rg : List Rg} {ws : List Wr} {h0 h : Hp} {ρ : Nat → Int} {S : Sx} (M : Mo rg ws h0 ρ S h) {o : Nat} {i e : LE} {j v : Int32} (hi : GG ρ S.1 i j.toInt) (he : GG ρ S.1 e v.toInt) (g : (wrI rg ws S o i e).isSome = true) : Mo rg ws h0 ρ ((wrI rg ws S o i e).getD S) (hI h o j v) ∧ ((wrI rg ws S o i e).getD S).1 = S.1 := by
  obtain ⟨S', e'⟩ := Option.isSome_iff_exists.mp g
  obtain ⟨a, b⟩ := wrI_sp M hi he e'
  rw [e']
  exact ⟨b, a⟩
theorem hand_post {rg : List Rg} {s : Sm} {es : List (Option LE)} {ρ ρ' : Nat → Int} {S : Sx} {h H : Hp} {r r' : Option AV} {rv rv' : Option Value} (M : Mo rg s.2.2.2.2.2.1 h ρ' S H) (ag : Ag ρ ρ' (smG s)) (hn : smG s ≤ S.1) (hr : rvO ρ' S.1 r rv) (hr' : rvO ρ' S.1 r' rv') (g : finP rg s es S r r' = true) : PmPost rg s es ρ h rv rv' H := ⟨M.2.2.1, M.2.2.2, finP_sp ag hn M hr hr' g⟩
theorem Frm.mx {wa wb ws : List Wr} {h hA hB : Hp} (a : Frm wa h hA) (b : Frm wb h hB) (sa : ∀ w ∈ wa, w ∈ ws) (sb : ∀ w ∈ wb, w ∈ ws) : Frm ws h (mxH true hA hB) := by
  refine ⟨fun o j q => ?_, fun o j q => ?_, a.2.2⟩
  · show (if sd o = true then hA.1 o j else hB.1 o j) = _
    split
    · exact a.1 o j (fun ⟨w, hw, r⟩ => q ⟨w, sa w hw, r⟩)
    · exact b.1 o j (fun ⟨w, hw, r⟩ => q ⟨w, sb w hw, r⟩)
  · show (if sd o = true then hA.2.1 o j else hB.2.1 o j) = _
    split
    · exact a.2.1 o j (fun ⟨w, hw, r⟩ => q ⟨w, sa w hw, r⟩)
    · exact b.2.1 o j (fun ⟨w, hw, r⟩ => q ⟨w, sb w hw, r⟩)
theorem RgO.mx {h k : Hp} {q : Rg} (a : RgO h q) (b : RgO k q) : RgO (mxH true h k) q := by
  intro j t t0 t1 hj
  show _ ≤ (if sd q.1 = true then h.1 q.1 j else k.1 q.1 j).toInt ∧ (if sd q.1 = true then h.1 q.1 j else k.1 q.1 j).toInt ≤ _
  split
  · exact a j t t0 t1 hj
  · exact b j t t0 t1 hj
theorem hc_i {h : Hp} {ρ : Nat → Int} {o g : Nat} {i : Int} {I : Int32} (w : kcV ρ h (0, o, (i, []), leX g)) (e : I.toInt = i) : ρ g = (h.1 o I).toInt := by
  obtain ⟨j, p, q⟩ := w
  have p : leV ρ (leC i) = j.toInt := p
  have q : leV ρ (leX g) = (h.1 o j).toInt := q
  rw [leV_C] at p
  obtain rfl : j = I := Int32.toInt_inj.mp (by omega)
  rw [← q, leV_X]
theorem kc_at {h : Hp} {ρ : Nat → Int} {k o g : Nat} {i : Int} (w : kcV ρ h (k, o, (i, []), leX g)) : KC h k o i (ρ g) := by
  have w : KC h k o (leV ρ (leC i)) (leV ρ (leX g)) := w
  rw [leV_C, leV_X] at w
  exact w
/-- both calls run, and what lies there then -/
theorem pm_mk {rg : List Rg} {p : Pm} {d : Nat} {ρ : Nat → Int} {as bs : List Value} {h : Hp} {rA rB : Option Value} {hA hB : Hp} (cA : CRun d p.2.2.1.1 as h rA hA) (cB : CRun d p.1 bs h rB hB) (sA : sS true as) (sB : sS false bs) (P : PmPost rg p.2.2.1 p.2.2.2 ρ h rA rB (mxH true hA hB)) : ∃ rA hA rB hB, CRun d p.2.2.1.1 as h rA hA ∧ CRun d p.1 bs h rB hB ∧ hA.2.2 = h.2.2 ∧ hB.2.2 = h.2.2 ∧ (∀ v, rA = some v → vS true v) ∧ (∀ v, rB = some v → vS false v) ∧ PmPost rg p.2.2.1 p.2.2.2 ρ h rA rB (mxH true hA hB) := ⟨rA, hA, rB, hB, cA, cB, (cA.off sA).2.1, (cB.off sB).2.1, (cA.off sA).2.2, (cB.off sB).2.2, P⟩
theorem mx_wB {hA hB : Hp} {o : Nat} {j v : Int32} (e : sd o = false) : mxH true hA (hI hB o j v) = hI (mxH true hA hB) o j v := mx_ext (fun a b => by
  show (if sd a = true then hA.1 a b else if a = o ∧ b = j then v else hB.1 a b) = if a = o ∧ b = j then v else if sd a = true then hA.1 a b else hB.1 a b
  by_cases q : a = o ∧ b = j
  · rw [if_pos q, if_pos q, q.1, e, if_neg (by decide)]
  · rw [if_neg q, if_neg q]) (fun a b => rfl) rfl
theorem Mo.fc {rg : List Rg} {ws : List Wr} {h0 h : Hp} {ρ : Nat → Int} {S : Sx} (M : Mo rg ws h0 ρ S h) (bs : List (Nat × Int × Int)) (hb : ∀ q ∈ bs, q.1 < S.1 ∧ q.2.1 ≤ ρ q.1 ∧ ρ q.1 ≤ q.2.2) : Mo rg ws h0 ρ (S.1, (bs ++ S.2.1.1, S.2.1.2), S.2.2) h := M.db ⟨fun q hq => (List.mem_append.mp hq).elim (hb q) (M.1.1 q), M.1.2⟩
theorem hand_r {ρ : Nat → Int} {n : Nat} {e : LE} {r : Int32} (g : GG ρ n e r.toInt) : rvO ρ n (some (0, e)) (some (.int r)) := ⟨_, rfl, r, rfl, g⟩
theorem GG_C {ρ : Nat → Int} {n : Nat} {c : Int} : GG ρ n (leC c) c := ⟨leS_C, leV_C ρ c⟩
theorem GG_X {ρ : Nat → Int} {n k : Nat} {x : Int} (hk : k < n) (e : ρ k = x) : GG ρ n (leX k) x := ⟨leS_X hk, (leV_X ρ k).trans e⟩
theorem updS_lt {ρ : Nat → Int} {n k : Nat} {x : Int} (h : k < n) : updS ρ n x k = ρ k := by
  unfold updS
  rw [if_neg (by omega)]
theorem updS_at {ρ : Nat → Int} {n : Nat} {x : Int} : updS ρ n x n = x := by
  unfold updS
  rw [if_pos rfl]
theorem Mo.kl {rg : List Rg} {ws vs : List Wr} {h0 h h' : Hp} {ρ : Nat → Int} {S : Sx} (M : Mo rg ws h0 ρ S h) (W : Frm vs h h') (W' : Frm ws h0 h') (R : ∀ q ∈ rg, RgO h' q) : Mo rg ws h0 ρ (S.1, S.2.1, kpL S.2.1 vs S.2.2) h' := ⟨M.1, kpL_sp M.1 M.2.1 W, R, W'⟩
/-- so ends a single method -/
theorem hand_postS {rg : List Rg} {s : Sm} {ρ ρ' : Nat → Int} {S : Sx} {h H : Hp} {r : Option AV} {rv : Option Value} (M : Mo rg s.2.2.2.2.2.1 h ρ' S H) (ag : Ag ρ ρ' (smG s)) (hn : smG s ≤ S.1) (hr : rvO ρ' S.1 r rv) (g : finP rg s (s.2.2.2.2.2.2.map fun o => o.2.1) S r r = true) : (∀ q ∈ rg, RgO H q) ∧ Frm s.2.2.2.2.2.1 h H ∧ ∃ o ∈ s.2.2.2.2.2.2, ∃ ρ2, Ag ρ ρ2 (smG s) ∧ bdV ρ2 o.1 (smG s) ∧ rtV ρ2 o.2.1 rv ∧ (∀ c ∈ o.2.2.1, kcV ρ2 H c) ∧ (∀ f ∈ o.2.2.2, 0 ≤ leV ρ2 f) := by
  obtain ⟨oe, h1, ρ2, h2, h3, h4, -, h5, h6⟩ := finP_sp ag hn M hr hr g
  exact ⟨M.2.2.1, M.2.2.2, oe.1, (List.of_mem_zip h1).1, ρ2, h2, h3, h4, h5, h6⟩
theorem i_nI {v : Int32} (h0 : 0 ≤ v.toInt) : v = nI v.toInt.toNat := by
  apply Int32.toInt_inj.mp
  have := i32b v
  simp only [I32hi] at this
  rw [nI_i (by omega)]
  omega
/-- regions that lie apart from what is written -/
noncomputable def rgV (vs : List Wr) (rg : List Rg) : Bool := rg.all fun q => ile 0 q.2.2.1 && vs.all fun v => !(Nat.beq v.1 0) || (!(Nat.beq v.2.1 q.1) || (ile (q.2.1 + q.2.2.1 * (q.2.2.2.1 - 1)) (v.2.2.1 - 1) || ile (v.2.2.2 + 1) q.2.1))
theorem rgV_sp {vs : List Wr} {rg : List Rg} {h h' : Hp} (g : rgV vs rg = true) (W : Frm vs h h') (R : ∀ q ∈ rg, RgO h q) : ∀ q ∈ rg, RgO h' q := by
  intro q hq j k k0 k1 hj
  have g := List.all_eq_true.mp g q hq
  rw [Bool.and_eq_true] at g
  have s0 := ile_le g.1
  rw [W.1 q.1 j ?_]
  · exact R q hq j k k0 k1 hj
  · rintro ⟨v, hv, w1, w2, w3, w4⟩
    have g := List.all_eq_true.mp g.2 v hv
    have m1 := Int.mul_nonneg s0 k0
    have m2 := Int.mul_le_mul_of_nonneg_left (show k ≤ q.2.2.2.1 - 1 by omega) s0
    simp only [Bool.or_eq_true, Bool.not_eq_true'] at g
    rcases g with g | g | g | g
    · exact nbeq g w1
    · exact nbeq g w2
    · have := ile_le g; omega
    · have := ile_le g; omega
theorem nI_ofI {n : Nat} (h : n < 2000000000) : Int32.ofInt (n : Int) = nI n := Int32.toInt_inj.mp (by rw [i32of (by omega) (by omega), nI_i (by omega)])
