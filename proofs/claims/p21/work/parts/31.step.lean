/-! By hand: a step is laid (c_step is printed by wip/se/m2.py). -/
theorem c_step {d : Nat} {Q : Option Value → Hp → Prop} {h : Hp} {x v : Int32} (ha0 : 604 ≤ h.1 65 25) (ha1 : h.1 65 25 ≤ 3200) (hl0 : 0 ≤ h.1 65 24) (hl1 : h.1 65 24 ≤ 96) (k : Q none (hI (hI (hI h 66 (h.1 65 25 + 2 * h.1 65 24) x) 66 (h.1 65 25 + 2 * h.1 65 24 + 1) v) 65 24 (h.1 65 24 + 1))) : Call (d + 1) 217 [.ref 65, .int x, .int v] h Q := by
  refine call_of (rfl : psM[217]? = some _) rfl rfl (rcvV rfl) (fun X hX => ?_)
  show X (0, [some (.ref 65), some (.int x), some (.int v)], [], h)
  refine go hX 30 (gs := [True, True, True, True, True, True, ibd (((h.1 65 25) + (2 * (h.1 65 24))) + 1) 3400, True, True, True, True, True, True, True, True, True, True, True, True, ibd ((h.1 65 25) + (2 * (h.1 65 24))) 3400, True, True, True, True, True, True, True, True, True, True]) (z' := (46, [some (.ref 65), some (.int x), some (.int v)], [], (hI (hI (hI h 66 ((h.1 65 25) + (2 * (h.1 65 24))) x) 66 (((h.1 65 25) + (2 * (h.1 65 24))) + 1) v) 65 24 ((h.1 65 24) + 1)))) rfl ⟨trivial, trivial, trivial, trivial, trivial, trivial, ?_, trivial, trivial, trivial, trivial, trivial, trivial, trivial, trivial, trivial, trivial, trivial, trivial, ?_, trivial, trivial, trivial, trivial, trivial, trivial, trivial, trivial, trivial, trivial, trivial⟩ ?_
  · exact ibd_of (B := 3400) rfl (by grind) (by grind)
  · exact ibd_of (B := 3400) rfl (by grind) (by grind)
  refine rt_ hX (G := True) (r := none) rfl trivial ?_
  exact k
noncomputable def stm (what vlo vhi glo dg : Int) : Sm := (217, 1, [(2, 65, 0), (0, what, what), (0, vlo, vhi)], [((1, 0, 65, (25, [])), 604, 3200), ((1, 0, 65, (24, [])), 0, 96), ((1, 4, 66, (0, [])), glo, 100), ((1, 6, 65, (0, [])), 0, 0), ((1, 0, 66, (4, [])), 0, 12), ((1, 5, 66, (0, [])), 0, 0)], [((-604), [(2, 1), (6, (-200))])], [(0, 65, 24, 24), (0, 66, 604, 3395)], [([], none, [(0, 65, (24, []), (1, [(3, 1)])), (4, 66, (0, []), (dg, [(4, 1)])), (6, 65, (0, []), (0, [])), (5, 66, (0, []), (0, []))], [])])
noncomputable def stRg (rg : List Rg) : Bool := rg.all fun q => ile 0 q.2.2.1 && (!(Nat.beq q.1 66) || ile (q.2.1 + q.2.2.1 * (q.2.2.2.1 - 1)) 603 || (ile 3000 q.2.1 && ile (q.2.1 + q.2.2.1 * (q.2.2.2.1 - 1)) 3199)) && (!(Nat.beq q.1 65) || (ile q.2.2.2.1 1 && (ile q.2.1 23 || ile 25 q.2.1)))
theorem WFP_step {F F' : Int → Int} {a l g what v dg : Int} (w : WFP F a l g) (hF : ∀ i, a ≤ i → i < a + 2 * l → F' i = F i) (e0 : F' (a + 2 * l) = what) (e1 : F' (a + 2 * l + 1) = v) (g0 : 0 ≤ g) (H1 : what ≠ 2 → dg = 1 ∧ (what ≠ 0 → 0 ≤ v ∧ v < 128)) (H2 : what = 2 → (v = 33 → 1 ≤ g ∧ dg = 0) ∧ (v ≠ 33 → 2 ≤ g ∧ dg = -1)) : WFP F' a (l + 1) (g + dg) := by
  obtain ⟨w0, dp, d0, d1, d2⟩ := WFP_cong hF w
  refine ⟨by omega, fun k => if k ≤ l then dp k else g + dg, ?_, ?_, fun k k0 k1 => ?_⟩
  · dsimp only
    rw [if_pos (by omega)]
    exact d0
  · dsimp only
    rw [if_neg (by omega)]
  · dsimp only
    by_cases hk : k < l
    · rw [if_pos (show k ≤ l by omega), if_pos (show k + 1 ≤ l by omega)]
      exact d2 k k0 hk
    · have : k = l := by omega
      subst this
      rw [if_pos (Int.le_refl k), if_neg (show ¬ k + 1 ≤ k by omega), e0, e1, d1]
      refine ⟨g0, fun hw => ?_, fun hw => ⟨fun hv => ?_, fun hv => ?_⟩⟩
      · exact ⟨by have := (H1 hw).1; omega, (H1 hw).2⟩
      · have := (H2 hw).1 hv
        exact ⟨this.1, by omega⟩
      · have := (H2 hw).2 hv
        exact ⟨this.1, by omega⟩
theorem st_ok {rg : List Rg} {what vlo vhi glo dg : Int} (hrg : stRg rg = true) (g0 : 0 ≤ glo) (H1 : ∀ v, vlo ≤ v → v ≤ vhi → what ≠ 2 → dg = 1 ∧ (what ≠ 0 → 0 ≤ v ∧ v < 128)) (H2 : ∀ v, vlo ≤ v → v ≤ vhi → what = 2 → (v = 33 → 1 ≤ glo ∧ dg = 0) ∧ (v ≠ 33 → 2 ≤ glo ∧ dg = -1)) : SmOK rg (stm what vlo vhi glo dg) := by
  intro d hd ρ as h hin hb hk hf hR
  have hd : 1 ≤ d := hd
  obtain ⟨d', rfl⟩ : ∃ d', d = d' + 1 := ⟨d - 1, by omega⟩
  obtain ⟨v1, s1, rfl, hin⟩ := hin
  rw [if_pos rfl] at hin
  obtain ⟨rfl, -, v2, s2, rfl, hin⟩ := hin
  rw [if_neg (by decide), if_pos rfl] at hin
  obtain ⟨b0, ⟨x, rfl, ex⟩, v3, s3, rfl, hin⟩ := hin
  rw [if_neg (by decide), if_pos rfl] at hin
  obtain ⟨b1, ⟨v, rfl, ev⟩, hin⟩ := hin
  cases hin
  show Call (d' + 1) 217 [.ref 65, .int x, .int v] h _
  have hg : ∀ (k : Nat) (c : Kc), (celG 2 (stm what vlo vhi glo dg).2.2.2.1)[k]? = some c → kcV ρ h c := fun k c hkc => hk c (List.mem_of_getElem? hkc)
  have hbd : ∀ (k : Nat) (q : Nat × Int × Int), (gbL (stm what vlo vhi glo dg).2.2.2.1 2)[k]? = some q → q.2.1 ≤ ρ q.1 ∧ ρ q.1 ≤ q.2.2 := fun k q hkc => hb q (List.mem_of_getElem? hkc)
  have rd : ∀ (o : Nat) (c : Int) (j : Int32) (k : Nat), j.toInt = c → kcV ρ h (0, o, (c, []), leX k) → ρ k = (h.1 o j).toInt := by
    rintro o c j k hj ⟨j', k1, k2⟩
    have e1 : leV ρ ((c, []) : LE) = c := leV_C ρ c
    have e2 : leV ρ (leX k) = ρ k := leV_X ρ k
    dsimp only at k1 k2
    rw [e1] at k1
    rw [e2] at k2
    have : j' = j := Int32.toInt_inj.mp (by rw [← k1, hj])
    rw [k2, this]
  have ea := rd 65 25 25 2 rfl (hg 0 _ rfl)
  have el := rd 65 24 24 3 rfl (hg 1 _ rfl)
  have eN := rd 66 4 4 6 rfl (hg 4 _ rfl)
  have ba := hbd 0 (2, 604, 3200) rfl
  have bl := hbd 1 (3, 0, 96) rfl
  have bg := hbd 2 (4, glo, 100) rfl
  have bN := hbd 4 (6, 0, 12) rfl
  dsimp only at ba bl bg bN
  have w4 : WFP (Fz h 66) (h.1 65 25).toInt (h.1 65 24).toInt (ρ 4) := by
    have w : WFP (Fz h 66) (h.1 65 25).toInt (h.1 65 24).toInt (leV ρ (leX 4)) := hg 2 (4, 66, (0, []), leX 4) rfl
    rw [leV_X] at w
    exact w
  obtain ⟨-, w6⟩ := hg 3 (6, 65, (0, []), leX 5) rfl
  obtain ⟨-, w5⟩ := hg 5 (5, 66, (0, []), leX 7) rfl
  have hfa : 0 ≤ leV ρ ((-604), [(2, 1), (6, (-200))]) := hf _ List.mem_cons_self
  have hfa : 0 ≤ -604 + (1 * ρ 2 + (-200 * ρ 6 + 0)) := hfa
  obtain ⟨l6, l6'⟩ := w6
  rw [← ea] at l6 l6' w4
  rw [← el] at w4
  have hA := i32b (h.1 65 25)
  have c2 : (2 : Int32).toInt = 2 := rfl
  have c1 : (1 : Int32).toInt = 1 := rfl
  have c24 : (24 : Int32).toInt = 24 := rfl
  have c25 : (25 : Int32).toInt = 25 := rfl
  have c4 : (4 : Int32).toInt = 4 := rfl
  have ej0 : (h.1 65 25 + 2 * h.1 65 24).toInt = ρ 2 + 2 * ρ 3 := by
    rw [Int32.toInt_add, Int32.toInt_mul, c2, ← ea, ← el, b32 (x := 2 * ρ 3) (by omega) (by omega), b32 (by omega) (by omega)]
  have ej1 : (h.1 65 25 + 2 * h.1 65 24 + 1).toInt = ρ 2 + 2 * ρ 3 + 1 := by
    rw [Int32.toInt_add, ej0, c1, b32 (by omega) (by omega)]
  have el1 : (h.1 65 24 + 1).toInt = ρ 3 + 1 := by
    rw [Int32.toInt_add, c1, ← el, b32 (by omega) (by omega)]
  generalize hj0 : h.1 65 25 + 2 * h.1 65 24 = j0 at ej0 ej1
  generalize hj1 : j0 + 1 = j1 at ej1
  generalize hl1 : h.1 65 24 + 1 = l1 at el1
  refine c_step (by rw [Int32.le_iff_toInt_le, ← ea]; exact ba.1) (by rw [Int32.le_iff_toInt_le, ← ea]; exact ba.2) (by rw [Int32.le_iff_toInt_le, ← el]; exact bl.1) (by rw [Int32.le_iff_toInt_le, ← el]; exact bl.2) ?_
  rw [hj0, hj1, hl1]
  have F1 : ∀ i : Int, 0 ≤ i → i < 4000 → i ≠ ρ 2 + 2 * ρ 3 → i ≠ ρ 2 + 2 * ρ 3 + 1 → Fz (hI (hI (hI h 66 j0 x) 66 j1 v) 65 24 l1) 66 i = Fz h 66 i := fun i i0 i1 i2 i3 => by
    rw [Fz_ne (fun hz => absurd hz (by decide)), Fz_ne (fun _ => by rw [i32of (by omega) (by omega)]; omega), Fz_ne (fun _ => by rw [i32of (by omega) (by omega)]; omega)]
  have F2 : Fz (hI (hI (hI h 66 j0 x) 66 j1 v) 65 24 l1) 66 (ρ 2 + 2 * ρ 3) = x.toInt := by
    rw [Fz_ne (fun hz => absurd hz (by decide)), Fz_ne (fun _ => by rw [i32of (by omega) (by omega)]; omega), Fz_eq ej0]
  have F3 : Fz (hI (hI (hI h 66 j0 x) 66 j1 v) 65 24 l1) 66 (ρ 2 + 2 * ρ 3 + 1) = v.toInt := by
    rw [Fz_ne (fun hz => absurd hz (by decide)), Fz_eq ej1]
  have h25 : (hI (hI (hI h 66 j0 x) 66 j1 v) 65 24 l1).1 65 25 = h.1 65 25 := by
    rw [hI_jn (by decide), hI_ne (by decide), hI_ne (by decide)]
  have h24 : (hI (hI (hI h 66 j0 x) 66 j1 v) 65 24 l1).1 65 24 = l1 := hI_at
  have hN : (hI (hI (hI h 66 j0 x) 66 j1 v) 65 24 l1).1 66 4 = h.1 66 4 := by
    rw [hI_ne (by decide), hI_jn (fun hz => by rw [← hz] at ej1; omega), hI_jn (fun hz => by rw [← hz] at ej0; omega)]
  refine ⟨fun q hq => ?_, ⟨fun o j hn => ?_, fun _ _ _ => rfl, rfl⟩, _, List.mem_cons_self, ρ, Ag.rf, bdV_nil, rfl, ?_, fun f hf => absurd hf List.not_mem_nil⟩
  · rw [stRg, List.all_eq_true] at hrg
    have c := hrg q hq
    simp only [Bool.or_eq_true, Bool.and_eq_true, Bool.not_eq_true'] at c
    obtain ⟨⟨cs, c66⟩, c65⟩ := c
    have cs := ile_le cs
    have pos : ∀ k : Int, 0 ≤ k → k < q.2.2.2.1 → q.2.1 ≤ q.2.1 + q.2.2.1 * k ∧ q.2.1 + q.2.2.1 * k ≤ q.2.1 + q.2.2.1 * (q.2.2.2.1 - 1) := fun k k0 k1 => by
      have h1 := Int.mul_nonneg cs k0
      have h2 := Int.mul_le_mul_of_nonneg_left (show k ≤ q.2.2.2.1 - 1 by omega) cs
      omega
    have n66 : ∀ j : Int32, (j.toInt = ρ 2 + 2 * ρ 3 ∨ j.toInt = ρ 2 + 2 * ρ 3 + 1) → q.1 = 66 → ∀ k : Int, 0 ≤ k → k < q.2.2.2.1 → j.toInt ≠ q.2.1 + q.2.2.1 * k := by
      intro j hj hq6 k k0 k1
      have p := pos k k0 k1
      rcases c66 with (c | c) | c
      · exact absurd hq6 (nbeq c)
      · have := ile_le c
        omega
      · have e1 := ile_le c.1
        have e2 := ile_le c.2
        omega
    refine RgO.hI' (RgO.hI' (RgO.hI' (hR q hq) (n66 j0 (Or.inl ej0))) (n66 j1 (Or.inr ej1))) (fun hq5 k k0 k1 => ?_)
    rcases c65 with c | ⟨c, c'⟩
    · exact absurd hq5 (nbeq c)
    · have e1 := ile_le c
      have k00 : k = 0 := by omega
      subst k00
      rw [Int.mul_zero, c24]
      rcases c' with c' | c'
      · have := ile_le c'; omega
      · have := ile_le c'; omega
  · by_cases ho5 : o = 65
    · subst ho5
      rw [hI_jn (fun hz => hn ⟨_, List.mem_cons_self, rfl, rfl, by rw [hz]; decide, by rw [hz]; decide⟩), hI_ne (by decide), hI_ne (by decide)]
    · rw [hI_ne ho5]
      by_cases ho6 : o = 66
      · subst ho6
        have nn : ∀ z : Int32, (z.toInt = ρ 2 + 2 * ρ 3 ∨ z.toInt = ρ 2 + 2 * ρ 3 + 1) → j ≠ z := fun z hz hjz => hn ⟨_, List.mem_cons_of_mem _ List.mem_cons_self, rfl, rfl, by show (604 : Int) ≤ j.toInt; rw [hjz]; omega, by show j.toInt ≤ (3395 : Int); rw [hjz]; omega⟩
        rw [hI_jn (nn j1 (Or.inr ej1)), hI_jn (nn j0 (Or.inl ej0))]
      · rw [hI_ne ho6, hI_ne ho6]
  · show ∀ c ∈ ([(0, 65, (24, []), (1, [(3, 1)])), (4, 66, (0, []), (dg, [(4, 1)])), (6, 65, (0, []), (0, [])), (5, 66, (0, []), (0, []))] : List Kc), kcV ρ (hI (hI (hI h 66 j0 x) 66 j1 v) 65 24 l1) c
    refine List.forall_mem_cons.mpr ⟨⟨24, (leV_C ρ 24).trans c24.symm, ?_⟩, List.forall_mem_cons.mpr ⟨?_, List.forall_mem_cons.mpr ⟨⟨leV_C ρ 0, ?_⟩, List.forall_mem_cons.mpr ⟨⟨leV_C ρ 0, fun t t0 t1 t2 => ?_⟩, fun _ hq => by cases hq⟩⟩⟩⟩
    · dsimp only
      rw [h24, el1]
      show 1 + (1 * ρ 3 + 0) = ρ 3 + 1
      omega
    · show WFP (Fz (hI (hI (hI h 66 j0 x) 66 j1 v) 65 24 l1) 66) ((hI (hI (hI h 66 j0 x) 66 j1 v) 65 24 l1).1 65 25).toInt ((hI (hI (hI h 66 j0 x) 66 j1 v) 65 24 l1).1 65 24).toInt (dg + (1 * ρ 4 + 0))
      rw [h25, h24, el1, ← ea, show dg + (1 * ρ 4 + 0) = ρ 4 + dg by omega]
      have hx : x.toInt = what := by omega
      refine WFP_step (what := what) (v := v.toInt) w4 (fun i i0 i1 => F1 i (by omega) (by omega) (by omega) (by omega)) (by rw [F2, hx]) F3 (by omega) (H1 _ (by omega) (by omega)) (fun hw => ?_)
      obtain ⟨k1, k2⟩ := H2 v.toInt (by omega) (by omega) hw
      exact ⟨fun hv => ⟨by have := (k1 hv).1; omega, (k1 hv).2⟩, fun hv => ⟨by have := (k2 hv).1; omega, (k2 hv).2⟩⟩
    · show LAG _
      unfold LAG
      rw [h25, ← ea]
      exact ⟨l6, l6'⟩
    · have t2 : t < ((hI (hI (hI h 66 j0 x) 66 j1 v) 65 24 l1).1 66 4).toInt := t2
      rw [hN, ← eN] at t2
      obtain ⟨w1, w2⟩ := w5 t t0 t1 (by show t < (h.1 66 4).toInt; rw [← eN]; exact t2)
      have w1 : Fz h 66 (603 + 200 * t) ≤ 96 := w1
      show Fz _ 66 (603 + 200 * t) ≤ 96 ∧ WFP (Fz _ 66) (604 + 200 * t) (Fz _ 66 (603 + 200 * t)) 1
      rw [F1 _ (by omega) (by omega) (by omega) (by omega)]
      exact ⟨w1, WFP_cong (fun i i0 i1 => F1 i (by omega) (by omega) (by omega) (by omega)) w2⟩
set_option maxRecDepth 100000 in
theorem stRg_ok : stRg rgT = true := by decide +kernel
theorem ok_step_num : SmOK rgT sm_step_num := st_ok (what := 0) (vlo := -2147483648) (vhi := 2147483647) (glo := 0) (dg := 1) stRg_ok (by decide) (fun v _ _ _ => ⟨rfl, fun hz => absurd rfl hz⟩) (fun v _ _ hz => absurd hz (by decide))
theorem ok_step_nam : SmOK rgT sm_step_nam := st_ok (what := 1) (vlo := 0) (vhi := 127) (glo := 0) (dg := 1) stRg_ok (by decide) (fun v v0 v1 _ => ⟨rfl, fun _ => ⟨v0, by omega⟩⟩) (fun v _ _ hz => absurd hz (by decide))
theorem ok_step_not : SmOK rgT sm_step_not := st_ok (what := 2) (vlo := 33) (vhi := 33) (glo := 1) (dg := 0) stRg_ok (by decide) (fun v _ _ hz => absurd rfl hz) (fun v _ _ _ => ⟨fun _ => ⟨by decide, rfl⟩, fun hv => by omega⟩)
theorem ok_step_op : SmOK rgT sm_step_op := st_ok (what := 2) (vlo := 34) (vhi := 127) (glo := 2) (dg := -1) stRg_ok (by decide) (fun v _ _ hz => absurd rfl hz) (fun v _ _ _ => ⟨fun hv => by omega, fun _ => ⟨by decide, rfl⟩⟩)
