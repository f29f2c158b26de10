/-! By hand: the copies of the reference's places. -/
theorem RgO.hI' {h : Hp} {q : Rg} {o : Nat} {j v : Int32} (R : RgO h q) (hn : q.1 = o → ∀ k : Int, 0 ≤ k → k < q.2.2.2.1 → j.toInt ≠ q.2.1 + q.2.2.1 * k) : RgO (hI h o j v) q := by
  intro j' k k0 k1 hj
  have hR := R j' k k0 k1 hj
  show q.2.2.2.2.1 ≤ (if q.1 = o ∧ j' = j then v else h.1 q.1 j').toInt ∧ (if q.1 = o ∧ j' = j then v else h.1 q.1 j').toInt ≤ q.2.2.2.2.2
  rw [if_neg (fun hz => hn hz.1 k k0 k1 (by rw [← hz.2]; exact hj))]
  exact hR
theorem bdV_nil {ρ : Nat → Int} {k : Nat} : bdV ρ [] k := fun q hq => absurd (show q ∈ ([] : List (Nat × Int × Int)) from hq) List.not_mem_nil
theorem ibd_of {j : Int32} {n : Nat} {B : Int32} (hB : nI n = B) (a : 0 ≤ j) (b : j < B) : ibd j n := ⟨a, by rw [hB]; exact b⟩
noncomputable def rgCp (a b : Nat) (rg : List Rg) : Bool := rg.all fun q => !(Nat.beq q.1 b) || (rg.any (fun q' => Nat.beq q'.1 a && decide (q'.2 = q.2)) && ile 0 q.2.1 && ile 0 q.2.2.1 && ile (q.2.1 + q.2.2.1 * (q.2.2.2.1 - 1)) 3399)
theorem rg_copy {a b : Nat} {rg : List Rg} (chk : rgCp a b rg = true) {h h' : Hp} (e1 : ∀ o j, o ≠ b → h'.1 o j = h.1 o j) (e2 : ∀ j : Int32, 0 ≤ j.toInt → j.toInt < 3400 → h'.1 b j = h.1 a j) (hR : ∀ q ∈ rg, RgO h q) : ∀ q ∈ rg, RgO h' q := by
  intro q hq
  rw [rgCp, List.all_eq_true] at chk
  have c := chk q hq
  simp only [Bool.or_eq_true, Bool.and_eq_true, Bool.not_eq_true', List.any_eq_true, decide_eq_true_eq] at c
  intro j k k0 k1 hj
  by_cases hb : q.1 = b
  · rcases c with c | ⟨⟨⟨⟨q', m', c1, c2⟩, c3⟩, c4⟩, c5⟩
    · exact absurd hb (nbeq c)
    · have c1 := Nat.eq_of_beq_eq_true c1
      have c3 := ile_le c3
      have c4 := ile_le c4
      have c5 := ile_le c5
      have h1 := Int.mul_nonneg c4 k0
      have h2 := Int.mul_le_mul_of_nonneg_left (show k ≤ q.2.2.2.1 - 1 by omega) c4
      have hR := hR q' m' j k k0 (by rw [c2]; exact k1) (by rw [c2]; exact hj)
      rw [hb, e2 j (by omega) (by omega), ← c1, ← c2]
      exact hR
  · rw [e1 _ _ hb]
    exact hR q hq j k k0 k1 hj
theorem i32s {i B : Int32} (hi : i < B) : (i + 1).toInt = i.toInt + 1 := by
  have hB := B.toInt_lt
  have hl := i.le_toInt
  rw [Int32.lt_iff_toInt_lt] at hi
  rw [Int32.toInt_add, Int32.toInt_one, Int.bmod_eq_of_le] <;> omega
/-- the same rows of another state of the reference -/
noncomputable def rlSm2 (r r' a b : Nat) : Bool := match rlD r, rlD r' with
  | some (k, (o1, b1, s1), (o2, b2, s2), n, cv), some (k', (o1', b1', s1'), (o2', b2', s2'), n', cv') => Nat.beq k 0 && Nat.beq k' 0 && Nat.beq o1 o1' && Nat.beq o2 a && Nat.beq o2' b && iz (b1 - b1') && iz (s1 - s1') && iz (b2 - b2') && iz (s2 - s2') && iz (n - n') && Nat.beq cv cv' && ile (b2 + s2 * (n - 1) + 1) 3400 && !(Nat.beq o1 b)
  | _, _ => false
theorem rlSm2_sp {r r' a b : Nat} (g : rlSm2 r r' a b = true) : ∃ (o1 : Nat) (b1 s1 b2 s2 n : Int) (cv : Nat), rlD r = some (0, (o1, b1, s1), (a, b2, s2), n, cv) ∧ rlD r' = some (0, (o1, b1, s1), (b, b2, s2), n, cv) ∧ b2 + s2 * (n - 1) + 1 ≤ 3400 ∧ o1 ≠ b := by
  unfold rlSm2 at g
  split at g
  · rename_i k o1 b1 s1 o2 b2 s2 n cv k' o1' b1' s1' o2' b2' s2' n' cv' h1 h2
    simp only [Bool.and_eq_true, Bool.not_eq_true'] at g
    obtain ⟨⟨⟨⟨⟨⟨⟨⟨⟨⟨⟨⟨g1, g2⟩, g3⟩, g4⟩, g5⟩, g6⟩, g7⟩, g8⟩, g9⟩, g10⟩, g11⟩, g12⟩, g13⟩ := g
    have g6 := iz_eq g6
    have g7 := iz_eq g7
    have g8 := iz_eq g8
    have g9 := iz_eq g9
    have g10 := iz_eq g10
    have e1 : k = 0 := Nat.eq_of_beq_eq_true g1
    have e2 : k' = 0 := Nat.eq_of_beq_eq_true g2
    have e3 : o1 = o1' := Nat.eq_of_beq_eq_true g3
    have e4 : o2 = a := Nat.eq_of_beq_eq_true g4
    have e5 : o2' = b := Nat.eq_of_beq_eq_true g5
    have e6 : b1' = b1 := by omega
    have e7 : s1' = s1 := by omega
    have e8 : b2' = b2 := by omega
    have e9 : s2' = s2 := by omega
    have e10 : n' = n := by omega
    have e11 : cv = cv' := Nat.eq_of_beq_eq_true g11
    subst e1 e2 e3 e4 e5 e6 e7 e8 e9 e10 e11
    exact ⟨_, _, _, _, _, _, _, h1, h2, ile_le g12, nbeq g13⟩
  · cases g
theorem celG_mem : ∀ {gs : List Gen} {n i k o : Nat} {e : LE} {b : Int × Int}, gs[i]? = some ((1, k, o, e), b) → (k, o, e, leX (n + i)) ∈ celG n gs
  | [], _, _, _, _, _, _, h => by simp at h
  | g :: r, n, 0, k, o, e, b, h => by
    simp only [List.getElem?_cons_zero, Option.some.injEq] at h
    subst h
    exact List.mem_cons_self
  | g :: r, n, i + 1, k, o, e, b, h => by
    simp only [List.getElem?_cons_succ] at h
    have ih := celG_mem (n := n + 1) h
    rw [show n + 1 + i = n + (i + 1) by omega] at ih
    unfold celG
    split
    · rename_i heq; cases heq
    · rename_i heq; cases heq; exact List.mem_cons_of_mem _ ih
    · rename_i heq; cases heq; exact ih
theorem gbL_mem : ∀ {gs : List Gen} {n i : Nat} {g : Gen}, gs[i]? = some g → (n + i, g.2.1, g.2.2) ∈ gbL gs n
  | [], _, _, _, h => by simp at h
  | g :: r, n, 0, _, h => by
    simp only [List.getElem?_cons_zero, Option.some.injEq] at h
    subst h
    exact List.mem_cons_self
  | g :: r, n, i + 1, q, h => by
    simp only [List.getElem?_cons_succ] at h
    have ih := gbL_mem (n := n + 1) h
    rw [show n + 1 + i = n + (i + 1) by omega] at ih
    exact List.mem_cons_of_mem _ ih
/-- who is barred, of the same state of the class and another one of the reference -/
noncomputable def bgSm (p q a b : Nat) : Bool := Nat.beq (bgC p) (bgC q) && (Nat.beq (bgR p) a && (Nat.beq (bgR q) b && (Nat.blt p 12 && Nat.blt q 12)))
/-- other things that are sure of a state of the reference, of another one -/
noncomputable def xsSm (k p q a b : Nat) : Bool := match k with
  | 14 => Nat.beq (ubC p) a && (Nat.beq (ubC q) b && (Nat.beq (p / 4) (q / 4) && Nat.ble (p / 4) 4))
  | 15 => Nat.beq (smC p) (smC q) && (Nat.beq (bgR p) a && (Nat.beq (bgR q) b && Nat.blt p 12))
  | 16 => Nat.beq (ubC p) a && Nat.beq (ubC q) b
  | 17 => Nat.beq (ubC p) a && Nat.beq (ubC q) b
  | _ => false
theorem xs_copy {k p q a b : Nat} {h h' : Hp} {x x' y : Int} (g : xsSm k p q a b = true) (e1 : ∀ o j, o ≠ b → h'.1 o j = h.1 o j) (e2 : ∀ j : Int32, 0 ≤ j.toInt → j.toInt < 3400 → h'.1 b j = h.1 a j) (w : KC h k p x y) : KC h' k q x' y := by
  have ev : ∀ i : Int, 0 ≤ i → i < 3400 → rlV h' 0 b i = rlV h 0 a i := fun i i0 i1 => by
    show (h'.1 b _).toInt = (h.1 a _).toInt
    rw [e2 _ (by rw [i32of (by omega) (by omega)]; exact i0) (by rw [i32of (by omega) (by omega)]; exact i1)]
  unfold xsSm at g
  split at g
  · simp only [Bool.and_eq_true] at g
    obtain ⟨g1, g2, g3, g4⟩ := g
    have g1 : ubC p = a := Nat.eq_of_beq_eq_true g1
    have g2 : ubC q = b := Nat.eq_of_beq_eq_true g2
    have g3 : p / 4 = q / 4 := Nat.eq_of_beq_eq_true g3
    have g4 := Nat.le_of_ble_eq_true g4
    have r1 : ubR p = a := by
      unfold ubR
      rw [if_neg (fun z => by have := Nat.eq_of_beq_eq_true z; omega)]
      exact g1
    have r2 : ubR q = b := by
      unfold ubR
      rw [if_neg (fun z => by have := Nat.eq_of_beq_eq_true z; omega)]
      exact g2
    obtain ⟨bb, s, n, c1, w0, c2, hd, K⟩ := w
    rw [g1, r1] at K
    have B := ubL_ok _ (List.mem_of_getElem? hd)
    dsimp only at B
    have B0 : bb + s * n < 3400 := by
      have : p / 4 = 0 ∨ p / 4 = 1 ∨ p / 4 = 2 ∨ p / 4 = 3 ∨ p / 4 = 4 := by omega
      rcases this with z | z | z | z | z <;> (rw [z] at hd; cases hd; decide)
    refine ⟨bb, s, n, c1, w0, c2, by rw [← g3]; exact hd, fun t t0 t1 t2 => ?_⟩
    rw [g2, ev _ (by omega) (by omega)] at t2
    have h1 := Int.mul_nonneg (Int.le_of_lt B.2.1) t0
    have h2 := Int.mul_le_mul_of_nonneg_left (show t ≤ n by omega) (Int.le_of_lt B.2.1)
    rw [g2, r2, ev _ (by omega) (by omega), ev _ (by omega) (by omega)]
    exact K t t0 t1 t2
  · simp only [Bool.and_eq_true] at g
    obtain ⟨g1, g2, g3, g4⟩ := g
    have g1 : smC p = smC q := Nat.eq_of_beq_eq_true g1
    have g2 : bgR p = a := Nat.eq_of_beq_eq_true g2
    have g3 : bgR q = b := Nat.eq_of_beq_eq_true g3
    have g4 := bltT g4
    have K : SMO h p y := w
    intro t t0 t1 t2
    have ec : ∀ i : Int, rlV h' 0 (smC q) i = rlV h 0 (smC p) i := fun i => by
      rw [← g1]
      show (h'.1 _ _).toInt = (h.1 _ _).toInt
      rw [e1 _ _ (fun z => by rw [← g3] at z; unfold smC bgR at z; omega)]
    obtain ⟨w1, w2, w3, w4, w5, w6⟩ := K t t0 t1 t2
    rw [g2] at w5
    rw [ec, ec, g3, ev _ (by omega) (by omega)]
    refine ⟨w1, w2, w3, w4, w5, fun i i0 i1 => ?_⟩
    have w6 := w6 i i0 i1
    rw [g2] at w6
    rw [ec, ev _ (by omega) (by omega), ev _ (by omega) (by omega)]
    exact w6
  · rw [Bool.and_eq_true] at g
    have g1 : ubC p = a := Nat.eq_of_beq_eq_true g.1
    have g2 : ubC q = b := Nat.eq_of_beq_eq_true g.2
    obtain ⟨y0, K⟩ := w
    refine ⟨y0, fun k k0 k1 => ?_⟩
    have en : plN h' q k = plN h p k := List.countP_congr (fun i hi => by
      have hi := List.mem_range.mp hi
      unfold plB
      rw [g1, g2, ev _ (by omega) (by omega), ev _ (by omega) (by omega)])
    have K := K k k0 k1
    rw [g1] at K
    rw [en, g2, ev _ (by omega) (by omega)]
    exact K
  · rw [Bool.and_eq_true] at g
    have g1 : ubC p = a := Nat.eq_of_beq_eq_true g.1
    have g2 : ubC q = b := Nat.eq_of_beq_eq_true g.2
    have K : FRO h p y := w
    intro t t0 t1 t2 t3
    have K := K t t0 t1
    rw [g1] at K
    rw [g2, ev _ (by omega) (by omega)] at t2 t3
    rw [g2, ev _ (by omega) (by omega)]
    exact K t2 t3
  · cases g
noncomputable abbrev Xs : Type := Nat × Nat × Nat × Int × Int
noncomputable def sAm (a b : Nat) (rs bs : List (Nat × Nat)) (xs : List Xs) : Sm := (260, 1, [(2, 65, 0), (2, (a : Int), 0), (2, (b : Int), 0)], [((1, 0, a, (0, [])), (-2147483648), 2147483647), ((1, 0, a, (1, [])), (-2147483648), 2147483647), ((1, 0, a, (2, [])), (-2147483648), 2147483647), ((1, 0, a, (3, [])), (-2147483648), 2147483647), ((1, 0, a, (4, [])), (-2147483648), 2147483647), ((1, 0, a, (5, [])), (-2147483648), 2147483647), ((1, 0, a, (6, [])), (-2147483648), 2147483647), ((1, 5, a, (0, [])), 0, 0)] ++ rs.map (fun q => ((1, 9, q.1, (0, [])), 0, 0)) ++ bs.map (fun q => ((1, 12, q.1, (0, [])), 0, 10)) ++ xs.map (fun q => ((1, q.1, q.2.1, (0, [])), q.2.2.2.1, q.2.2.2.2)), [], [(0, b, 0, 3399)], [([], none, [(0, b, (0, []), (0, [(0, 1)])), (0, b, (1, []), (0, [(1, 1)])), (0, b, (2, []), (0, [(2, 1)])), (0, b, (3, []), (0, [(3, 1)])), (0, b, (4, []), (0, [(4, 1)])), (0, b, (5, []), (0, [(5, 1)])), (0, b, (6, []), (0, [(6, 1)])), (5, b, (0, []), (0, []))] ++ rs.map (fun q => (9, q.2, (0, []), (0, []))) ++ bs.zipIdx.map (fun q => (12, q.1.2, (0, []), (0, [(8 + rs.length + q.2, 1)]))) ++ xs.zipIdx.map (fun q => (q.1.1, q.1.2.2.1, (0, []), (0, [(8 + rs.length + bs.length + q.2, 1)]))), [])])
theorem sA_ok {rg : List Rg} {a b : Nat} {rs bs : List (Nat × Nat)} {xs : List Xs} (hxs : xs.all (fun q => xsSm q.1 q.2.1 q.2.2.1 a b) = true) (hrs : rs.all (fun q => rlSm2 q.1 q.2 a b) = true) (hbs : bs.all (fun q => bgSm q.1 q.2 a b) = true) (hcp : rgCp a b rg = true) (hc : ∀ (d : Nat) (Q : Option Value → Hp → Prop) (h : Hp), (∀ h', (∀ o j, o ≠ b → h'.1 o j = h.1 o j) → (∀ j : Int32, 0 ≤ j.toInt → j.toInt < 3400 → h'.1 b j = h.1 a j) → (∀ j : Int32, ¬ (0 ≤ j.toInt ∧ j.toInt < 3400) → h'.1 b j = h.1 b j) → h'.2 = h.2 → Q none h') → Call (d + 1) 260 [.ref 65, .ref a, .ref b] h Q) : SmOK rg (sAm a b rs bs xs) := by
  intro d hd ρ as h hin hb hk hf hR
  have hd : 1 ≤ d := hd
  obtain ⟨d', rfl⟩ : ∃ d', d = d' + 1 := ⟨d - 1, by omega⟩
  obtain ⟨v1, s1, rfl, hin⟩ := hin
  rw [if_pos rfl] at hin
  obtain ⟨rfl, -, v2, s2, rfl, hin⟩ := hin
  rw [if_pos rfl] at hin
  obtain ⟨rfl, -, v3, s3, rfl, hin⟩ := hin
  rw [if_pos rfl] at hin
  obtain ⟨rfl, -, hin⟩ := hin
  cases hin
  show Call (d' + 1) 260 [.ref 65, .ref (a : Int).toNat, .ref (b : Int).toNat] h _
  rw [Int.toNat_natCast, Int.toNat_natCast]
  refine hc d' _ h (fun h' e1 e2 e3 e4 => ⟨rg_copy hcp e1 e2 hR, ⟨fun o j hn => ?_, fun o j _ => by rw [e4], by rw [e4]⟩, _, List.mem_cons_self, ρ, Ag.rf, bdV_nil, rfl, ?_, fun f hf => absurd hf List.not_mem_nil⟩)
  · by_cases ho : o = b
    · subst ho
      refine e3 j (fun hz => hn ⟨_, List.mem_cons_self, rfl, rfl, hz.1, ?_⟩)
      have := hz.2
      show j.toInt ≤ 3399
      omega
    · exact e1 o j ho
  · have cp : ∀ (c : Int) (k : Nat), 0 ≤ c → c < 3400 → kcV ρ h (0, a, (c, []), leX k) → kcV ρ h' (0, b, (c, []), (0, [(k, 1)])) := by
      rintro c k c0 c1 ⟨j, j1, j2⟩
      have ec : leV ρ ((c, []) : LE) = c := leV_C ρ c
      dsimp only at j1 j2
      rw [ec] at j1
      refine ⟨j, by dsimp only; rw [ec]; exact j1, ?_⟩
      dsimp only
      rw [e2 j (by omega) (by omega)]
      exact j2
    have hg : ∀ (k o : Nat) (e : LE) (i : Nat) (b' : Int × Int), (sAm a b rs bs xs).2.2.2.1[i]? = some ((1, k, o, e), b') → kcV ρ h (k, o, e, leX (0 + i)) := fun k o e i b' hki => hk _ (celG_mem hki)
    show ∀ c ∈ ([(0, b, (0, []), (0, [(0, 1)])), (0, b, (1, []), (0, [(1, 1)])), (0, b, (2, []), (0, [(2, 1)])), (0, b, (3, []), (0, [(3, 1)])), (0, b, (4, []), (0, [(4, 1)])), (0, b, (5, []), (0, [(5, 1)])), (0, b, (6, []), (0, [(6, 1)])), (5, b, (0, []), (0, []))] ++ rs.map (fun q => (9, q.2, (0, []), (0, []))) ++ bs.zipIdx.map (fun q => (12, q.1.2, (0, []), (0, [(8 + rs.length + q.2, 1)]))) ++ xs.zipIdx.map (fun q => (q.1.1, q.1.2.2.1, (0, []), (0, [(8 + rs.length + bs.length + q.2, 1)]))) : List Kc), kcV ρ h' c
    have e1o := e1
    intro c hc
    rcases List.mem_append.mp hc with hc | hc
    case inr =>
      obtain ⟨⟨q, i⟩, hq, rfl⟩ := List.mem_map.mp hc
      have hqi := List.mem_zipIdx_iff_getElem?.mp hq
      have hs := List.all_eq_true.mp hxs q (List.mem_of_getElem? hqi)
      have hgi : (sAm a b rs bs xs).2.2.2.1[8 + rs.length + bs.length + i]? = some ((1, q.1, q.2.1, (0, [])), q.2.2.2.1, q.2.2.2.2) := by
        show (((([_, _, _, _, _, _, _, _] : List Gen) ++ rs.map (fun q => ((1, 9, q.1, (0, [])), 0, 0))) ++ bs.map (fun q => ((1, 12, q.1, (0, [])), 0, 10))) ++ xs.map (fun q => ((1, q.1, q.2.1, (0, [])), q.2.2.2.1, q.2.2.2.2)))[8 + rs.length + bs.length + i]? = _
        rw [List.getElem?_append_right (by simp only [List.length_append, List.length_map, List.length_cons, List.length_nil]; omega), List.length_append, List.length_append, List.length_map, List.length_map]
        simp only [List.length_cons, List.length_nil]
        rw [show 8 + rs.length + bs.length + i - (0 + 1 + 1 + 1 + 1 + 1 + 1 + 1 + 1 + rs.length + bs.length) = i by omega, List.getElem?_map, hqi]
        rfl
      have w := hg _ _ _ _ _ hgi
      unfold kcV at w ⊢
      dsimp only at w ⊢
      rw [Nat.zero_add] at w
      exact xs_copy hs e1o e2 w
    rcases List.mem_append.mp hc with hc | hc
    case inr =>
      obtain ⟨⟨q, i⟩, hq, rfl⟩ := List.mem_map.mp hc
      have hqi := List.mem_zipIdx_iff_getElem?.mp hq
      have hs := List.all_eq_true.mp hbs q (List.mem_of_getElem? hqi)
      simp only [bgSm, Bool.and_eq_true] at hs
      obtain ⟨f1, f2, f3, f4, f5⟩ := hs
      have f1 := Nat.eq_of_beq_eq_true f1
      have f2 := Nat.eq_of_beq_eq_true f2
      have f3 := Nat.eq_of_beq_eq_true f3
      have f4 := bltT f4
      have f5 := bltT f5
      have hgi : (sAm a b rs bs xs).2.2.2.1[8 + rs.length + i]? = some ((1, 12, q.1, (0, [])), 0, 10) := by
        show (((([_, _, _, _, _, _, _, _] : List Gen) ++ rs.map (fun q => ((1, 9, q.1, (0, [])), 0, 0))) ++ bs.map (fun q => ((1, 12, q.1, (0, [])), 0, 10))) ++ xs.map (fun q => ((1, q.1, q.2.1, (0, [])), q.2.2.2.1, q.2.2.2.2)))[8 + rs.length + i]? = _
        have hib : i < bs.length := (List.getElem?_eq_some_iff.mp hqi).1
        rw [List.getElem?_append_left (by simp only [List.length_append, List.length_map, List.length_cons, List.length_nil]; omega)]
        rw [List.getElem?_append_right (by simp only [List.length_append, List.length_map, List.length_cons, List.length_nil]; omega), List.length_append, List.length_map]
        simp only [List.length_cons, List.length_nil]
        rw [show 8 + rs.length + i - (0 + 1 + 1 + 1 + 1 + 1 + 1 + 1 + 1 + rs.length) = i by omega, List.getElem?_map, hqi]
        rfl
      obtain ⟨w1, w2⟩ := hg _ _ _ _ _ hgi
      dsimp only at w1 w2
      rw [Nat.zero_add] at w2
      refine ⟨by dsimp only; omega, fun x y x0 x1 y0 y1 => ?_⟩
      have g := w2 x y x0 x1 y0 y1
      dsimp only
      have ey : leV ρ ((0, [(8 + rs.length + i, 1)]) : LE) = leV ρ (leX (8 + rs.length + i)) := rfl
      rw [ey]
      have ec : rlV h' 0 (bgC q.2) (12 + 14 * x) = rlV h 0 (bgC q.1) (12 + 14 * x) := by
        rw [← f1]
        show (h'.1 (bgC q.1) _).toInt = _
        rw [e1o _ _ (fun z => by rw [← f3] at z; exact bg_ne f4 z)]
        rfl
      have er : ∀ x y : Int, 0 ≤ x → x < 10 → 0 ≤ y → y < 10 → rlV h' 0 (bgR q.2) (200 + 10 * x + y) = rlV h 0 (bgR q.1) (200 + 10 * x + y) := fun x y x0 x1 y0 y1 => by
        rw [f2, f3]
        show (h'.1 b _).toInt = _
        rw [e2 _ (by rw [i32of (by omega) (by omega)]; omega) (by rw [i32of (by omega) (by omega)]; omega)]
        rfl
      rw [ec, er x y x0 x1 y0 y1, er y x y0 y1 x0 x1]
      exact g
    rcases List.mem_append.mp hc with hc | hc
    case inr =>
      obtain ⟨q, hq, rfl⟩ := List.mem_map.mp hc
      have hs := List.all_eq_true.mp hrs q hq
      obtain ⟨o1, b1, s1, b2, s2, n, cv, e1, e2', e3', e4'⟩ := rlSm2_sp hs
      obtain ⟨i, hi, hqi⟩ := List.getElem_of_mem hq
      have hgi : (sAm a b rs bs xs).2.2.2.1[8 + i]? = some ((1, 9, q.1, (0, [])), 0, 0) := by
        show ((([_, _, _, _, _, _, _, _] : List Gen) ++ rs.map (fun q => ((1, 9, q.1, (0, [])), 0, 0)) ++ bs.map (fun q => ((1, 12, q.1, (0, [])), 0, 10))) ++ xs.map (fun q => ((1, q.1, q.2.1, (0, [])), q.2.2.2.1, q.2.2.2.2)))[8 + i]? = _
        rw [List.getElem?_append_left (by simp only [List.length_append, List.length_map, List.length_cons, List.length_nil]; omega)]
        rw [List.getElem?_append_left (by simp only [List.length_append, List.length_map, List.length_cons, List.length_nil]; omega)]
        rw [List.getElem?_append_right (by simp), List.length_cons, List.length_cons, List.length_cons, List.length_cons, List.length_cons, List.length_cons, List.length_cons, List.length_cons, List.length_nil, Nat.add_sub_cancel_left, List.getElem?_map, List.getElem?_eq_getElem hi, hqi]
        rfl
      have w := hg _ _ _ _ _ hgi
      have bq := hb _ (gbL_mem (n := nonR (sAm a b rs bs xs).2.2.1) hgi)
      obtain ⟨k', o1', b1', s1', o2', b2', s2', n', cv', hd', w⟩ := w
      dsimp only at hd' w bq
      rw [e1] at hd'
      cases hd'
      obtain ⟨d0, d1, d2, d3, d4, d5, d6⟩ := rlD_ok e1
      refine ⟨0, o1, b1, s1, b, b2, s2, n, cv, e2', fun t t0 t1 _ => ?_⟩
      have h4 := Int.mul_nonneg (Int.le_of_lt d4) t0
      have h5 := Int.mul_le_mul_of_nonneg_left (show t ≤ n - 1 by omega) (Int.le_of_lt d4)
      have ei : (Int32.ofInt (b2 + s2 * t)).toInt = b2 + s2 * t := i32of (by omega) (by omega)
      have hz : leV ρ (leX (0 + (8 + i))) ≤ 0 := by rw [leV_X, Nat.zero_add]; have := bq.2; rw [show nonR (sAm a b rs bs xs).2.2.1 = 0 from rfl, Nat.zero_add] at this; exact this
      have := w t t0 t1 (Or.inr (by omega))
      have eo1 : rlV h' 0 o1 (b1 + s1 * t) = rlV h 0 o1 (b1 + s1 * t) := by
        show (h'.1 o1 _).toInt = _
        rw [e1o o1 _ e4']
        rfl
      have eo2 : rlV h' 0 b (b2 + s2 * t) = rlV h 0 a (b2 + s2 * t) := by
        show (h'.1 b _).toInt = _
        rw [e2 _ (by omega) (by omega)]
        rfl
      rw [eo1, eo2]
      exact this
    suffices H : ∀ c ∈ ([(0, b, (0, []), (0, [(0, 1)])), (0, b, (1, []), (0, [(1, 1)])), (0, b, (2, []), (0, [(2, 1)])), (0, b, (3, []), (0, [(3, 1)])), (0, b, (4, []), (0, [(4, 1)])), (0, b, (5, []), (0, [(5, 1)])), (0, b, (6, []), (0, [(6, 1)])), (5, b, (0, []), (0, []))] : List Kc), kcV ρ h' c from H c hc
    refine List.forall_mem_cons.mpr ⟨cp 0 0 (by decide) (by decide) (hg 0 a (0, []) 0 _ rfl), List.forall_mem_cons.mpr ⟨cp 1 1 (by decide) (by decide) (hg 0 a (1, []) 1 _ rfl), List.forall_mem_cons.mpr ⟨cp 2 2 (by decide) (by decide) (hg 0 a (2, []) 2 _ rfl), List.forall_mem_cons.mpr ⟨cp 3 3 (by decide) (by decide) (hg 0 a (3, []) 3 _ rfl), List.forall_mem_cons.mpr ⟨cp 4 4 (by decide) (by decide) (hg 0 a (4, []) 4 _ rfl), List.forall_mem_cons.mpr ⟨cp 5 5 (by decide) (by decide) (hg 0 a (5, []) 5 _ rfl), List.forall_mem_cons.mpr ⟨cp 6 6 (by decide) (by decide) (hg 0 a (6, []) 6 _ rfl), List.forall_mem_cons.mpr ⟨?_, fun _ hq => by cases hq⟩⟩⟩⟩⟩⟩⟩⟩
    obtain ⟨-, w⟩ := hg 5 a (0, []) 7 _ rfl
    refine ⟨leV_C ρ 0, fun t t0 t1 t2 => ?_⟩
    have eF : ∀ i : Int, 0 ≤ i → i < 3400 → Fz h' b i = Fz h a i := fun i i0 i1 => by
      unfold Fz
      rw [e2 _ (by rw [i32of (by omega) (by omega)]; exact i0) (by rw [i32of (by omega) (by omega)]; exact i1)]
    have e4' : h'.1 b 4 = h.1 a 4 := e2 4 (by decide) (by decide)
    have t2 : t < (h'.1 b 4).toInt := t2
    rw [e4'] at t2
    obtain ⟨w1, w2⟩ := w t t0 t1 t2
    have w1 : Fz h a (603 + 200 * t) ≤ 96 := w1
    show Fz h' b (603 + 200 * t) ≤ 96 ∧ WFP (Fz h' b) (604 + 200 * t) (Fz h' b (603 + 200 * t)) 1
    rw [eF _ (by omega) (by omega)]
    exact ⟨w1, WFP_cong (fun i i0 i1 => eF i (by omega) (by omega)) w2⟩
theorem c_setA_66_68 {d : Nat} {Q : Option Value → Hp → Prop} {h : Hp} (k : ∀ h', (∀ o j, o ≠ 68 → h'.1 o j = h.1 o j) → (∀ j : Int32, 0 ≤ j.toInt → j.toInt < 3400 → h'.1 68 j = h.1 66 j) → (∀ j : Int32, ¬ (0 ≤ j.toInt ∧ j.toInt < 3400) → h'.1 68 j = h.1 68 j) → h'.2 = h.2 → Q none h') : Call (d + 1) 260 [.ref 65, .ref 66, .ref 68] h Q := by
  refine call_of (rfl : psM[260]? = some _) rfl rfl (rcvV rfl) (fun X hX => ?_)
  show X (0, [some (.ref 65), some (.ref 66), some (.ref 68), none], [], h)
  have hc34 : (3400 : Int32).toInt = 3400 := rfl
  have hc0 : (0 : Int32).toInt = 0 := rfl
  have key : ∀ i : Int32, 0 ≤ i → i ≤ 3400 → ∀ h1 : Hp, (∀ o j, o ≠ 68 → h1.1 o j = h.1 o j) → (∀ j : Int32, 0 ≤ j.toInt → j.toInt < i.toInt → h1.1 68 j = h.1 66 j) → (∀ j : Int32, ¬ (0 ≤ j.toInt ∧ j.toInt < i.toInt) → h1.1 68 j = h.1 68 j) → h1.2 = h.2 → X (2, [some (.ref 65), some (.ref 66), some (.ref 68), some (.int i)], [], h1) := by
    refine up_ind 3400 (fun i i0 i1 ih h1 e1 e2 e3 e4 => ?_)
    refine go hX 3 (gs := [True, True, True]) (z' := (if 3400 ≤ i then 21 else 9, [some (.ref 65), some (.ref 66), some (.ref 68), some (.int i)], [], h1)) rfl ⟨trivial, trivial, trivial, trivial⟩ ?_
    refine br (fun hc => ?_) (fun hc => ?_)
    · have hi : i.toInt = 3400 := by
        rw [Int32.le_iff_toInt_le] at hc i1
        omega
      rw [hi] at e2 e3
      exact rt_ hX (G := True) (r := none) rfl trivial (k h1 e1 e2 e3 e4)
    · have hlt : i < 3400 := by
        rw [Int32.le_iff_toInt_le] at hc
        rw [Int32.lt_iff_toInt_lt]
        omega
      have hi1 := i32s hlt
      refine go hX 8 (gs := [True, True, ibd i 3400, ibd i 3400, True, True, True, True]) (z' := (2, [some (.ref 65), some (.ref 66), some (.ref 68), some (.int (i + 1))], [], hI h1 68 i (h1.1 66 i))) rfl ⟨trivial, trivial, ⟨i0, hlt⟩, ⟨i0, hlt⟩, trivial, trivial, trivial, trivial, trivial⟩ ?_
      refine ih hlt _ (fun o j ho => ?_) (fun j a b => ?_) (fun j hj => ?_) ?_
      · rw [hI_ne ho]
        exact e1 o j ho
      · by_cases hji : j = i
        · subst hji
          rw [hI_at]
          exact e1 66 j (by decide)
        · rw [hI_jn hji]
          have : j.toInt ≠ i.toInt := fun hz => hji (Int32.toInt_inj.mp hz)
          exact e2 j a (by omega)
      · have i0' : 0 ≤ i.toInt := by rw [Int32.le_iff_toInt_le] at i0; exact i0
        rw [hI_jn (fun hz => hj (by rw [hz]; omega))]
        exact e3 j (fun hz => hj (by omega))
      · exact e4
  exact go hX 2 (gs := [True, True]) (z' := (2, [some (.ref 65), some (.ref 66), some (.ref 68), some (.int 0)], [], h)) rfl ⟨trivial, trivial, trivial⟩ (key 0 (by decide) (by decide) h (fun _ _ _ => rfl) (fun j a b => by omega) (fun _ _ => rfl) rfl)

theorem c_setA_67_66 {d : Nat} {Q : Option Value → Hp → Prop} {h : Hp} (k : ∀ h', (∀ o j, o ≠ 66 → h'.1 o j = h.1 o j) → (∀ j : Int32, 0 ≤ j.toInt → j.toInt < 3400 → h'.1 66 j = h.1 67 j) → (∀ j : Int32, ¬ (0 ≤ j.toInt ∧ j.toInt < 3400) → h'.1 66 j = h.1 66 j) → h'.2 = h.2 → Q none h') : Call (d + 1) 260 [.ref 65, .ref 67, .ref 66] h Q := by
  refine call_of (rfl : psM[260]? = some _) rfl rfl (rcvV rfl) (fun X hX => ?_)
  show X (0, [some (.ref 65), some (.ref 67), some (.ref 66), none], [], h)
  have hc34 : (3400 : Int32).toInt = 3400 := rfl
  have hc0 : (0 : Int32).toInt = 0 := rfl
  have key : ∀ i : Int32, 0 ≤ i → i ≤ 3400 → ∀ h1 : Hp, (∀ o j, o ≠ 66 → h1.1 o j = h.1 o j) → (∀ j : Int32, 0 ≤ j.toInt → j.toInt < i.toInt → h1.1 66 j = h.1 67 j) → (∀ j : Int32, ¬ (0 ≤ j.toInt ∧ j.toInt < i.toInt) → h1.1 66 j = h.1 66 j) → h1.2 = h.2 → X (2, [some (.ref 65), some (.ref 67), some (.ref 66), some (.int i)], [], h1) := by
    refine up_ind 3400 (fun i i0 i1 ih h1 e1 e2 e3 e4 => ?_)
    refine go hX 3 (gs := [True, True, True]) (z' := (if 3400 ≤ i then 21 else 9, [some (.ref 65), some (.ref 67), some (.ref 66), some (.int i)], [], h1)) rfl ⟨trivial, trivial, trivial, trivial⟩ ?_
    refine br (fun hc => ?_) (fun hc => ?_)
    · have hi : i.toInt = 3400 := by
        rw [Int32.le_iff_toInt_le] at hc i1
        omega
      rw [hi] at e2 e3
      exact rt_ hX (G := True) (r := none) rfl trivial (k h1 e1 e2 e3 e4)
    · have hlt : i < 3400 := by
        rw [Int32.le_iff_toInt_le] at hc
        rw [Int32.lt_iff_toInt_lt]
        omega
      have hi1 := i32s hlt
      refine go hX 8 (gs := [True, True, ibd i 3400, ibd i 3400, True, True, True, True]) (z' := (2, [some (.ref 65), some (.ref 67), some (.ref 66), some (.int (i + 1))], [], hI h1 66 i (h1.1 67 i))) rfl ⟨trivial, trivial, ⟨i0, hlt⟩, ⟨i0, hlt⟩, trivial, trivial, trivial, trivial, trivial⟩ ?_
      refine ih hlt _ (fun o j ho => ?_) (fun j a b => ?_) (fun j hj => ?_) ?_
      · rw [hI_ne ho]
        exact e1 o j ho
      · by_cases hji : j = i
        · subst hji
          rw [hI_at]
          exact e1 67 j (by decide)
        · rw [hI_jn hji]
          have : j.toInt ≠ i.toInt := fun hz => hji (Int32.toInt_inj.mp hz)
          exact e2 j a (by omega)
      · have i0' : 0 ≤ i.toInt := by rw [Int32.le_iff_toInt_le] at i0; exact i0
        rw [hI_jn (fun hz => hj (by rw [hz]; omega))]
        exact e3 j (fun hz => hj (by omega))
      · exact e4
  exact go hX 2 (gs := [True, True]) (z' := (2, [some (.ref 65), some (.ref 67), some (.ref 66), some (.int 0)], [], h)) rfl ⟨trivial, trivial, trivial⟩ (key 0 (by decide) (by decide) h (fun _ _ _ => rfl) (fun j a b => by omega) (fun _ _ => rfl) rfl)

theorem c_setA_68_66 {d : Nat} {Q : Option Value → Hp → Prop} {h : Hp} (k : ∀ h', (∀ o j, o ≠ 66 → h'.1 o j = h.1 o j) → (∀ j : Int32, 0 ≤ j.toInt → j.toInt < 3400 → h'.1 66 j = h.1 68 j) → (∀ j : Int32, ¬ (0 ≤ j.toInt ∧ j.toInt < 3400) → h'.1 66 j = h.1 66 j) → h'.2 = h.2 → Q none h') : Call (d + 1) 260 [.ref 65, .ref 68, .ref 66] h Q := by
  refine call_of (rfl : psM[260]? = some _) rfl rfl (rcvV rfl) (fun X hX => ?_)
  show X (0, [some (.ref 65), some (.ref 68), some (.ref 66), none], [], h)
  have hc34 : (3400 : Int32).toInt = 3400 := rfl
  have hc0 : (0 : Int32).toInt = 0 := rfl
  have key : ∀ i : Int32, 0 ≤ i → i ≤ 3400 → ∀ h1 : Hp, (∀ o j, o ≠ 66 → h1.1 o j = h.1 o j) → (∀ j : Int32, 0 ≤ j.toInt → j.toInt < i.toInt → h1.1 66 j = h.1 68 j) → (∀ j : Int32, ¬ (0 ≤ j.toInt ∧ j.toInt < i.toInt) → h1.1 66 j = h.1 66 j) → h1.2 = h.2 → X (2, [some (.ref 65), some (.ref 68), some (.ref 66), some (.int i)], [], h1) := by
    refine up_ind 3400 (fun i i0 i1 ih h1 e1 e2 e3 e4 => ?_)
    refine go hX 3 (gs := [True, True, True]) (z' := (if 3400 ≤ i then 21 else 9, [some (.ref 65), some (.ref 68), some (.ref 66), some (.int i)], [], h1)) rfl ⟨trivial, trivial, trivial, trivial⟩ ?_
    refine br (fun hc => ?_) (fun hc => ?_)
    · have hi : i.toInt = 3400 := by
        rw [Int32.le_iff_toInt_le] at hc i1
        omega
      rw [hi] at e2 e3
      exact rt_ hX (G := True) (r := none) rfl trivial (k h1 e1 e2 e3 e4)
    · have hlt : i < 3400 := by
        rw [Int32.le_iff_toInt_le] at hc
        rw [Int32.lt_iff_toInt_lt]
        omega
      have hi1 := i32s hlt
      refine go hX 8 (gs := [True, True, ibd i 3400, ibd i 3400, True, True, True, True]) (z' := (2, [some (.ref 65), some (.ref 68), some (.ref 66), some (.int (i + 1))], [], hI h1 66 i (h1.1 68 i))) rfl ⟨trivial, trivial, ⟨i0, hlt⟩, ⟨i0, hlt⟩, trivial, trivial, trivial, trivial, trivial⟩ ?_
      refine ih hlt _ (fun o j ho => ?_) (fun j a b => ?_) (fun j hj => ?_) ?_
      · rw [hI_ne ho]
        exact e1 o j ho
      · by_cases hji : j = i
        · subst hji
          rw [hI_at]
          exact e1 68 j (by decide)
        · rw [hI_jn hji]
          have : j.toInt ≠ i.toInt := fun hz => hji (Int32.toInt_inj.mp hz)
          exact e2 j a (by omega)
      · have i0' : 0 ≤ i.toInt := by rw [Int32.le_iff_toInt_le] at i0; exact i0
        rw [hI_jn (fun hz => hj (by rw [hz]; omega))]
        exact e3 j (fun hz => hj (by omega))
      · exact e4
  exact go hX 2 (gs := [True, True]) (z' := (2, [some (.ref 65), some (.ref 68), some (.ref 66), some (.int 0)], [], h)) rfl ⟨trivial, trivial, trivial⟩ (key 0 (by decide) (by decide) h (fun _ _ _ => rfl) (fun j a b => by omega) (fun _ _ => rfl) rfl)

theorem c_setA_66_67 {d : Nat} {Q : Option Value → Hp → Prop} {h : Hp} (k : ∀ h', (∀ o j, o ≠ 67 → h'.1 o j = h.1 o j) → (∀ j : Int32, 0 ≤ j.toInt → j.toInt < 3400 → h'.1 67 j = h.1 66 j) → (∀ j : Int32, ¬ (0 ≤ j.toInt ∧ j.toInt < 3400) → h'.1 67 j = h.1 67 j) → h'.2 = h.2 → Q none h') : Call (d + 1) 260 [.ref 65, .ref 66, .ref 67] h Q := by
  refine call_of (rfl : psM[260]? = some _) rfl rfl (rcvV rfl) (fun X hX => ?_)
  show X (0, [some (.ref 65), some (.ref 66), some (.ref 67), none], [], h)
  have hc34 : (3400 : Int32).toInt = 3400 := rfl
  have hc0 : (0 : Int32).toInt = 0 := rfl
  have key : ∀ i : Int32, 0 ≤ i → i ≤ 3400 → ∀ h1 : Hp, (∀ o j, o ≠ 67 → h1.1 o j = h.1 o j) → (∀ j : Int32, 0 ≤ j.toInt → j.toInt < i.toInt → h1.1 67 j = h.1 66 j) → (∀ j : Int32, ¬ (0 ≤ j.toInt ∧ j.toInt < i.toInt) → h1.1 67 j = h.1 67 j) → h1.2 = h.2 → X (2, [some (.ref 65), some (.ref 66), some (.ref 67), some (.int i)], [], h1) := by
    refine up_ind 3400 (fun i i0 i1 ih h1 e1 e2 e3 e4 => ?_)
    refine go hX 3 (gs := [True, True, True]) (z' := (if 3400 ≤ i then 21 else 9, [some (.ref 65), some (.ref 66), some (.ref 67), some (.int i)], [], h1)) rfl ⟨trivial, trivial, trivial, trivial⟩ ?_
    refine br (fun hc => ?_) (fun hc => ?_)
    · have hi : i.toInt = 3400 := by
        rw [Int32.le_iff_toInt_le] at hc i1
        omega
      rw [hi] at e2 e3
      exact rt_ hX (G := True) (r := none) rfl trivial (k h1 e1 e2 e3 e4)
    · have hlt : i < 3400 := by
        rw [Int32.le_iff_toInt_le] at hc
        rw [Int32.lt_iff_toInt_lt]
        omega
      have hi1 := i32s hlt
      refine go hX 8 (gs := [True, True, ibd i 3400, ibd i 3400, True, True, True, True]) (z' := (2, [some (.ref 65), some (.ref 66), some (.ref 67), some (.int (i + 1))], [], hI h1 67 i (h1.1 66 i))) rfl ⟨trivial, trivial, ⟨i0, hlt⟩, ⟨i0, hlt⟩, trivial, trivial, trivial, trivial, trivial⟩ ?_
      refine ih hlt _ (fun o j ho => ?_) (fun j a b => ?_) (fun j hj => ?_) ?_
      · rw [hI_ne ho]
        exact e1 o j ho
      · by_cases hji : j = i
        · subst hji
          rw [hI_at]
          exact e1 66 j (by decide)
        · rw [hI_jn hji]
          have : j.toInt ≠ i.toInt := fun hz => hji (Int32.toInt_inj.mp hz)
          exact e2 j a (by omega)
      · have i0' : 0 ≤ i.toInt := by rw [Int32.le_iff_toInt_le] at i0; exact i0
        rw [hI_jn (fun hz => hj (by rw [hz]; omega))]
        exact e3 j (fun hz => hj (by omega))
      · exact e4
  exact go hX 2 (gs := [True, True]) (z' := (2, [some (.ref 65), some (.ref 66), some (.ref 67), some (.int 0)], [], h)) rfl ⟨trivial, trivial, trivial⟩ (key 0 (by decide) (by decide) h (fun _ _ _ => rfl) (fun j a b => by omega) (fun _ _ => rfl) rfl)

set_option maxRecDepth 100000 in
theorem ok_setAside_66_68r : SmOK rgT sm_setAside_66_68r := sA_ok (a := 66) (b := 68) (rs := [(0, 2), (16, 18), (32, 34), (48, 50), (64, 66), (80, 82), (96, 98), (112, 114), (128, 130), (144, 146), (208, 210), (224, 226), (240, 242), (256, 258), (288, 290), (304, 306), (320, 322), (336, 338), (352, 354), (368, 370), (384, 386), (400, 402), (416, 418), (432, 434), (448, 450), (464, 466), (480, 482), (512, 514), (528, 530), (544, 546), (560, 562), (576, 578), (592, 594), (2005, 2008)]) (bs := [(0, 2)]) (xs := [(14, 0, 2, 0, 0), (14, 4, 6, 0, 0), (14, 8, 10, 0, 0), (14, 12, 14, 0, 0), (14, 16, 18, 0, 20000), (16, 0, 2, 0, 0), (17, 0, 2, (-1), (-1)), (15, 0, 2, 0, 12)]) (by decide +kernel) (by decide +kernel) (by decide +kernel) (by decide +kernel) (fun _ _ _ k => c_setA_66_68 k)
set_option maxRecDepth 100000 in
theorem ok_setAside_67_66 : SmOK rgT sm_setAside_67_66 := sA_ok (a := 67) (b := 66) (rs := []) (bs := []) (xs := []) (by decide +kernel) (by decide +kernel) (by decide +kernel) (by decide +kernel) (fun _ _ _ k => c_setA_67_66 k)
set_option maxRecDepth 100000 in
theorem ok_setAside_67_66r : SmOK rgT sm_setAside_67_66r := sA_ok (a := 67) (b := 66) (rs := [(1, 0), (17, 16), (33, 32), (49, 48), (65, 64), (81, 80), (97, 96), (113, 112), (129, 128), (145, 144), (209, 208), (225, 224), (241, 240), (257, 256), (289, 288), (305, 304), (321, 320), (337, 336), (353, 352), (369, 368), (385, 384), (401, 400), (417, 416), (433, 432), (449, 448), (465, 464), (481, 480), (513, 512), (529, 528), (545, 544), (561, 560), (577, 576), (593, 592), (2007, 2005)]) (bs := [(1, 0)]) (xs := [(14, 1, 0, 0, 0), (14, 5, 4, 0, 0), (14, 9, 8, 0, 0), (14, 13, 12, 0, 0), (14, 17, 16, 0, 20000), (16, 1, 0, 0, 0), (17, 1, 0, (-1), (-1)), (15, 1, 0, 0, 12)]) (by decide +kernel) (by decide +kernel) (by decide +kernel) (by decide +kernel) (fun _ _ _ k => c_setA_67_66 k)
set_option maxRecDepth 100000 in
theorem ok_setAside_68_66r : SmOK rgT sm_setAside_68_66r := sA_ok (a := 68) (b := 66) (rs := [(2, 0), (18, 16), (34, 32), (50, 48), (66, 64), (82, 80), (98, 96), (114, 112), (130, 128), (146, 144), (210, 208), (226, 224), (242, 240), (258, 256), (290, 288), (306, 304), (322, 320), (338, 336), (354, 352), (370, 368), (386, 384), (402, 400), (418, 416), (434, 432), (450, 448), (466, 464), (482, 480), (514, 512), (530, 528), (546, 544), (562, 560), (578, 576), (594, 592), (2008, 2005)]) (bs := [(2, 0)]) (xs := [(14, 2, 0, 0, 0), (14, 6, 4, 0, 0), (14, 10, 8, 0, 0), (14, 14, 12, 0, 0), (14, 18, 16, 0, 20000), (16, 2, 0, 0, 0), (17, 2, 0, (-1), (-1)), (15, 2, 0, 0, 12)]) (by decide +kernel) (by decide +kernel) (by decide +kernel) (by decide +kernel) (fun _ _ _ k => c_setA_68_66 k)
set_option maxRecDepth 100000 in
theorem ok_setAside_66_67r : SmOK rgT sm_setAside_66_67r := sA_ok (a := 66) (b := 67) (rs := [(4, 5), (20, 21), (36, 37), (52, 53), (68, 69), (84, 85), (100, 101), (116, 117), (132, 133), (148, 149), (212, 213), (228, 229), (244, 245), (260, 261), (292, 293), (308, 309), (324, 325), (340, 341), (356, 357), (372, 373), (388, 389), (404, 405), (420, 421), (436, 437), (452, 453), (468, 469), (484, 485), (516, 517), (532, 533), (548, 549), (564, 565), (580, 581), (596, 597), (2005, 2007)]) (bs := [(4, 5)]) (xs := [(14, 0, 1, 0, 0), (14, 4, 5, 0, 0), (14, 8, 9, 0, 0), (14, 12, 13, 0, 0), (14, 16, 17, 0, 20000), (16, 0, 1, 0, 0), (17, 0, 1, (-1), (-1)), (15, 4, 5, 0, 12)]) (by decide +kernel) (by decide +kernel) (by decide +kernel) (by decide +kernel) (fun _ _ _ k => c_setA_66_67 k)
