/-! By hand: pay and takes. -/
theorem crun_eq {d m : Nat} {as : List Value} {h h1 h2 : Hp} {r r' : Option Value} (a : CRun d m as h r h1) (b : CRun d m as h r' h2) : r = r' ∧ h1 = h2 := by
  obtain ⟨r0, h0, ⟨⟨e1, e2⟩, e3, e4⟩, -⟩ := (Call.and (a (fun x y => x = r ∧ y = h1) ⟨rfl, rfl⟩) (b (fun x y => x = r' ∧ y = h2) ⟨rfl, rfl⟩)).det
  exact ⟨e1.symm.trans e3, e2.symm.trans e4⟩
theorem ov_ne {a b : Nat} {h g : Hp} {o : Nat} {j : Int32} (ha : o ≠ a) (hb : o ≠ b) : (ov a b h g).1 o j = h.1 o j := by
  have e1 : Nat.beq o a = false := by
    cases e : Nat.beq o a with
    | false => rfl
    | true => exact absurd (Nat.eq_of_beq_eq_true e) ha
  have e2 : Nat.beq o b = false := by
    cases e : Nat.beq o b with
    | false => rfl
    | true => exact absurd (Nat.eq_of_beq_eq_true e) hb
  show (bif Nat.beq o a || Nat.beq o b then g.1 o j else h.1 o j) = _
  rw [e1, e2]
  rfl
theorem ov_self {a b : Nat} {h : Hp} : ov a b h h = h := Prod.ext (funext fun o => funext fun j => by
  show (bif Nat.beq o a || Nat.beq o b then h.1 o j else h.1 o j) = _
  cases (Nat.beq o a || Nat.beq o b) <;> rfl) rfl
noncomputable def wsO : List Wr := [(0, 35, (-2147483648), 2147483647), (0, 36, (-2147483648), 2147483647), (0, 65, 29, 29), (0, 79, (-2147483648), 2147483647), (0, 80, (-2147483648), 2147483647)]
noncomputable def wsT : List Wr := [(0, 35, (-2147483648), 2147483647), (0, 36, (-2147483648), 2147483647), (0, 65, 29, 31), (0, 79, (-2147483648), 2147483647), (0, 80, (-2147483648), 2147483647)]
noncomputable def wsG : List Wr := [(0, 35, 1, 1), (0, 36, 0, 95), (0, 79, 103, 119), (0, 80, 0, 99)]
theorem nwO {ws : List Wr} {k o : Nat} {j : Int32} (h : ws.all (fun w => !(Nat.beq o w.2.1)) = true) : ¬ inW ws k o j := by
  rintro ⟨w, hw, -, q, -⟩
  have t := List.all_eq_true.mp h w hw
  cases e : Nat.beq o w.2.1 with
  | true => rw [e] at t; exact absurd t (by decide)
  | false => exact Nat.ne_of_beq_eq_false e q.symm
theorem nwKp {ws : List Wr} {o : Nat} {j : Int32} (h : ws.all (fun w => Nat.beq w.1 0) = true) : ¬ inW ws 1 o j := by
  rintro ⟨w, hw, q, -⟩
  have t := List.all_eq_true.mp h w hw
  rw [q] at t
  exact absurd t (by decide)
theorem ov_frm {h h2 gA gB : Hp} (e2 : ∀ o (j : Int32), ¬ (o = 65 ∧ j = 29) → h2.1 o j = h.1 o j) (e2' : h2.2 = h.2) : Frm wsO h (mxH true (ov 35 36 h gA) (ov 79 80 h2 gB)) := by
  refine ⟨fun o j q => ?_, fun o j _ => ?_, rfl⟩
  · have i := i32b j
    have n35 : o ≠ 35 := fun e => q ⟨_, List.mem_of_getElem? (i := 0) rfl, rfl, e.symm, i.1, i.2⟩
    have n36 : o ≠ 36 := fun e => q ⟨_, List.mem_of_getElem? (i := 1) rfl, rfl, e.symm, i.1, i.2⟩
    have n79 : o ≠ 79 := fun e => q ⟨_, List.mem_of_getElem? (i := 3) rfl, rfl, e.symm, i.1, i.2⟩
    have n80 : o ≠ 80 := fun e => q ⟨_, List.mem_of_getElem? (i := 4) rfl, rfl, e.symm, i.1, i.2⟩
    have n65 : ¬ (o = 65 ∧ j = 29) := fun e => q ⟨_, List.mem_of_getElem? (i := 2) rfl, rfl, e.1.symm, by rw [e.2]; decide, by rw [e.2]; decide⟩
    show (if sd o = true then (ov 35 36 h gA).1 o j else (ov 79 80 h2 gB).1 o j) = _
    rw [ov_ne n35 n36, ov_ne n79 n80, e2 _ _ n65]
    split <;> rfl
  · show (if sd o = true then h.2.1 o j else h2.2.1 o j) = _
    rw [e2']
    split <;> rfl
theorem ov_afA {d mid : Nat} {as : List Value} {h hb gA hA hB : Hp} {r : Option Value} (ss : sS true as) (c : CRun d mid as (mxH true (ov 35 36 h gA) hb) r hA) (F : Frm wsG (mxH true (ov 35 36 h gA) hb) (mxH true hA hB)) : ∃ g1, CRun d mid as (ov 35 36 h gA) r (ov 35 36 h g1) := by
  have c2 := c.mx (s := true) (K := ov 35 36 h gA) ss
  rw [show mxH true (mxH true (ov 35 36 h gA) hb) (ov 35 36 h gA) = ov 35 36 h gA by rw [mx_l, mx_self]] at c2
  have e2 : mxH true hA (ov 35 36 h gA) = ov 35 36 h (mxH true hA (ov 35 36 h gA)) := by
    refine mx_ext (fun o j => ?_) (fun o j => ?_) F.2.2
    · by_cases n35 : o = 35
      · subst n35; rfl
      by_cases n36 : o = 36
      · subst n36; rfl
      rw [ov_ne (g := mxH true hA (ov 35 36 h gA)) n35 n36]
      by_cases e : sd o = true
      · have nw : ¬ inW wsG 0 o j := by
          rintro ⟨w, hw, -, q, -⟩
          rcases List.mem_cons.mp hw with rfl | hw
          · exact n35 q.symm
          rcases List.mem_cons.mp hw with rfl | hw
          · exact n36 q.symm
          rcases List.mem_cons.mp hw with rfl | hw
          · rw [← q] at e; exact absurd e (by decide)
          rcases List.mem_cons.mp hw with rfl | hw
          · rw [← q] at e; exact absurd e (by decide)
          cases hw
        have t := F.1 o j nw
        rw [mx_at e, mx_at e] at t
        rw [mx_at e, t, ov_ne n35 n36]
      · rw [mx_off e, ov_ne n35 n36]
    · by_cases e : sd o = true
      · have t := F.2.1 o j (nwKp rfl)
        rw [mx_atL e, mx_atL e] at t
        rw [mx_atL e, t]
        rfl
      · rw [mx_offL e]; rfl
  exact ⟨mxH true hA (ov 35 36 h gA), by rw [← e2]; exact c2⟩
theorem ov_afB {d mid : Nat} {as : List Value} {ha h2 gB hA hB : Hp} {r : Option Value} (sc : ha.2.2 = h2.2.2) (ss : sS false as) (c : CRun d mid as (mxH true ha (ov 79 80 h2 gB)) r hB) (F : Frm wsG (mxH true ha (ov 79 80 h2 gB)) (mxH true hA hB)) : ∃ g1, CRun d mid as (ov 79 80 h2 gB) r (ov 79 80 h2 g1) := by
  have c2 := c.mx (s := false) (K := ov 79 80 h2 gB) ss
  rw [show mxH false (mxH true ha (ov 79 80 h2 gB)) (ov 79 80 h2 gB) = ov 79 80 h2 gB from mx_ext (fun r j => by unfold mxH; dsimp only; cases sd r <;> rfl) (fun r j => by unfold mxH; dsimp only; cases sd r <;> rfl) sc] at c2
  have sB : hB.2.2 = h2.2.2 := by
    have := (c.off ss).2.1
    exact this.trans sc
  have e2 : mxH false hB (ov 79 80 h2 gB) = ov 79 80 h2 (mxH false hB (ov 79 80 h2 gB)) := by
    refine mx_ext (fun o j => ?_) (fun o j => ?_) sB
    · by_cases n35 : o = 79
      · subst n35; rfl
      by_cases n36 : o = 80
      · subst n36; rfl
      rw [ov_ne (g := mxH false hB (ov 79 80 h2 gB)) n35 n36]
      by_cases e : sd o = true
      · rw [mx_off (by rw [e]; decide), ov_ne n35 n36]
      · have e' : sd o = false := (Bool.not_eq_true _).mp e
        have nw : ¬ inW wsG 0 o j := by
          rintro ⟨w, hw, -, q, -⟩
          rcases List.mem_cons.mp hw with rfl | hw
          · rw [← q] at e; exact absurd rfl e
          rcases List.mem_cons.mp hw with rfl | hw
          · rw [← q] at e; exact absurd rfl e
          rcases List.mem_cons.mp hw with rfl | hw
          · exact n35 q.symm
          rcases List.mem_cons.mp hw with rfl | hw
          · exact n36 q.symm
          cases hw
        have t := F.1 o j nw
        rw [mx_off e, mx_off e] at t
        rw [mx_at e', t, ov_ne n35 n36]
    · by_cases e : sd o = true
      · rw [mx_offL (by rw [e]; decide)]; rfl
      · have e' : sd o = false := (Bool.not_eq_true _).mp e
        have t := F.2.1 o j (nwKp rfl)
        rw [mx_offL e, mx_offL e] at t
        rw [mx_atL e', t]
        rfl
  exact ⟨mxH false hB (ov 79 80 h2 gB), by rw [← e2]; exact c2⟩
set_option maxRecDepth 100000 in
theorem gvP4 {d : Nat} {h h2 gA gB : Hp} {a b : Int32} {t D : Int} (t8 : t = (h.1 8 2).toInt) (t66 : t = (h.1 66 4).toInt) (t0 : 0 ≤ t) (t1 : t ≤ 12) (d1 : D = (h.1 1 5).toInt) (d2 : D = (h.1 66 0).toInt) (dz : 0 ≤ D) (dl : D ≤ 1999) (W : KC h 5 66 0 0) (R448 : KC h 9 448 0 0) (R464 : KC h 9 464 0 0) (S : KC h 15 0 0 t) (hR : ∀ q ∈ rgT, RgO h q) (e2 : ∀ o (j : Int32), ¬ (o = 65 ∧ j = 29) → h2.1 o j = h.1 o j) (e2' : h2.2 = h.2) : ∃ (r : Int32) (g1 g2 : Hp), 0 ≤ r.toInt ∧ r.toInt ≤ 9999 ∧ CRun (d + 4) 48 [.ref 34, .ref 1, .int 4, .int a, .int b, .int 0] (ov 35 36 h gA) (some (.int r)) (ov 35 36 h g1) ∧ CRun (d + 4) 231 [.ref 65, .int 4, .int a, .int b, .int 0] (ov 79 80 h2 gB) (some (.int r)) (ov 79 80 h2 g2) := by
  have F := ov_frm (gA := gA) (gB := gB) e2 e2'
  obtain ⟨K, hK⟩ : ∃ K, K = mxH true (ov 35 36 h gA) (ov 79 80 h2 gB) := ⟨_, rfl⟩
  rw [← hK] at F
  have i8 : t = (K.1 8 2).toInt := by rw [F.1 8 2 (nwO rfl)]; exact t8
  have i66 : t = (K.1 66 4).toInt := by rw [F.1 66 4 (nwO rfl)]; exact t66
  have iD : D = (K.1 1 5).toInt := by rw [F.1 1 5 (nwO rfl)]; exact d1
  have iE : D = (K.1 66 0).toInt := by rw [F.1 66 0 (nwO rfl)]; exact d2
  have kW : KC K 5 66 0 0 := KC_fr (by decide) (by decide +kernel) F W
  have k448 : KC K 9 448 0 0 := KC_fr (by decide) (by decide +kernel) F R448
  have k464 : KC K 9 464 0 0 := KC_fr (by decide) (by decide +kernel) F R464
  have kS : KC K 15 0 0 t := KC_fr (by decide) (by decide +kernel) F S
  have hR : ∀ q ∈ rgT, RgO K q := rgV_sp (vs := wsO) (by decide +kernel) F hR
  clear F W R448 R464 S t8 t66 d1 d2
  have ia : (-2147483648 : Int) ≤ a.toInt ∧ a.toInt ≤ 2147483647 := i32b a
  have ib : (-2147483648 : Int) ≤ b.toInt ∧ b.toInt ≤ 2147483647 := i32b b
  obtain ⟨rA, hA, rB, hB, cA, cB, -, -, -, -, -, FR, oe, hoe, ρ2, -, bd2, rtA, rtB, -, -⟩ := okP6 (d + 4) (by show 4 ≤ _; omega) (fun k => ([4, a.toInt, b.toInt, 0, 4, a.toInt, b.toInt, 0, t, t, 0, 0, 0, t, D, D] : List Int).getD k 0) [.ref 34, .ref 1, .int 4, .int a, .int b, .int 0] [.ref 65, .int 4, .int a, .int b, .int 0] K rfl ⟨_, _, rfl, by rw [if_pos rfl]; exact ⟨rfl, by decide, ⟨_, _, rfl, by rw [if_pos rfl]; exact ⟨rfl, by decide, ⟨_, _, rfl, by rw [if_neg (by decide), if_pos rfl]; exact ⟨by show (4 : Int) ≤ 4 ∧ 4 ≤ 4; omega, ⟨_, rfl, rfl⟩, ⟨_, _, rfl, by rw [if_neg (by decide), if_pos rfl]; exact ⟨by show ((-2147483648) : Int) ≤ a.toInt ∧ a.toInt ≤ 2147483647; omega, ⟨_, rfl, rfl⟩, ⟨_, _, rfl, by rw [if_neg (by decide), if_pos rfl]; exact ⟨by show ((-2147483648) : Int) ≤ b.toInt ∧ b.toInt ≤ 2147483647; omega, ⟨_, rfl, rfl⟩, ⟨_, _, rfl, by rw [if_neg (by decide), if_pos rfl]; exact ⟨by show ((-2147483648) : Int) ≤ 0 ∧ 0 ≤ 2147483647; omega, ⟨_, rfl, rfl⟩, ⟨_, _, rfl, by rw [if_pos rfl]; exact ⟨rfl, by decide, ⟨_, _, rfl, by rw [if_neg (by decide), if_pos rfl]; exact ⟨by show (4 : Int) ≤ 4 ∧ 4 ≤ 4; omega, ⟨_, rfl, rfl⟩, ⟨_, _, rfl, by rw [if_neg (by decide), if_pos rfl]; exact ⟨by show ((-2147483648) : Int) ≤ a.toInt ∧ a.toInt ≤ 2147483647; omega, ⟨_, rfl, rfl⟩, ⟨_, _, rfl, by rw [if_neg (by decide), if_pos rfl]; exact ⟨by show ((-2147483648) : Int) ≤ b.toInt ∧ b.toInt ≤ 2147483647; omega, ⟨_, rfl, rfl⟩, ⟨_, _, rfl, by rw [if_neg (by decide), if_pos rfl]; exact ⟨by show ((-2147483648) : Int) ≤ 0 ∧ 0 ≤ 2147483647; omega, ⟨_, rfl, rfl⟩, rfl⟩⟩⟩⟩⟩⟩⟩⟩⟩⟩⟩⟩⟩⟩⟩⟩⟩⟩⟩⟩⟩⟩ (List.forall_mem_cons.mpr ⟨by show (0 : Int) ≤ t ∧ t ≤ 12; omega, List.forall_mem_cons.mpr ⟨by show (0 : Int) ≤ t ∧ t ≤ 12; omega, List.forall_mem_cons.mpr ⟨by show (0 : Int) ≤ 0 ∧ 0 ≤ 0; omega, List.forall_mem_cons.mpr ⟨by show (0 : Int) ≤ 0 ∧ 0 ≤ 0; omega, List.forall_mem_cons.mpr ⟨by show (0 : Int) ≤ 0 ∧ 0 ≤ 0; omega, List.forall_mem_cons.mpr ⟨by show (0 : Int) ≤ t ∧ t ≤ 12; omega, List.forall_mem_cons.mpr ⟨by show (0 : Int) ≤ D ∧ D ≤ 1999; omega, List.forall_mem_cons.mpr ⟨by show (0 : Int) ≤ D ∧ D ≤ 1999; omega, fun _ h => absurd h List.not_mem_nil⟩⟩⟩⟩⟩⟩⟩⟩) (List.forall_mem_cons.mpr ⟨⟨2, leV_C _ 2, by show leV _ (leX 8) = _; rw [leV_X]; exact i8⟩, List.forall_mem_cons.mpr ⟨⟨4, leV_C _ 4, by show leV _ (leX 9) = _; rw [leV_X]; exact i66⟩, List.forall_mem_cons.mpr ⟨by show KC K 5 66 (leV _ (leC 0)) (leV _ (leX 10)); rw [leV_C, leV_X]; exact kW, List.forall_mem_cons.mpr ⟨by show KC K 9 448 (leV _ (leC 0)) (leV _ (leX 11)); rw [leV_C, leV_X]; exact k448, List.forall_mem_cons.mpr ⟨by show KC K 9 464 (leV _ (leC 0)) (leV _ (leX 12)); rw [leV_C, leV_X]; exact k464, List.forall_mem_cons.mpr ⟨by show KC K 15 0 (leV _ (leC 0)) (leV _ (leX 13)); rw [leV_C, leV_X]; exact kS, List.forall_mem_cons.mpr ⟨⟨5, leV_C _ 5, by show leV _ (leX 14) = _; rw [leV_X]; exact iD⟩, List.forall_mem_cons.mpr ⟨⟨0, leV_C _ 0, by show leV _ (leX 15) = _; rw [leV_X]; exact iE⟩, fun _ h => absurd h List.not_mem_nil⟩⟩⟩⟩⟩⟩⟩⟩) (List.forall_mem_cons.mpr ⟨by show (0 : Int) ≤ 0 + (1 * (4) + (-1 * (4) + (0))); omega, List.forall_mem_cons.mpr ⟨by show (0 : Int) ≤ 0 + (-1 * (4) + (1 * (4) + (0))); omega, List.forall_mem_cons.mpr ⟨by show (0 : Int) ≤ 0 + (1 * (a.toInt) + (-1 * (a.toInt) + (0))); omega, List.forall_mem_cons.mpr ⟨by show (0 : Int) ≤ 0 + (-1 * (a.toInt) + (1 * (a.toInt) + (0))); omega, List.forall_mem_cons.mpr ⟨by show (0 : Int) ≤ 0 + (1 * (b.toInt) + (-1 * (b.toInt) + (0))); omega, List.forall_mem_cons.mpr ⟨by show (0 : Int) ≤ 0 + (-1 * (b.toInt) + (1 * (b.toInt) + (0))); omega, List.forall_mem_cons.mpr ⟨by show (0 : Int) ≤ 0 + (1 * (0) + (-1 * (0) + (0))); omega, List.forall_mem_cons.mpr ⟨by show (0 : Int) ≤ 0 + (-1 * (0) + (1 * (0) + (0))); omega, List.forall_mem_cons.mpr ⟨by show (0 : Int) ≤ 0 + (1 * (t) + (-1 * (t) + (0))); omega, List.forall_mem_cons.mpr ⟨by show (0 : Int) ≤ 0 + (-1 * (t) + (1 * (t) + (0))); omega, List.forall_mem_cons.mpr ⟨by show (0 : Int) ≤ 0 + (1 * (t) + (-1 * (t) + (0))); omega, List.forall_mem_cons.mpr ⟨by show (0 : Int) ≤ 0 + (-1 * (t) + (1 * (t) + (0))); omega, List.forall_mem_cons.mpr ⟨by show (0 : Int) ≤ 0 + (1 * (D) + (-1 * (D) + (0))); omega, List.forall_mem_cons.mpr ⟨by show (0 : Int) ≤ 0 + (-1 * (D) + (1 * (D) + (0))); omega, fun _ h => absurd h List.not_mem_nil⟩⟩⟩⟩⟩⟩⟩⟩⟩⟩⟩⟩⟩⟩) hR
  obtain rfl := List.mem_singleton.mp hoe
  obtain ⟨x, rfl, ex⟩ := rtA
  obtain ⟨y, rfl, ey⟩ := rtB
  have ex : (0 : Int) + (1 * ρ2 16 + 0) = x.toInt := ex
  have ey : (0 : Int) + (1 * ρ2 16 + 0) = y.toInt := ey
  have exy : x = y := Int32.toInt_inj.mp (by omega)
  subst exy
  have bd : (0 : Int) ≤ ρ2 16 ∧ ρ2 16 ≤ 9999 := bd2 (16, 0, 9999) (List.mem_of_getElem? (i := 0) rfl)
  subst hK
  obtain ⟨g1, c1⟩ := ov_afA (as := [.ref 34, .ref 1, .int 4, .int a, .int b, .int 0]) (List.forall_mem_cons.mpr ⟨fun _ => rfl, List.forall_mem_cons.mpr ⟨fun _ => rfl, List.forall_mem_cons.mpr ⟨trivial, List.forall_mem_cons.mpr ⟨trivial, List.forall_mem_cons.mpr ⟨trivial, List.forall_mem_cons.mpr ⟨trivial, fun _ h => absurd h List.not_mem_nil⟩⟩⟩⟩⟩⟩) cA FR
  obtain ⟨g2, c2⟩ := ov_afB (ha := ov 35 36 h gA) (as := [.ref 65, .int 4, .int a, .int b, .int 0]) (show h.2.2 = h2.2.2 by rw [e2']) (List.forall_mem_cons.mpr ⟨fun _ => rfl, List.forall_mem_cons.mpr ⟨trivial, List.forall_mem_cons.mpr ⟨trivial, List.forall_mem_cons.mpr ⟨trivial, List.forall_mem_cons.mpr ⟨trivial, fun _ h => absurd h List.not_mem_nil⟩⟩⟩⟩⟩) cB FR
  exact ⟨x, g1, g2, by omega, by omega, c1, c2⟩
theorem gv4 {d : Nat} {h : Hp} {a b : Int32} {t D : Int} (t8 : t = (h.1 8 2).toInt) (t66 : t = (h.1 66 4).toInt) (t0 : 0 ≤ t) (t1 : t ≤ 12) (d1 : D = (h.1 1 5).toInt) (d2 : D = (h.1 66 0).toInt) (dz : 0 ≤ D) (dl : D ≤ 1999) (W : KC h 5 66 0 0) (R448 : KC h 9 448 0 0) (R464 : KC h 9 464 0 0) (S : KC h 15 0 0 t) (hR : ∀ q ∈ rgT, RgO h q) : ∃ r : Int32, 0 ≤ r.toInt ∧ r.toInt ≤ 9999 ∧ (∀ gA, ∃ g1, CRun (d + 4) 48 [.ref 34, .ref 1, .int 4, .int a, .int b, .int 0] (ov 35 36 h gA) (some (.int r)) (ov 35 36 h g1)) ∧ (∀ h2 gB, (∀ o (j : Int32), ¬ (o = 65 ∧ j = 29) → h2.1 o j = h.1 o j) → h2.2 = h.2 → ∃ g2, CRun (d + 4) 231 [.ref 65, .int 4, .int a, .int b, .int 0] (ov 79 80 h2 gB) (some (.int r)) (ov 79 80 h2 g2)) := by
  obtain ⟨r, w1, w2, r0, r1, cA, cB⟩ := gvP4 (d := d) (h := h) (h2 := h) (gA := h) (gB := h) (a := a) (b := b) t8 t66 t0 t1 d1 d2 dz dl W R448 R464 S hR (fun _ _ _ => rfl) rfl
  refine ⟨r, r0, r1, fun gA => ?_, fun h2 gB e2 e2' => ?_⟩
  · obtain ⟨r', g1, g2, -, -, c1, c2⟩ := gvP4 (d := d) (h := h) (h2 := h) (gA := gA) (gB := h) (a := a) (b := b) t8 t66 t0 t1 d1 d2 dz dl W R448 R464 S hR (fun _ _ _ => rfl) rfl
    have e : r' = r := Value.int.inj (Option.some.inj (crun_eq c2 cB).1)
    subst e
    exact ⟨g1, c1⟩
  · obtain ⟨r', g1, g2, -, -, c1, c2⟩ := gvP4 (d := d) (h := h) (h2 := h2) (gA := h) (gB := gB) (a := a) (b := b) t8 t66 t0 t1 d1 d2 dz dl W R448 R464 S hR e2 e2'
    have e : r' = r := Value.int.inj (Option.some.inj (crun_eq c1 cA).1)
    subst e
    exact ⟨g2, c2⟩
set_option maxRecDepth 100000 in
theorem gvP2 {d : Nat} {h h2 gA gB : Hp} {a b : Int32} {t D : Int} (t8 : t = (h.1 8 2).toInt) (t66 : t = (h.1 66 4).toInt) (t0 : 0 ≤ t) (t1 : t ≤ 12) (d1 : D = (h.1 1 5).toInt) (d2 : D = (h.1 66 0).toInt) (dz : 0 ≤ D) (dl : D ≤ 1999) (W : KC h 5 66 0 0) (R448 : KC h 9 448 0 0) (R464 : KC h 9 464 0 0) (S : KC h 15 0 0 t) (hR : ∀ q ∈ rgT, RgO h q) (e2 : ∀ o (j : Int32), ¬ (o = 65 ∧ j = 29) → h2.1 o j = h.1 o j) (e2' : h2.2 = h.2) : ∃ (r : Int32) (g1 g2 : Hp), 0 ≤ r.toInt ∧ r.toInt ≤ 9999 ∧ CRun (d + 4) 48 [.ref 34, .ref 1, .int 2, .int a, .int b, .int 0] (ov 35 36 h gA) (some (.int r)) (ov 35 36 h g1) ∧ CRun (d + 4) 231 [.ref 65, .int 2, .int a, .int b, .int 0] (ov 79 80 h2 gB) (some (.int r)) (ov 79 80 h2 g2) := by
  have F := ov_frm (gA := gA) (gB := gB) e2 e2'
  obtain ⟨K, hK⟩ : ∃ K, K = mxH true (ov 35 36 h gA) (ov 79 80 h2 gB) := ⟨_, rfl⟩
  rw [← hK] at F
  have i8 : t = (K.1 8 2).toInt := by rw [F.1 8 2 (nwO rfl)]; exact t8
  have i66 : t = (K.1 66 4).toInt := by rw [F.1 66 4 (nwO rfl)]; exact t66
  have iD : D = (K.1 1 5).toInt := by rw [F.1 1 5 (nwO rfl)]; exact d1
  have iE : D = (K.1 66 0).toInt := by rw [F.1 66 0 (nwO rfl)]; exact d2
  have kW : KC K 5 66 0 0 := KC_fr (by decide) (by decide +kernel) F W
  have k448 : KC K 9 448 0 0 := KC_fr (by decide) (by decide +kernel) F R448
  have k464 : KC K 9 464 0 0 := KC_fr (by decide) (by decide +kernel) F R464
  have kS : KC K 15 0 0 t := KC_fr (by decide) (by decide +kernel) F S
  have hR : ∀ q ∈ rgT, RgO K q := rgV_sp (vs := wsO) (by decide +kernel) F hR
  clear F W R448 R464 S t8 t66 d1 d2
  have ia : (-2147483648 : Int) ≤ a.toInt ∧ a.toInt ≤ 2147483647 := i32b a
  have ib : (-2147483648 : Int) ≤ b.toInt ∧ b.toInt ≤ 2147483647 := i32b b
  obtain ⟨rA, hA, rB, hB, cA, cB, -, -, -, -, -, FR, oe, hoe, ρ2, -, bd2, rtA, rtB, -, -⟩ := okP4 (d + 4) (by show 4 ≤ _; omega) (fun k => ([2, a.toInt, b.toInt, 0, 2, a.toInt, b.toInt, 0, t, t, 0, 0, 0, t, D, D] : List Int).getD k 0) [.ref 34, .ref 1, .int 2, .int a, .int b, .int 0] [.ref 65, .int 2, .int a, .int b, .int 0] K rfl ⟨_, _, rfl, by rw [if_pos rfl]; exact ⟨rfl, by decide, ⟨_, _, rfl, by rw [if_pos rfl]; exact ⟨rfl, by decide, ⟨_, _, rfl, by rw [if_neg (by decide), if_pos rfl]; exact ⟨by show (2 : Int) ≤ 2 ∧ 2 ≤ 2; omega, ⟨_, rfl, rfl⟩, ⟨_, _, rfl, by rw [if_neg (by decide), if_pos rfl]; exact ⟨by show ((-2147483648) : Int) ≤ a.toInt ∧ a.toInt ≤ 2147483647; omega, ⟨_, rfl, rfl⟩, ⟨_, _, rfl, by rw [if_neg (by decide), if_pos rfl]; exact ⟨by show ((-2147483648) : Int) ≤ b.toInt ∧ b.toInt ≤ 2147483647; omega, ⟨_, rfl, rfl⟩, ⟨_, _, rfl, by rw [if_neg (by decide), if_pos rfl]; exact ⟨by show ((-2147483648) : Int) ≤ 0 ∧ 0 ≤ 2147483647; omega, ⟨_, rfl, rfl⟩, ⟨_, _, rfl, by rw [if_pos rfl]; exact ⟨rfl, by decide, ⟨_, _, rfl, by rw [if_neg (by decide), if_pos rfl]; exact ⟨by show (2 : Int) ≤ 2 ∧ 2 ≤ 2; omega, ⟨_, rfl, rfl⟩, ⟨_, _, rfl, by rw [if_neg (by decide), if_pos rfl]; exact ⟨by show ((-2147483648) : Int) ≤ a.toInt ∧ a.toInt ≤ 2147483647; omega, ⟨_, rfl, rfl⟩, ⟨_, _, rfl, by rw [if_neg (by decide), if_pos rfl]; exact ⟨by show ((-2147483648) : Int) ≤ b.toInt ∧ b.toInt ≤ 2147483647; omega, ⟨_, rfl, rfl⟩, ⟨_, _, rfl, by rw [if_neg (by decide), if_pos rfl]; exact ⟨by show ((-2147483648) : Int) ≤ 0 ∧ 0 ≤ 2147483647; omega, ⟨_, rfl, rfl⟩, rfl⟩⟩⟩⟩⟩⟩⟩⟩⟩⟩⟩⟩⟩⟩⟩⟩⟩⟩⟩⟩⟩⟩ (List.forall_mem_cons.mpr ⟨by show (0 : Int) ≤ t ∧ t ≤ 12; omega, List.forall_mem_cons.mpr ⟨by show (0 : Int) ≤ t ∧ t ≤ 12; omega, List.forall_mem_cons.mpr ⟨by show (0 : Int) ≤ 0 ∧ 0 ≤ 0; omega, List.forall_mem_cons.mpr ⟨by show (0 : Int) ≤ 0 ∧ 0 ≤ 0; omega, List.forall_mem_cons.mpr ⟨by show (0 : Int) ≤ 0 ∧ 0 ≤ 0; omega, List.forall_mem_cons.mpr ⟨by show (0 : Int) ≤ t ∧ t ≤ 12; omega, List.forall_mem_cons.mpr ⟨by show (0 : Int) ≤ D ∧ D ≤ 1999; omega, List.forall_mem_cons.mpr ⟨by show (0 : Int) ≤ D ∧ D ≤ 1999; omega, fun _ h => absurd h List.not_mem_nil⟩⟩⟩⟩⟩⟩⟩⟩) (List.forall_mem_cons.mpr ⟨⟨2, leV_C _ 2, by show leV _ (leX 8) = _; rw [leV_X]; exact i8⟩, List.forall_mem_cons.mpr ⟨⟨4, leV_C _ 4, by show leV _ (leX 9) = _; rw [leV_X]; exact i66⟩, List.forall_mem_cons.mpr ⟨by show KC K 5 66 (leV _ (leC 0)) (leV _ (leX 10)); rw [leV_C, leV_X]; exact kW, List.forall_mem_cons.mpr ⟨by show KC K 9 448 (leV _ (leC 0)) (leV _ (leX 11)); rw [leV_C, leV_X]; exact k448, List.forall_mem_cons.mpr ⟨by show KC K 9 464 (leV _ (leC 0)) (leV _ (leX 12)); rw [leV_C, leV_X]; exact k464, List.forall_mem_cons.mpr ⟨by show KC K 15 0 (leV _ (leC 0)) (leV _ (leX 13)); rw [leV_C, leV_X]; exact kS, List.forall_mem_cons.mpr ⟨⟨5, leV_C _ 5, by show leV _ (leX 14) = _; rw [leV_X]; exact iD⟩, List.forall_mem_cons.mpr ⟨⟨0, leV_C _ 0, by show leV _ (leX 15) = _; rw [leV_X]; exact iE⟩, fun _ h => absurd h List.not_mem_nil⟩⟩⟩⟩⟩⟩⟩⟩) (List.forall_mem_cons.mpr ⟨by show (0 : Int) ≤ 0 + (1 * (2) + (-1 * (2) + (0))); omega, List.forall_mem_cons.mpr ⟨by show (0 : Int) ≤ 0 + (-1 * (2) + (1 * (2) + (0))); omega, List.forall_mem_cons.mpr ⟨by show (0 : Int) ≤ 0 + (1 * (a.toInt) + (-1 * (a.toInt) + (0))); omega, List.forall_mem_cons.mpr ⟨by show (0 : Int) ≤ 0 + (-1 * (a.toInt) + (1 * (a.toInt) + (0))); omega, List.forall_mem_cons.mpr ⟨by show (0 : Int) ≤ 0 + (1 * (b.toInt) + (-1 * (b.toInt) + (0))); omega, List.forall_mem_cons.mpr ⟨by show (0 : Int) ≤ 0 + (-1 * (b.toInt) + (1 * (b.toInt) + (0))); omega, List.forall_mem_cons.mpr ⟨by show (0 : Int) ≤ 0 + (1 * (0) + (-1 * (0) + (0))); omega, List.forall_mem_cons.mpr ⟨by show (0 : Int) ≤ 0 + (-1 * (0) + (1 * (0) + (0))); omega, List.forall_mem_cons.mpr ⟨by show (0 : Int) ≤ 0 + (1 * (t) + (-1 * (t) + (0))); omega, List.forall_mem_cons.mpr ⟨by show (0 : Int) ≤ 0 + (-1 * (t) + (1 * (t) + (0))); omega, List.forall_mem_cons.mpr ⟨by show (0 : Int) ≤ 0 + (1 * (t) + (-1 * (t) + (0))); omega, List.forall_mem_cons.mpr ⟨by show (0 : Int) ≤ 0 + (-1 * (t) + (1 * (t) + (0))); omega, List.forall_mem_cons.mpr ⟨by show (0 : Int) ≤ 0 + (1 * (D) + (-1 * (D) + (0))); omega, List.forall_mem_cons.mpr ⟨by show (0 : Int) ≤ 0 + (-1 * (D) + (1 * (D) + (0))); omega, fun _ h => absurd h List.not_mem_nil⟩⟩⟩⟩⟩⟩⟩⟩⟩⟩⟩⟩⟩⟩) hR
  obtain rfl := List.mem_singleton.mp hoe
  obtain ⟨x, rfl, ex⟩ := rtA
  obtain ⟨y, rfl, ey⟩ := rtB
  have ex : (0 : Int) + (1 * ρ2 16 + 0) = x.toInt := ex
  have ey : (0 : Int) + (1 * ρ2 16 + 0) = y.toInt := ey
  have exy : x = y := Int32.toInt_inj.mp (by omega)
  subst exy
  have bd : (0 : Int) ≤ ρ2 16 ∧ ρ2 16 ≤ 9999 := bd2 (16, 0, 9999) (List.mem_of_getElem? (i := 0) rfl)
  subst hK
  obtain ⟨g1, c1⟩ := ov_afA (as := [.ref 34, .ref 1, .int 2, .int a, .int b, .int 0]) (List.forall_mem_cons.mpr ⟨fun _ => rfl, List.forall_mem_cons.mpr ⟨fun _ => rfl, List.forall_mem_cons.mpr ⟨trivial, List.forall_mem_cons.mpr ⟨trivial, List.forall_mem_cons.mpr ⟨trivial, List.forall_mem_cons.mpr ⟨trivial, fun _ h => absurd h List.not_mem_nil⟩⟩⟩⟩⟩⟩) cA FR
  obtain ⟨g2, c2⟩ := ov_afB (ha := ov 35 36 h gA) (as := [.ref 65, .int 2, .int a, .int b, .int 0]) (show h.2.2 = h2.2.2 by rw [e2']) (List.forall_mem_cons.mpr ⟨fun _ => rfl, List.forall_mem_cons.mpr ⟨trivial, List.forall_mem_cons.mpr ⟨trivial, List.forall_mem_cons.mpr ⟨trivial, List.forall_mem_cons.mpr ⟨trivial, fun _ h => absurd h List.not_mem_nil⟩⟩⟩⟩⟩) cB FR
  exact ⟨x, g1, g2, by omega, by omega, c1, c2⟩
theorem gv2 {d : Nat} {h : Hp} {a b : Int32} {t D : Int} (t8 : t = (h.1 8 2).toInt) (t66 : t = (h.1 66 4).toInt) (t0 : 0 ≤ t) (t1 : t ≤ 12) (d1 : D = (h.1 1 5).toInt) (d2 : D = (h.1 66 0).toInt) (dz : 0 ≤ D) (dl : D ≤ 1999) (W : KC h 5 66 0 0) (R448 : KC h 9 448 0 0) (R464 : KC h 9 464 0 0) (S : KC h 15 0 0 t) (hR : ∀ q ∈ rgT, RgO h q) : ∃ r : Int32, 0 ≤ r.toInt ∧ r.toInt ≤ 9999 ∧ (∀ gA, ∃ g1, CRun (d + 4) 48 [.ref 34, .ref 1, .int 2, .int a, .int b, .int 0] (ov 35 36 h gA) (some (.int r)) (ov 35 36 h g1)) ∧ (∀ h2 gB, (∀ o (j : Int32), ¬ (o = 65 ∧ j = 29) → h2.1 o j = h.1 o j) → h2.2 = h.2 → ∃ g2, CRun (d + 4) 231 [.ref 65, .int 2, .int a, .int b, .int 0] (ov 79 80 h2 gB) (some (.int r)) (ov 79 80 h2 g2)) := by
  obtain ⟨r, w1, w2, r0, r1, cA, cB⟩ := gvP2 (d := d) (h := h) (h2 := h) (gA := h) (gB := h) (a := a) (b := b) t8 t66 t0 t1 d1 d2 dz dl W R448 R464 S hR (fun _ _ _ => rfl) rfl
  refine ⟨r, r0, r1, fun gA => ?_, fun h2 gB e2 e2' => ?_⟩
  · obtain ⟨r', g1, g2, -, -, c1, c2⟩ := gvP2 (d := d) (h := h) (h2 := h) (gA := gA) (gB := h) (a := a) (b := b) t8 t66 t0 t1 d1 d2 dz dl W R448 R464 S hR (fun _ _ _ => rfl) rfl
    have e : r' = r := Value.int.inj (Option.some.inj (crun_eq c2 cB).1)
    subst e
    exact ⟨g1, c1⟩
  · obtain ⟨r', g1, g2, -, -, c1, c2⟩ := gvP2 (d := d) (h := h) (h2 := h2) (gA := h) (gB := gB) (a := a) (b := b) t8 t66 t0 t1 d1 d2 dz dl W R448 R464 S hR e2 e2'
    have e : r' = r := Value.int.inj (Option.some.inj (crun_eq c1 cA).1)
    subst e
    exact ⟨g2, c2⟩
set_option maxRecDepth 100000 in
theorem gvP3 {d : Nat} {h h2 gA gB : Hp} {a b : Int32} {t D : Int} (t8 : t = (h.1 8 2).toInt) (t66 : t = (h.1 66 4).toInt) (t0 : 0 ≤ t) (t1 : t ≤ 12) (d1 : D = (h.1 1 5).toInt) (d2 : D = (h.1 66 0).toInt) (dz : 0 ≤ D) (dl : D ≤ 1999) (W : KC h 5 66 0 0) (R448 : KC h 9 448 0 0) (R464 : KC h 9 464 0 0) (S : KC h 15 0 0 t) (hR : ∀ q ∈ rgT, RgO h q) (e2 : ∀ o (j : Int32), ¬ (o = 65 ∧ j = 29) → h2.1 o j = h.1 o j) (e2' : h2.2 = h.2) : ∃ (r : Int32) (g1 g2 : Hp), 0 ≤ r.toInt ∧ r.toInt ≤ 9999 ∧ CRun (d + 4) 48 [.ref 34, .ref 1, .int 3, .int a, .int b, .int 0] (ov 35 36 h gA) (some (.int r)) (ov 35 36 h g1) ∧ CRun (d + 4) 231 [.ref 65, .int 3, .int a, .int b, .int 0] (ov 79 80 h2 gB) (some (.int r)) (ov 79 80 h2 g2) := by
  have F := ov_frm (gA := gA) (gB := gB) e2 e2'
  obtain ⟨K, hK⟩ : ∃ K, K = mxH true (ov 35 36 h gA) (ov 79 80 h2 gB) := ⟨_, rfl⟩
  rw [← hK] at F
  have i8 : t = (K.1 8 2).toInt := by rw [F.1 8 2 (nwO rfl)]; exact t8
  have i66 : t = (K.1 66 4).toInt := by rw [F.1 66 4 (nwO rfl)]; exact t66
  have iD : D = (K.1 1 5).toInt := by rw [F.1 1 5 (nwO rfl)]; exact d1
  have iE : D = (K.1 66 0).toInt := by rw [F.1 66 0 (nwO rfl)]; exact d2
  have kW : KC K 5 66 0 0 := KC_fr (by decide) (by decide +kernel) F W
  have k448 : KC K 9 448 0 0 := KC_fr (by decide) (by decide +kernel) F R448
  have k464 : KC K 9 464 0 0 := KC_fr (by decide) (by decide +kernel) F R464
  have kS : KC K 15 0 0 t := KC_fr (by decide) (by decide +kernel) F S
  have hR : ∀ q ∈ rgT, RgO K q := rgV_sp (vs := wsO) (by decide +kernel) F hR
  clear F W R448 R464 S t8 t66 d1 d2
  have ia : (-2147483648 : Int) ≤ a.toInt ∧ a.toInt ≤ 2147483647 := i32b a
  have ib : (-2147483648 : Int) ≤ b.toInt ∧ b.toInt ≤ 2147483647 := i32b b
  obtain ⟨rA, hA, rB, hB, cA, cB, -, -, -, -, -, FR, oe, hoe, ρ2, -, bd2, rtA, rtB, -, -⟩ := okP5 (d + 4) (by show 4 ≤ _; omega) (fun k => ([3, a.toInt, b.toInt, 0, 3, a.toInt, b.toInt, 0, t, t, 0, 0, 0, t, D, D] : List Int).getD k 0) [.ref 34, .ref 1, .int 3, .int a, .int b, .int 0] [.ref 65, .int 3, .int a, .int b, .int 0] K rfl ⟨_, _, rfl, by rw [if_pos rfl]; exact ⟨rfl, by decide, ⟨_, _, rfl, by rw [if_pos rfl]; exact ⟨rfl, by decide, ⟨_, _, rfl, by rw [if_neg (by decide), if_pos rfl]; exact ⟨by show (3 : Int) ≤ 3 ∧ 3 ≤ 3; omega, ⟨_, rfl, rfl⟩, ⟨_, _, rfl, by rw [if_neg (by decide), if_pos rfl]; exact ⟨by show ((-2147483648) : Int) ≤ a.toInt ∧ a.toInt ≤ 2147483647; omega, ⟨_, rfl, rfl⟩, ⟨_, _, rfl, by rw [if_neg (by decide), if_pos rfl]; exact ⟨by show ((-2147483648) : Int) ≤ b.toInt ∧ b.toInt ≤ 2147483647; omega, ⟨_, rfl, rfl⟩, ⟨_, _, rfl, by rw [if_neg (by decide), if_pos rfl]; exact ⟨by show ((-2147483648) : Int) ≤ 0 ∧ 0 ≤ 2147483647; omega, ⟨_, rfl, rfl⟩, ⟨_, _, rfl, by rw [if_pos rfl]; exact ⟨rfl, by decide, ⟨_, _, rfl, by rw [if_neg (by decide), if_pos rfl]; exact ⟨by show (3 : Int) ≤ 3 ∧ 3 ≤ 3; omega, ⟨_, rfl, rfl⟩, ⟨_, _, rfl, by rw [if_neg (by decide), if_pos rfl]; exact ⟨by show ((-2147483648) : Int) ≤ a.toInt ∧ a.toInt ≤ 2147483647; omega, ⟨_, rfl, rfl⟩, ⟨_, _, rfl, by rw [if_neg (by decide), if_pos rfl]; exact ⟨by show ((-2147483648) : Int) ≤ b.toInt ∧ b.toInt ≤ 2147483647; omega, ⟨_, rfl, rfl⟩, ⟨_, _, rfl, by rw [if_neg (by decide), if_pos rfl]; exact ⟨by show ((-2147483648) : Int) ≤ 0 ∧ 0 ≤ 2147483647; omega, ⟨_, rfl, rfl⟩, rfl⟩⟩⟩⟩⟩⟩⟩⟩⟩⟩⟩⟩⟩⟩⟩⟩⟩⟩⟩⟩⟩⟩ (List.forall_mem_cons.mpr ⟨by show (0 : Int) ≤ t ∧ t ≤ 12; omega, List.forall_mem_cons.mpr ⟨by show (0 : Int) ≤ t ∧ t ≤ 12; omega, List.forall_mem_cons.mpr ⟨by show (0 : Int) ≤ 0 ∧ 0 ≤ 0; omega, List.forall_mem_cons.mpr ⟨by show (0 : Int) ≤ 0 ∧ 0 ≤ 0; omega, List.forall_mem_cons.mpr ⟨by show (0 : Int) ≤ 0 ∧ 0 ≤ 0; omega, List.forall_mem_cons.mpr ⟨by show (0 : Int) ≤ t ∧ t ≤ 12; omega, List.forall_mem_cons.mpr ⟨by show (0 : Int) ≤ D ∧ D ≤ 1999; omega, List.forall_mem_cons.mpr ⟨by show (0 : Int) ≤ D ∧ D ≤ 1999; omega, fun _ h => absurd h List.not_mem_nil⟩⟩⟩⟩⟩⟩⟩⟩) (List.forall_mem_cons.mpr ⟨⟨2, leV_C _ 2, by show leV _ (leX 8) = _; rw [leV_X]; exact i8⟩, List.forall_mem_cons.mpr ⟨⟨4, leV_C _ 4, by show leV _ (leX 9) = _; rw [leV_X]; exact i66⟩, List.forall_mem_cons.mpr ⟨by show KC K 5 66 (leV _ (leC 0)) (leV _ (leX 10)); rw [leV_C, leV_X]; exact kW, List.forall_mem_cons.mpr ⟨by show KC K 9 448 (leV _ (leC 0)) (leV _ (leX 11)); rw [leV_C, leV_X]; exact k448, List.forall_mem_cons.mpr ⟨by show KC K 9 464 (leV _ (leC 0)) (leV _ (leX 12)); rw [leV_C, leV_X]; exact k464, List.forall_mem_cons.mpr ⟨by show KC K 15 0 (leV _ (leC 0)) (leV _ (leX 13)); rw [leV_C, leV_X]; exact kS, List.forall_mem_cons.mpr ⟨⟨5, leV_C _ 5, by show leV _ (leX 14) = _; rw [leV_X]; exact iD⟩, List.forall_mem_cons.mpr ⟨⟨0, leV_C _ 0, by show leV _ (leX 15) = _; rw [leV_X]; exact iE⟩, fun _ h => absurd h List.not_mem_nil⟩⟩⟩⟩⟩⟩⟩⟩) (List.forall_mem_cons.mpr ⟨by show (0 : Int) ≤ 0 + (1 * (3) + (-1 * (3) + (0))); omega, List.forall_mem_cons.mpr ⟨by show (0 : Int) ≤ 0 + (-1 * (3) + (1 * (3) + (0))); omega, List.forall_mem_cons.mpr ⟨by show (0 : Int) ≤ 0 + (1 * (a.toInt) + (-1 * (a.toInt) + (0))); omega, List.forall_mem_cons.mpr ⟨by show (0 : Int) ≤ 0 + (-1 * (a.toInt) + (1 * (a.toInt) + (0))); omega, List.forall_mem_cons.mpr ⟨by show (0 : Int) ≤ 0 + (1 * (b.toInt) + (-1 * (b.toInt) + (0))); omega, List.forall_mem_cons.mpr ⟨by show (0 : Int) ≤ 0 + (-1 * (b.toInt) + (1 * (b.toInt) + (0))); omega, List.forall_mem_cons.mpr ⟨by show (0 : Int) ≤ 0 + (1 * (0) + (-1 * (0) + (0))); omega, List.forall_mem_cons.mpr ⟨by show (0 : Int) ≤ 0 + (-1 * (0) + (1 * (0) + (0))); omega, List.forall_mem_cons.mpr ⟨by show (0 : Int) ≤ 0 + (1 * (t) + (-1 * (t) + (0))); omega, List.forall_mem_cons.mpr ⟨by show (0 : Int) ≤ 0 + (-1 * (t) + (1 * (t) + (0))); omega, List.forall_mem_cons.mpr ⟨by show (0 : Int) ≤ 0 + (1 * (t) + (-1 * (t) + (0))); omega, List.forall_mem_cons.mpr ⟨by show (0 : Int) ≤ 0 + (-1 * (t) + (1 * (t) + (0))); omega, List.forall_mem_cons.mpr ⟨by show (0 : Int) ≤ 0 + (1 * (D) + (-1 * (D) + (0))); omega, List.forall_mem_cons.mpr ⟨by show (0 : Int) ≤ 0 + (-1 * (D) + (1 * (D) + (0))); omega, fun _ h => absurd h List.not_mem_nil⟩⟩⟩⟩⟩⟩⟩⟩⟩⟩⟩⟩⟩⟩) hR
  obtain rfl := List.mem_singleton.mp hoe
  obtain ⟨x, rfl, ex⟩ := rtA
  obtain ⟨y, rfl, ey⟩ := rtB
  have ex : (0 : Int) + (1 * ρ2 16 + 0) = x.toInt := ex
  have ey : (0 : Int) + (1 * ρ2 16 + 0) = y.toInt := ey
  have exy : x = y := Int32.toInt_inj.mp (by omega)
  subst exy
  have bd : (0 : Int) ≤ ρ2 16 ∧ ρ2 16 ≤ 9999 := bd2 (16, 0, 9999) (List.mem_of_getElem? (i := 0) rfl)
  subst hK
  obtain ⟨g1, c1⟩ := ov_afA (as := [.ref 34, .ref 1, .int 3, .int a, .int b, .int 0]) (List.forall_mem_cons.mpr ⟨fun _ => rfl, List.forall_mem_cons.mpr ⟨fun _ => rfl, List.forall_mem_cons.mpr ⟨trivial, List.forall_mem_cons.mpr ⟨trivial, List.forall_mem_cons.mpr ⟨trivial, List.forall_mem_cons.mpr ⟨trivial, fun _ h => absurd h List.not_mem_nil⟩⟩⟩⟩⟩⟩) cA FR
  obtain ⟨g2, c2⟩ := ov_afB (ha := ov 35 36 h gA) (as := [.ref 65, .int 3, .int a, .int b, .int 0]) (show h.2.2 = h2.2.2 by rw [e2']) (List.forall_mem_cons.mpr ⟨fun _ => rfl, List.forall_mem_cons.mpr ⟨trivial, List.forall_mem_cons.mpr ⟨trivial, List.forall_mem_cons.mpr ⟨trivial, List.forall_mem_cons.mpr ⟨trivial, fun _ h => absurd h List.not_mem_nil⟩⟩⟩⟩⟩) cB FR
  exact ⟨x, g1, g2, by omega, by omega, c1, c2⟩
theorem gv3 {d : Nat} {h : Hp} {a b : Int32} {t D : Int} (t8 : t = (h.1 8 2).toInt) (t66 : t = (h.1 66 4).toInt) (t0 : 0 ≤ t) (t1 : t ≤ 12) (d1 : D = (h.1 1 5).toInt) (d2 : D = (h.1 66 0).toInt) (dz : 0 ≤ D) (dl : D ≤ 1999) (W : KC h 5 66 0 0) (R448 : KC h 9 448 0 0) (R464 : KC h 9 464 0 0) (S : KC h 15 0 0 t) (hR : ∀ q ∈ rgT, RgO h q) : ∃ r : Int32, 0 ≤ r.toInt ∧ r.toInt ≤ 9999 ∧ (∀ gA, ∃ g1, CRun (d + 4) 48 [.ref 34, .ref 1, .int 3, .int a, .int b, .int 0] (ov 35 36 h gA) (some (.int r)) (ov 35 36 h g1)) ∧ (∀ h2 gB, (∀ o (j : Int32), ¬ (o = 65 ∧ j = 29) → h2.1 o j = h.1 o j) → h2.2 = h.2 → ∃ g2, CRun (d + 4) 231 [.ref 65, .int 3, .int a, .int b, .int 0] (ov 79 80 h2 gB) (some (.int r)) (ov 79 80 h2 g2)) := by
  obtain ⟨r, w1, w2, r0, r1, cA, cB⟩ := gvP3 (d := d) (h := h) (h2 := h) (gA := h) (gB := h) (a := a) (b := b) t8 t66 t0 t1 d1 d2 dz dl W R448 R464 S hR (fun _ _ _ => rfl) rfl
  refine ⟨r, r0, r1, fun gA => ?_, fun h2 gB e2 e2' => ?_⟩
  · obtain ⟨r', g1, g2, -, -, c1, c2⟩ := gvP3 (d := d) (h := h) (h2 := h) (gA := gA) (gB := h) (a := a) (b := b) t8 t66 t0 t1 d1 d2 dz dl W R448 R464 S hR (fun _ _ _ => rfl) rfl
    have e : r' = r := Value.int.inj (Option.some.inj (crun_eq c2 cB).1)
    subst e
    exact ⟨g1, c1⟩
  · obtain ⟨r', g1, g2, -, -, c1, c2⟩ := gvP3 (d := d) (h := h) (h2 := h2) (gA := h) (gB := gB) (a := a) (b := b) t8 t66 t0 t1 d1 d2 dz dl W R448 R464 S hR e2 e2'
    have e : r' = r := Value.int.inj (Option.some.inj (crun_eq c1 cA).1)
    subst e
    exact ⟨g2, c2⟩
noncomputable def okBp (h h' : Hp) : Prop := (∀ o (j : Int32), o ≠ 79 → o ≠ 80 → ¬ (o = 65 ∧ (29 ≤ j.toInt ∧ j.toInt ≤ 31)) → h'.1 o j = h.1 o j) ∧ h'.2 = h.2
theorem okB_ov {h g : Hp} : okBp h (ov 79 80 h g) := ⟨fun o j a b _ => ov_ne a b, rfl⟩
theorem okB_3 {h g : Hp} {v1 v2 v3 : Int32} : okBp h (hI (hI (hI (ov 79 80 h g) 65 29 v1) 65 30 v2) 65 31 v3) := ⟨fun o j a b c => by
  by_cases e : o = 65
  · subst e
    rw [hI_j (fun z => c ⟨rfl, by rw [z]; decide, by rw [z]; decide⟩), hI_j (fun z => c ⟨rfl, by rw [z]; decide, by rw [z]; decide⟩), hI_j (fun z => c ⟨rfl, by rw [z]; decide, by rw [z]; decide⟩)]
    exact ov_ne a b
  · rw [hI_ne e, hI_ne e, hI_ne e]
    exact ov_ne a b, rfl⟩
theorem frm_T {h g hB : Hp} (b : okBp h hB) : Frm wsT h (mxH true (ov 35 36 h g) hB) := by
  refine ⟨fun o j q => ?_, fun o j _ => ?_, rfl⟩
  · have i := i32b j
    have n35 : o ≠ 35 := fun e => q ⟨_, List.mem_of_getElem? (i := 0) rfl, rfl, e.symm, i.1, i.2⟩
    have n36 : o ≠ 36 := fun e => q ⟨_, List.mem_of_getElem? (i := 1) rfl, rfl, e.symm, i.1, i.2⟩
    have n79 : o ≠ 79 := fun e => q ⟨_, List.mem_of_getElem? (i := 3) rfl, rfl, e.symm, i.1, i.2⟩
    have n80 : o ≠ 80 := fun e => q ⟨_, List.mem_of_getElem? (i := 4) rfl, rfl, e.symm, i.1, i.2⟩
    have n65 : ¬ (o = 65 ∧ (29 ≤ j.toInt ∧ j.toInt ≤ 31)) := fun e => q ⟨_, List.mem_of_getElem? (i := 2) rfl, rfl, e.1.symm, e.2.1, e.2.2⟩
    show (if sd o = true then (ov 35 36 h g).1 o j else hB.1 o j) = _
    rw [ov_ne n35 n36, b.1 o j n79 n80 n65]
    split <;> rfl
  · show (if sd o = true then h.2.1 o j else hB.2.1 o j) = _
    rw [b.2]
    split <;> rfl
theorem mn_I {a b : Int32} : (if a < b then a else b).toInt = min a.toInt b.toInt := by
  split
  · rename_i z; rw [Int32.lt_iff_toInt_lt] at z; omega
  · rename_i z; rw [Int32.lt_iff_toInt_lt] at z; omega
theorem reA_I {e r4 : Int32} (e0 : 0 ≤ e.toInt) (e1 : e.toInt ≤ 99999) (r0 : 0 ≤ r4.toInt) (r1 : r4.toInt ≤ 9999) : (reA e r4).toInt = max 0 (e.toInt - r4.toInt) := by
  have s : (e - r4).toInt = e.toInt - r4.toInt := by rw [Int32.toInt_sub, b32 (by omega) (by omega)]
  have k0 : (0 : Int32).toInt = 0 := rfl
  unfold reA
  split
  · rename_i z; rw [Int32.le_iff_toInt_le, k0, s] at z; rw [s]; omega
  · rename_i z; rw [Int32.le_iff_toInt_le, k0, s] at z; rw [k0]; omega
theorem shA_re {e r4 : Int32} : (if 0 < (e - r4) then (e - r4) else 0) = reA e r4 := by
  have k0 : (0 : Int32).toInt = 0 := rfl
  unfold reA
  split
  · rename_i z
    rw [if_pos]
    rw [Int32.lt_iff_toInt_lt] at z; rw [Int32.le_iff_toInt_le]; omega
  · rename_i z
    split
    · rename_i y
      rw [Int32.lt_iff_toInt_lt] at z; rw [Int32.le_iff_toInt_le] at y
      apply Int32.toInt_inj.mp
      omega
    · rfl
theorem shV_re {e o r4 r2 : Int32} : shV e o r4 r2 = reV e o r4 r2 := by
  unfold shV reV
  rw [shA_re]
theorem shS_re {e o r4 r2 r3 : Int32} : shS e o r4 r2 r3 = reS e o r4 r2 r3 := by
  unfold shS reS reV
  rw [shA_re]
/-- how much goes where: within its bounds -/
theorem mn_3 {v a b c : Int} (V : v = min a (min b c)) (a0 : 0 ≤ a) (b0 : 0 ≤ b) (c0 : 0 ≤ c) : 0 ≤ v ∧ v ≤ a ∧ v ≤ b ∧ v ≤ c := by omega
theorem mn_2 {v a c : Int} (V : v = min a c) (a0 : 0 ≤ a) (c0 : 0 ≤ c) : 0 ≤ v ∧ v ≤ a ∧ v ≤ c := by omega
theorem mx_2 {v a b : Int} (A : v = max 0 (a - b)) (b0 : 0 ≤ b) (a0 : 0 ≤ a) : 0 ≤ v ∧ v ≤ a := by omega
theorem sb_I {a b : Int32} (b0 : 0 ≤ b.toInt) (ab : b.toInt ≤ a.toInt) (a1 : a.toInt ≤ 99999) : (a - b).toInt = a.toInt - b.toInt := by rw [Int32.toInt_sub, b32 (by omega) (by omega)]
theorem re_I {e o r4 r2 r3 : Int32} (e0 : 0 ≤ e.toInt) (e1 : e.toInt ≤ 99999) (o0 : 0 ≤ o.toInt) (o1 : o.toInt ≤ 9999) (a0 : 0 ≤ r4.toInt) (a1 : r4.toInt ≤ 9999) (b0 : 0 ≤ r2.toInt) (b1 : r2.toInt ≤ 9999) (c0 : 0 ≤ r3.toInt) (c1 : r3.toInt ≤ 9999) : (0 ≤ (o - reV e o r4 r2).toInt ∧ (o - reV e o r4 r2).toInt ≤ 9999) ∧ (0 ≤ (reS e o r4 r2 r3).toInt ∧ (reS e o r4 r2 r3).toInt ≤ 9999) ∧ (0 ≤ (e - reV e o r4 r2 - reS e o r4 r2 r3).toInt ∧ (e - reV e o r4 r2 - reS e o r4 r2 r3).toInt ≤ 99999) := by
  obtain ⟨A0, A1⟩ := mx_2 (reA_I e0 e1 a0 a1) a0 e0
  have V : (reV e o r4 r2).toInt = min (reA e r4).toInt (min o.toInt r2.toInt) := by
    unfold reV
    rw [mn_I, mn_I]
  obtain ⟨V0, V1, V2, -⟩ := mn_3 V A0 o0 b0
  have s1 := sb_I V0 V1 (Int.le_trans A1 e1)
  have Sv : (reS e o r4 r2 r3).toInt = min (reA e r4 - reV e o r4 r2).toInt r3.toInt := by
    unfold reS
    rw [mn_I]
  obtain ⟨S0, S1, S2⟩ := mn_2 Sv (by rw [s1]; exact Int.sub_nonneg_of_le V1) c0
  clear V Sv
  have s2 := sb_I V0 V2 (Int.le_trans o1 (by decide))
  have s3 := sb_I V0 (Int.le_trans V1 A1) e1
  rw [s1] at S1
  have s4 := sb_I (a := e - reV e o r4 r2) S0 (by rw [s3]; omega) (by rw [s3]; omega)
  exact ⟨⟨by rw [s2]; omega, by rw [s2]; omega⟩, ⟨S0, Int.le_trans S2 c1⟩, ⟨by rw [s4, s3]; omega, by rw [s4, s3]; omega⟩⟩
theorem paP_ge {c n : Int32} (c0 : 0 ≤ c.toInt) (c1 : c.toInt ≤ 99999) (n0 : 0 ≤ n.toInt) (n1 : n.toInt ≤ 99999) : paP c n = geP c n ∧ 0 ≤ (geP c n).toInt ∧ (geP c n).toInt ≤ 99999 := by
  have k9 : (99999 : Int32).toInt = 99999 := rfl
  have s : (c + n).toInt = c.toInt + n.toInt := by rw [Int32.toInt_add, b32 (by omega) (by omega)]
  have G : (geP c n).toInt = min 99999 (c.toInt + n.toInt) := by
    unfold geP
    split
    · rename_i z; rw [Int32.lt_iff_toInt_lt] at z; omega
    · rename_i z; rw [Int32.lt_iff_toInt_lt] at z; omega
  have A : (paP c n).toInt = min 99999 (c.toInt + n.toInt) := by
    unfold paP
    rw [mn_I]
    omega
  exact ⟨Int32.toInt_inj.mp (A.trans G.symm), by rw [G]; omega, by rw [G]; omega⟩
theorem ov_65 {h g : Hp} {v : Int32} : ov 79 80 (hI h 65 29 v) g = hI (ov 79 80 h g) 65 29 v := mx_ext (fun o j => by
  by_cases e9 : o = 79
  · subst e9; rw [hI_ne (by decide)]; rfl
  by_cases e0 : o = 80
  · subst e0; rw [hI_ne (by decide)]; rfl
  rw [ov_ne e9 e0]
  by_cases e : o = 65 ∧ j = 29
  · rw [e.1, e.2, hI_eq, hI_eq]
  · by_cases f : o = 65
    · subst f; rw [hI_j (fun z => e ⟨rfl, z⟩), hI_j (fun z => e ⟨rfl, z⟩)]; exact (ov_ne e9 e0).symm
    · rw [hI_ne f, hI_ne f]; exact (ov_ne e9 e0).symm) (fun _ _ => rfl) rfl
theorem b_x10 {h : Hp} {n : Nat} (n10 : n ≤ 10) (en2 : h.1 66 2 = nI n) {z : Int32} (H : 0 ≤ z ∧ z ≤ h.1 66 2 - 1) : z < 10 := by
  have k1 : (1 : Int32).toInt = 1 := rfl
  have kt : (10 : Int32).toInt = 10 := rfl
  have m1 : (h.1 66 2 - 1).toInt = (n : Int) - 1 := by rw [en2, Int32.toInt_sub, k1, nI_i (by omega), b32 (by omega) (by omega)]
  have q := H.2
  rw [Int32.le_iff_toInt_le, m1] at q
  rw [Int32.lt_iff_toInt_lt, kt]
  omega
