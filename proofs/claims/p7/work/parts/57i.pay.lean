/-! By hand: pay and takes. -/
theorem crun_eq {d m : Nat} {as : List Value} {h h1 h2 : Hp} {r r' : Option Value} (a : CRun d m as h r h1) (b : CRun d m as h r' h2) : r = r' ∧ h1 = h2 := by
  obtain ⟨r0, h0, ⟨⟨e1, e2⟩, e3, e4⟩, -⟩ := (Call.and (a (fun x y => x = r ∧ y = h1) ⟨rfl, rfl⟩) (b (fun x y => x = r' ∧ y = h2) ⟨rfl, rfl⟩)).det
  exact ⟨e1.symm.trans e3, e2.symm.trans e4⟩
theorem ov_ne {a b : Nat} {h g : Hp} {o : Nat} {j : Int32} (ha : o ≠ a) (hb : o ≠ b) : (ov a b h g).1 o j = h.1 o j := by
  have e1 : Nat.beq o a = false := by
    cases e : Nat.beq o a with
    | false => rfl
    | true => exact absurd (Nat.eq_of_beq_eq_true e) ha
  have e2 : Nat.beq o b = false := by
    cases e : Nat.beq o b with
    | false => rfl
    | true => exact absurd (Nat.eq_of_beq_eq_true e) hb
  show (bif Nat.beq o a || Nat.beq o b then g.1 o j else h.1 o j) = _
  rw [e1, e2]
  rfl
theorem ov_self {a b : Nat} {h : Hp} : ov a b h h = h := Prod.ext (funext fun o => funext fun j => by
  show (bif Nat.beq o a || Nat.beq o b then h.1 o j else h.1 o j) = _
  cases (Nat.beq o a || Nat.beq o b) <;> rfl) rfl
def wsO : List Wr := [(0, 35, (-2147483648), 2147483647), (0, 36, (-2147483648), 2147483647), (0, 65, 29, 29), (0, 79, (-2147483648), 2147483647), (0, 80, (-2147483648), 2147483647)]
def wsT : List Wr := [(0, 35, (-2147483648), 2147483647), (0, 36, (-2147483648), 2147483647), (0, 65, 29, 31), (0, 79, (-2147483648), 2147483647), (0, 80, (-2147483648), 2147483647)]
def wsG : List Wr := [(0, 35, 1, 1), (0, 36, 0, 95), (0, 79, 103, 119), (0, 80, 0, 99)]
theorem nwO {ws : List Wr} {k o : Nat} {j : Int32} (h : ws.all (fun w => !(Nat.beq o w.2.1)) = true) : ¬ inW ws k o j := by
  rintro ⟨w, hw, -, q, -⟩
  have t := List.all_eq_true.mp h w hw
  cases e : Nat.beq o w.2.1 with
  | true => rw [e] at t; exact absurd t (by decide)
  | false => exact Nat.ne_of_beq_eq_false e q.symm
theorem nwKp {ws : List Wr} {o : Nat} {j : Int32} (h : ws.all (fun w => Nat.beq w.1 0) = true) : ¬ inW ws 1 o j := by
  rintro ⟨w, hw, q, -⟩
  have t := List.all_eq_true.mp h w hw
  rw [q] at t
  exact absurd t (by decide)
theorem ov_frm {h h2 gA gB : Hp} (e2 : ∀ o (j : Int32), ¬ (o = 65 ∧ j = 29) → h2.1 o j = h.1 o j) (e2' : h2.2 = h.2) : Frm wsO h (mxH true (ov 35 36 h gA) (ov 79 80 h2 gB)) := by
  refine ⟨fun o j q => ?_, fun o j _ => ?_, rfl⟩
  · have i := i32b j
    have n35 : o ≠ 35 := fun e => q ⟨_, List.mem_of_getElem? (i := 0) rfl, rfl, e.symm, i.1, i.2⟩
    have n36 : o ≠ 36 := fun e => q ⟨_, List.mem_of_getElem? (i := 1) rfl, rfl, e.symm, i.1, i.2⟩
    have n79 : o ≠ 79 := fun e => q ⟨_, List.mem_of_getElem? (i := 3) rfl, rfl, e.symm, i.1, i.2⟩
    have n80 : o ≠ 80 := fun e => q ⟨_, List.mem_of_getElem? (i := 4) rfl, rfl, e.symm, i.1, i.2⟩
    have n65 : ¬ (o = 65 ∧ j = 29) := fun e => q ⟨_, List.mem_of_getElem? (i := 2) rfl, rfl, e.1.symm, by rw [e.2]; decide, by rw [e.2]; decide⟩
    show (if sd o = true then (ov 35 36 h gA).1 o j else (ov 79 80 h2 gB).1 o j) = _
    rw [ov_ne n35 n36, ov_ne n79 n80, e2 _ _ n65]
    split <;> rfl
  · show (if sd o = true then h.2.1 o j else h2.2.1 o j) = _
    rw [e2']
    split <;> rfl
theorem ov_afA {d mid : Nat} {as : List Value} {h hb gA hA hB : Hp} {r : Option Value} (ss : sS true as) (c : CRun d mid as (mxH true (ov 35 36 h gA) hb) r hA) (F : Frm wsG (mxH true (ov 35 36 h gA) hb) (mxH true hA hB)) : ∃ g1, CRun d mid as (ov 35 36 h gA) r (ov 35 36 h g1) := by
  have c2 := c.mx (s := true) (K := ov 35 36 h gA) ss
  rw [show mxH true (mxH true (ov 35 36 h gA) hb) (ov 35 36 h gA) = ov 35 36 h gA by rw [mx_l, mx_self]] at c2
  have e2 : mxH true hA (ov 35 36 h gA) = ov 35 36 h (mxH true hA (ov 35 36 h gA)) := by
    refine mx_ext (fun o j => ?_) (fun o j => ?_) F.2.2
    · by_cases n35 : o = 35
      · subst n35; rfl
      by_cases n36 : o = 36
      · subst n36; rfl
      rw [ov_ne (g := mxH true hA (ov 35 36 h gA)) n35 n36]
      by_cases e : sd o = true
      · have nw : ¬ inW wsG 0 o j := by
          rintro ⟨w, hw, -, q, -⟩
          rcases List.mem_cons.mp hw with rfl | hw
          · exact n35 q.symm
          rcases List.mem_cons.mp hw with rfl | hw
          · exact n36 q.symm
          rcases List.mem_cons.mp hw with rfl | hw
          · rw [← q] at e; exact absurd e (by decide)
          rcases List.mem_cons.mp hw with rfl | hw
          · rw [← q] at e; exact absurd e (by decide)
          cases hw
        have t := F.1 o j nw
        rw [mx_at e, mx_at e] at t
        rw [mx_at e, t, ov_ne n35 n36]
      · rw [mx_off e, ov_ne n35 n36]
    · by_cases e : sd o = true
      · have t := F.2.1 o j (nwKp rfl)
        rw [mx_atL e, mx_atL e] at t
        rw [mx_atL e, t]
        rfl
      · rw [mx_offL e]; rfl
  exact ⟨mxH true hA (ov 35 36 h gA), by rw [← e2]; exact c2⟩
theorem ov_afB {d mid : Nat} {as : List Value} {ha h2 gB hA hB : Hp} {r : Option Value} (sc : ha.2.2 = h2.2.2) (ss : sS false as) (c : CRun d mid as (mxH true ha (ov 79 80 h2 gB)) r hB) (F : Frm wsG (mxH true ha (ov 79 80 h2 gB)) (mxH true hA hB)) : ∃ g1, CRun d mid as (ov 79 80 h2 gB) r (ov 79 80 h2 g1) := by
  have c2 := c.mx (s := false) (K := ov 79 80 h2 gB) ss
  rw [show mxH false (mxH true ha (ov 79 80 h2 gB)) (ov 79 80 h2 gB) = ov 79 80 h2 gB from mx_ext (fun r j => by unfold mxH; dsimp only; cases sd r <;> rfl) (fun r j => by unfold mxH; dsimp only; cases sd r <;> rfl) sc] at c2
  have sB : hB.2.2 = h2.2.2 := by
    have := (c.off ss).2.1
    exact this.trans sc
  have e2 : mxH false hB (ov 79 80 h2 gB) = ov 79 80 h2 (mxH false hB (ov 79 80 h2 gB)) := by
    refine mx_ext (fun o j => ?_) (fun o j => ?_) sB
    · by_cases n35 : o = 79
      · subst n35; rfl
      by_cases n36 : o = 80
      · subst n36; rfl
      rw [ov_ne (g := mxH false hB (ov 79 80 h2 gB)) n35 n36]
      by_cases e : sd o = true
      · rw [mx_off (by rw [e]; decide), ov_ne n35 n36]
      · have e' : sd o = false := (Bool.not_eq_true _).mp e
        have nw : ¬ inW wsG 0 o j := by
          rintro ⟨w, hw, -, q, -⟩
          rcases List.mem_cons.mp hw with rfl | hw
          · rw [← q] at e; exact absurd rfl e
          rcases List.mem_cons.mp hw with rfl | hw
          · rw [← q] at e; exact absurd rfl e
          rcases List.mem_cons.mp hw with rfl | hw
          · exact n35 q.symm
          rcases List.mem_cons.mp hw with rfl | hw
          · exact n36 q.symm
          cases hw
        have t := F.1 o j nw
        rw [mx_off e, mx_off e] at t
        rw [mx_at e', t, ov_ne n35 n36]
    · by_cases e : sd o = true
      · rw [mx_offL (by rw [e]; decide)]; rfl
      · have e' : sd o = false := (Bool.not_eq_true _).mp e
        have t := F.2.1 o j (nwKp rfl)
        rw [mx_offL e, mx_offL e] at t
        rw [mx_atL e', t]
        rfl
  exact ⟨mxH false hB (ov 79 80 h2 gB), by rw [← e2]; exact c2⟩
set_option maxRecDepth 100000 in
theorem gvP4 {d : Nat} {h h2 gA gB : Hp} {a b : Int32} {t D : Int} (t8 : t = (h.1 8 2).toInt) (t66 : t = (h.1 66 4).toInt) (t0 : 0 ≤ t) (t1 : t ≤ 12) (d1 : D = (h.1 1 5).toInt) (d2 : D = (h.1 66 0).toInt) (dz : 0 ≤ D) (dl : D ≤ 1999) (W : KC h 5 66 0 0) (R448 : KC h 9 448 0 0) (R464 : KC h 9 464 0 0) (S : KC h 15 0 0 t) (hR : ∀ q ∈ rgT, RgO h q) (e2 : ∀ o (j : Int32), ¬ (o = 65 ∧ j = 29) → h2.1 o j = h.1 o j) (e2' : h2.2 = h.2) : ∃ (r : Int32) (g1 g2 : Hp), 0 ≤ r.toInt ∧ r.toInt ≤ 9999 ∧ CRun (d + 4) 48 [.ref 34, .ref 1, .int 4, .int a, .int b, .int 0] (ov 35 36 h gA) (some (.int r)) (ov 35 36 h g1) ∧ CRun (d + 4) 231 [.ref 65, .int 4, .int a, .int b, .int 0] (ov 79 80 h2 gB) (some (.int r)) (ov 79 80 h2 g2) := by
  have F := ov_frm (gA := gA) (gB := gB) e2 e2'
  obtain ⟨K, hK⟩ : ∃ K, K = mxH true (ov 35 36 h gA) (ov 79 80 h2 gB) := ⟨_, rfl⟩
  rw [← hK] at F
  have i8 : t = (K.1 8 2).toInt := by rw [F.1 8 2 (nwO rfl)]; exact t8
  have i66 : t = (K.1 66 4).toInt := by rw [F.1 66 4 (nwO rfl)]; exact t66
  have iD : D = (K.1 1 5).toInt := by rw [F.1 1 5 (nwO rfl)]; exact d1
  have iE : D = (K.1 66 0).toInt := by rw [F.1 66 0 (nwO rfl)]; exact d2
  have kW : KC K 5 66 0 0 := KC_fr (by decide) (by decide +kernel) F W
  have k448 : KC K 9 448 0 0 := KC_fr (by decide) (by decide +kernel) F R448
  have k464 : KC K 9 464 0 0 := KC_fr (by decide) (by decide +kernel) F R464
  have kS : KC K 15 0 0 t := KC_fr (by decide) (by decide +kernel) F S
  have hR : ∀ q ∈ rgT, RgO K q := rgV_sp (vs := wsO) (by decide +kernel) F hR
  clear F W R448 R464 S t8 t66 d1 d2
  obtain ⟨rA, hA, rB, hB, cA, cB, -, -, -, -, -, FR, oe, hoe, ρ2, -, bd2, rtA, rtB, -, -⟩ := okP6 (d + 4) (by show 4 ≤ _; omega) (fun k => ([4, a.toInt, b.toInt, 0, 4, a.toInt, b.toInt, 0, t, t, 0, 0, 0, t, D, D] : List Int).getD k 0) [.ref 34, .ref 1, .int 4, .int a, .int b, .int 0] [.ref 65, .int 4, .int a, .int b, .int 0] K rfl ⟨_, _, rfl, by rw [if_pos rfl]; exact ⟨rfl, by decide, ⟨_, _, rfl, by rw [if_pos rfl]; exact ⟨rfl, by decide, ⟨_, _, rfl, by rw [if_neg (by decide), if_pos rfl]; exact ⟨by show (4 : Int) ≤ 4 ∧ 4 ≤ 4; omega, ⟨_, rfl, rfl⟩, ⟨_, _, rfl, by rw [if_neg (by decide), if_pos rfl]; exact ⟨by show ((-2147483648) : Int) ≤ a.toInt ∧ a.toInt ≤ 2147483647; omega, ⟨_, rfl, rfl⟩, ⟨_, _, rfl, by rw [if_neg (by decide), if_pos rfl]; exact ⟨by show ((-2147483648) : Int) ≤ b.toInt ∧ b.toInt ≤ 2147483647; omega, ⟨_, rfl, rfl⟩, ⟨_, _, rfl, by rw [if_neg (by decide), if_pos rfl]; exact ⟨by show ((-2147483648) : Int) ≤ 0 ∧ 0 ≤ 2147483647; omega, ⟨_, rfl, rfl⟩, ⟨_, _, rfl, by rw [if_pos rfl]; exact ⟨rfl, by decide, ⟨_, _, rfl, by rw [if_neg (by decide), if_pos rfl]; exact ⟨by show (4 : Int) ≤ 4 ∧ 4 ≤ 4; omega, ⟨_, rfl, rfl⟩, ⟨_, _, rfl, by rw [if_neg (by decide), if_pos rfl]; exact ⟨by show ((-2147483648) : Int) ≤ a.toInt ∧ a.toInt ≤ 2147483647; omega, ⟨_, rfl, rfl⟩, ⟨_, _, rfl, by rw [if_neg (by decide), if_pos rfl]; exact ⟨by show ((-2147483648) : Int) ≤ b.toInt ∧ b.toInt ≤ 2147483647; omega, ⟨_, rfl, rfl⟩, ⟨_, _, rfl, by rw [if_neg (by decide), if_pos rfl]; exact ⟨by show ((-2147483648) : Int) ≤ 0 ∧ 0 ≤ 2147483647; omega, ⟨_, rfl, rfl⟩, rfl⟩⟩⟩⟩⟩⟩⟩⟩⟩⟩⟩⟩⟩⟩⟩⟩⟩⟩⟩⟩⟩⟩ (List.forall_mem_cons.mpr ⟨by show (0 : Int) ≤ t ∧ t ≤ 12; omega, List.forall_mem_cons.mpr ⟨by show (0 : Int) ≤ t ∧ t ≤ 12; omega, List.forall_mem_cons.mpr ⟨by show (0 : Int) ≤ 0 ∧ 0 ≤ 0; omega, List.forall_mem_cons.mpr ⟨by show (0 : Int) ≤ 0 ∧ 0 ≤ 0; omega, List.forall_mem_cons.mpr ⟨by show (0 : Int) ≤ 0 ∧ 0 ≤ 0; omega, List.forall_mem_cons.mpr ⟨by show (0 : Int) ≤ t ∧ t ≤ 12; omega, List.forall_mem_cons.mpr ⟨by show (0 : Int) ≤ D ∧ D ≤ 1999; omega, List.forall_mem_cons.mpr ⟨by show (0 : Int) ≤ D ∧ D ≤ 1999; omega, fun _ h => absurd h List.not_mem_nil⟩⟩⟩⟩⟩⟩⟩⟩) (List.forall_mem_cons.mpr ⟨⟨2, leV_C _ 2, by show leV _ (leX 8) = _; rw [leV_X]; exact i8⟩, List.forall_mem_cons.mpr ⟨⟨4, leV_C _ 4, by show leV _ (leX 9) = _; rw [leV_X]; exact i66⟩, List.forall_mem_cons.mpr ⟨by show KC K 5 66 (leV _ (leC 0)) (leV _ (leX 10)); rw [leV_C, leV_X]; exact kW, List.forall_mem_cons.mpr ⟨by show KC K 9 448 (leV _ (leC 0)) (leV _ (leX 11)); rw [leV_C, leV_X]; exact k448, List.forall_mem_cons.mpr ⟨by show KC K 9 464 (leV _ (leC 0)) (leV _ (leX 12)); rw [leV_C, leV_X]; exact k464, List.forall_mem_cons.mpr ⟨by show KC K 15 0 (leV _ (leC 0)) (leV _ (leX 13)); rw [leV_C, leV_X]; exact kS, List.forall_mem_cons.mpr ⟨⟨5, leV_C _ 5, by show leV _ (leX 14) = _; rw [leV_X]; exact iD⟩, List.forall_mem_cons.mpr ⟨⟨0, leV_C _ 0, by show leV _ (leX 15) = _; rw [leV_X]; exact iE⟩, fun _ h => absurd h List.not_mem_nil⟩⟩⟩⟩⟩⟩⟩⟩) (List.forall_mem_cons.mpr ⟨by show (0 : Int) ≤ 0 + (1 * (4) + (-1 * (4) + (0))); omega, List.forall_mem_cons.mpr ⟨by show (0 : Int) ≤ 0 + (-1 * (4) + (1 * (4) + (0))); omega, List.forall_mem_cons.mpr ⟨by show (0 : Int) ≤ 0 + (1 * (a.toInt) + (-1 * (a.toInt) + (0))); omega, List.forall_mem_cons.mpr ⟨by show (0 : Int) ≤ 0 + (-1 * (a.toInt) + (1 * (a.toInt) + (0))); omega, List.forall_mem_cons.mpr ⟨by show (0 : Int) ≤ 0 + (1 * (b.toInt) + (-1 * (b.toInt) + (0))); omega, List.forall_mem_cons.mpr ⟨by show (0 : Int) ≤ 0 + (-1 * (b.toInt) + (1 * (b.toInt) + (0))); omega, List.forall_mem_cons.mpr ⟨by show (0 : Int) ≤ 0 + (1 * (0) + (-1 * (0) + (0))); omega, List.forall_mem_cons.mpr ⟨by show (0 : Int) ≤ 0 + (-1 * (0) + (1 * (0) + (0))); omega, List.forall_mem_cons.mpr ⟨by show (0 : Int) ≤ 0 + (1 * (t) + (-1 * (t) + (0))); omega, List.forall_mem_cons.mpr ⟨by show (0 : Int) ≤ 0 + (-1 * (t) + (1 * (t) + (0))); omega, List.forall_mem_cons.mpr ⟨by show (0 : Int) ≤ 0 + (1 * (t) + (-1 * (t) + (0))); omega, List.forall_mem_cons.mpr ⟨by show (0 : Int) ≤ 0 + (-1 * (t) + (1 * (t) + (0))); omega, List.forall_mem_cons.mpr ⟨by show (0 : Int) ≤ 0 + (1 * (D) + (-1 * (D) + (0))); omega, List.forall_mem_cons.mpr ⟨by show (0 : Int) ≤ 0 + (-1 * (D) + (1 * (D) + (0))); omega, fun _ h => absurd h List.not_mem_nil⟩⟩⟩⟩⟩⟩⟩⟩⟩⟩⟩⟩⟩⟩) hR
  obtain rfl := List.mem_singleton.mp hoe
  obtain ⟨x, rfl, ex⟩ := rtA
  obtain ⟨y, rfl, ey⟩ := rtB
  have ex : (0 : Int) + (1 * ρ2 16 + 0) = x.toInt := ex
  have ey : (0 : Int) + (1 * ρ2 16 + 0) = y.toInt := ey
  have exy : x = y := Int32.toInt_inj.mp (by omega)
  subst exy
  have bd : (0 : Int) ≤ ρ2 16 ∧ ρ2 16 ≤ 9999 := bd2 (16, 0, 9999) (List.mem_of_getElem? (i := 0) rfl)
  subst hK
  obtain ⟨g1, c1⟩ := ov_afA (List.forall_mem_cons.mpr ⟨fun _ => rfl, List.forall_mem_cons.mpr ⟨fun _ => rfl, List.forall_mem_cons.mpr ⟨trivial, List.forall_mem_cons.mpr ⟨trivial, List.forall_mem_cons.mpr ⟨trivial, List.forall_mem_cons.mpr ⟨trivial, fun _ h => absurd h List.not_mem_nil⟩⟩⟩⟩⟩⟩) cA FR
  obtain ⟨g2, c2⟩ := ov_afB (show h.2.2 = h2.2.2 by rw [e2']) (List.forall_mem_cons.mpr ⟨fun _ => rfl, List.forall_mem_cons.mpr ⟨trivial, List.forall_mem_cons.mpr ⟨trivial, List.forall_mem_cons.mpr ⟨trivial, List.forall_mem_cons.mpr ⟨trivial, fun _ h => absurd h List.not_mem_nil⟩⟩⟩⟩⟩) cB FR
  exact ⟨x, g1, g2, by omega, by omega, c1, c2⟩
theorem gv4 {d : Nat} {h : Hp} {a b : Int32} {t D : Int} (t8 : t = (h.1 8 2).toInt) (t66 : t = (h.1 66 4).toInt) (t0 : 0 ≤ t) (t1 : t ≤ 12) (d1 : D = (h.1 1 5).toInt) (d2 : D = (h.1 66 0).toInt) (dz : 0 ≤ D) (dl : D ≤ 1999) (W : KC h 5 66 0 0) (R448 : KC h 9 448 0 0) (R464 : KC h 9 464 0 0) (S : KC h 15 0 0 t) (hR : ∀ q ∈ rgT, RgO h q) : ∃ r : Int32, 0 ≤ r.toInt ∧ r.toInt ≤ 9999 ∧ (∀ gA, ∃ g1, CRun (d + 4) 48 [.ref 34, .ref 1, .int 4, .int a, .int b, .int 0] (ov 35 36 h gA) (some (.int r)) (ov 35 36 h g1)) ∧ (∀ h2 gB, (∀ o (j : Int32), ¬ (o = 65 ∧ j = 29) → h2.1 o j = h.1 o j) → h2.2 = h.2 → ∃ g2, CRun (d + 4) 231 [.ref 65, .int 4, .int a, .int b, .int 0] (ov 79 80 h2 gB) (some (.int r)) (ov 79 80 h2 g2)) := by
  obtain ⟨r, -, -, r0, r1, cA, cB⟩ := gvP4 (d := d) (h := h) (h2 := h) (gA := h) (gB := h) (a := a) (b := b) t8 t66 t0 t1 d1 d2 dz dl W R448 R464 S hR (fun _ _ _ => rfl) rfl
  refine ⟨r, r0, r1, fun gA => ?_, fun h2 gB e2 e2' => ?_⟩
  · obtain ⟨r', g1, g2, -, -, c1, c2⟩ := gvP4 (d := d) (h := h) (h2 := h) (gA := gA) (gB := h) (a := a) (b := b) t8 t66 t0 t1 d1 d2 dz dl W R448 R464 S hR (fun _ _ _ => rfl) rfl
    have e : r' = r := Value.int.inj (Option.some.inj (crun_eq c2 cB).1)
    subst e
    exact ⟨g1, c1⟩
  · obtain ⟨r', g1, g2, -, -, c1, c2⟩ := gvP4 (d := d) (h := h) (h2 := h2) (gA := h) (gB := gB) (a := a) (b := b) t8 t66 t0 t1 d1 d2 dz dl W R448 R464 S hR e2 e2'
    have e : r' = r := Value.int.inj (Option.some.inj (crun_eq c1 cA).1)
    subst e
    exact ⟨g2, c2⟩
set_option maxRecDepth 100000 in
theorem gvP2 {d : Nat} {h h2 gA gB : Hp} {a b : Int32} {t D : Int} (t8 : t = (h.1 8 2).toInt) (t66 : t = (h.1 66 4).toInt) (t0 : 0 ≤ t) (t1 : t ≤ 12) (d1 : D = (h.1 1 5).toInt) (d2 : D = (h.1 66 0).toInt) (dz : 0 ≤ D) (dl : D ≤ 1999) (W : KC h 5 66 0 0) (R448 : KC h 9 448 0 0) (R464 : KC h 9 464 0 0) (S : KC h 15 0 0 t) (hR : ∀ q ∈ rgT, RgO h q) (e2 : ∀ o (j : Int32), ¬ (o = 65 ∧ j = 29) → h2.1 o j = h.1 o j) (e2' : h2.2 = h.2) : ∃ (r : Int32) (g1 g2 : Hp), 0 ≤ r.toInt ∧ r.toInt ≤ 9999 ∧ CRun (d + 4) 48 [.ref 34, .ref 1, .int 2, .int a, .int b, .int 0] (ov 35 36 h gA) (some (.int r)) (ov 35 36 h g1) ∧ CRun (d + 4) 231 [.ref 65, .int 2, .int a, .int b, .int 0] (ov 79 80 h2 gB) (some (.int r)) (ov 79 80 h2 g2) := by
  have F := ov_frm (gA := gA) (gB := gB) e2 e2'
  obtain ⟨K, hK⟩ : ∃ K, K = mxH true (ov 35 36 h gA) (ov 79 80 h2 gB) := ⟨_, rfl⟩
  rw [← hK] at F
  have i8 : t = (K.1 8 2).toInt := by rw [F.1 8 2 (nwO rfl)]; exact t8
  have i66 : t = (K.1 66 4).toInt := by rw [F.1 66 4 (nwO rfl)]; exact t66
  have iD : D = (K.1 1 5).toInt := by rw [F.1 1 5 (nwO rfl)]; exact d1
  have iE : D = (K.1 66 0).toInt := by rw [F.1 66 0 (nwO rfl)]; exact d2
  have kW : KC K 5 66 0 0 := KC_fr (by decide) (by decide +kernel) F W
  have k448 : KC K 9 448 0 0 := KC_fr (by decide) (by decide +kernel) F R448
  have k464 : KC K 9 464 0 0 := KC_fr (by decide) (by decide +kernel) F R464
  have kS : KC K 15 0 0 t := KC_fr (by decide) (by decide +kernel) F S
  have hR : ∀ q ∈ rgT, RgO K q := rgV_sp (vs := wsO) (by decide +kernel) F hR
  clear F W R448 R464 S t8 t66 d1 d2
  obtain ⟨rA, hA, rB, hB, cA, cB, -, -, -, -, -, FR, oe, hoe, ρ2, -, bd2, rtA, rtB, -, -⟩ := okP4 (d + 4) (by show 4 ≤ _; omega) (fun k => ([2, a.toInt, b.toInt, 0, 2, a.toInt, b.toInt, 0, t, t, 0, 0, 0, t, D, D] : List Int).getD k 0) [.ref 34, .ref 1, .int 2, .int a, .int b, .int 0] [.ref 65, .int 2, .int a, .int b, .int 0] K rfl ⟨_, _, rfl, by rw [if_pos rfl]; exact ⟨rfl, by decide, ⟨_, _, rfl, by rw [if_pos rfl]; exact ⟨rfl, by decide, ⟨_, _, rfl, by rw [if_neg (by decide), if_pos rfl]; exact ⟨by show (2 : Int) ≤ 2 ∧ 2 ≤ 2; omega, ⟨_, rfl, rfl⟩, ⟨_, _, rfl, by rw [if_neg (by decide), if_pos rfl]; exact ⟨by show ((-2147483648) : Int) ≤ a.toInt ∧ a.toInt ≤ 2147483647; omega, ⟨_, rfl, rfl⟩, ⟨_, _, rfl, by rw [if_neg (by decide), if_pos rfl]; exact ⟨by show ((-2147483648) : Int) ≤ b.toInt ∧ b.toInt ≤ 2147483647; omega, ⟨_, rfl, rfl⟩, ⟨_, _, rfl, by rw [if_neg (by decide), if_pos rfl]; exact ⟨by show ((-2147483648) : Int) ≤ 0 ∧ 0 ≤ 2147483647; omega, ⟨_, rfl, rfl⟩, ⟨_, _, rfl, by rw [if_pos rfl]; exact ⟨rfl, by decide, ⟨_, _, rfl, by rw [if_neg (by decide), if_pos rfl]; exact ⟨by show (2 : Int) ≤ 2 ∧ 2 ≤ 2; omega, ⟨_, rfl, rfl⟩, ⟨_, _, rfl, by rw [if_neg (by decide), if_pos rfl]; exact ⟨by show ((-2147483648) : Int) ≤ a.toInt ∧ a.toInt ≤ 2147483647; omega, ⟨_, rfl, rfl⟩, ⟨_, _, rfl, by rw [if_neg (by decide), if_pos rfl]; exact ⟨by show ((-2147483648) : Int) ≤ b.toInt ∧ b.toInt ≤ 2147483647; omega, ⟨_, rfl, rfl⟩, ⟨_, _, rfl, by rw [if_neg (by decide), if_pos rfl]; exact ⟨by show ((-2147483648) : Int) ≤ 0 ∧ 0 ≤ 2147483647; omega, ⟨_, rfl, rfl⟩, rfl⟩⟩⟩⟩⟩⟩⟩⟩⟩⟩⟩⟩⟩⟩⟩⟩⟩⟩⟩⟩⟩⟩ (List.forall_mem_cons.mpr ⟨by show (0 : Int) ≤ t ∧ t ≤ 12; omega, List.forall_mem_cons.mpr ⟨by show (0 : Int) ≤ t ∧ t ≤ 12; omega, List.forall_mem_cons.mpr ⟨by show (0 : Int) ≤ 0 ∧ 0 ≤ 0; omega, List.forall_mem_cons.mpr ⟨by show (0 : Int) ≤ 0 ∧ 0 ≤ 0; omega, List.forall_mem_cons.mpr ⟨by show (0 : Int) ≤ 0 ∧ 0 ≤ 0; omega, List.forall_mem_cons.mpr ⟨by show (0 : Int) ≤ t ∧ t ≤ 12; omega, List.forall_mem_cons.mpr ⟨by show (0 : Int) ≤ D ∧ D ≤ 1999; omega, List.forall_mem_cons.mpr ⟨by show (0 : Int) ≤ D ∧ D ≤ 1999; omega, fun _ h => absurd h List.not_mem_nil⟩⟩⟩⟩⟩⟩⟩⟩) (List.forall_mem_cons.mpr ⟨⟨2, leV_C _ 2, by show leV _ (leX 8) = _; rw [leV_X]; exact i8⟩, List.forall_mem_cons.mpr ⟨⟨4, leV_C _ 4, by show leV _ (leX 9) = _; rw [leV_X]; exact i66⟩, List.forall_mem_cons.mpr ⟨by show KC K 5 66 (leV _ (leC 0)) (leV _ (leX 10)); rw [leV_C, leV_X]; exact kW, List.forall_mem_cons.mpr ⟨by show KC K 9 448 (leV _ (leC 0)) (leV _ (leX 11)); rw [leV_C, leV_X]; exact k448, List.forall_mem_cons.mpr ⟨by show KC K 9 464 (leV _ (leC 0)) (leV _ (leX 12)); rw [leV_C, leV_X]; exact k464, List.forall_mem_cons.mpr ⟨by show KC K 15 0 (leV _ (leC 0)) (leV _ (leX 13)); rw [leV_C, leV_X]; exact kS, List.forall_mem_cons.mpr ⟨⟨5, leV_C _ 5, by show leV _ (leX 14) = _; rw [leV_X]; exact iD⟩, List.forall_mem_cons.mpr ⟨⟨0, leV_C _ 0, by show leV _ (leX 15) = _; rw [leV_X]; exact iE⟩, fun _ h => absurd h List.not_mem_nil⟩⟩⟩⟩⟩⟩⟩⟩) (List.forall_mem_cons.mpr ⟨by show (0 : Int) ≤ 0 + (1 * (2) + (-1 * (2) + (0))); omega, List.forall_mem_cons.mpr ⟨by show (0 : Int) ≤ 0 + (-1 * (2) + (1 * (2) + (0))); omega, List.forall_mem_cons.mpr ⟨by show (0 : Int) ≤ 0 + (1 * (a.toInt) + (-1 * (a.toInt) + (0))); omega, List.forall_mem_cons.mpr ⟨by show (0 : Int) ≤ 0 + (-1 * (a.toInt) + (1 * (a.toInt) + (0))); omega, List.forall_mem_cons.mpr ⟨by show (0 : Int) ≤ 0 + (1 * (b.toInt) + (-1 * (b.toInt) + (0))); omega, List.forall_mem_cons.mpr ⟨by show (0 : Int) ≤ 0 + (-1 * (b.toInt) + (1 * (b.toInt) + (0))); omega, List.forall_mem_cons.mpr ⟨by show (0 : Int) ≤ 0 + (1 * (0) + (-1 * (0) + (0))); omega, List.forall_mem_cons.mpr ⟨by show (0 : Int) ≤ 0 + (-1 * (0) + (1 * (0) + (0))); omega, List.forall_mem_cons.mpr ⟨by show (0 : Int) ≤ 0 + (1 * (t) + (-1 * (t) + (0))); omega, List.forall_mem_cons.mpr ⟨by show (0 : Int) ≤ 0 + (-1 * (t) + (1 * (t) + (0))); omega, List.forall_mem_cons.mpr ⟨by show (0 : Int) ≤ 0 + (1 * (t) + (-1 * (t) + (0))); omega, List.forall_mem_cons.mpr ⟨by show (0 : Int) ≤ 0 + (-1 * (t) + (1 * (t) + (0))); omega, List.forall_mem_cons.mpr ⟨by show (0 : Int) ≤ 0 + (1 * (D) + (-1 * (D) + (0))); omega, List.forall_mem_cons.mpr ⟨by show (0 : Int) ≤ 0 + (-1 * (D) + (1 * (D) + (0))); omega, fun _ h => absurd h List.not_mem_nil⟩⟩⟩⟩⟩⟩⟩⟩⟩⟩⟩⟩⟩⟩) hR
  obtain rfl := List.mem_singleton.mp hoe
  obtain ⟨x, rfl, ex⟩ := rtA
  obtain ⟨y, rfl, ey⟩ := rtB
  have ex : (0 : Int) + (1 * ρ2 16 + 0) = x.toInt := ex
  have ey : (0 : Int) + (1 * ρ2 16 + 0) = y.toInt := ey
  have exy : x = y := Int32.toInt_inj.mp (by omega)
  subst exy
  have bd : (0 : Int) ≤ ρ2 16 ∧ ρ2 16 ≤ 9999 := bd2 (16, 0, 9999) (List.mem_of_getElem? (i := 0) rfl)
  subst hK
  obtain ⟨g1, c1⟩ := ov_afA (List.forall_mem_cons.mpr ⟨fun _ => rfl, List.forall_mem_cons.mpr ⟨fun _ => rfl, List.forall_mem_cons.mpr ⟨trivial, List.forall_mem_cons.mpr ⟨trivial, List.forall_mem_cons.mpr ⟨trivial, List.forall_mem_cons.mpr ⟨trivial, fun _ h => absurd h List.not_mem_nil⟩⟩⟩⟩⟩⟩) cA FR
  obtain ⟨g2, c2⟩ := ov_afB (show h.2.2 = h2.2.2 by rw [e2']) (List.forall_mem_cons.mpr ⟨fun _ => rfl, List.forall_mem_cons.mpr ⟨trivial, List.forall_mem_cons.mpr ⟨trivial, List.forall_mem_cons.mpr ⟨trivial, List.forall_mem_cons.mpr ⟨trivial, fun _ h => absurd h List.not_mem_nil⟩⟩⟩⟩⟩) cB FR
  exact ⟨x, g1, g2, by omega, by omega, c1, c2⟩
theorem gv2 {d : Nat} {h : Hp} {a b : Int32} {t D : Int} (t8 : t = (h.1 8 2).toInt) (t66 : t = (h.1 66 4).toInt) (t0 : 0 ≤ t) (t1 : t ≤ 12) (d1 : D = (h.1 1 5).toInt) (d2 : D = (h.1 66 0).toInt) (dz : 0 ≤ D) (dl : D ≤ 1999) (W : KC h 5 66 0 0) (R448 : KC h 9 448 0 0) (R464 : KC h 9 464 0 0) (S : KC h 15 0 0 t) (hR : ∀ q ∈ rgT, RgO h q) : ∃ r : Int32, 0 ≤ r.toInt ∧ r.toInt ≤ 9999 ∧ (∀ gA, ∃ g1, CRun (d + 4) 48 [.ref 34, .ref 1, .int 2, .int a, .int b, .int 0] (ov 35 36 h gA) (some (.int r)) (ov 35 36 h g1)) ∧ (∀ h2 gB, (∀ o (j : Int32), ¬ (o = 65 ∧ j = 29) → h2.1 o j = h.1 o j) → h2.2 = h.2 → ∃ g2, CRun (d + 4) 231 [.ref 65, .int 2, .int a, .int b, .int 0] (ov 79 80 h2 gB) (some (.int r)) (ov 79 80 h2 g2)) := by
  obtain ⟨r, -, -, r0, r1, cA, cB⟩ := gvP2 (d := d) (h := h) (h2 := h) (gA := h) (gB := h) (a := a) (b := b) t8 t66 t0 t1 d1 d2 dz dl W R448 R464 S hR (fun _ _ _ => rfl) rfl
  refine ⟨r, r0, r1, fun gA => ?_, fun h2 gB e2 e2' => ?_⟩
  · obtain ⟨r', g1, g2, -, -, c1, c2⟩ := gvP2 (d := d) (h := h) (h2 := h) (gA := gA) (gB := h) (a := a) (b := b) t8 t66 t0 t1 d1 d2 dz dl W R448 R464 S hR (fun _ _ _ => rfl) rfl
    have e : r' = r := Value.int.inj (Option.some.inj (crun_eq c2 cB).1)
    subst e
    exact ⟨g1, c1⟩
  · obtain ⟨r', g1, g2, -, -, c1, c2⟩ := gvP2 (d := d) (h := h) (h2 := h2) (gA := h) (gB := gB) (a := a) (b := b) t8 t66 t0 t1 d1 d2 dz dl W R448 R464 S hR e2 e2'
    have e : r' = r := Value.int.inj (Option.some.inj (crun_eq c1 cA).1)
    subst e
    exact ⟨g2, c2⟩
set_option maxRecDepth 100000 in
theorem gvP3 {d : Nat} {h h2 gA gB : Hp} {a b : Int32} {t D : Int} (t8 : t = (h.1 8 2).toInt) (t66 : t = (h.1 66 4).toInt) (t0 : 0 ≤ t) (t1 : t ≤ 12) (d1 : D = (h.1 1 5).toInt) (d2 : D = (h.1 66 0).toInt) (dz : 0 ≤ D) (dl : D ≤ 1999) (W : KC h 5 66 0 0) (R448 : KC h 9 448 0 0) (R464 : KC h 9 464 0 0) (S : KC h 15 0 0 t) (hR : ∀ q ∈ rgT, RgO h q) (e2 : ∀ o (j : Int32), ¬ (o = 65 ∧ j = 29) → h2.1 o j = h.1 o j) (e2' : h2.2 = h.2) : ∃ (r : Int32) (g1 g2 : Hp), 0 ≤ r.toInt ∧ r.toInt ≤ 9999 ∧ CRun (d + 4) 48 [.ref 34, .ref 1, .int 3, .int a, .int b, .int 0] (ov 35 36 h gA) (some (.int r)) (ov 35 36 h g1) ∧ CRun (d + 4) 231 [.ref 65, .int 3, .int a, .int b, .int 0] (ov 79 80 h2 gB) (some (.int r)) (ov 79 80 h2 g2) := by
  have F := ov_frm (gA := gA) (gB := gB) e2 e2'
  obtain ⟨K, hK⟩ : ∃ K, K = mxH true (ov 35 36 h gA) (ov 79 80 h2 gB) := ⟨_, rfl⟩
  rw [← hK] at F
  have i8 : t = (K.1 8 2).toInt := by rw [F.1 8 2 (nwO rfl)]; exact t8
  have i66 : t = (K.1 66 4).toInt := by rw [F.1 66 4 (nwO rfl)]; exact t66
  have iD : D = (K.1 1 5).toInt := by rw [F.1 1 5 (nwO rfl)]; exact d1
  have iE : D = (K.1 66 0).toInt := by rw [F.1 66 0 (nwO rfl)]; exact d2
  have kW : KC K 5 66 0 0 := KC_fr (by decide) (by decide +kernel) F W
  have k448 : KC K 9 448 0 0 := KC_fr (by decide) (by decide +kernel) F R448
  have k464 : KC K 9 464 0 0 := KC_fr (by decide) (by decide +kernel) F R464
  have kS : KC K 15 0 0 t := KC_fr (by decide) (by decide +kernel) F S
  have hR : ∀ q ∈ rgT, RgO K q := rgV_sp (vs := wsO) (by decide +kernel) F hR
  clear F W R448 R464 S t8 t66 d1 d2
  obtain ⟨rA, hA, rB, hB, cA, cB, -, -, -, -, -, FR, oe, hoe, ρ2, -, bd2, rtA, rtB, -, -⟩ := okP5 (d + 4) (by show 4 ≤ _; omega) (fun k => ([3, a.toInt, b.toInt, 0, 3, a.toInt, b.toInt, 0, t, t, 0, 0, 0, t, D, D] : List Int).getD k 0) [.ref 34, .ref 1, .int 3, .int a, .int b, .int 0] [.ref 65, .int 3, .int a, .int b, .int 0] K rfl ⟨_, _, rfl, by rw [if_pos rfl]; exact ⟨rfl, by decide, ⟨_, _, rfl, by rw [if_pos rfl]; exact ⟨rfl, by decide, ⟨_, _, rfl, by rw [if_neg (by decide), if_pos rfl]; exact ⟨by show (3 : Int) ≤ 3 ∧ 3 ≤ 3; omega, ⟨_, rfl, rfl⟩, ⟨_, _, rfl, by rw [if_neg (by decide), if_pos rfl]; exact ⟨by show ((-2147483648) : Int) ≤ a.toInt ∧ a.toInt ≤ 2147483647; omega, ⟨_, rfl, rfl⟩, ⟨_, _, rfl, by rw [if_neg (by decide), if_pos rfl]; exact ⟨by show ((-2147483648) : Int) ≤ b.toInt ∧ b.toInt ≤ 2147483647; omega, ⟨_, rfl, rfl⟩, ⟨_, _, rfl, by rw [if_neg (by decide), if_pos rfl]; exact ⟨by show ((-2147483648) : Int) ≤ 0 ∧ 0 ≤ 2147483647; omega, ⟨_, rfl, rfl⟩, ⟨_, _, rfl, by rw [if_pos rfl]; exact ⟨rfl, by decide, ⟨_, _, rfl, by rw [if_neg (by decide), if_pos rfl]; exact ⟨by show (3 : Int) ≤ 3 ∧ 3 ≤ 3; omega, ⟨_, rfl, rfl⟩, ⟨_, _, rfl, by rw [if_neg (by decide), if_pos rfl]; exact ⟨by show ((-2147483648) : Int) ≤ a.toInt ∧ a.toInt ≤ 2147483647; omega, ⟨_, rfl, rfl⟩, ⟨_, _, rfl, by rw [if_neg (by decide), if_pos rfl]; exact ⟨by show ((-2147483648) : Int) ≤ b.toInt ∧ b.toInt ≤ 2147483647; omega, ⟨_, rfl, rfl⟩, ⟨_, _, rfl, by rw [if_neg (by decide), if_pos rfl]; exact ⟨by show ((-2147483648) : Int) ≤ 0 ∧ 0 ≤ 2147483647; omega, ⟨_, rfl, rfl⟩, rfl⟩⟩⟩⟩⟩⟩⟩⟩⟩⟩⟩⟩⟩⟩⟩⟩⟩⟩⟩⟩⟩⟩ (List.forall_mem_cons.mpr ⟨by show (0 : Int) ≤ t ∧ t ≤ 12; omega, List.forall_mem_cons.mpr ⟨by show (0 : Int) ≤ t ∧ t ≤ 12; omega, List.forall_mem_cons.mpr ⟨by show (0 : Int) ≤ 0 ∧ 0 ≤ 0; omega, List.forall_mem_cons.mpr ⟨by show (0 : Int) ≤ 0 ∧ 0 ≤ 0; omega, List.forall_mem_cons.mpr ⟨by show (0 : Int) ≤ 0 ∧ 0 ≤ 0; omega, List.forall_mem_cons.mpr ⟨by show (0 : Int) ≤ t ∧ t ≤ 12; omega, List.forall_mem_cons.mpr ⟨by show (0 : Int) ≤ D ∧ D ≤ 1999; omega, List.forall_mem_cons.mpr ⟨by show (0 : Int) ≤ D ∧ D ≤ 1999; omega, fun _ h => absurd h List.not_mem_nil⟩⟩⟩⟩⟩⟩⟩⟩) (List.forall_mem_cons.mpr ⟨⟨2, leV_C _ 2, by show leV _ (leX 8) = _; rw [leV_X]; exact i8⟩, List.forall_mem_cons.mpr ⟨⟨4, leV_C _ 4, by show leV _ (leX 9) = _; rw [leV_X]; exact i66⟩, List.forall_mem_cons.mpr ⟨by show KC K 5 66 (leV _ (leC 0)) (leV _ (leX 10)); rw [leV_C, leV_X]; exact kW, List.forall_mem_cons.mpr ⟨by show KC K 9 448 (leV _ (leC 0)) (leV _ (leX 11)); rw [leV_C, leV_X]; exact k448, List.forall_mem_cons.mpr ⟨by show KC K 9 464 (leV _ (leC 0)) (leV _ (leX 12)); rw [leV_C, leV_X]; exact k464, List.forall_mem_cons.mpr ⟨by show KC K 15 0 (leV _ (leC 0)) (leV _ (leX 13)); rw [leV_C, leV_X]; exact kS, List.forall_mem_cons.mpr ⟨⟨5, leV_C _ 5, by show leV _ (leX 14) = _; rw [leV_X]; exact iD⟩, List.forall_mem_cons.mpr ⟨⟨0, leV_C _ 0, by show leV _ (leX 15) = _; rw [leV_X]; exact iE⟩, fun _ h => absurd h List.not_mem_nil⟩⟩⟩⟩⟩⟩⟩⟩) (List.forall_mem_cons.mpr ⟨by show (0 : Int) ≤ 0 + (1 * (3) + (-1 * (3) + (0))); omega, List.forall_mem_cons.mpr ⟨by show (0 : Int) ≤ 0 + (-1 * (3) + (1 * (3) + (0))); omega, List.forall_mem_cons.mpr ⟨by show (0 : Int) ≤ 0 + (1 * (a.toInt) + (-1 * (a.toInt) + (0))); omega, List.forall_mem_cons.mpr ⟨by show (0 : Int) ≤ 0 + (-1 * (a.toInt) + (1 * (a.toInt) + (0))); omega, List.forall_mem_cons.mpr ⟨by show (0 : Int) ≤ 0 + (1 * (b.toInt) + (-1 * (b.toInt) + (0))); omega, List.forall_mem_cons.mpr ⟨by show (0 : Int) ≤ 0 + (-1 * (b.toInt) + (1 * (b.toInt) + (0))); omega, List.forall_mem_cons.mpr ⟨by show (0 : Int) ≤ 0 + (1 * (0) + (-1 * (0) + (0))); omega, List.forall_mem_cons.mpr ⟨by show (0 : Int) ≤ 0 + (-1 * (0) + (1 * (0) + (0))); omega, List.forall_mem_cons.mpr ⟨by show (0 : Int) ≤ 0 + (1 * (t) + (-1 * (t) + (0))); omega, List.forall_mem_cons.mpr ⟨by show (0 : Int) ≤ 0 + (-1 * (t) + (1 * (t) + (0))); omega, List.forall_mem_cons.mpr ⟨by show (0 : Int) ≤ 0 + (1 * (t) + (-1 * (t) + (0))); omega, List.forall_mem_cons.mpr ⟨by show (0 : Int) ≤ 0 + (-1 * (t) + (1 * (t) + (0))); omega, List.forall_mem_cons.mpr ⟨by show (0 : Int) ≤ 0 + (1 * (D) + (-1 * (D) + (0))); omega, List.forall_mem_cons.mpr ⟨by show (0 : Int) ≤ 0 + (-1 * (D) + (1 * (D) + (0))); omega, fun _ h => absurd h List.not_mem_nil⟩⟩⟩⟩⟩⟩⟩⟩⟩⟩⟩⟩⟩⟩) hR
  obtain rfl := List.mem_singleton.mp hoe
  obtain ⟨x, rfl, ex⟩ := rtA
  obtain ⟨y, rfl, ey⟩ := rtB
  have ex : (0 : Int) + (1 * ρ2 16 + 0) = x.toInt := ex
  have ey : (0 : Int) + (1 * ρ2 16 + 0) = y.toInt := ey
  have exy : x = y := Int32.toInt_inj.mp (by omega)
  subst exy
  have bd : (0 : Int) ≤ ρ2 16 ∧ ρ2 16 ≤ 9999 := bd2 (16, 0, 9999) (List.mem_of_getElem? (i := 0) rfl)
  subst hK
  obtain ⟨g1, c1⟩ := ov_afA (List.forall_mem_cons.mpr ⟨fun _ => rfl, List.forall_mem_cons.mpr ⟨fun _ => rfl, List.forall_mem_cons.mpr ⟨trivial, List.forall_mem_cons.mpr ⟨trivial, List.forall_mem_cons.mpr ⟨trivial, List.forall_mem_cons.mpr ⟨trivial, fun _ h => absurd h List.not_mem_nil⟩⟩⟩⟩⟩⟩) cA FR
  obtain ⟨g2, c2⟩ := ov_afB (show h.2.2 = h2.2.2 by rw [e2']) (List.forall_mem_cons.mpr ⟨fun _ => rfl, List.forall_mem_cons.mpr ⟨trivial, List.forall_mem_cons.mpr ⟨trivial, List.forall_mem_cons.mpr ⟨trivial, List.forall_mem_cons.mpr ⟨trivial, fun _ h => absurd h List.not_mem_nil⟩⟩⟩⟩⟩) cB FR
  exact ⟨x, g1, g2, by omega, by omega, c1, c2⟩
theorem gv3 {d : Nat} {h : Hp} {a b : Int32} {t D : Int} (t8 : t = (h.1 8 2).toInt) (t66 : t = (h.1 66 4).toInt) (t0 : 0 ≤ t) (t1 : t ≤ 12) (d1 : D = (h.1 1 5).toInt) (d2 : D = (h.1 66 0).toInt) (dz : 0 ≤ D) (dl : D ≤ 1999) (W : KC h 5 66 0 0) (R448 : KC h 9 448 0 0) (R464 : KC h 9 464 0 0) (S : KC h 15 0 0 t) (hR : ∀ q ∈ rgT, RgO h q) : ∃ r : Int32, 0 ≤ r.toInt ∧ r.toInt ≤ 9999 ∧ (∀ gA, ∃ g1, CRun (d + 4) 48 [.ref 34, .ref 1, .int 3, .int a, .int b, .int 0] (ov 35 36 h gA) (some (.int r)) (ov 35 36 h g1)) ∧ (∀ h2 gB, (∀ o (j : Int32), ¬ (o = 65 ∧ j = 29) → h2.1 o j = h.1 o j) → h2.2 = h.2 → ∃ g2, CRun (d + 4) 231 [.ref 65, .int 3, .int a, .int b, .int 0] (ov 79 80 h2 gB) (some (.int r)) (ov 79 80 h2 g2)) := by
  obtain ⟨r, -, -, r0, r1, cA, cB⟩ := gvP3 (d := d) (h := h) (h2 := h) (gA := h) (gB := h) (a := a) (b := b) t8 t66 t0 t1 d1 d2 dz dl W R448 R464 S hR (fun _ _ _ => rfl) rfl
  refine ⟨r, r0, r1, fun gA => ?_, fun h2 gB e2 e2' => ?_⟩
  · obtain ⟨r', g1, g2, -, -, c1, c2⟩ := gvP3 (d := d) (h := h) (h2 := h) (gA := gA) (gB := h) (a := a) (b := b) t8 t66 t0 t1 d1 d2 dz dl W R448 R464 S hR (fun _ _ _ => rfl) rfl
    have e : r' = r := Value.int.inj (Option.some.inj (crun_eq c2 cB).1)
    subst e
    exact ⟨g1, c1⟩
  · obtain ⟨r', g1, g2, -, -, c1, c2⟩ := gvP3 (d := d) (h := h) (h2 := h2) (gA := h) (gB := gB) (a := a) (b := b) t8 t66 t0 t1 d1 d2 dz dl W R448 R464 S hR e2 e2'
    have e : r' = r := Value.int.inj (Option.some.inj (crun_eq c1 cA).1)
    subst e
    exact ⟨g2, c2⟩
def okBp (h h' : Hp) : Prop := (∀ o (j : Int32), o ≠ 79 → o ≠ 80 → ¬ (o = 65 ∧ (29 ≤ j.toInt ∧ j.toInt ≤ 31)) → h'.1 o j = h.1 o j) ∧ h'.2 = h.2
theorem okB_ov {h g : Hp} : okBp h (ov 79 80 h g) := ⟨fun o j a b _ => ov_ne a b, rfl⟩
theorem okB_3 {h g : Hp} {v1 v2 v3 : Int32} : okBp h (hI (hI (hI (ov 79 80 h g) 65 29 v1) 65 30 v2) 65 31 v3) := ⟨fun o j a b c => by
  by_cases e : o = 65
  · subst e
    rw [hI_j (fun z => c ⟨rfl, by rw [z]; decide, by rw [z]; decide⟩), hI_j (fun z => c ⟨rfl, by rw [z]; decide, by rw [z]; decide⟩), hI_j (fun z => c ⟨rfl, by rw [z]; decide, by rw [z]; decide⟩)]
    exact ov_ne a b
  · rw [hI_ne e, hI_ne e, hI_ne e]
    exact ov_ne a b, rfl⟩
theorem frm_T {h g hB : Hp} (b : okBp h hB) : Frm wsT h (mxH true (ov 35 36 h g) hB) := by
  refine ⟨fun o j q => ?_, fun o j _ => ?_, rfl⟩
  · have i := i32b j
    have n35 : o ≠ 35 := fun e => q ⟨_, List.mem_of_getElem? (i := 0) rfl, rfl, e.symm, i.1, i.2⟩
    have n36 : o ≠ 36 := fun e => q ⟨_, List.mem_of_getElem? (i := 1) rfl, rfl, e.symm, i.1, i.2⟩
    have n79 : o ≠ 79 := fun e => q ⟨_, List.mem_of_getElem? (i := 3) rfl, rfl, e.symm, i.1, i.2⟩
    have n80 : o ≠ 80 := fun e => q ⟨_, List.mem_of_getElem? (i := 4) rfl, rfl, e.symm, i.1, i.2⟩
    have n65 : ¬ (o = 65 ∧ (29 ≤ j.toInt ∧ j.toInt ≤ 31)) := fun e => q ⟨_, List.mem_of_getElem? (i := 2) rfl, rfl, e.1.symm, e.2.1, e.2.2⟩
    show (if sd o = true then (ov 35 36 h g).1 o j else hB.1 o j) = _
    rw [ov_ne n35 n36, b.1 o j n79 n80 n65]
    split <;> rfl
  · show (if sd o = true then h.2.1 o j else hB.2.1 o j) = _
    rw [b.2]
    split <;> rfl
theorem mn_I {a b : Int32} : (if a < b then a else b).toInt = min a.toInt b.toInt := by
  split
  · rename_i z; rw [Int32.lt_iff_toInt_lt] at z; omega
  · rename_i z; rw [Int32.lt_iff_toInt_lt] at z; omega
theorem reA_I {e r4 : Int32} (e0 : 0 ≤ e.toInt) (e1 : e.toInt ≤ 99999) (r0 : 0 ≤ r4.toInt) (r1 : r4.toInt ≤ 9999) : (reA e r4).toInt = max 0 (e.toInt - r4.toInt) := by
  have s : (e - r4).toInt = e.toInt - r4.toInt := by rw [Int32.toInt_sub, b32 (by omega) (by omega)]
  have k0 : (0 : Int32).toInt = 0 := rfl
  unfold reA
  split
  · rename_i z; rw [Int32.le_iff_toInt_le, k0, s] at z; rw [s]; omega
  · rename_i z; rw [Int32.le_iff_toInt_le, k0, s] at z; rw [k0]; omega
theorem shA_re {e r4 : Int32} : (if 0 < (e - r4) then (e - r4) else 0) = reA e r4 := by
  have k0 : (0 : Int32).toInt = 0 := rfl
  unfold reA
  split
  · rename_i z
    rw [if_pos]
    rw [Int32.lt_iff_toInt_lt] at z; rw [Int32.le_iff_toInt_le]; omega
  · rename_i z
    split
    · rename_i y
      rw [Int32.lt_iff_toInt_lt] at z; rw [Int32.le_iff_toInt_le] at y
      apply Int32.toInt_inj.mp
      omega
    · rfl
theorem shV_re {e o r4 r2 : Int32} : shV e o r4 r2 = reV e o r4 r2 := by
  unfold shV reV
  rw [shA_re]
theorem shS_re {e o r4 r2 r3 : Int32} : shS e o r4 r2 r3 = reS e o r4 r2 r3 := by
  unfold shS reS reV
  rw [shA_re]
/-- how much goes where: within its bounds -/
theorem re_I {e o r4 r2 r3 : Int32} (e0 : 0 ≤ e.toInt) (e1 : e.toInt ≤ 99999) (o0 : 0 ≤ o.toInt) (o1 : o.toInt ≤ 9999) (a0 : 0 ≤ r4.toInt) (a1 : r4.toInt ≤ 9999) (b0 : 0 ≤ r2.toInt) (b1 : r2.toInt ≤ 9999) (c0 : 0 ≤ r3.toInt) (c1 : r3.toInt ≤ 9999) : (0 ≤ (o - reV e o r4 r2).toInt ∧ (o - reV e o r4 r2).toInt ≤ 9999) ∧ (0 ≤ (reS e o r4 r2 r3).toInt ∧ (reS e o r4 r2 r3).toInt ≤ 9999) ∧ (0 ≤ (e - reV e o r4 r2 - reS e o r4 r2 r3).toInt ∧ (e - reV e o r4 r2 - reS e o r4 r2 r3).toInt ≤ 99999) := by
  have A := reA_I e0 e1 a0 a1
  have V : (reV e o r4 r2).toInt = min (reA e r4).toInt (min o.toInt r2.toInt) := by
    unfold reV
    rw [mn_I, mn_I]
  have s1 : (reA e r4 - reV e o r4 r2).toInt = (reA e r4).toInt - (reV e o r4 r2).toInt := by rw [Int32.toInt_sub, b32 (by omega) (by omega)]
  have Sv : (reS e o r4 r2 r3).toInt = min (reA e r4 - reV e o r4 r2).toInt r3.toInt := by
    unfold reS
    rw [mn_I]
  have s2 : (o - reV e o r4 r2).toInt = o.toInt - (reV e o r4 r2).toInt := by rw [Int32.toInt_sub, b32 (by omega) (by omega)]
  have s3 : (e - reV e o r4 r2).toInt = e.toInt - (reV e o r4 r2).toInt := by rw [Int32.toInt_sub, b32 (by omega) (by omega)]
  have s4 : (e - reV e o r4 r2 - reS e o r4 r2 r3).toInt = (e - reV e o r4 r2).toInt - (reS e o r4 r2 r3).toInt := by rw [Int32.toInt_sub, b32 (by omega) (by omega)]
  omega
theorem paP_ge {c n : Int32} (c0 : 0 ≤ c.toInt) (c1 : c.toInt ≤ 99999) (n0 : 0 ≤ n.toInt) (n1 : n.toInt ≤ 99999) : paP c n = geP c n ∧ 0 ≤ (geP c n).toInt ∧ (geP c n).toInt ≤ 99999 := by
  have k9 : (99999 : Int32).toInt = 99999 := rfl
  have s : (c + n).toInt = c.toInt + n.toInt := by rw [Int32.toInt_add, b32 (by omega) (by omega)]
  have G : (geP c n).toInt = min 99999 (c.toInt + n.toInt) := by
    unfold geP
    split
    · rename_i z; rw [Int32.lt_iff_toInt_lt] at z; omega
    · rename_i z; rw [Int32.lt_iff_toInt_lt] at z; omega
  have A : (paP c n).toInt = min 99999 (c.toInt + n.toInt) := by
    unfold paP
    rw [mn_I]
    omega
  exact ⟨Int32.toInt_inj.mp (by omega), by omega, by omega⟩
theorem ov_65 {h g : Hp} {v : Int32} : ov 79 80 (hI h 65 29 v) g = hI (ov 79 80 h g) 65 29 v := mx_ext (fun o j => by
  by_cases e9 : o = 79
  · subst e9; rw [hI_ne (by decide)]; rfl
  by_cases e0 : o = 80
  · subst e0; rw [hI_ne (by decide)]; rfl
  rw [ov_ne e9 e0]
  by_cases e : o = 65 ∧ j = 29
  · rw [e.1, e.2, hI_eq, hI_eq]
  · by_cases f : o = 65
    · subst f; rw [hI_j (fun z => e ⟨rfl, z⟩), hI_j (fun z => e ⟨rfl, z⟩)]; exact (ov_ne e9 e0).symm
    · rw [hI_ne f, hI_ne f]; exact (ov_ne e9 e0).symm) (fun _ _ => rfl) rfl
theorem b_x10 {h : Hp} {n : Nat} (n10 : n ≤ 10) (en2 : h.1 66 2 = nI n) {z : Int32} (H : 0 ≤ z ∧ z ≤ h.1 66 2 - 1) : z < 10 := by
  have k1 : (1 : Int32).toInt = 1 := rfl
  have kt : (10 : Int32).toInt = 10 := rfl
  have m1 : (h.1 66 2 - 1).toInt = (n : Int) - 1 := by rw [en2, Int32.toInt_sub, k1, nI_i (by omega), b32 (by omega) (by omega)]
  have q := H.2
  rw [Int32.le_iff_toInt_le, m1] at q
  rw [Int32.lt_iff_toInt_lt, kt]
  omega
set_option maxRecDepth 100000 in
theorem takes_core {d : Nat} {h : Hp} {n : Nat} {t D : Int} {a0 a1 : Int32} (n10 : n ≤ 10) (en : h.1 4 2 = nI n) (en2 : h.1 66 2 = nI n) (t8 : t = (h.1 8 2).toInt) (t66 : t = (h.1 66 4).toInt) (t0 : 0 ≤ t) (t1 : t ≤ 12) (d1 : D = (h.1 1 5).toInt) (d2 : D = (h.1 66 0).toInt) (dz : 0 ≤ D) (dl : D ≤ 1999) (W : KC h 5 66 0 0) (R448 : KC h 9 448 0 0) (R464 : KC h 9 464 0 0) (S : KC h 15 0 0 t) (hR : ∀ q ∈ rgT, RgO h q) (R144 : RLO h 144 0 0) (R160 : RLO h 160 0 0) (R272 : RLO h 272 0 0) (R288 : RLO h 288 0 0) : ∃ (r : Int32) (hA hB : Hp), CRun (d + 6) 135 [.ref 0, .int a0, .int a1] h (some (.int r)) hA ∧ CRun (d + 6) 235 [.ref 65, .int a0, .int a1] h (some (.int r)) hB ∧ Frm wsT h (mxH true hA hB) := by
  have xm : h.1 4 2 ≤ 10 := by rw [en]; exact (tx_le (b := 10) (by omega) (by decide)).mpr n10
  have k0 : (0 : Int32).toInt = 0 := rfl
  have decH := hold_dec (f := 0) (g := 0) n10 en en2
  have in4 : (h.1 4 2).toInt = n := by rw [en, nI_i (by omega)]
  have hh : ov 35 36 h h = h := ov_self
  have hk : ov 79 80 h h = h := ov_self
  have bI := i64_bd (lo := 0) (hi := 2) (v := a1) (a := 0) (b := 2) rfl rfl
  have x1 : (0 ≤ a0 ∧ a0 ≤ h.1 66 2 - 1) → a0 < 10 := b_x10 n10 en2
  have st : ∀ (r : Int32), (Call (d + 6) 135 [.ref 0, .int a0, .int a1] h (fun r' h' => r' = some (.int r) ∧ ∃ g, h' = ov 35 36 h g)) → (Call (d + 6) 235 [.ref 65, .int a0, .int a1] h (fun r' h' => r' = some (.int r) ∧ okBp h h')) → ∃ (r : Int32) (hA hB : Hp), CRun (d + 6) 135 [.ref 0, .int a0, .int a1] h (some (.int r)) hA ∧ CRun (d + 6) 235 [.ref 65, .int a0, .int a1] h (some (.int r)) hB ∧ Frm wsT h (mxH true hA hB) := fun r cA cB => by
    obtain ⟨rA, hA, ⟨rfl, g, rfl⟩, kA⟩ := cA.det
    obtain ⟨rB, hB, ⟨rfl, fB⟩, kB⟩ := cB.det
    exact ⟨r, _, hB, fun Q q => kA Q q, fun Q q => kB Q q, frm_T fB⟩
  by_cases hv : (0 ≤ a0 ∧ a0 < h.1 4 2)
  case neg =>
    refine st (-1000000001) ?_ ?_
    · have c := c_takesA0 (d := d + 2) (h := h) (w := a1) (Q := fun r' h' => r' = some (.int (-1000000001)) ∧ ∃ g, h' = ov 35 36 h g) xm (fun z => hv z.1) ⟨rfl, h, hh.symm⟩
      exact c
    · exact c_takesB0 (d := d + 2) (h := h) (w := a1) x1 (fun z => hv ((decH _).mpr z.1)) ⟨rfl, by have q := okB_ov (h := h) (g := h); rw [hk] at q; exact q⟩
  have hH := hv
  have hx : 0 ≤ a0.toInt ∧ a0.toInt < (h.1 4 2).toInt := ⟨by have := hH.1; rw [Int32.le_iff_toInt_le, k0] at this; exact this, by have := hH.2; rw [Int32.lt_iff_toInt_lt] at this; exact this⟩
  obtain ⟨x, hxx, rfl⟩ : ∃ x : Nat, (x : Int) = a0.toInt ∧ a0 = nI x := ⟨a0.toInt.toNat, by omega, i_nI hx.1⟩
  have xn : x < n := by omega
  have x10 : x < 10 := by omega
  have hHB := (decH _).mp hH
  have x1B : (0 ≤ nI x ∧ nI x ≤ h.1 66 2 - 1) → nI x < (10 : Int32) := fun _ => (tx_lt (b := 10) (by omega) (by decide)).mpr x10
  by_cases hw : 0 ≤ a1 ∧ a1 ≤ 2
  case neg =>
    refine st (-1000000001) ?_ ?_
    · exact c_takesA0 (d := d + 2) (h := h) (w := a1) (Q := fun r' h' => r' = some (.int (-1000000001)) ∧ ∃ g, h' = ov 35 36 h g) xm (fun z => hw z.2) ⟨rfl, h, hh.symm⟩
    · exact c_takesB0 (d := d + 2) (h := h) (w := a1) x1 (fun z => hw (bI.mp z.2)) ⟨rfl, by have q := okB_ov (h := h) (g := h); rw [hk] at q; exact q⟩
  have c2 : h.1 5 ((nI x * 14) + 2) = h.1 66 ((40 + (16 * nI x)) + 2) := by
    rw [show (nI x * 14) + 2 = nI (2 + 14 * x) from ixA (f := 2) x10 (by decide), show (40 + (16 * nI x)) + 2 = nI (42 + 16 * x) from ixH (f := 2) x10 (by decide)]
    exact rowE (o1 := 5) (o2 := 66) (b1 := 2) (b2 := 42) (s1 := 14) (s2 := 16) (n := 10) R144 (Int.le_refl 0) rfl (by decide) (by decide) x10
  have c3 : h.1 5 ((nI x * 14) + 3) = h.1 66 ((40 + (16 * nI x)) + 3) := by
    rw [show (nI x * 14) + 3 = nI (3 + 14 * x) from ixA (f := 3) x10 (by decide), show (40 + (16 * nI x)) + 3 = nI (43 + 16 * x) from ixH (f := 3) x10 (by decide)]
    exact rowE (o1 := 5) (o2 := 66) (b1 := 3) (b2 := 43) (s1 := 14) (s2 := 16) (n := 10) R160 (Int.le_refl 0) rfl (by decide) (by decide) x10
  have q3 : 0 ≤ (h.1 66 ((40 + (16 * nI x)) + 3)).toInt ∧ (h.1 66 ((40 + (16 * nI x)) + 3)).toInt ≤ 9999 := by
    rw [show (40 + (16 * nI x)) + 3 = nI (43 + 16 * x) from ixH (f := 3) x10 (by decide)]
    exact hR (66, 43, 16, 10, 0, 9999) (by decide +kernel) (nI (43 + 16 * x)) x (by omega) (by dsimp only; omega) (by rw [nI_i (by omega)]; dsimp only; omega)
  have c10 : h.1 5 ((nI x * 14) + 10) = h.1 66 ((40 + (16 * nI x)) + 10) := by
    rw [show (nI x * 14) + 10 = nI (10 + 14 * x) from ixA (f := 10) x10 (by decide), show (40 + (16 * nI x)) + 10 = nI (50 + 16 * x) from ixH (f := 10) x10 (by decide)]
    exact rowE (o1 := 5) (o2 := 66) (b1 := 10) (b2 := 50) (s1 := 14) (s2 := 16) (n := 10) R272 (Int.le_refl 0) rfl (by decide) (by decide) x10
  have q10 : 0 ≤ (h.1 66 ((40 + (16 * nI x)) + 10)).toInt ∧ (h.1 66 ((40 + (16 * nI x)) + 10)).toInt ≤ 99999 := by
    rw [show (40 + (16 * nI x)) + 10 = nI (50 + 16 * x) from ixH (f := 10) x10 (by decide)]
    exact hR (66, 50, 16, 10, 0, 99999) (by decide +kernel) (nI (50 + 16 * x)) x (by omega) (by dsimp only; omega) (by rw [nI_i (by omega)]; dsimp only; omega)
  have c11 : h.1 5 ((nI x * 14) + 11) = h.1 66 ((40 + (16 * nI x)) + 11) := by
    rw [show (nI x * 14) + 11 = nI (11 + 14 * x) from ixA (f := 11) x10 (by decide), show (40 + (16 * nI x)) + 11 = nI (51 + 16 * x) from ixH (f := 11) x10 (by decide)]
    exact rowE (o1 := 5) (o2 := 66) (b1 := 11) (b2 := 51) (s1 := 14) (s2 := 16) (n := 10) R288 (Int.le_refl 0) rfl (by decide) (by decide) x10
  obtain ⟨r4, a40, a41, A4, B4⟩ := gv4 (d := d) (a := (h.1 5 ((nI x * 14) + 10))) (b := 0) t8 t66 t0 t1 d1 d2 dz dl W R448 R464 S hR
  obtain ⟨r2, a20, a21, A2, B2⟩ := gv2 (d := d) (a := (h.1 5 ((nI x * 14) + 10))) (b := (h.1 5 ((nI x * 14) + 3))) t8 t66 t0 t1 d1 d2 dz dl W R448 R464 S hR
  obtain ⟨r3, a30, a31, A3, B3⟩ := gv3 (d := d) (a := (h.1 5 ((nI x * 14) + 10))) (b := ((h.1 5 ((nI x * 14) + 2)) - (h.1 1 5))) t8 t66 t0 t1 d1 d2 dz dl W R448 R464 S hR
  have eT : ((h.1 5 ((nI x * 14) + 2)) - (h.1 1 5)) = ((h.1 66 ((40 + (16 * nI x)) + 2)) - (h.1 66 0)) := by rw [c2, show h.1 1 5 = h.1 66 0 from Int32.toInt_inj.mp (d1.symm.trans d2)]
  rw [c10] at B4
  rw [c10, c3] at B2
  rw [c10, eT] at B3
  have gA4 : ∀ (g : Hp) (Q : Option Value → Hp → Prop), (∀ g1, Q (some (.int r4)) (ov 35 36 h g1)) → Call (d + 4) 48 [.ref 34, .ref 1, .int 4, .int (h.1 5 ((nI x * 14) + 10)), .int 0, .int 0] (ov 35 36 h g) Q := fun g Q q => by obtain ⟨g1, c⟩ := A4 g; exact c Q (q g1)
  have gA2 : ∀ (g : Hp) (Q : Option Value → Hp → Prop), (∀ g1, Q (some (.int r2)) (ov 35 36 h g1)) → Call (d + 4) 48 [.ref 34, .ref 1, .int 2, .int (h.1 5 ((nI x * 14) + 10)), .int (h.1 5 ((nI x * 14) + 3)), .int 0] (ov 35 36 h g) Q := fun g Q q => by obtain ⟨g1, c⟩ := A2 g; exact c Q (q g1)
  have gA3 : ∀ (g : Hp) (Q : Option Value → Hp → Prop), (∀ g1, Q (some (.int r3)) (ov 35 36 h g1)) → Call (d + 4) 48 [.ref 34, .ref 1, .int 3, .int (h.1 5 ((nI x * 14) + 10)), .int ((h.1 5 ((nI x * 14) + 2)) - (h.1 1 5)), .int 0] (ov 35 36 h g) Q := fun g Q q => by obtain ⟨g1, c⟩ := A3 g; exact c Q (q g1)
  have gB4 := fun (g : Hp) (Q : Option Value → Hp → Prop) (q : ∀ g1, Q (some (.int r4)) (ov 79 80 h g1)) => by obtain ⟨g1, c⟩ := B4 h g (fun _ _ _ => rfl) rfl; exact c Q (q g1)
  have gB2 := fun (g : Hp) (Q : Option Value → Hp → Prop) (q : ∀ g1, Q (some (.int r2)) (ov 79 80 h g1)) => by obtain ⟨g1, c⟩ := B2 h g (fun _ _ _ => rfl) rfl; exact c Q (q g1)
  have gB3 := fun (g : Hp) (v : Int32) (Q : Option Value → Hp → Prop) (q : ∀ g1, Q (some (.int r3)) (hI (ov 79 80 h g1) 65 29 v)) => by
    obtain ⟨g1, c⟩ := B3 (hI h 65 29 v) g (fun o j n => by
      by_cases e : o = 65
      · subst e; exact hI_j (fun z => n ⟨rfl, z⟩)
      · exact hI_ne e) rfl
    have z := c Q
    rw [ov_65, ov_65] at z
    exact z (q g1)
  have cA : ∀ (Q : Option Value → Hp → Prop), (h.1 5 ((nI x * 14) + 11) = 1 → Q (some (.int (-1000000002))) h) → (¬ h.1 5 ((nI x * 14) + 11) = 1 → a1 = 0 → ∀ g1, Q (some (.int (shV (h.1 5 ((nI x * 14) + 10)) (h.1 5 ((nI x * 14) + 3)) r4 r2))) (ov 35 36 h g1)) → (¬ h.1 5 ((nI x * 14) + 11) = 1 → ¬ a1 = 0 → a1 = 1 → ∀ g1, Q (some (.int (shS (h.1 5 ((nI x * 14) + 10)) (h.1 5 ((nI x * 14) + 3)) r4 r2 r3))) (ov 35 36 h g1)) → (¬ h.1 5 ((nI x * 14) + 11) = 1 → ¬ a1 = 0 → ¬ a1 = 1 → ∀ g1, Q (some (.int ((h.1 5 ((nI x * 14) + 10)) - shV (h.1 5 ((nI x * 14) + 10)) (h.1 5 ((nI x * 14) + 3)) r4 r2 - shS (h.1 5 ((nI x * 14) + 10)) (h.1 5 ((nI x * 14) + 3)) r4 r2 r3))) (ov 35 36 h g1)) → Call (d + 6) 135 [.ref 0, .int (nI x), .int a1] h Q := fun Q kN q0 q1 q2 => by
    have c := c_takesA (d := d) (h := h) (g := h) (Q := Q) (x := nI x) (w := a1) xm gA4 gA2 gA3 (fun z => absurd ⟨hH, hw⟩ z) (fun _ f => by rw [hh]; exact kN f) (fun _ f => q0 f) (fun _ f => q1 f) (fun _ f => q2 f)
    rw [hh] at c
    exact c
  have cB : ∀ (Q : Option Value → Hp → Prop), (h.1 66 ((40 + (16 * nI x)) + 11) = 1 → Q (some (.int (-1000000002))) h) → (¬ h.1 66 ((40 + (16 * nI x)) + 11) = 1 → a1 = 0 → ∀ h1, okBp h h1 → Q (some (.int (reV (h.1 66 ((40 + (16 * nI x)) + 10)) (h.1 66 ((40 + (16 * nI x)) + 3)) r4 r2))) h1) → (¬ h.1 66 ((40 + (16 * nI x)) + 11) = 1 → ¬ a1 = 0 → a1 = 1 → ∀ h1, okBp h h1 → Q (some (.int (reS (h.1 66 ((40 + (16 * nI x)) + 10)) (h.1 66 ((40 + (16 * nI x)) + 3)) r4 r2 r3))) h1) → (¬ h.1 66 ((40 + (16 * nI x)) + 11) = 1 → ¬ a1 = 0 → ¬ a1 = 1 → ∀ h1, okBp h h1 → Q (some (.int ((h.1 66 ((40 + (16 * nI x)) + 10)) - reV (h.1 66 ((40 + (16 * nI x)) + 10)) (h.1 66 ((40 + (16 * nI x)) + 3)) r4 r2 - reS (h.1 66 ((40 + (16 * nI x)) + 10)) (h.1 66 ((40 + (16 * nI x)) + 3)) r4 r2 r3))) h1) → Call (d + 6) 235 [.ref 65, .int (nI x), .int a1] h Q := fun Q kN q0 q1 q2 => by
    have c := c_takesB (d := d) (h := h) (g := h) (Q := Q) (x := nI x) (w := a1) x1B gB4 gB2 gB3 (fun z => absurd ⟨hHB, bI.mpr hw⟩ z) (fun _ f => by rw [hk]; exact kN f) (fun _ f w0 g1 => q0 f w0 _ okB_3) (fun _ f w0 w1 g1 => q1 f w0 w1 _ okB_3) (fun _ f w0 w1 g1 => q2 f w0 w1 _ okB_3)
    rw [hk] at c
    exact c
  have cAB : h.1 5 ((nI x * 14) + 11) = 1 ↔ h.1 66 ((40 + (16 * nI x)) + 11) = 1 := by rw [c11]
  by_cases hf : h.1 5 ((nI x * 14) + 11) = 1
  · refine st (-1000000002) (cA _ (fun _ => ⟨rfl, h, hh.symm⟩) (fun z => absurd hf z) (fun z => absurd hf z) (fun z => absurd hf z)) (cB _ (fun _ => ⟨rfl, ?_⟩) (fun z => absurd (cAB.mp hf) z) (fun z => absurd (cAB.mp hf) z) (fun z => absurd (cAB.mp hf) z))
    have q := okB_ov (h := h) (g := h)
    rw [hk] at q
    exact q
  have hfB : ¬ h.1 66 ((40 + (16 * nI x)) + 11) = 1 := fun z => hf (cAB.mpr z)
  have e0 : shV (h.1 5 ((nI x * 14) + 10)) (h.1 5 ((nI x * 14) + 3)) r4 r2 = reV (h.1 66 ((40 + (16 * nI x)) + 10)) (h.1 66 ((40 + (16 * nI x)) + 3)) r4 r2 := by rw [shV_re, c10, c3]
  have e1 : shS (h.1 5 ((nI x * 14) + 10)) (h.1 5 ((nI x * 14) + 3)) r4 r2 r3 = reS (h.1 66 ((40 + (16 * nI x)) + 10)) (h.1 66 ((40 + (16 * nI x)) + 3)) r4 r2 r3 := by rw [shS_re, c10, c3]
  have e2 : (h.1 5 ((nI x * 14) + 10)) - shV (h.1 5 ((nI x * 14) + 10)) (h.1 5 ((nI x * 14) + 3)) r4 r2 - shS (h.1 5 ((nI x * 14) + 10)) (h.1 5 ((nI x * 14) + 3)) r4 r2 r3 = (h.1 66 ((40 + (16 * nI x)) + 10)) - reV (h.1 66 ((40 + (16 * nI x)) + 10)) (h.1 66 ((40 + (16 * nI x)) + 3)) r4 r2 - reS (h.1 66 ((40 + (16 * nI x)) + 10)) (h.1 66 ((40 + (16 * nI x)) + 3)) r4 r2 r3 := by rw [e0, e1, c10]
  by_cases w0 : a1 = 0
  · exact st (reV (h.1 66 ((40 + (16 * nI x)) + 10)) (h.1 66 ((40 + (16 * nI x)) + 3)) r4 r2) (cA _ (fun z => absurd z hf) (fun _ _ g1 => ⟨by rw [e0], g1, rfl⟩) (fun _ z => absurd w0 z) (fun _ z => absurd w0 z)) (cB _ (fun z => absurd z hfB) (fun _ _ h1 f1 => ⟨rfl, f1⟩) (fun _ z => absurd w0 z) (fun _ z => absurd w0 z))
  by_cases w1 : a1 = 1
  · exact st (reS (h.1 66 ((40 + (16 * nI x)) + 10)) (h.1 66 ((40 + (16 * nI x)) + 3)) r4 r2 r3) (cA _ (fun z => absurd z hf) (fun _ z => absurd z w0) (fun _ _ _ g1 => ⟨by rw [e1], g1, rfl⟩) (fun _ _ z => absurd w1 z)) (cB _ (fun z => absurd z hfB) (fun _ z => absurd z w0) (fun _ _ _ h1 f1 => ⟨rfl, f1⟩) (fun _ _ z => absurd w1 z))
  · exact st ((h.1 66 ((40 + (16 * nI x)) + 10)) - reV (h.1 66 ((40 + (16 * nI x)) + 10)) (h.1 66 ((40 + (16 * nI x)) + 3)) r4 r2 - reS (h.1 66 ((40 + (16 * nI x)) + 10)) (h.1 66 ((40 + (16 * nI x)) + 3)) r4 r2 r3) (cA _ (fun z => absurd z hf) (fun _ z => absurd z w0) (fun _ _ z => absurd z w1) (fun _ _ _ g1 => ⟨by rw [e2], g1, rfl⟩)) (cB _ (fun z => absurd z hfB) (fun _ z => absurd z w0) (fun _ _ z => absurd z w1) (fun _ _ _ h1 f1 => ⟨rfl, f1⟩))
set_option maxHeartbeats 4000000 in
set_option maxRecDepth 100000 in
theorem okP19 : PmOK rgT pm19 := by
  intro d hd ρ as bs h hlen hin hb hc hf hR
  have hd : 6 ≤ d := hd
  have hlen : as.length = 3 := hlen
  generalize hL : as ++ bs = L at hin
  have hin0 := hin
  obtain ⟨v0, s0, rfl, hin⟩ := hin
  rw [if_pos rfl] at hin
  obtain ⟨rfl, -, hin⟩ := hin
  obtain ⟨v1, s1, rfl, hin⟩ := hin
  rw [if_neg (by decide), if_pos rfl] at hin
  obtain ⟨g0, ⟨a0, rfl, e0⟩, hin⟩ := hin
  obtain ⟨v2, s2, rfl, hin⟩ := hin
  rw [if_neg (by decide), if_pos rfl] at hin
  obtain ⟨g1, ⟨a1, rfl, e1⟩, hin⟩ := hin
  obtain ⟨v3, s3, rfl, hin⟩ := hin
  rw [if_pos rfl] at hin
  obtain ⟨rfl, -, hin⟩ := hin
  obtain ⟨v4, s4, rfl, hin⟩ := hin
  rw [if_neg (by decide), if_pos rfl] at hin
  obtain ⟨g2, ⟨b2, rfl, e2⟩, hin⟩ := hin
  obtain ⟨v5, s5, rfl, hin⟩ := hin
  rw [if_neg (by decide), if_pos rfl] at hin
  obtain ⟨g3, ⟨b3, rfl, e3⟩, hin⟩ := hin
  cases hin
  obtain ⟨rfl, rfl⟩ := List.append_inj (show as ++ bs = [Value.ref 0, .int a0, .int a1] ++ [Value.ref 65, .int b2, .int b3] from hL) hlen
  have f0 : (0 : Int) ≤ 0 + (1 * ρ 0 + (-1 * ρ 2 + 0)) := hf _ (List.mem_of_getElem? (i := 0) rfl)
  have f1 : (0 : Int) ≤ 0 + (-1 * ρ 0 + (1 * ρ 2 + 0)) := hf _ (List.mem_of_getElem? (i := 1) rfl)
  have f2 : (0 : Int) ≤ 0 + (1 * ρ 1 + (-1 * ρ 3 + 0)) := hf _ (List.mem_of_getElem? (i := 2) rfl)
  have f3 : (0 : Int) ≤ 0 + (-1 * ρ 1 + (1 * ρ 3 + 0)) := hf _ (List.mem_of_getElem? (i := 3) rfl)
  have f4 : (0 : Int) ≤ 0 + (1 * ρ 4 + (-1 * ρ 5 + 0)) := hf _ (List.mem_of_getElem? (i := 4) rfl)
  have f5 : (0 : Int) ≤ 0 + (-1 * ρ 4 + (1 * ρ 5 + 0)) := hf _ (List.mem_of_getElem? (i := 5) rfl)
  have f6 : (0 : Int) ≤ 0 + (1 * ρ 6 + (-1 * ρ 7 + 0)) := hf _ (List.mem_of_getElem? (i := 6) rfl)
  have f7 : (0 : Int) ≤ 0 + (-1 * ρ 6 + (1 * ρ 7 + 0)) := hf _ (List.mem_of_getElem? (i := 7) rfl)
  have f8 : (0 : Int) ≤ 0 + (1 * ρ 8 + (-1 * ρ 9 + 0)) := hf _ (List.mem_of_getElem? (i := 8) rfl)
  have f9 : (0 : Int) ≤ 0 + (-1 * ρ 8 + (1 * ρ 9 + 0)) := hf _ (List.mem_of_getElem? (i := 9) rfl)
  have f10 : (0 : Int) ≤ 0 + (1 * ρ 6 + (-1 * ρ 17 + 0)) := hf _ (List.mem_of_getElem? (i := 10) rfl)
  have f11 : (0 : Int) ≤ 0 + (-1 * ρ 6 + (1 * ρ 17 + 0)) := hf _ (List.mem_of_getElem? (i := 11) rfl)
  have e0 : ρ 0 = a0.toInt := e0
  have e2 : ρ 2 = b2.toInt := e2
  have e1 : ρ 1 = a1.toInt := e1
  have e3 : ρ 3 = b3.toInt := e3
  obtain rfl : a0 = b2 := Int32.toInt_inj.mp (by omega)
  obtain rfl : a1 = b3 := Int32.toInt_inj.mp (by omega)
  have g0 : (-2147483648 : Int) ≤ ρ 0 ∧ ρ 0 ≤ 2147483647 := g0
  have g1 : (-2147483648 : Int) ≤ ρ 1 ∧ ρ 1 ≤ 2147483647 := g1
  have g2 : (-2147483648 : Int) ≤ ρ 2 ∧ ρ 2 ≤ 2147483647 := g2
  have g3 : (-2147483648 : Int) ≤ ρ 3 ∧ ρ 3 ≤ 2147483647 := g3
  have r4 : (0 : Int) ≤ ρ 4 ∧ ρ 4 ≤ 10 := hb (4, 0, 10) (List.mem_of_getElem? (i := 0) rfl)
  have c4 : ρ 4 = (h.1 4 2).toInt := hc_i (hc (0, 4, (2, []), leX 4) (List.mem_of_getElem? (i := 0) rfl)) rfl
  have r5 : (0 : Int) ≤ ρ 5 ∧ ρ 5 ≤ 10 := hb (5, 0, 10) (List.mem_of_getElem? (i := 1) rfl)
  have c5 : ρ 5 = (h.1 66 2).toInt := hc_i (hc (0, 66, (2, []), leX 5) (List.mem_of_getElem? (i := 1) rfl)) rfl
  have r6 : (0 : Int) ≤ ρ 6 ∧ ρ 6 ≤ 12 := hb (6, 0, 12) (List.mem_of_getElem? (i := 2) rfl)
  have c6 : ρ 6 = (h.1 8 2).toInt := hc_i (hc (0, 8, (2, []), leX 6) (List.mem_of_getElem? (i := 2) rfl)) rfl
  have r7 : (0 : Int) ≤ ρ 7 ∧ ρ 7 ≤ 12 := hb (7, 0, 12) (List.mem_of_getElem? (i := 3) rfl)
  have c7 : ρ 7 = (h.1 66 4).toInt := hc_i (hc (0, 66, (4, []), leX 7) (List.mem_of_getElem? (i := 3) rfl)) rfl
  have r8 : (0 : Int) ≤ ρ 8 ∧ ρ 8 ≤ 999 := hb (8, 0, 999) (List.mem_of_getElem? (i := 4) rfl)
  have c8 : ρ 8 = (h.1 1 5).toInt := hc_i (hc (0, 1, (5, []), leX 8) (List.mem_of_getElem? (i := 4) rfl)) rfl
  have r9 : (0 : Int) ≤ ρ 9 ∧ ρ 9 ≤ 999 := hb (9, 0, 999) (List.mem_of_getElem? (i := 5) rfl)
  have c9 : ρ 9 = (h.1 66 0).toInt := hc_i (hc (0, 66, (0, []), leX 9) (List.mem_of_getElem? (i := 5) rfl)) rfl
  have r10 : (0 : Int) ≤ ρ 10 ∧ ρ 10 ≤ 0 := hb (10, 0, 0) (List.mem_of_getElem? (i := 6) rfl)
  have c10 : KC h 5 66 0 (ρ 10) := kc_at (hc (5, 66, (0, []), leX 10) (List.mem_of_getElem? (i := 6) rfl))
  have r11 : (0 : Int) ≤ ρ 11 ∧ ρ 11 ≤ 0 := hb (11, 0, 0) (List.mem_of_getElem? (i := 7) rfl)
  have c11 : KC h 9 144 0 (ρ 11) := kc_at (hc (9, 144, (0, []), leX 11) (List.mem_of_getElem? (i := 7) rfl))
  have r12 : (0 : Int) ≤ ρ 12 ∧ ρ 12 ≤ 0 := hb (12, 0, 0) (List.mem_of_getElem? (i := 8) rfl)
  have c12 : KC h 9 160 0 (ρ 12) := kc_at (hc (9, 160, (0, []), leX 12) (List.mem_of_getElem? (i := 8) rfl))
  have r13 : (0 : Int) ≤ ρ 13 ∧ ρ 13 ≤ 0 := hb (13, 0, 0) (List.mem_of_getElem? (i := 9) rfl)
  have c13 : KC h 9 272 0 (ρ 13) := kc_at (hc (9, 272, (0, []), leX 13) (List.mem_of_getElem? (i := 9) rfl))
  have r14 : (0 : Int) ≤ ρ 14 ∧ ρ 14 ≤ 0 := hb (14, 0, 0) (List.mem_of_getElem? (i := 10) rfl)
  have c14 : KC h 9 288 0 (ρ 14) := kc_at (hc (9, 288, (0, []), leX 14) (List.mem_of_getElem? (i := 10) rfl))
  have r15 : (0 : Int) ≤ ρ 15 ∧ ρ 15 ≤ 0 := hb (15, 0, 0) (List.mem_of_getElem? (i := 11) rfl)
  have c15 : KC h 9 448 0 (ρ 15) := kc_at (hc (9, 448, (0, []), leX 15) (List.mem_of_getElem? (i := 11) rfl))
  have r16 : (0 : Int) ≤ ρ 16 ∧ ρ 16 ≤ 0 := hb (16, 0, 0) (List.mem_of_getElem? (i := 12) rfl)
  have c16 : KC h 9 464 0 (ρ 16) := kc_at (hc (9, 464, (0, []), leX 16) (List.mem_of_getElem? (i := 12) rfl))
  have r17 : (0 : Int) ≤ ρ 17 ∧ ρ 17 ≤ 12 := hb (17, 0, 12) (List.mem_of_getElem? (i := 13) rfl)
  have c17 : KC h 15 0 0 (ρ 17) := kc_at (hc (15, 0, (0, []), leX 17) (List.mem_of_getElem? (i := 13) rfl))
  have M0 := hand_M (rg := rgT) (s := pm19.2.2.1) (h := h) (ρ := ρ) (by decide +kernel) (by decide +kernel) hin0 hb hc hf hR
  obtain ⟨d', rfl⟩ : ∃ d', d = d' + 6 := ⟨d - 6, (Nat.sub_add_cancel hd).symm⟩
  obtain ⟨n, hn⟩ : ∃ n : Nat, (n : Int) = ρ 4 := ⟨(ρ 4).toNat, Int.toNat_of_nonneg r4.1⟩
  have n10 := cnt_le (m := 10) hn r4.2
  have en : h.1 4 2 = nI n := cnt_n hn c4
  have en2 : h.1 66 2 = nI n := cnt_n (hn.trans (eqI f4 f5)) c5
  have W0 : KC h 5 66 0 0 := by have q := c10; rw [show ρ 10 = 0 from Int.le_antisymm r10.2 r10.1] at q; exact q
  have K448 : KC h 9 448 0 0 := by have q := c15; rw [show ρ 15 = 0 from Int.le_antisymm r15.2 r15.1] at q; exact q
  have K464 : KC h 9 464 0 0 := by have q := c16; rw [show ρ 16 = 0 from Int.le_antisymm r16.2 r16.1] at q; exact q
  have R144 : RLO h 144 0 0 := by have q := c11; rw [show ρ 11 = 0 from Int.le_antisymm r11.2 r11.1] at q; exact q
  have R160 : RLO h 160 0 0 := by have q := c12; rw [show ρ 12 = 0 from Int.le_antisymm r12.2 r12.1] at q; exact q
  have R272 : RLO h 272 0 0 := by have q := c13; rw [show ρ 13 = 0 from Int.le_antisymm r13.2 r13.1] at q; exact q
  have R288 : RLO h 288 0 0 := by have q := c14; rw [show ρ 14 = 0 from Int.le_antisymm r14.2 r14.1] at q; exact q
  have S0 : KC h 15 0 0 (ρ 6) := by have q := c17; rw [show ρ 17 = ρ 6 from (eqI f10 f11).symm] at q; exact q
  obtain ⟨r, hA, hB, cA, cB, FR⟩ := takes_core (d := d') (h := h) (a0 := a0) (a1 := a1) n10 en en2 c6 ((eqI f6 f7).trans c7) r6.1 r6.2 c8 ((eqI f8 f9).trans c9) r8.1 (Int.le_trans r8.2 (by decide)) W0 K448 K464 S0 hR R144 R160 R272 R288
  have FR : Frm pm19.2.2.1.2.2.2.2.2.1 h (mxH true hA hB) := FR
  refine pm_mk (p := pm19) cA cB (List.forall_mem_cons.mpr ⟨fun _ => rfl, List.forall_mem_cons.mpr ⟨trivial, List.forall_mem_cons.mpr ⟨trivial, fun _ h => absurd h List.not_mem_nil⟩⟩⟩) (List.forall_mem_cons.mpr ⟨fun _ => rfl, List.forall_mem_cons.mpr ⟨trivial, List.forall_mem_cons.mpr ⟨trivial, fun _ h => absurd h List.not_mem_nil⟩⟩⟩) ?_
  refine ⟨rgV_sp (by decide +kernel) FR hR, FR, _, List.mem_of_getElem? (i := 0) rfl, updS ρ 18 r.toInt, upd_ag, ?_, ⟨r, rfl, ?_⟩, ⟨r, rfl, ?_⟩, fun c hc => absurd hc List.not_mem_nil, fun f hf => absurd hf List.not_mem_nil⟩
  · refine List.forall_mem_cons.mpr ⟨?_, fun _ h => absurd h List.not_mem_nil⟩
    show (-2147483648 : Int) ≤ updS ρ 18 r.toInt 18 ∧ updS ρ 18 r.toInt 18 ≤ 2147483647
    rw [updS_at]
    exact i32b r
  · show leV _ (leX 18) = _
    rw [leV_X, updS_at]
  · show leV _ (leX 18) = _
    rw [leV_X, updS_at]
set_option maxRecDepth 100000 in
theorem pay_core {d : Nat} {h : Hp} {n : Nat} {t D : Int} {a0 : Int32} (n10 : n ≤ 10) (en : h.1 4 2 = nI n) (en2 : h.1 66 2 = nI n) (t8 : t = (h.1 8 2).toInt) (t66 : t = (h.1 66 4).toInt) (t0 : 0 ≤ t) (t1 : t ≤ 12) (d1 : D = (h.1 1 5).toInt) (d2 : D = (h.1 66 0).toInt) (dz : 0 ≤ D) (dl : D ≤ 1999) (W : KC h 5 66 0 0) (R448 : KC h 9 448 0 0) (R464 : KC h 9 464 0 0) (S : KC h 15 0 0 t) (hR : ∀ q ∈ rgT, RgO h q) (R144 : RLO h 144 0 0) (R160 : RLO h 160 0 0) (R176 : RLO h 176 0 0) (R192 : RLO h 192 0 0) (R272 : RLO h 272 0 0) (R288 : RLO h 288 0 0) : (∃ r : Int32, CRun (d + 6) 134 [.ref 0, .int a0] h (some (.int r)) h ∧ CRun (d + 6) 234 [.ref 65, .int a0] h (some (.int r)) h ∧ (r = -1000000001 ∨ r = -1000000002)) ∨ ∃ (x : Nat) (r v3 v5 v4 : Int32) (g hB : Hp), a0 = nI x ∧ x < n ∧ (0 ≤ v3.toInt ∧ v3.toInt ≤ 9999) ∧ (0 ≤ v5.toInt ∧ v5.toInt ≤ 99999) ∧ (0 ≤ v4.toInt ∧ v4.toInt ≤ 99999) ∧ okBp h hB ∧ CRun (d + 6) 134 [.ref 0, .int a0] h (some (.int r)) (hI (hI (hI (hI (ov 35 36 h g) 5 ((nI x * 14) + 3) v3) 5 ((nI x * 14) + 5) v5) 5 ((nI x * 14) + 4) v4) 5 ((nI x * 14) + 10) 0) ∧ CRun (d + 6) 234 [.ref 65, .int a0] h (some (.int r)) (hI (hI (hI (hI hB 66 ((40 + (16 * nI x)) + 3) v3) 66 ((40 + (16 * nI x)) + 5) v5) 66 ((40 + (16 * nI x)) + 4) v4) 66 ((40 + (16 * nI x)) + 10) 0) := by
  have xm : h.1 4 2 ≤ 10 := by rw [en]; exact (tx_le (b := 10) (by omega) (by decide)).mpr n10
  have k0 : (0 : Int32).toInt = 0 := rfl
  have decH := hold_dec (f := 0) (g := 0) n10 en en2
  have in4 : (h.1 4 2).toInt = n := by rw [en, nI_i (by omega)]
  have hh : ov 35 36 h h = h := ov_self
  have hk : ov 79 80 h h = h := ov_self
  have x1 : (0 ≤ a0 ∧ a0 ≤ h.1 66 2 - 1) → a0 < 10 := b_x10 n10 en2
  by_cases hH : (0 ≤ a0 ∧ a0 < h.1 4 2)
  case neg =>
    exact Or.inl ⟨-1000000001, fun Q q => c_payA0 (d := d + 2) xm hH q, fun Q q => c_payB0 (d := d + 2) x1 (fun z => hH ((decH _).mpr z)) q, Or.inl rfl⟩
  have hx : 0 ≤ a0.toInt ∧ a0.toInt < (h.1 4 2).toInt := ⟨by have := hH.1; rw [Int32.le_iff_toInt_le, k0] at this; exact this, by have := hH.2; rw [Int32.lt_iff_toInt_lt] at this; exact this⟩
  obtain ⟨x, hxx, rfl⟩ : ∃ x : Nat, (x : Int) = a0.toInt ∧ a0 = nI x := ⟨a0.toInt.toNat, by omega, i_nI hx.1⟩
  have xn : x < n := by omega
  have x10 : x < 10 := by omega
  have hHB := (decH _).mp hH
  have x1B : (0 ≤ nI x ∧ nI x ≤ h.1 66 2 - 1) → nI x < (10 : Int32) := fun _ => (tx_lt (b := 10) (by omega) (by decide)).mpr x10
  have c2 : h.1 5 ((nI x * 14) + 2) = h.1 66 ((40 + (16 * nI x)) + 2) := by
    rw [show (nI x * 14) + 2 = nI (2 + 14 * x) from ixA (f := 2) x10 (by decide), show (40 + (16 * nI x)) + 2 = nI (42 + 16 * x) from ixH (f := 2) x10 (by decide)]
    exact rowE (o1 := 5) (o2 := 66) (b1 := 2) (b2 := 42) (s1 := 14) (s2 := 16) (n := 10) R144 (Int.le_refl 0) rfl (by decide) (by decide) x10
  have c3 : h.1 5 ((nI x * 14) + 3) = h.1 66 ((40 + (16 * nI x)) + 3) := by
    rw [show (nI x * 14) + 3 = nI (3 + 14 * x) from ixA (f := 3) x10 (by decide), show (40 + (16 * nI x)) + 3 = nI (43 + 16 * x) from ixH (f := 3) x10 (by decide)]
    exact rowE (o1 := 5) (o2 := 66) (b1 := 3) (b2 := 43) (s1 := 14) (s2 := 16) (n := 10) R160 (Int.le_refl 0) rfl (by decide) (by decide) x10
  have q3 : 0 ≤ (h.1 66 ((40 + (16 * nI x)) + 3)).toInt ∧ (h.1 66 ((40 + (16 * nI x)) + 3)).toInt ≤ 9999 := by
    rw [show (40 + (16 * nI x)) + 3 = nI (43 + 16 * x) from ixH (f := 3) x10 (by decide)]
    exact hR (66, 43, 16, 10, 0, 9999) (by decide +kernel) (nI (43 + 16 * x)) x (by omega) (by dsimp only; omega) (by rw [nI_i (by omega)]; dsimp only; omega)
  have c4 : h.1 5 ((nI x * 14) + 4) = h.1 66 ((40 + (16 * nI x)) + 4) := by
    rw [show (nI x * 14) + 4 = nI (4 + 14 * x) from ixA (f := 4) x10 (by decide), show (40 + (16 * nI x)) + 4 = nI (44 + 16 * x) from ixH (f := 4) x10 (by decide)]
    exact rowE (o1 := 5) (o2 := 66) (b1 := 4) (b2 := 44) (s1 := 14) (s2 := 16) (n := 10) R176 (Int.le_refl 0) rfl (by decide) (by decide) x10
  have q4 : 0 ≤ (h.1 66 ((40 + (16 * nI x)) + 4)).toInt ∧ (h.1 66 ((40 + (16 * nI x)) + 4)).toInt ≤ 99999 := by
    rw [show (40 + (16 * nI x)) + 4 = nI (44 + 16 * x) from ixH (f := 4) x10 (by decide)]
    exact hR (66, 44, 16, 10, 0, 99999) (by decide +kernel) (nI (44 + 16 * x)) x (by omega) (by dsimp only; omega) (by rw [nI_i (by omega)]; dsimp only; omega)
  have c5 : h.1 5 ((nI x * 14) + 5) = h.1 66 ((40 + (16 * nI x)) + 5) := by
    rw [show (nI x * 14) + 5 = nI (5 + 14 * x) from ixA (f := 5) x10 (by decide), show (40 + (16 * nI x)) + 5 = nI (45 + 16 * x) from ixH (f := 5) x10 (by decide)]
    exact rowE (o1 := 5) (o2 := 66) (b1 := 5) (b2 := 45) (s1 := 14) (s2 := 16) (n := 10) R192 (Int.le_refl 0) rfl (by decide) (by decide) x10
  have q5 : 0 ≤ (h.1 66 ((40 + (16 * nI x)) + 5)).toInt ∧ (h.1 66 ((40 + (16 * nI x)) + 5)).toInt ≤ 99999 := by
    rw [show (40 + (16 * nI x)) + 5 = nI (45 + 16 * x) from ixH (f := 5) x10 (by decide)]
    exact hR (66, 45, 16, 10, 0, 99999) (by decide +kernel) (nI (45 + 16 * x)) x (by omega) (by dsimp only; omega) (by rw [nI_i (by omega)]; dsimp only; omega)
  have c10 : h.1 5 ((nI x * 14) + 10) = h.1 66 ((40 + (16 * nI x)) + 10) := by
    rw [show (nI x * 14) + 10 = nI (10 + 14 * x) from ixA (f := 10) x10 (by decide), show (40 + (16 * nI x)) + 10 = nI (50 + 16 * x) from ixH (f := 10) x10 (by decide)]
    exact rowE (o1 := 5) (o2 := 66) (b1 := 10) (b2 := 50) (s1 := 14) (s2 := 16) (n := 10) R272 (Int.le_refl 0) rfl (by decide) (by decide) x10
  have q10 : 0 ≤ (h.1 66 ((40 + (16 * nI x)) + 10)).toInt ∧ (h.1 66 ((40 + (16 * nI x)) + 10)).toInt ≤ 99999 := by
    rw [show (40 + (16 * nI x)) + 10 = nI (50 + 16 * x) from ixH (f := 10) x10 (by decide)]
    exact hR (66, 50, 16, 10, 0, 99999) (by decide +kernel) (nI (50 + 16 * x)) x (by omega) (by dsimp only; omega) (by rw [nI_i (by omega)]; dsimp only; omega)
  have c11 : h.1 5 ((nI x * 14) + 11) = h.1 66 ((40 + (16 * nI x)) + 11) := by
    rw [show (nI x * 14) + 11 = nI (11 + 14 * x) from ixA (f := 11) x10 (by decide), show (40 + (16 * nI x)) + 11 = nI (51 + 16 * x) from ixH (f := 11) x10 (by decide)]
    exact rowE (o1 := 5) (o2 := 66) (b1 := 11) (b2 := 51) (s1 := 14) (s2 := 16) (n := 10) R288 (Int.le_refl 0) rfl (by decide) (by decide) x10
  obtain ⟨r4, a40, a41, A4, B4⟩ := gv4 (d := d) (a := (h.1 5 ((nI x * 14) + 10))) (b := 0) t8 t66 t0 t1 d1 d2 dz dl W R448 R464 S hR
  obtain ⟨r2, a20, a21, A2, B2⟩ := gv2 (d := d) (a := (h.1 5 ((nI x * 14) + 10))) (b := (h.1 5 ((nI x * 14) + 3))) t8 t66 t0 t1 d1 d2 dz dl W R448 R464 S hR
  obtain ⟨r3, a30, a31, A3, B3⟩ := gv3 (d := d) (a := (h.1 5 ((nI x * 14) + 10))) (b := ((h.1 5 ((nI x * 14) + 2)) - (h.1 1 5))) t8 t66 t0 t1 d1 d2 dz dl W R448 R464 S hR
  have eT : ((h.1 5 ((nI x * 14) + 2)) - (h.1 1 5)) = ((h.1 66 ((40 + (16 * nI x)) + 2)) - (h.1 66 0)) := by rw [c2, show h.1 1 5 = h.1 66 0 from Int32.toInt_inj.mp (d1.symm.trans d2)]
  rw [c10] at B4
  rw [c10, c3] at B2
  rw [c10, eT] at B3
  have gA4 : ∀ (g : Hp) (Q : Option Value → Hp → Prop), (∀ g1, Q (some (.int r4)) (ov 35 36 h g1)) → Call (d + 4) 48 [.ref 34, .ref 1, .int 4, .int (h.1 5 ((nI x * 14) + 10)), .int 0, .int 0] (ov 35 36 h g) Q := fun g Q q => by obtain ⟨g1, c⟩ := A4 g; exact c Q (q g1)
  have gA2 : ∀ (g : Hp) (Q : Option Value → Hp → Prop), (∀ g1, Q (some (.int r2)) (ov 35 36 h g1)) → Call (d + 4) 48 [.ref 34, .ref 1, .int 2, .int (h.1 5 ((nI x * 14) + 10)), .int (h.1 5 ((nI x * 14) + 3)), .int 0] (ov 35 36 h g) Q := fun g Q q => by obtain ⟨g1, c⟩ := A2 g; exact c Q (q g1)
  have gA3 : ∀ (g : Hp) (Q : Option Value → Hp → Prop), (∀ g1, Q (some (.int r3)) (ov 35 36 h g1)) → Call (d + 4) 48 [.ref 34, .ref 1, .int 3, .int (h.1 5 ((nI x * 14) + 10)), .int ((h.1 5 ((nI x * 14) + 2)) - (h.1 1 5)), .int 0] (ov 35 36 h g) Q := fun g Q q => by obtain ⟨g1, c⟩ := A3 g; exact c Q (q g1)
  have gB4 := fun (g : Hp) (Q : Option Value → Hp → Prop) (q : ∀ g1, Q (some (.int r4)) (ov 79 80 h g1)) => by obtain ⟨g1, c⟩ := B4 h g (fun _ _ _ => rfl) rfl; exact c Q (q g1)
  have gB2 := fun (g : Hp) (Q : Option Value → Hp → Prop) (q : ∀ g1, Q (some (.int r2)) (ov 79 80 h g1)) => by obtain ⟨g1, c⟩ := B2 h g (fun _ _ _ => rfl) rfl; exact c Q (q g1)
  have gB3 := fun (g : Hp) (v : Int32) (Q : Option Value → Hp → Prop) (q : ∀ g1, Q (some (.int r3)) (hI (ov 79 80 h g1) 65 29 v)) => by
    obtain ⟨g1, c⟩ := B3 (hI h 65 29 v) g (fun o j n => by
      by_cases e : o = 65
      · subst e; exact hI_j (fun z => n ⟨rfl, z⟩)
      · exact hI_ne e) rfl
    have z := c Q
    rw [ov_65, ov_65] at z
    exact z (q g1)
  have cAB : h.1 5 ((nI x * 14) + 11) = 1 ↔ h.1 66 ((40 + (16 * nI x)) + 11) = 1 := by rw [c11]
  have cA : ∀ (Q : Option Value → Hp → Prop), (h.1 5 ((nI x * 14) + 11) = 1 → Q (some (.int (-1000000002))) h) → (¬ h.1 5 ((nI x * 14) + 11) = 1 → ∀ g1, Q (some (.int ((h.1 5 ((nI x * 14) + 10)) - shV (h.1 5 ((nI x * 14) + 10)) (h.1 5 ((nI x * 14) + 3)) r4 r2 - shS (h.1 5 ((nI x * 14) + 10)) (h.1 5 ((nI x * 14) + 3)) r4 r2 r3))) (hI (hI (hI (hI (ov 35 36 h g1) 5 ((nI x * 14) + 3) ((h.1 5 ((nI x * 14) + 3)) - (shV (h.1 5 ((nI x * 14) + 10)) (h.1 5 ((nI x * 14) + 3)) r4 r2))) 5 ((nI x * 14) + 5) (paP (h.1 5 ((nI x * 14) + 5)) (shS (h.1 5 ((nI x * 14) + 10)) (h.1 5 ((nI x * 14) + 3)) r4 r2 r3))) 5 ((nI x * 14) + 4) (paP (h.1 5 ((nI x * 14) + 4)) ((h.1 5 ((nI x * 14) + 10)) - shV (h.1 5 ((nI x * 14) + 10)) (h.1 5 ((nI x * 14) + 3)) r4 r2 - shS (h.1 5 ((nI x * 14) + 10)) (h.1 5 ((nI x * 14) + 3)) r4 r2 r3))) 5 ((nI x * 14) + 10) 0)) → Call (d + 6) 134 [.ref 0, .int (nI x)] h Q := fun Q kN kG => by
    have c := c_payA (d := d) (h := h) (g := h) (Q := Q) (x := nI x) xm gA4 gA2 gA3 (fun z => absurd hH z) (fun _ f => by rw [hh]; exact kN f) (fun _ f g1 => kG f g1)
    rw [hh] at c
    exact c
  have cB : ∀ (Q : Option Value → Hp → Prop), (h.1 66 ((40 + (16 * nI x)) + 11) = 1 → Q (some (.int (-1000000002))) h) → (¬ h.1 66 ((40 + (16 * nI x)) + 11) = 1 → ∀ g1, Q (some (.int ((h.1 66 ((40 + (16 * nI x)) + 10)) - reV (h.1 66 ((40 + (16 * nI x)) + 10)) (h.1 66 ((40 + (16 * nI x)) + 3)) r4 r2 - reS (h.1 66 ((40 + (16 * nI x)) + 10)) (h.1 66 ((40 + (16 * nI x)) + 3)) r4 r2 r3))) (hI (hI (hI (hI (hI (hI (hI (ov 79 80 h g1) 65 29 (reV (h.1 66 ((40 + (16 * nI x)) + 10)) (h.1 66 ((40 + (16 * nI x)) + 3)) r4 r2)) 65 30 (reS (h.1 66 ((40 + (16 * nI x)) + 10)) (h.1 66 ((40 + (16 * nI x)) + 3)) r4 r2 r3)) 65 31 ((h.1 66 ((40 + (16 * nI x)) + 10)) - reV (h.1 66 ((40 + (16 * nI x)) + 10)) (h.1 66 ((40 + (16 * nI x)) + 3)) r4 r2 - reS (h.1 66 ((40 + (16 * nI x)) + 10)) (h.1 66 ((40 + (16 * nI x)) + 3)) r4 r2 r3)) 66 ((40 + (16 * nI x)) + 3) ((h.1 66 ((40 + (16 * nI x)) + 3)) - (reV (h.1 66 ((40 + (16 * nI x)) + 10)) (h.1 66 ((40 + (16 * nI x)) + 3)) r4 r2))) 66 ((40 + (16 * nI x)) + 5) (geP (h.1 66 ((40 + (16 * nI x)) + 5)) (reS (h.1 66 ((40 + (16 * nI x)) + 10)) (h.1 66 ((40 + (16 * nI x)) + 3)) r4 r2 r3))) 66 ((40 + (16 * nI x)) + 4) (geP (h.1 66 ((40 + (16 * nI x)) + 4)) ((h.1 66 ((40 + (16 * nI x)) + 10)) - reV (h.1 66 ((40 + (16 * nI x)) + 10)) (h.1 66 ((40 + (16 * nI x)) + 3)) r4 r2 - reS (h.1 66 ((40 + (16 * nI x)) + 10)) (h.1 66 ((40 + (16 * nI x)) + 3)) r4 r2 r3))) 66 ((40 + (16 * nI x)) + 10) 0)) → Call (d + 6) 234 [.ref 65, .int (nI x)] h Q := fun Q kN kG => by
    have c := c_payB (d := d) (h := h) (g := h) (Q := Q) (x := nI x) x1B gB4 gB2 gB3 (fun z => absurd hHB z) (fun _ f => by rw [hk]; exact kN f) (fun _ f g1 => kG f g1)
    rw [hk] at c
    exact c
  by_cases hf : h.1 5 ((nI x * 14) + 11) = 1
  · exact Or.inl ⟨-1000000002, fun Q q => cA Q (fun _ => q) (fun z => absurd hf z), fun Q q => cB Q (fun _ => q) (fun z => absurd (cAB.mp hf) z), Or.inr rfl⟩
  have hfB : ¬ h.1 66 ((40 + (16 * nI x)) + 11) = 1 := fun z => hf (cAB.mpr z)
  have e0 : shV (h.1 5 ((nI x * 14) + 10)) (h.1 5 ((nI x * 14) + 3)) r4 r2 = reV (h.1 66 ((40 + (16 * nI x)) + 10)) (h.1 66 ((40 + (16 * nI x)) + 3)) r4 r2 := by rw [shV_re, c10, c3]
  have e1 : shS (h.1 5 ((nI x * 14) + 10)) (h.1 5 ((nI x * 14) + 3)) r4 r2 r3 = reS (h.1 66 ((40 + (16 * nI x)) + 10)) (h.1 66 ((40 + (16 * nI x)) + 3)) r4 r2 r3 := by rw [shS_re, c10, c3]
  have e2 : (h.1 5 ((nI x * 14) + 10)) - shV (h.1 5 ((nI x * 14) + 10)) (h.1 5 ((nI x * 14) + 3)) r4 r2 - shS (h.1 5 ((nI x * 14) + 10)) (h.1 5 ((nI x * 14) + 3)) r4 r2 r3 = (h.1 66 ((40 + (16 * nI x)) + 10)) - reV (h.1 66 ((40 + (16 * nI x)) + 10)) (h.1 66 ((40 + (16 * nI x)) + 3)) r4 r2 - reS (h.1 66 ((40 + (16 * nI x)) + 10)) (h.1 66 ((40 + (16 * nI x)) + 3)) r4 r2 r3 := by rw [e0, e1, c10]
  obtain ⟨y3, yS, yC⟩ := re_I (r4 := r4) (r2 := r2) (r3 := r3) q10.1 q10.2 q3.1 q3.2 a40 a41 a20 a21 a30 a31
  obtain ⟨p5, m5⟩ := paP_ge q5.1 q5.2 yS.1 (Int.le_trans yS.2 (by decide))
  obtain ⟨p4, m4⟩ := paP_ge q4.1 q4.2 yC.1 yC.2
  obtain ⟨rA, hA, ⟨g, rfl, rfl⟩, kA⟩ := (cA (fun r' h' => ∃ g, r' = some (.int ((h.1 5 ((nI x * 14) + 10)) - shV (h.1 5 ((nI x * 14) + 10)) (h.1 5 ((nI x * 14) + 3)) r4 r2 - shS (h.1 5 ((nI x * 14) + 10)) (h.1 5 ((nI x * 14) + 3)) r4 r2 r3)) ∧ h' = (hI (hI (hI (hI (ov 35 36 h g) 5 ((nI x * 14) + 3) ((h.1 5 ((nI x * 14) + 3)) - (shV (h.1 5 ((nI x * 14) + 10)) (h.1 5 ((nI x * 14) + 3)) r4 r2))) 5 ((nI x * 14) + 5) (paP (h.1 5 ((nI x * 14) + 5)) (shS (h.1 5 ((nI x * 14) + 10)) (h.1 5 ((nI x * 14) + 3)) r4 r2 r3))) 5 ((nI x * 14) + 4) (paP (h.1 5 ((nI x * 14) + 4)) ((h.1 5 ((nI x * 14) + 10)) - shV (h.1 5 ((nI x * 14) + 10)) (h.1 5 ((nI x * 14) + 3)) r4 r2 - shS (h.1 5 ((nI x * 14) + 10)) (h.1 5 ((nI x * 14) + 3)) r4 r2 r3))) 5 ((nI x * 14) + 10) 0)) (fun z => absurd z hf) (fun _ g1 => ⟨g1, rfl, rfl⟩)).det
  obtain ⟨rB, hB, ⟨g2, rfl, rfl⟩, kB⟩ := (cB (fun r' h' => ∃ g, r' = some (.int ((h.1 66 ((40 + (16 * nI x)) + 10)) - reV (h.1 66 ((40 + (16 * nI x)) + 10)) (h.1 66 ((40 + (16 * nI x)) + 3)) r4 r2 - reS (h.1 66 ((40 + (16 * nI x)) + 10)) (h.1 66 ((40 + (16 * nI x)) + 3)) r4 r2 r3)) ∧ h' = (hI (hI (hI (hI (hI (hI (hI (ov 79 80 h g) 65 29 (reV (h.1 66 ((40 + (16 * nI x)) + 10)) (h.1 66 ((40 + (16 * nI x)) + 3)) r4 r2)) 65 30 (reS (h.1 66 ((40 + (16 * nI x)) + 10)) (h.1 66 ((40 + (16 * nI x)) + 3)) r4 r2 r3)) 65 31 ((h.1 66 ((40 + (16 * nI x)) + 10)) - reV (h.1 66 ((40 + (16 * nI x)) + 10)) (h.1 66 ((40 + (16 * nI x)) + 3)) r4 r2 - reS (h.1 66 ((40 + (16 * nI x)) + 10)) (h.1 66 ((40 + (16 * nI x)) + 3)) r4 r2 r3)) 66 ((40 + (16 * nI x)) + 3) ((h.1 66 ((40 + (16 * nI x)) + 3)) - (reV (h.1 66 ((40 + (16 * nI x)) + 10)) (h.1 66 ((40 + (16 * nI x)) + 3)) r4 r2))) 66 ((40 + (16 * nI x)) + 5) (geP (h.1 66 ((40 + (16 * nI x)) + 5)) (reS (h.1 66 ((40 + (16 * nI x)) + 10)) (h.1 66 ((40 + (16 * nI x)) + 3)) r4 r2 r3))) 66 ((40 + (16 * nI x)) + 4) (geP (h.1 66 ((40 + (16 * nI x)) + 4)) ((h.1 66 ((40 + (16 * nI x)) + 10)) - reV (h.1 66 ((40 + (16 * nI x)) + 10)) (h.1 66 ((40 + (16 * nI x)) + 3)) r4 r2 - reS (h.1 66 ((40 + (16 * nI x)) + 10)) (h.1 66 ((40 + (16 * nI x)) + 3)) r4 r2 r3))) 66 ((40 + (16 * nI x)) + 10) 0)) (fun z => absurd z hfB) (fun _ g1 => ⟨g1, rfl, rfl⟩)).det
  rw [e2, e0, e1, c3, c5, c4, p5, p4] at kA
  exact Or.inr ⟨x, _, _, _, _, g, _, rfl, xn, y3, m5, m4, okB_3, fun Q q => kA Q q, fun Q q => kB Q q⟩
theorem wsT_sub : ∀ w ∈ wsT, w ∈ pm18.2.2.1.2.2.2.2.2.1 := List.forall_mem_cons.mpr ⟨List.mem_of_getElem? (i := 1) rfl, List.forall_mem_cons.mpr ⟨List.mem_of_getElem? (i := 2) rfl, List.forall_mem_cons.mpr ⟨List.mem_of_getElem? (i := 3) rfl, List.forall_mem_cons.mpr ⟨List.mem_of_getElem? (i := 5) rfl, List.forall_mem_cons.mpr ⟨List.mem_of_getElem? (i := 6) rfl, fun _ h => absurd h List.not_mem_nil⟩⟩⟩⟩⟩
theorem Mo.ff {rg : List Rg} {ws : List Wr} {h0 h : Hp} {ρ : Nat → Int} {S : Sx} (M : Mo rg ws h0 ρ S h) (bs : List (Nat × Int × Int)) (fs : List LE) (hb : ∀ q ∈ bs, q.1 < S.1 ∧ q.2.1 ≤ ρ q.1 ∧ ρ q.1 ≤ q.2.2) (hf : ∀ f ∈ fs, leS S.1 f ∧ 0 ≤ leV ρ f) : Mo rg ws h0 ρ (S.1, (bs ++ S.2.1.1, fs ++ S.2.1.2), S.2.2) h := M.db ⟨fun q hq => (List.mem_append.mp hq).elim (hb q) (M.1.1 q), fun f hq => (List.mem_append.mp hq).elim (hf f) (M.1.2 f)⟩
set_option maxHeartbeats 4000000 in
set_option maxRecDepth 100000 in
theorem pay_end {ρ : Nat → Int} {h g hB : Hp} {n x : Nat} {r v3 v5 v4 : Int32} (M0 : Mo rgT pm18.2.2.1.2.2.2.2.2.1 h ρ (cnS pm18.2.2.1) h) (hR : ∀ q ∈ rgT, RgO h q) (ex : ρ 0 = (x : Int)) (hn : (n : Int) = ρ 2) (n10 : n ≤ 10) (xn : x < n) (b3 : 0 ≤ v3.toInt ∧ v3.toInt ≤ 9999) (b5 : 0 ≤ v5.toInt ∧ v5.toInt ≤ 99999) (b4 : 0 ≤ v4.toInt ∧ v4.toInt ≤ 99999) (ob : okBp h hB) : PmPost rgT pm18.2.2.1 pm18.2.2.2 ρ h (some (.int r)) (some (.int r)) (mxH true (hI (hI (hI (hI (ov 35 36 h g) 5 ((nI x * 14) + 3) v3) 5 ((nI x * 14) + 5) v5) 5 ((nI x * 14) + 4) v4) 5 ((nI x * 14) + 10) 0) (hI (hI (hI (hI hB 66 ((40 + (16 * nI x)) + 3) v3) 66 ((40 + (16 * nI x)) + 5) v5) 66 ((40 + (16 * nI x)) + 4) v4) 66 ((40 + (16 * nI x)) + 10) 0)) := by
  have x10 : x < 10 := by omega
  have F0 := frm_T (g := g) ob
  have eH : mxH true (hI (hI (hI (hI (ov 35 36 h g) 5 ((nI x * 14) + 3) v3) 5 ((nI x * 14) + 5) v5) 5 ((nI x * 14) + 4) v4) 5 ((nI x * 14) + 10) 0) (hI (hI (hI (hI hB 66 ((40 + (16 * nI x)) + 3) v3) 66 ((40 + (16 * nI x)) + 5) v5) 66 ((40 + (16 * nI x)) + 4) v4) 66 ((40 + (16 * nI x)) + 10) 0) = hI (hI (hI (hI (hI (hI (hI (hI (mxH true (ov 35 36 h g) hB) 5 ((nI x * 14) + 3) v3) 5 ((nI x * 14) + 5) v5) 5 ((nI x * 14) + 4) v4) 5 ((nI x * 14) + 10) 0) 66 ((40 + (16 * nI x)) + 3) v3) 66 ((40 + (16 * nI x)) + 5) v5) 66 ((40 + (16 * nI x)) + 4) v4) 66 ((40 + (16 * nI x)) + 10) 0 := by
    rw [mx_wB (by decide), mx_wB (by decide), mx_wB (by decide), mx_wB (by decide), ← hI_mx (s := true) (by decide), ← hI_mx (s := true) (by decide), ← hI_mx (s := true) (by decide), ← hI_mx (s := true) (by decide)]
  rw [eH]
  obtain ⟨K, hK⟩ : ∃ K, K = mxH true (ov 35 36 h g) hB := ⟨_, rfl⟩
  rw [← hK] at F0 ⊢
  have F1 : Frm pm18.2.2.1.2.2.2.2.2.1 h K := ⟨fun o j q => F0.1 o j (fun ⟨w, hw, z⟩ => q ⟨w, wsT_sub w hw, z⟩), fun o j _ => F0.2.1 o j (nwKp rfl), F0.2.2⟩
  have M1 := M0.kl F0 F1 (rgV_sp (vs := wsT) (by decide +kernel) F0 hR)
  have M2 := M1.ff [(0, 0, 9)] [(-1, [(0, -1), (2, 1)])] (List.forall_mem_cons.mpr ⟨⟨by decide +kernel, by show (0 : Int) ≤ ρ 0; omega, by show ρ 0 ≤ (9 : Int); omega⟩, fun _ h => absurd h List.not_mem_nil⟩) (List.forall_mem_cons.mpr ⟨⟨scB_S (by decide +kernel), by show (0 : Int) ≤ -1 + (-1 * ρ 0 + (1 * ρ 2 + 0)); omega⟩, fun _ h => absurd h List.not_mem_nil⟩)
  have M3 := ((M2.nw (x := v3.toInt) (l := 0) (u := 9999) b3.1 b3.2).nw (x := v5.toInt) (l := 0) (u := 99999) b5.1 b5.2).nw (x := v4.toInt) (l := 0) (u := 99999) b4.1 b4.2
  have n22 : (cnS pm18.2.2.1).1 = 38 := by decide +kernel
  obtain ⟨ρ', hρ⟩ : ∃ ρ', ρ' = updS (updS (updS ρ 38 v3.toInt) 39 v5.toInt) 40 v4.toInt := ⟨_, rfl⟩
  have M3 : Mo rgT pm18.2.2.1.2.2.2.2.2.1 h ρ' (nwS (nwS (nwS ((cnS pm18.2.2.1).1, ([(0, 0, 9)] ++ (cnS pm18.2.2.1).2.1.1, [(-1, [(0, -1), (2, 1)])] ++ (cnS pm18.2.2.1).2.1.2), kpL (cnS pm18.2.2.1).2.1 wsT (cnS pm18.2.2.1).2.2) 0 9999) 0 99999) 0 99999) K := by rw [hρ]; exact M3
  have ex' : ρ' 0 = (x : Int) := by rw [hρ, updS_lt (by decide), updS_lt (by decide), updS_lt (by decide)]; exact ex
  have z0 : ρ' 38 = v3.toInt := by rw [hρ, updS_lt (by decide), updS_lt (by decide), updS_at]
  have z1 : ρ' 39 = v5.toInt := by rw [hρ, updS_lt (by decide), updS_at]
  have z2 : ρ' 40 = v4.toInt := by rw [hρ, updS_at]
  have ag : Ag ρ ρ' 38 := fun k hk => by rw [hρ, updS_lt (by omega), updS_lt (by omega), updS_lt hk]
  have M4 := (M3.wr (o := 5) (i := (3, [(0, 14)])) (e := leX 38) (j := ((nI x * 14) + 3)) (v := v3) ⟨scB_S (by decide +kernel), by rw [show (nI x * 14) + 3 = nI (3 + 14 * x) from ixA (f := 3) x10 (by decide), nI_i (by omega)]; show (3 : Int) + (14 * ρ' 0 + 0) = _; omega⟩ ⟨leS_X (by decide +kernel), by rw [leV_X, z0]⟩ (by decide +kernel)).1
  have M5 := (M4.wr (o := 5) (i := (5, [(0, 14)])) (e := leX 39) (j := ((nI x * 14) + 5)) (v := v5) ⟨scB_S (by decide +kernel), by rw [show (nI x * 14) + 5 = nI (5 + 14 * x) from ixA (f := 5) x10 (by decide), nI_i (by omega)]; show (5 : Int) + (14 * ρ' 0 + 0) = _; omega⟩ ⟨leS_X (by decide +kernel), by rw [leV_X, z1]⟩ (by decide +kernel)).1
  have M6 := (M5.wr (o := 5) (i := (4, [(0, 14)])) (e := leX 40) (j := ((nI x * 14) + 4)) (v := v4) ⟨scB_S (by decide +kernel), by rw [show (nI x * 14) + 4 = nI (4 + 14 * x) from ixA (f := 4) x10 (by decide), nI_i (by omega)]; show (4 : Int) + (14 * ρ' 0 + 0) = _; omega⟩ ⟨leS_X (by decide +kernel), by rw [leV_X, z2]⟩ (by decide +kernel)).1
  have M7 := (M6.wr (o := 5) (i := (10, [(0, 14)])) (e := leC 0) (j := ((nI x * 14) + 10)) (v := 0) ⟨scB_S (by decide +kernel), by rw [show (nI x * 14) + 10 = nI (10 + 14 * x) from ixA (f := 10) x10 (by decide), nI_i (by omega)]; show (10 : Int) + (14 * ρ' 0 + 0) = _; omega⟩ ⟨leS_C, leV_C _ _⟩ (by decide +kernel)).1
  have M8 := (M7.wr (o := 66) (i := (43, [(0, 16)])) (e := leX 38) (j := ((40 + (16 * nI x)) + 3)) (v := v3) ⟨scB_S (by decide +kernel), by rw [show (40 + (16 * nI x)) + 3 = nI (43 + 16 * x) from ixH (f := 3) x10 (by decide), nI_i (by omega)]; show (43 : Int) + (16 * ρ' 0 + 0) = _; omega⟩ ⟨leS_X (by decide +kernel), by rw [leV_X, z0]⟩ (by decide +kernel)).1
  have M9 := (M8.wr (o := 66) (i := (45, [(0, 16)])) (e := leX 39) (j := ((40 + (16 * nI x)) + 5)) (v := v5) ⟨scB_S (by decide +kernel), by rw [show (40 + (16 * nI x)) + 5 = nI (45 + 16 * x) from ixH (f := 5) x10 (by decide), nI_i (by omega)]; show (45 : Int) + (16 * ρ' 0 + 0) = _; omega⟩ ⟨leS_X (by decide +kernel), by rw [leV_X, z1]⟩ (by decide +kernel)).1
  have M10 := (M9.wr (o := 66) (i := (44, [(0, 16)])) (e := leX 40) (j := ((40 + (16 * nI x)) + 4)) (v := v4) ⟨scB_S (by decide +kernel), by rw [show (40 + (16 * nI x)) + 4 = nI (44 + 16 * x) from ixH (f := 4) x10 (by decide), nI_i (by omega)]; show (44 : Int) + (16 * ρ' 0 + 0) = _; omega⟩ ⟨leS_X (by decide +kernel), by rw [leV_X, z2]⟩ (by decide +kernel)).1
  have M11 := (M10.wr (o := 66) (i := (50, [(0, 16)])) (e := leC 0) (j := ((40 + (16 * nI x)) + 10)) (v := 0) ⟨scB_S (by decide +kernel), by rw [show (40 + (16 * nI x)) + 10 = nI (50 + 16 * x) from ixH (f := 10) x10 (by decide), nI_i (by omega)]; show (50 : Int) + (16 * ρ' 0 + 0) = _; omega⟩ ⟨leS_C, leV_C _ _⟩ (by decide +kernel)).1
  have M12 := M11.nw (x := r.toInt) (l := -2147483648) (u := 2147483647) (i32b r).1 (i32b r).2
  refine hand_post (r := some (0, leX 41)) (r' := some (0, leX 41)) M12 (ag.tr (upd_ag (n := 41)) (by decide)) (by decide +kernel) (hand_r ⟨leS_X (by decide +kernel), ?_⟩) (hand_r ⟨leS_X (by decide +kernel), ?_⟩) (by decide +kernel)
  · rw [leV_X]
    unfold updS
    rw [if_pos (by decide +kernel)]
  · rw [leV_X]
    unfold updS
    rw [if_pos (by decide +kernel)]
set_option maxHeartbeats 4000000 in
set_option maxRecDepth 100000 in
theorem okP18 : PmOK rgT pm18 := by
  intro d hd ρ as bs h hlen hin hb hc hf hR
  have hd : 6 ≤ d := hd
  have hlen : as.length = 2 := hlen
  generalize hL : as ++ bs = L at hin
  have hin0 := hin
  obtain ⟨v0, s0, rfl, hin⟩ := hin
  rw [if_pos rfl] at hin
  obtain ⟨rfl, -, hin⟩ := hin
  obtain ⟨v1, s1, rfl, hin⟩ := hin
  rw [if_neg (by decide), if_pos rfl] at hin
  obtain ⟨g0, ⟨a0, rfl, e0⟩, hin⟩ := hin
  obtain ⟨v2, s2, rfl, hin⟩ := hin
  rw [if_pos rfl] at hin
  obtain ⟨rfl, -, hin⟩ := hin
  obtain ⟨v3, s3, rfl, hin⟩ := hin
  rw [if_neg (by decide), if_pos rfl] at hin
  obtain ⟨g1, ⟨b1, rfl, e1⟩, hin⟩ := hin
  cases hin
  obtain ⟨rfl, rfl⟩ := List.append_inj (show as ++ bs = [Value.ref 0, .int a0] ++ [Value.ref 65, .int b1] from hL) hlen
  have f0 : (0 : Int) ≤ 0 + (1 * ρ 0 + (-1 * ρ 1 + 0)) := hf _ (List.mem_of_getElem? (i := 0) rfl)
  have f1 : (0 : Int) ≤ 0 + (-1 * ρ 0 + (1 * ρ 1 + 0)) := hf _ (List.mem_of_getElem? (i := 1) rfl)
  have f2 : (0 : Int) ≤ 0 + (1 * ρ 2 + (-1 * ρ 3 + 0)) := hf _ (List.mem_of_getElem? (i := 2) rfl)
  have f3 : (0 : Int) ≤ 0 + (-1 * ρ 2 + (1 * ρ 3 + 0)) := hf _ (List.mem_of_getElem? (i := 3) rfl)
  have f4 : (0 : Int) ≤ 0 + (1 * ρ 4 + (-1 * ρ 5 + 0)) := hf _ (List.mem_of_getElem? (i := 4) rfl)
  have f5 : (0 : Int) ≤ 0 + (-1 * ρ 4 + (1 * ρ 5 + 0)) := hf _ (List.mem_of_getElem? (i := 5) rfl)
  have f6 : (0 : Int) ≤ 0 + (1 * ρ 6 + (-1 * ρ 7 + 0)) := hf _ (List.mem_of_getElem? (i := 6) rfl)
  have f7 : (0 : Int) ≤ 0 + (-1 * ρ 6 + (1 * ρ 7 + 0)) := hf _ (List.mem_of_getElem? (i := 7) rfl)
  have f8 : (0 : Int) ≤ 0 + (1 * ρ 2 + (-1 * ρ 27 + 0)) := hf _ (List.mem_of_getElem? (i := 8) rfl)
  have f9 : (0 : Int) ≤ 0 + (-1 * ρ 2 + (1 * ρ 27 + 0)) := hf _ (List.mem_of_getElem? (i := 9) rfl)
  have f10 : (0 : Int) ≤ 0 + (1 * ρ 2 + (-1 * ρ 28 + 0)) := hf _ (List.mem_of_getElem? (i := 10) rfl)
  have f11 : (0 : Int) ≤ 0 + (-1 * ρ 2 + (1 * ρ 28 + 0)) := hf _ (List.mem_of_getElem? (i := 11) rfl)
  have f12 : (0 : Int) ≤ 0 + (1 * ρ 2 + (-1 * ρ 29 + 0)) := hf _ (List.mem_of_getElem? (i := 12) rfl)
  have f13 : (0 : Int) ≤ 0 + (-1 * ρ 2 + (1 * ρ 29 + 0)) := hf _ (List.mem_of_getElem? (i := 13) rfl)
  have f14 : (0 : Int) ≤ 0 + (1 * ρ 2 + (-1 * ρ 30 + 0)) := hf _ (List.mem_of_getElem? (i := 14) rfl)
  have f15 : (0 : Int) ≤ 0 + (-1 * ρ 2 + (1 * ρ 30 + 0)) := hf _ (List.mem_of_getElem? (i := 15) rfl)
  have f16 : (0 : Int) ≤ 0 + (1 * ρ 2 + (-1 * ρ 31 + 0)) := hf _ (List.mem_of_getElem? (i := 16) rfl)
  have f17 : (0 : Int) ≤ 0 + (-1 * ρ 2 + (1 * ρ 31 + 0)) := hf _ (List.mem_of_getElem? (i := 17) rfl)
  have f18 : (0 : Int) ≤ 0 + (1 * ρ 2 + (-1 * ρ 32 + 0)) := hf _ (List.mem_of_getElem? (i := 18) rfl)
  have f19 : (0 : Int) ≤ 0 + (-1 * ρ 2 + (1 * ρ 32 + 0)) := hf _ (List.mem_of_getElem? (i := 19) rfl)
  have f20 : (0 : Int) ≤ 0 + (1 * ρ 2 + (-1 * ρ 33 + 0)) := hf _ (List.mem_of_getElem? (i := 20) rfl)
  have f21 : (0 : Int) ≤ 0 + (-1 * ρ 2 + (1 * ρ 33 + 0)) := hf _ (List.mem_of_getElem? (i := 21) rfl)
  have f22 : (0 : Int) ≤ 0 + (1 * ρ 2 + (-1 * ρ 34 + 0)) := hf _ (List.mem_of_getElem? (i := 22) rfl)
  have f23 : (0 : Int) ≤ 0 + (-1 * ρ 2 + (1 * ρ 34 + 0)) := hf _ (List.mem_of_getElem? (i := 23) rfl)
  have f24 : (0 : Int) ≤ 0 + (10 * ρ 6 + (-1 * ρ 35 + 0)) := hf _ (List.mem_of_getElem? (i := 24) rfl)
  have f25 : (0 : Int) ≤ 0 + (-10 * ρ 6 + (1 * ρ 35 + 0)) := hf _ (List.mem_of_getElem? (i := 25) rfl)
  have f26 : (0 : Int) ≤ 0 + (1 * ρ 2 + (-1 * ρ 36 + 0)) := hf _ (List.mem_of_getElem? (i := 26) rfl)
  have f27 : (0 : Int) ≤ 0 + (-1 * ρ 2 + (1 * ρ 36 + 0)) := hf _ (List.mem_of_getElem? (i := 27) rfl)
  have f28 : (0 : Int) ≤ 0 + (1 * ρ 4 + (-1 * ρ 37 + 0)) := hf _ (List.mem_of_getElem? (i := 28) rfl)
  have f29 : (0 : Int) ≤ 0 + (-1 * ρ 4 + (1 * ρ 37 + 0)) := hf _ (List.mem_of_getElem? (i := 29) rfl)
  have e0 : ρ 0 = a0.toInt := e0
  have e1 : ρ 1 = b1.toInt := e1
  obtain rfl : a0 = b1 := Int32.toInt_inj.mp (by omega)
  have g0 : (-2147483648 : Int) ≤ ρ 0 ∧ ρ 0 ≤ 2147483647 := g0
  have g1 : (-2147483648 : Int) ≤ ρ 1 ∧ ρ 1 ≤ 2147483647 := g1
  have r2 : (0 : Int) ≤ ρ 2 ∧ ρ 2 ≤ 10 := hb (2, 0, 10) (List.mem_of_getElem? (i := 0) rfl)
  have c2 : ρ 2 = (h.1 4 2).toInt := hc_i (hc (0, 4, (2, []), leX 2) (List.mem_of_getElem? (i := 0) rfl)) rfl
  have r3 : (0 : Int) ≤ ρ 3 ∧ ρ 3 ≤ 10 := hb (3, 0, 10) (List.mem_of_getElem? (i := 1) rfl)
  have c3 : ρ 3 = (h.1 66 2).toInt := hc_i (hc (0, 66, (2, []), leX 3) (List.mem_of_getElem? (i := 1) rfl)) rfl
  have r4 : (0 : Int) ≤ ρ 4 ∧ ρ 4 ≤ 12 := hb (4, 0, 12) (List.mem_of_getElem? (i := 2) rfl)
  have c4 : ρ 4 = (h.1 8 2).toInt := hc_i (hc (0, 8, (2, []), leX 4) (List.mem_of_getElem? (i := 2) rfl)) rfl
  have r5 : (0 : Int) ≤ ρ 5 ∧ ρ 5 ≤ 12 := hb (5, 0, 12) (List.mem_of_getElem? (i := 3) rfl)
  have c5 : ρ 5 = (h.1 66 4).toInt := hc_i (hc (0, 66, (4, []), leX 5) (List.mem_of_getElem? (i := 3) rfl)) rfl
  have r6 : (0 : Int) ≤ ρ 6 ∧ ρ 6 ≤ 999 := hb (6, 0, 999) (List.mem_of_getElem? (i := 4) rfl)
  have c6 : ρ 6 = (h.1 1 5).toInt := hc_i (hc (0, 1, (5, []), leX 6) (List.mem_of_getElem? (i := 4) rfl)) rfl
  have r7 : (0 : Int) ≤ ρ 7 ∧ ρ 7 ≤ 999 := hb (7, 0, 999) (List.mem_of_getElem? (i := 5) rfl)
  have c7 : ρ 7 = (h.1 66 0).toInt := hc_i (hc (0, 66, (0, []), leX 7) (List.mem_of_getElem? (i := 5) rfl)) rfl
  have r8 : (0 : Int) ≤ ρ 8 ∧ ρ 8 ≤ 0 := hb (8, 0, 0) (List.mem_of_getElem? (i := 6) rfl)
  have c8 : KC h 14 0 0 (ρ 8) := kc_at (hc (14, 0, (0, []), leX 8) (List.mem_of_getElem? (i := 6) rfl))
  have r9 : (0 : Int) ≤ ρ 9 ∧ ρ 9 ≤ 0 := hb (9, 0, 0) (List.mem_of_getElem? (i := 7) rfl)
  have c9 : KC h 5 66 0 (ρ 9) := kc_at (hc (5, 66, (0, []), leX 9) (List.mem_of_getElem? (i := 7) rfl))
  have r10 : (0 : Int) ≤ ρ 10 ∧ ρ 10 ≤ 0 := hb (10, 0, 0) (List.mem_of_getElem? (i := 8) rfl)
  have c10 : KC h 16 0 0 (ρ 10) := kc_at (hc (16, 0, (0, []), leX 10) (List.mem_of_getElem? (i := 8) rfl))
  have r11 : (-1 : Int) ≤ ρ 11 ∧ ρ 11 ≤ -1 := hb (11, (-1), (-1)) (List.mem_of_getElem? (i := 9) rfl)
  have c11 : KC h 17 0 0 (ρ 11) := kc_at (hc (17, 0, (0, []), leX 11) (List.mem_of_getElem? (i := 9) rfl))
  have r12 : (0 : Int) ≤ ρ 12 ∧ ρ 12 ≤ 0 := hb (12, 0, 0) (List.mem_of_getElem? (i := 10) rfl)
  have c12 : KC h 9 112 0 (ρ 12) := kc_at (hc (9, 112, (0, []), leX 12) (List.mem_of_getElem? (i := 10) rfl))
  have r13 : (0 : Int) ≤ ρ 13 ∧ ρ 13 ≤ 0 := hb (13, 0, 0) (List.mem_of_getElem? (i := 11) rfl)
  have c13 : KC h 9 128 0 (ρ 13) := kc_at (hc (9, 128, (0, []), leX 13) (List.mem_of_getElem? (i := 11) rfl))
  have r14 : (0 : Int) ≤ ρ 14 ∧ ρ 14 ≤ 0 := hb (14, 0, 0) (List.mem_of_getElem? (i := 12) rfl)
  have c14 : KC h 9 144 0 (ρ 14) := kc_at (hc (9, 144, (0, []), leX 14) (List.mem_of_getElem? (i := 12) rfl))
  have r15 : (0 : Int) ≤ ρ 15 ∧ ρ 15 ≤ 0 := hb (15, 0, 0) (List.mem_of_getElem? (i := 13) rfl)
  have c15 : KC h 9 160 0 (ρ 15) := kc_at (hc (9, 160, (0, []), leX 15) (List.mem_of_getElem? (i := 13) rfl))
  have r16 : (0 : Int) ≤ ρ 16 ∧ ρ 16 ≤ 0 := hb (16, 0, 0) (List.mem_of_getElem? (i := 14) rfl)
  have c16 : KC h 9 176 0 (ρ 16) := kc_at (hc (9, 176, (0, []), leX 16) (List.mem_of_getElem? (i := 14) rfl))
  have r17 : (0 : Int) ≤ ρ 17 ∧ ρ 17 ≤ 0 := hb (17, 0, 0) (List.mem_of_getElem? (i := 15) rfl)
  have c17 : KC h 9 192 0 (ρ 17) := kc_at (hc (9, 192, (0, []), leX 17) (List.mem_of_getElem? (i := 15) rfl))
  have r18 : (0 : Int) ≤ ρ 18 ∧ ρ 18 ≤ 0 := hb (18, 0, 0) (List.mem_of_getElem? (i := 16) rfl)
  have c18 : KC h 9 208 0 (ρ 18) := kc_at (hc (9, 208, (0, []), leX 18) (List.mem_of_getElem? (i := 16) rfl))
  have r19 : (0 : Int) ≤ ρ 19 ∧ ρ 19 ≤ 0 := hb (19, 0, 0) (List.mem_of_getElem? (i := 17) rfl)
  have c19 : KC h 9 224 0 (ρ 19) := kc_at (hc (9, 224, (0, []), leX 19) (List.mem_of_getElem? (i := 17) rfl))
  have r20 : (0 : Int) ≤ ρ 20 ∧ ρ 20 ≤ 0 := hb (20, 0, 0) (List.mem_of_getElem? (i := 18) rfl)
  have c20 : KC h 9 240 0 (ρ 20) := kc_at (hc (9, 240, (0, []), leX 20) (List.mem_of_getElem? (i := 18) rfl))
  have r21 : (0 : Int) ≤ ρ 21 ∧ ρ 21 ≤ 0 := hb (21, 0, 0) (List.mem_of_getElem? (i := 19) rfl)
  have c21 : KC h 9 256 0 (ρ 21) := kc_at (hc (9, 256, (0, []), leX 21) (List.mem_of_getElem? (i := 19) rfl))
  have r22 : (0 : Int) ≤ ρ 22 ∧ ρ 22 ≤ 0 := hb (22, 0, 0) (List.mem_of_getElem? (i := 20) rfl)
  have c22 : KC h 9 272 0 (ρ 22) := kc_at (hc (9, 272, (0, []), leX 22) (List.mem_of_getElem? (i := 20) rfl))
  have r23 : (0 : Int) ≤ ρ 23 ∧ ρ 23 ≤ 0 := hb (23, 0, 0) (List.mem_of_getElem? (i := 21) rfl)
  have c23 : KC h 9 288 0 (ρ 23) := kc_at (hc (9, 288, (0, []), leX 23) (List.mem_of_getElem? (i := 21) rfl))
  have r24 : (0 : Int) ≤ ρ 24 ∧ ρ 24 ≤ 0 := hb (24, 0, 0) (List.mem_of_getElem? (i := 22) rfl)
  have c24 : KC h 9 304 0 (ρ 24) := kc_at (hc (9, 304, (0, []), leX 24) (List.mem_of_getElem? (i := 22) rfl))
  have r25 : (0 : Int) ≤ ρ 25 ∧ ρ 25 ≤ 0 := hb (25, 0, 0) (List.mem_of_getElem? (i := 23) rfl)
  have c25 : KC h 9 448 0 (ρ 25) := kc_at (hc (9, 448, (0, []), leX 25) (List.mem_of_getElem? (i := 23) rfl))
  have r26 : (0 : Int) ≤ ρ 26 ∧ ρ 26 ≤ 0 := hb (26, 0, 0) (List.mem_of_getElem? (i := 24) rfl)
  have c26 : KC h 9 464 0 (ρ 26) := kc_at (hc (9, 464, (0, []), leX 26) (List.mem_of_getElem? (i := 24) rfl))
  have r27 : (0 : Int) ≤ ρ 27 ∧ ρ 27 ≤ 10 := hb (27, 0, 10) (List.mem_of_getElem? (i := 25) rfl)
  have c27 : KC h 11 160 0 (ρ 27) := kc_at (hc (11, 160, (0, []), leX 27) (List.mem_of_getElem? (i := 25) rfl))
  have r28 : (0 : Int) ≤ ρ 28 ∧ ρ 28 ≤ 10 := hb (28, 0, 10) (List.mem_of_getElem? (i := 26) rfl)
  have c28 : KC h 11 176 0 (ρ 28) := kc_at (hc (11, 176, (0, []), leX 28) (List.mem_of_getElem? (i := 26) rfl))
  have r29 : (0 : Int) ≤ ρ 29 ∧ ρ 29 ≤ 10 := hb (29, 0, 10) (List.mem_of_getElem? (i := 27) rfl)
  have c29 : KC h 11 192 0 (ρ 29) := kc_at (hc (11, 192, (0, []), leX 29) (List.mem_of_getElem? (i := 27) rfl))
  have r30 : (0 : Int) ≤ ρ 30 ∧ ρ 30 ≤ 10 := hb (30, 0, 10) (List.mem_of_getElem? (i := 28) rfl)
  have c30 : KC h 11 208 0 (ρ 30) := kc_at (hc (11, 208, (0, []), leX 30) (List.mem_of_getElem? (i := 28) rfl))
  have r31 : (0 : Int) ≤ ρ 31 ∧ ρ 31 ≤ 10 := hb (31, 0, 10) (List.mem_of_getElem? (i := 29) rfl)
  have c31 : KC h 11 224 0 (ρ 31) := kc_at (hc (11, 224, (0, []), leX 31) (List.mem_of_getElem? (i := 29) rfl))
  have r32 : (0 : Int) ≤ ρ 32 ∧ ρ 32 ≤ 10 := hb (32, 0, 10) (List.mem_of_getElem? (i := 30) rfl)
  have c32 : KC h 11 272 0 (ρ 32) := kc_at (hc (11, 272, (0, []), leX 32) (List.mem_of_getElem? (i := 30) rfl))
  have r33 : (0 : Int) ≤ ρ 33 ∧ ρ 33 ≤ 10 := hb (33, 0, 10) (List.mem_of_getElem? (i := 31) rfl)
  have c33 : KC h 11 288 0 (ρ 33) := kc_at (hc (11, 288, (0, []), leX 33) (List.mem_of_getElem? (i := 31) rfl))
  have r34 : (0 : Int) ≤ ρ 34 ∧ ρ 34 ≤ 10 := hb (34, 0, 10) (List.mem_of_getElem? (i := 32) rfl)
  have c34 : KC h 11 304 0 (ρ 34) := kc_at (hc (11, 304, (0, []), leX 34) (List.mem_of_getElem? (i := 32) rfl))
  have r35 : (0 : Int) ≤ ρ 35 ∧ ρ 35 ≤ 20000 := hb (35, 0, 20000) (List.mem_of_getElem? (i := 33) rfl)
  have c35 : KC h 14 16 0 (ρ 35) := kc_at (hc (14, 16, (0, []), leX 35) (List.mem_of_getElem? (i := 33) rfl))
  have r36 : (0 : Int) ≤ ρ 36 ∧ ρ 36 ≤ 10 := hb (36, 0, 10) (List.mem_of_getElem? (i := 34) rfl)
  have c36 : KC h 12 0 0 (ρ 36) := kc_at (hc (12, 0, (0, []), leX 36) (List.mem_of_getElem? (i := 34) rfl))
  have r37 : (0 : Int) ≤ ρ 37 ∧ ρ 37 ≤ 12 := hb (37, 0, 12) (List.mem_of_getElem? (i := 35) rfl)
  have c37 : KC h 15 0 0 (ρ 37) := kc_at (hc (15, 0, (0, []), leX 37) (List.mem_of_getElem? (i := 35) rfl))
  have M0 := hand_M (rg := rgT) (s := pm18.2.2.1) (h := h) (ρ := ρ) (by decide +kernel) (by decide +kernel) hin0 hb hc hf hR
  obtain ⟨d', rfl⟩ : ∃ d', d = d' + 6 := ⟨d - 6, (Nat.sub_add_cancel hd).symm⟩
  obtain ⟨n, hn⟩ : ∃ n : Nat, (n : Int) = ρ 2 := ⟨(ρ 2).toNat, Int.toNat_of_nonneg r2.1⟩
  have n10 := cnt_le (m := 10) hn r2.2
  have en : h.1 4 2 = nI n := cnt_n hn c2
  have en2 : h.1 66 2 = nI n := cnt_n (hn.trans (eqI f2 f3)) c3
  have W0 : KC h 5 66 0 0 := by have q := c9; rw [show ρ 9 = 0 from Int.le_antisymm r9.2 r9.1] at q; exact q
  have K448 : KC h 9 448 0 0 := by have q := c25; rw [show ρ 25 = 0 from Int.le_antisymm r25.2 r25.1] at q; exact q
  have K464 : KC h 9 464 0 0 := by have q := c26; rw [show ρ 26 = 0 from Int.le_antisymm r26.2 r26.1] at q; exact q
  have R144 : RLO h 144 0 0 := by have q := c14; rw [show ρ 14 = 0 from Int.le_antisymm r14.2 r14.1] at q; exact q
  have R160 : RLO h 160 0 0 := by have q := c15; rw [show ρ 15 = 0 from Int.le_antisymm r15.2 r15.1] at q; exact q
  have R176 : RLO h 176 0 0 := by have q := c16; rw [show ρ 16 = 0 from Int.le_antisymm r16.2 r16.1] at q; exact q
  have R192 : RLO h 192 0 0 := by have q := c17; rw [show ρ 17 = 0 from Int.le_antisymm r17.2 r17.1] at q; exact q
  have R272 : RLO h 272 0 0 := by have q := c22; rw [show ρ 22 = 0 from Int.le_antisymm r22.2 r22.1] at q; exact q
  have R288 : RLO h 288 0 0 := by have q := c23; rw [show ρ 23 = 0 from Int.le_antisymm r23.2 r23.1] at q; exact q
  have S0 : KC h 15 0 0 (ρ 4) := by have q := c37; rw [show ρ 37 = ρ 4 from (eqI f28 f29).symm] at q; exact q
  have ex0 : ρ 0 = a0.toInt := e0
  rcases pay_core (d := d') (h := h) (a0 := a0) n10 en en2 c4 ((eqI f4 f5).trans c5) r4.1 r4.2 c6 ((eqI f6 f7).trans c7) r6.1 (Int.le_trans r6.2 (by decide)) W0 K448 K464 S0 hR R144 R160 R176 R192 R272 R288 with ⟨r, cA, cB, hr⟩ | ⟨x, r, v3, v5, v4, g, hB, rfl, xn, b3, b5, b4, ob, cA, cB⟩
  · refine pm_mk (p := pm18) cA cB (List.forall_mem_cons.mpr ⟨fun _ => rfl, List.forall_mem_cons.mpr ⟨trivial, fun _ h => absurd h List.not_mem_nil⟩⟩) (List.forall_mem_cons.mpr ⟨fun _ => rfl, List.forall_mem_cons.mpr ⟨trivial, fun _ h => absurd h List.not_mem_nil⟩⟩) ?_
    rw [mx_self]
    rcases hr with rfl | rfl
    · exact hand_post M0 Ag.rf (Nat.le_refl _) (hand_r (e := leC (-1000000001)) ⟨leS_C, leV_C _ _⟩) (hand_r (e := leC (-1000000001)) ⟨leS_C, leV_C _ _⟩) (by decide +kernel)
    · exact hand_post M0 Ag.rf (Nat.le_refl _) (hand_r (e := leC (-1000000002)) ⟨leS_C, leV_C _ _⟩) (hand_r (e := leC (-1000000002)) ⟨leS_C, leV_C _ _⟩) (by decide +kernel)
  · refine pm_mk (p := pm18) cA cB (List.forall_mem_cons.mpr ⟨fun _ => rfl, List.forall_mem_cons.mpr ⟨trivial, fun _ h => absurd h List.not_mem_nil⟩⟩) (List.forall_mem_cons.mpr ⟨fun _ => rfl, List.forall_mem_cons.mpr ⟨trivial, fun _ h => absurd h List.not_mem_nil⟩⟩) ?_
    exact pay_end M0 hR (by rw [ex0, nI_i (Nat.lt_trans xn (Nat.lt_of_le_of_lt n10 (by decide)))]) hn n10 xn b3 b5 b4 ob

