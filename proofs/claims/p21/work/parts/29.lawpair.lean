/-! Places that read no object: the same on any heap with the same script. -/
noncomputable def ldI (i : Instr) : Bool := match i with
  | .iload_n _ => true
  | .iload _ => true
  | .aload_n _ => true
  | .aload _ => true
  | .iconst _ => true
  | .bipush _ => true
  | .sipush _ => true
  | .iadd => true
  | .isub => true
  | .pop => true
  | .iaload => true
  | _ => false
theorem ld_free {i : Instr} {a b : Nat} {vv : Int32} {w : Int64} {sw : List (Int32 × Nat)} {pc : Nat} {ls : Lc} {st : List Value} {h h' : Hp} {G : Prop} {z' : Cf} (hi : ldI i = true) (h3 : ∀ j r t, i = .iaload → st = .int j :: .ref r :: t → r = 1300) (hs : h'.2.2 = h.2.2) (e : stI i a b vv w sw pc ls st h = some (G, z')) : stI i a b vv w sw pc ls st h' = some (G, (z'.1, z'.2.1, z'.2.2.1, h')) ∧ z'.2.2.2 = h := by
  have ld1 : ∀ {k n : Nat}, fLdI ls k n pc st h = some (G, z') → fLdI ls k n pc st h' = some (G, (z'.1, z'.2.1, z'.2.2.1, h')) ∧ z'.2.2.2 = h := fun q => by
    unfold fLdI at q ⊢
    split at q
    · cases q; exact ⟨rfl, rfl⟩
    · cases q
  have ld2 : ∀ {k n : Nat}, fLdA ls k n pc st h = some (G, z') → fLdA ls k n pc st h' = some (G, (z'.1, z'.2.1, z'.2.2.1, h')) ∧ z'.2.2.2 = h := fun q => by
    unfold fLdA at q ⊢
    split at q
    · cases q; exact ⟨rfl, rfl⟩
    · cases q
  have ld3 : ∀ {f : Int32 → Int32 → Int32}, fI2 f ls pc st h = some (G, z') → fI2 f ls pc st h' = some (G, (z'.1, z'.2.1, z'.2.2.1, h')) ∧ z'.2.2.2 = h := fun q => by
    unfold fI2 at q ⊢
    split at q
    · cases q; exact ⟨rfl, rfl⟩
    · cases q
  have ld4 : i = .iaload → fIal ls pc st h = some (G, z') → fIal ls pc st h' = some (G, (z'.1, z'.2.1, z'.2.2.1, h')) ∧ z'.2.2.2 = h := fun ei q => by
    unfold fIal at q ⊢
    split at q
    · rename_i j r t
      have hr := h3 j r t ei rfl
      subst hr
      split at q
      · rename_i e1
        cases q
        have a1 : aln h' 1300 = aln h 1300 := by
          show h'.2.2.1 = h.2.2.1
          rw [hs]
        have a2 : agt h' 1300 j = agt h 1300 j := by
          show h'.2.2.2 _ = h.2.2.2 _
          rw [hs]
        rw [if_pos e1, a1, a2]
        exact ⟨rfl, rfl⟩
      · cases q
    · cases q
  unfold stI at e
  split at e
  all_goals first
    | (cases hi; done)
    | (cases e; done)
    | exact ld1 e
    | exact ld2 e
    | exact ld3 e
    | exact ld4 rfl e
    | (cases e; exact ⟨rfl, rfl⟩)
    | (split at e <;> (cases e; first | done | exact ⟨rfl, rfl⟩))
/-- walk places that read no object, on the old heap: up to the call of the other -/
noncomputable def ldB (i : Instr) (st : List AV) : Bool := ldI i && (match i, st with
  | .iaload, _ :: (2, (.ofNat r, _)) :: _ => Nat.beq r 1300
  | .iaload, _ => false
  | _, _ => true)
noncomputable def lw (rg : List Rg) (ws : List Wr) (cd : Cd) (k : Sx → Nat → List (Option AV) → List AV → Bool) : Nat → Cc → Bool
  | 0, c => k c.1 c.2.1 c.2.2.1 c.2.2.2
  | n + 1, (S, pc, ls, st) => match cAt cd pc with
    | some _ => k S pc ls st
    | none => match cdX cd pc with
      | some (i, _, a, b, v, w, sw) => ldB i st && (match ax rg ws i a b v w sw pc S ls st with
        | some L => L.all (lw rg ws cd k n)
        | none => false)
      | none => false
section LW
variable {rg : List Rg} {ws : List Wr} {h0 : Hp}
theorem lw_sp {C : Nat → List Value → Hp → (Option Value → Hp → Prop) → Prop} {cd : Cd} {rt : Option FieldType} {Q : Option Value → Hp → Prop} {X : Cf → Prop} {k : Sx → Nat → List (Option AV) → List AV → Bool} {ρ0 : Nat → Int} {n0 : Nat} {h hA : Hp} (hC : Clo C cd rt Q X) (hs : hA.2.2 = h.2.2) (K : ∀ (ρ' : Nat → Int) (S : Sx) (pc : Nat) (ls : List (Option AV)) (st : List AV) (lc : Lc) (sc : List Value), Ag ρ0 ρ' n0 → n0 ≤ S.1 → Mo rg ws h0 ρ' S h → LR ρ' S.1 ls lc → SR ρ' S.1 st sc → k S pc ls st = true → X (pc, lc, sc, hA)) : ∀ (n : Nat) (c : Cc) (ρ : Nat → Int) (pz : Nat) (lc : Lc) (sc : List Value), lw rg ws cd k n c = true → Ag ρ0 ρ n0 → n0 ≤ c.1.1 → Md rg ws h0 ρ c (pz, lc, sc, h) → X (pz, lc, sc, hA) := by
  intro n
  induction n with
  | zero =>
    intro c ρ pz lc sc hx hA' hn M
    obtain ⟨M, hpc, hL, hS⟩ := M
    dsimp only at M hpc hL hS
    rw [hpc]
    exact K ρ c.1 c.2.1 c.2.2.1 c.2.2.2 lc sc hA' hn M hL hS hx
  | succ n ih =>
    intro c ρ pz lc sc hx hA' hn M
    obtain ⟨S, pc, ls, st⟩ := c
    obtain ⟨M, hpc, hL, hS⟩ := M
    dsimp only at M hpc hL hS hn
    subst hpc
    unfold lw at hx
    split at hx
    · exact K ρ S pz ls st lc sc hA' hn M hL hS hx
    · split at hx
      · rename_i i nn a b v w sw hcd
        rw [cdX_eq] at hcd
        rw [Bool.and_eq_true] at hx
        obtain ⟨hl, hx⟩ := hx
        split at hx
        · rename_i L hax
          rw [List.all_eq_true] at hx
          have h3 : ∀ j r t, i = .iaload → sc = .int j :: .ref r :: t → r = 1300 := by
            intro j r t ei es
            subst ei
            subst es
            simp only [ldB, Bool.and_eq_true] at hl
            obtain ⟨-, hl⟩ := hl
            split at hl
            · obtain ⟨v1, t1, e1, -, g1⟩ := hS
              cases e1
              obtain ⟨v2, t2, e2, g2, -⟩ := g1
              cases e2
              obtain ⟨x, e3, g3⟩ := g2
              cases e3
              cases g3
              exact beqT hl
            · cases hl
            · rename_i q1 q2; first | exact (q2 rfl).elim | exact (q1 rfl).elim | exact (q2 _ rfl rfl).elim | exact (q2 rfl rfl).elim
          have hstp : ∀ (G : Prop) (z' : Cf), stI i a b v w sw pz lc sc h = some (G, z') → G → (fun z : Cf => z.2.2.2 = h → X (z.1, z.2.1, z.2.2.1, hA)) z' → (fun z : Cf => z.2.2.2 = h → X (z.1, z.2.1, z.2.2.1, hA)) (pz, lc, sc, h) := fun G z' q g x _ => by
            obtain ⟨t1, t2⟩ := ld_free (by simp only [ldB, Bool.and_eq_true] at hl; exact hl.1) h3 hs q
            exact hC.1 (pz, lc, sc, hA) _ G (by unfold stp; dsimp only; rw [hcd]; exact t1) g (x t2)
          refine ax_sp (X := fun z : Cf => z.2.2.2 = h → X (z.1, z.2.1, z.2.2.1, hA)) hstp M hL hS hax (fun c' hc' ρ' z' g1 g2 g3 hz => ?_) rfl
          obtain ⟨p1, l1, s1, h1⟩ := z'
          have hz : h1 = h := hz
          subst hz
          exact ih c' ρ' p1 l1 s1 (hx c' hc') (hA'.tr g1 hn) (Nat.le_trans hn g2) g3
        · cases hx
      · cases hx
end LW
noncomputable def avE (a b : AV) : Bool := Nat.beq a.1 b.1 && leEq a.2 b.2
noncomputable def avL : List AV → List AV → Bool
  | [], [] => true
  | a :: r, b :: t => avE a b && avL r t
  | _, _ => false
theorem avE_eq {a b : AV} (h : avE a b = true) : a = b := by
  simp only [avE, Bool.and_eq_true] at h
  exact Prod.ext (beqT h.1) (leEq_eq h.2)
theorem avL_eq : ∀ {a b : List AV}, avL a b = true → a = b
  | [], [], _ => rfl
  | a :: r, b :: t, h => by
    simp only [avL, Bool.and_eq_true] at h
    rw [avE_eq h.1, avL_eq h.2]
  | [], _ :: _, h => by cases h
  | _ :: _, [], h => by cases h
noncomputable def rtL (e : Option LE) : List AV := match e with
  | some e => [(0, e)]
  | none => []
/-- two calls of a pair, one behind the other, in the law -/
noncomputable def lp (rg : List Rg) (ws : List Wr) (p : Pm) (dp : Nat) (cd : Cd) (n : Nat) (k : Sx → Nat → List (Option AV) → List AV → Bool) (S : Sx) (pc : Nat) (ls : List (Option AV)) (st : List AV) : Bool := match cAt cd pc with
  | none => false
  | some (mA, kA) => Nat.ble kA st.length && Nat.ble (catS (st.drop kA)) 8 && Nat.beq p.2.1 kA && pmW p && sideB true (st.take kA).reverse && sideB false ((2, ((65 : Int), [])) :: (st.take kA).reverse.drop 1) && (match smF rg ws dp S mA ((st.take kA).reverse ++ (2, ((65 : Int), [])) :: (st.take kA).reverse.drop 1) [p.2.2.1] with
    | none => false
    | some (S3, σ, s) => (s.2.2.2.2.2.2.zip p.2.2.2).all (fun oe => let R := smO S3 σ s.2.2.2.2.2.1 oe.1; match tgF R.1.2.1 (oe.1.2.2.2.map (leSb (fLL 0 (σ ++ frX S3.1 oe.1.1)))) with
      | none => true
      | some D => lw rg ws cd (fun S5 pc5 ls5 st5 => match cAt cd pc5 with
        | none => false
        | some (mB, kB) => Nat.beq mB p.1 && Nat.ble kB st5.length && avL (st5.take kB).reverse ((2, ((65 : Int), [])) :: (st.take kA).reverse.drop 1) && Nat.ble (catS (st5.drop kB)) 8 && k (S5.1, D, R.1.2.2) (pc5 + 3) ls5 (rtL (oe.2.map (leSb (fLL 0 (σ ++ frX S3.1 oe.1.1)))) ++ st5.drop kB)) n ((R.1.1, D, S3.2.2), pc + 3, ls, rtL R.2 ++ st.drop kA)))
theorem SR.dr {ρ : Nat → Int} {n : Nat} : ∀ {as : List AV} {vs : List Value}, SR ρ n as vs → SR ρ n (as.drop 1) (vs.drop 1)
  | [], _, h => by cases h; exact rfl
  | a :: r, _, h => by
    obtain ⟨v, t, rfl, -, h⟩ := h
    exact h
theorem SR.uq {ρ : Nat → Int} {n : Nat} {s : Bool} : ∀ {as : List AV} {x y : List Value}, SR ρ n as x → SR ρ n as y → sideB s as = true → x = y
  | [], _, _, h, g, _ => by cases h; cases g; rfl
  | a :: r, _, _, h, g, q => by
    obtain ⟨v, t, rfl, h1, h2⟩ := h
    obtain ⟨v', t', rfl, g1, g2⟩ := g
    simp only [sideB, List.all_cons, Bool.and_eq_true] at q
    rw [SR.uq (s := s) h2 g2 q.2]
    congr 1
    obtain ⟨k, e⟩ := a
    have q1 := q.1
    unfold av at h1 g1
    dsimp only at h1 g1 q1
    split at h1
    · obtain ⟨x, rfl, h1⟩ := h1
      obtain ⟨y, rfl, g1⟩ := g1
      rw [show x = y from Int32.toInt_inj.mp (h1.2.symm.trans g1.2)]
    · obtain ⟨x, rfl, h1⟩ := h1
      obtain ⟨y, rfl, g1⟩ := g1
      rw [show x = y from Int64.toInt_inj.mp (h1.2.symm.trans g1.2)]
    · obtain ⟨x, rfl, h1⟩ := h1
      obtain ⟨y, rfl, g1⟩ := g1
      rw [h1] at g1
      have g1 := congrArg Prod.fst g1
      dsimp only at g1
      rw [show x = y from Int.ofNat.inj g1]
    · rename_i g0 g2 g3
      split at q1
      · exact absurd rfl g0
      · exact absurd rfl g2
      · exact absurd rfl g3
      · cases q1
section LP
variable {rg : List Rg} {ws : List Wr} {h0 : Hp}
theorem rtL_sp {ρ : Nat → Int} {n : Nat} {e : Option LE} {r : Option Value} {st : List AV} {sc : List Value} (h : match e with
    | none => r = none
    | some e => ∃ x : Int32, r = some (.int x) ∧ GG ρ n e x.toInt) (g : SR ρ n st sc) : SR ρ n (rtL e ++ st) (r.toList ++ sc) := by
  cases e with
  | none => rw [show r = none from h]; exact g
  | some e =>
    obtain ⟨x, rfl, gx⟩ := h
    exact SR.cons (av_i gx) g
theorem lp_sp {d : Nat} {cd : Cd} {rt : Option FieldType} {Q : Option Value → Hp → Prop} {X : Cf → Prop} {p : Pm} {dp n : Nat} {k : Sx → Nat → List (Option AV) → List AV → Bool} {ρ0 : Nat → Int} {n0 : Nat} (hC : Clo (Call d) cd rt Q X) (hp : PmOK rg p) (hd : dp ≤ d) (K : ∀ (ρ' : Nat → Int) (S : Sx) (h : Hp) (pc : Nat) (ls : List (Option AV)) (st : List AV) (lc : Lc) (sc : List Value), Ag ρ0 ρ' n0 → n0 ≤ S.1 → Mo rg ws h0 ρ' S h → LR ρ' S.1 ls lc → SR ρ' S.1 st sc → k S pc ls st = true → X (pc, lc, sc, h)) {ρ : Nat → Int} {S : Sx} {h : Hp} {pc : Nat} {ls : List (Option AV)} {st : List AV} {lc : Lc} {sc : List Value} (hx : lp rg ws p dp cd n k S pc ls st = true) (hA : Ag ρ0 ρ n0) (hn : n0 ≤ S.1) (M : Mo rg ws h0 ρ S h) (hL : LR ρ S.1 ls lc) (hS : SR ρ S.1 st sc) : X (pc, lc, sc, h) := by
  unfold lp at hx
  split at hx
  · cases hx
  · rename_i mA kA hcA
    simp only [Bool.and_eq_true] at hx
    obtain ⟨⟨⟨⟨⟨⟨f1, f2⟩, f3⟩, f4⟩, f5⟩, f6⟩, hx⟩ := hx
    obtain ⟨va, ra, rfl, t1, t2, t3⟩ := SR.split hS (Nat.le_of_ble_eq_true f1)
    have sA := SR.rev t1
    have sB : SR ρ S.1 ((2, ((65 : Int), [])) :: (st.take kA).reverse.drop 1) (.ref 65 :: va.reverse.drop 1) := SR.cons ⟨65, rfl, rfl⟩ (SR.dr sA)
    split at hx
    · cases hx
    · rename_i S3 σ s hsm
      obtain ⟨j1, j2, j3, j4, j5, ρ3, a1, a2, M3, j6, j7, j8, j9, j10, j11, j12⟩ := smF_sp M (SR.app sA sB) hsm
      dsimp only at j1 j2 j3 j4 j5 a2 M3 j6 j7 j8 j9 j10 j11 j12
      have js : s = p.2.2.1 := by
        rcases List.mem_cons.mp j1 with j1 | j1
        · exact j1
        · cases j1
      subst js
      obtain ⟨rA, hA', rB, hB', c1, c2, c3, c4, c5, c6, P1, P2, oe, P3, ρ', P4, P5, P6, P7, P8, P9⟩ := hp d (Nat.le_trans j3 hd) (fun k => leV ρ3 (fLQ σ k)) va.reverse (.ref 65 :: va.reverse.drop 1) h (by rw [List.length_reverse, t3, beqT f3]) j8 j9 j10 j11 M3.2.2.1
      rw [j2] at c1
      have P4 : Ag (fun k => leV ρ3 (fLL 0 σ k)) ρ' (smG p.2.2.1) := fun k hk => by
        rw [P4 k hk]
        show leV ρ3 (fLQ σ k) = leV ρ3 (fLL 0 σ k)
        rw [fLQ_lo (Nat.lt_of_lt_of_le hk j12)]
      obtain ⟨ρ4, z1, z2, z3, z4⟩ := smO_sp M3 j6 j7 j4 (List.of_mem_zip P3).1 j5 P1 P2 P4 P5 P6 P8 P9
      rw [List.all_eq_true] at hx
      have hx2 := hx oe P3
      obtain ⟨D2, hD2, FD2⟩ := tgF_sp (l := oe.1.2.2.2.map (leSb (fLL 0 (σ ++ frX S3.1 oe.1.1)))) z2.1 (fun e he => (z2.1.2 e (List.mem_append_left _ he)).2)
      (try dsimp only at hx2)
      rw [hD2] at hx2
      have gz : Ag ρ ρ4 S.1 := a1.tr z1 a2
      have len3 : S3.1 ≤ (smO S3 σ p.2.2.1.2.2.2.2.2.1 oe.1).1.1 := Nat.le_add_right _ _
      have len2 : S.1 ≤ (smO S3 σ p.2.2.1.2.2.2.2.2.1 oe.1).1.1 := Nat.le_trans a2 len3
      have vA := sideB_sp sA f5
      have vB := sideB_sp sB f6
      obtain ⟨o1, o2, -⟩ := c1.off vA
      refine hC.2.1 pc lc _ h mA kA va.reverse ra (cAt_cal hcA _ _ _) (by rw [List.length_reverse]; exact t3) (by rw [List.reverse_reverse]) (by rw [catS_sp t2]; exact Nat.le_of_ble_eq_true f2) (c1 _ ?_)
      refine lw_sp (ρ0 := ρ4) (n0 := (smO S3 σ p.2.2.1.2.2.2.2.2.1 oe.1).1.1) hC o2 (fun ρ5 S5 pc5 ls5 st5 lc5 sc5 k1 k2 M5 L5 T5 hk => ?_) n _ ρ4 (pc + 3) lc _ hx2 Ag.rf (Nat.le_refl _) ⟨⟨FD2, fun c hc => (M3.2.1 c hc).ext z1 len3, M3.2.2⟩, rfl, hL.ext gz len2, rtL_sp z3 (t2.ext gz len2)⟩
      split at hk
      · cases hk
      · rename_i mB kB hcB
        simp only [Bool.and_eq_true] at hk
        obtain ⟨⟨⟨⟨q1, q2⟩, q3⟩, q4⟩, hk⟩ := hk
        obtain ⟨vb, rb, rfl, u1, u2, u3⟩ := SR.split T5 (Nat.le_of_ble_eq_true q2)
        have hb := SR.rev u1
        rw [avL_eq q3] at hb
        have eb := SR.uq hb ((sB.ext gz len2).ext k1 k2) f6
        have cB := CRun.seq c1 c2 vA vB
        rw [← beqT q1] at cB
        refine hC.2.1 pc5 lc5 _ hA' mB kB vb.reverse rb (cAt_cal hcB _ _ _) (by rw [List.length_reverse]; exact u3) (by rw [List.reverse_reverse]) (by rw [catS_sp u2]; exact Nat.le_of_ble_eq_true q4) ?_
        rw [eb]
        refine cB _ ?_
        refine K ρ5 (S5.1, D2, (smO S3 σ p.2.2.1.2.2.2.2.2.1 oe.1).1.2.2) (mxH true hA' hB') _ _ _ lc5 _ ((hA.tr gz hn).tr k1 (Nat.le_trans hn len2)) (Nat.le_trans hn (Nat.le_trans len2 k2)) ⟨FD2.ext k1 k2, fun c hc => (z2.2.1 c hc).ext k1 k2, z2.2.2⟩ L5 (rtL_sp ?_ u2) hk
        have hw3 := f4
        simp only [pmW, List.all_eq_true] at hw3
        have hw3 := hw3 oe P3
        cases hoe : oe.2 with
        | none =>
          rw [hoe] at P7
          exact P7
        | some e =>
          rw [hoe] at P7 hw3
          obtain ⟨x, e9, gx⟩ := P7
          have q := z4 e (scB_S hw3)
          exact ⟨x, e9, leS_mono q.1 k2, by rw [leV_ext q.1 k1]; exact q.2.trans gx⟩
end LP
