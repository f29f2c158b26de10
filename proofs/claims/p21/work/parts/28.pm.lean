/-! What is known of two methods, one of each side, called alike. -/
noncomputable def srcR2 (S : Sx) (r r' : Option AV) : List Gen → Option (List LE)
  | [] => some []
  | g :: l => match (match g.1.1 with
      | 2 => (match (if Nat.beq g.1.2.1 1 = true then r' else r) with
        | some (0, e) => some e
        | _ => none)
      | _ => srcV S [] g.1), srcR2 S r r' l with
    | some e, some σ => some (e :: σ)
    | _, _ => none
noncomputable def finP (rg : List Rg) (s : Sm) (es : List (Option LE)) (S : Sx) (r r' : Option AV) : Bool := (s.2.2.2.2.2.2.zip es).any fun oe => let S2 := tch rg (tch rg S oe.1.1) (celT oe.1.2.2.1); match srcR2 S2 r r' oe.1.1 with
  | some σ => let f := fLL (smG s) σ; let S3 := tch8 rg S2 f oe.1.2.2.1; okB S3.2.1 oe.1.1 σ && okRt S3.2.1 f oe.1.2.1 r && okRt S3.2.1 f oe.2 r' && okF S3.2.1 f oe.1.2.2.2 && okK S3 f oe.1.2.2.1
  | none => false
noncomputable def sideB (s : Bool) (as : List AV) : Bool := as.all fun a => match a.1 with
  | 0 => true
  | 1 => true
  | 2 => (match a.2.1 with
    | .ofNat r => Nat.ble 1000 r || (sd r == s)
    | _ => false)
  | _ => false
theorem sideB_sp {s : Bool} {ρ : Nat → Int} {n : Nat} : ∀ {as : List AV} {vs : List Value}, SR ρ n as vs → sideB s as = true → sS s vs
  | [], _, h, _ => by cases h; exact fun v hv => by cases hv
  | a :: r, _, h, g => by
    obtain ⟨v, t, rfl, h1, h2⟩ := h
    simp only [sideB, List.all_cons, Bool.and_eq_true] at g
    refine (sideB_sp h2 g.2).cons ?_
    obtain ⟨k, e⟩ := a
    have g1 := g.1
    unfold av at h1
    dsimp only at h1 g1
    split at h1
    · obtain ⟨x, rfl, -⟩ := h1; trivial
    · obtain ⟨x, rfl, -⟩ := h1; trivial
    · obtain ⟨x, rfl, q⟩ := h1
      subst q
      have g1 : (Nat.ble 1000 x || sd x == s) = true := g1
      rw [Bool.or_eq_true] at g1
      intro hx
      rcases g1 with g1 | g1
      · exact absurd hx (Nat.not_lt.mpr (Nat.le_of_ble_eq_true g1))
      · exact eq_of_beq g1
    · rename_i g0 g2 g3
      split at g1
      · exact absurd rfl g0
      · exact absurd rfl g2
      · exact absurd rfl g3
      · cases g1
section PMS
variable {rg : List Rg} {ws : List Wr} {h0 : Hp}
theorem okRt_sp {ρ ρ2 : Nat → Int} {n m : Nat} {D : Db} {f : Nat → LE} {e : Option LE} {r : Option AV} {rv : Option Value} (F : Fa ρ2 m D) (ag : Ag ρ ρ2 n) (hr : rvO ρ n r rv) (g2 : okRt D f e r = true) : rtV (fun k => leV ρ2 (f k)) e rv := by
  unfold okRt at g2
  unfold rtV
  split at g2
  · exact hr
  · rename_i e e'
    obtain ⟨x, rfl, y, rfl, gy⟩ := hr
    have := eqv_sp F g2
    rw [leSb_V] at this
    exact ⟨y, rfl, this.symm.trans ((leV_ext gy.1 ag).trans gy.2)⟩
  · cases g2
theorem finP_sp {s : Sm} {es : List (Option LE)} {ρ0 ρ : Nat → Int} {S : Sx} {h : Hp} {r r' : Option AV} {rv rv' : Option Value} (hA : Ag ρ0 ρ (smG s)) (hn : smG s ≤ S.1) (M : Mo rg ws h0 ρ S h) (hr : rvO ρ S.1 r rv) (hr' : rvO ρ S.1 r' rv') (g : finP rg s es S r r' = true) : ∃ oe ∈ s.2.2.2.2.2.2.zip es, ∃ ρ', Ag ρ0 ρ' (smG s) ∧ bdV ρ' oe.1.1 (smG s) ∧ rtV ρ' oe.1.2.1 rv ∧ rtV ρ' oe.2 rv' ∧ (∀ c ∈ oe.1.2.2.1, kcV ρ' h c) ∧ (∀ f ∈ oe.1.2.2.2, 0 ≤ leV ρ' f) := by
  simp only [finP, List.any_eq_true] at g
  obtain ⟨o, ho, g⟩ := g
  obtain ⟨ρ1, a1, a2, M1⟩ := tch_sp (l := o.1.1) M
  obtain ⟨ρ2', b1', b2', M2'⟩ := tch_sp (l := celT o.1.2.2.1) M1
  split at g
  · rename_i σ hσ
    obtain ⟨ρ2, b1'', b2'', M2⟩ := tch8_sp (f := fLL (smG s) σ) (kc := o.1.2.2.1) M2'
    have b1 := b1'.tr b1'' b2'
    have b2 := Nat.le_trans b2' b2''
    (try dsimp only at g)
    simp only [Bool.and_eq_true] at g
    obtain ⟨⟨⟨⟨g1, g2⟩, g5⟩, g3⟩, g4⟩ := g
    have ag : Ag ρ ρ2 S.1 := a1.tr b1 a2
    refine ⟨o, ho, fun k => leV ρ2 (fLL (smG s) σ k), (hA.tr (ag.mono hn) (Nat.le_refl _)).tr fLL_ag (Nat.le_refl _), ?_, okRt_sp M2.1 ag hr g2, okRt_sp M2.1 ag hr' g5, okK_sp M2 g4, ?_⟩
    · intro q hq
      exact ((okB_sp (ρ' := fun k => leV ρ2 (fLL (smG s) σ k)) (k := smG s) M2.1 g1 (fun i hi => by show leV ρ2 (fLL (smG s) σ (smG s + i)) = _; rw [fLL_hi])).2 q hq).1
    · intro f hf
      have := en2_sp M2.1 ((List.all_eq_true.mp g3) f hf)
      rw [leSb_V] at this
      exact this
  · cases g
/-- a symbol that facts say to be another one is that other one -/
noncomputable def cnoS (fs : List LE) (b : Nat) (f : LE) : Option Nat := match f.2 with
  | [(a, x), (c, y)] => if (Nat.beq c b && (iz (x - 1) && (iz (y + 1) && (iz f.1 && fs.any (fun g => leEq g (leSc (-1) f)))))) = true then some a else none
  | _ => none
noncomputable def cnoL (all : List LE) : List LE → Nat → Option Nat
  | [], _ => none
  | f :: r, b => match cnoS all b f with
    | some a => some a
    | none => cnoL all r b
noncomputable def cno (fs : List LE) (e : LE) : LE := match e.2 with
  | [(b, x)] => if (iz e.1 && iz (x - 1)) = true then (match cnoL fs fs b with
    | some a => leX a
    | none => e) else e
  | _ => e
noncomputable def cnV (fs : List LE) (a : Option AV) : Option AV := match a with
  | some (0, e) => some (0, cno fs e)
  | _ => a
noncomputable def cnS (s : Sm) : Sx := let S := smS s; (S.1, S.2.1, S.2.2.map (fun c => (c.1, c.2.1, c.2.2.1, cno s.2.2.2.2.1 c.2.2.2)))
theorem cnoL_sp {ρ : Nat → Int} {n : Nat} {all : List LE} (H : ∀ f ∈ all, leS n f ∧ 0 ≤ leV ρ f) : ∀ {l : List LE} {b a : Nat}, (∀ f ∈ l, f ∈ all) → cnoL all l b = some a → a < n ∧ ρ a = ρ b
  | [], _, _, _, h => by cases h
  | f :: r, b, a, hl, h => by
    unfold cnoL at h
    split at h
    · rename_i a' hc
      cases h
      have hf := H f (hl f List.mem_cons_self)
      unfold cnoS at hc
      split at hc
      · rename_i a0 x c y ef
        split at hc
        · rename_i g
          have hc := Option.some.inj hc
          subst hc
          simp only [Bool.and_eq_true] at g
          obtain ⟨g1, g2, g3, g4, g5⟩ := g
          have g1 := Nat.eq_of_beq_eq_true g1
          have g2 := iz_eq g2
          have g3 := iz_eq g3
          have g4 := iz_eq g4
          rw [List.any_eq_true] at g5
          obtain ⟨q, hq, g5⟩ := g5
          have h2 := (H q hq).2
          rw [leEq_eq g5, leV_sc] at h2
          have h1 := hf.2
          have e1 : leV ρ f = f.1 + (x * ρ a0 + (y * ρ c + 0)) := by
            show f.1 + leT ρ f.2 = _
            rw [ef]; rfl
          rw [e1] at h1 h2
          have x1 : x = 1 := by omega
          have y1 : y = -1 := by omega
          subst x1 y1 g1
          refine ⟨hf.1 (a0, 1) (by rw [ef]; exact List.mem_cons_self), by omega⟩
        · cases hc
      · cases hc
    · exact cnoL_sp H (fun q hq => hl q (List.mem_cons_of_mem _ hq)) h
theorem cno_sp {ρ : Nat → Int} {n : Nat} {fs : List LE} {e : LE} (H : ∀ f ∈ fs, leS n f ∧ 0 ≤ leV ρ f) (he : leS n e) : leS n (cno fs e) ∧ leV ρ (cno fs e) = leV ρ e := by
  unfold cno
  split
  · rename_i b x ee
    split
    · rename_i g
      rw [Bool.and_eq_true] at g
      split
      · rename_i a ha
        obtain ⟨h1, h2⟩ := cnoL_sp H (fun f hf => hf) ha
        refine ⟨leS_X h1, ?_⟩
        rw [leV_X, h2]
        have g1 := iz_eq g.1
        have g2 := iz_eq g.2
        have x1 : x = 1 := by omega
        show ρ b = e.1 + leT ρ e.2
        rw [ee, g1, x1]
        show ρ b = 0 + (1 * ρ b + 0)
        omega
      · exact ⟨he, rfl⟩
    · exact ⟨he, rfl⟩
  · exact ⟨he, rfl⟩
theorem cnV_LR {ρ : Nat → Int} {n : Nat} {fs : List LE} {ls : List (Option AV)} {lc : Lc} (H : ∀ f ∈ fs, leS n f ∧ 0 ≤ leV ρ f) (h : LR ρ n ls lc) : LR ρ n (ls.map (cnV fs)) lc := by
  refine ⟨by rw [List.length_map]; exact h.1, fun k => ⟨fun a ha => ?_, fun ha => ?_⟩⟩
  · rw [List.getElem?_map] at ha
    cases hk : ls[k]? with
    | none => rw [hk] at ha; cases ha
    | some o =>
      rw [hk] at ha
      have ha : cnV fs o = some a := Option.some.inj ha
      unfold cnV at ha
      split at ha
      · rename_i e hq
        cases ha
        obtain ⟨v, h1, x, h2, h3⟩ := (h.2 k).1 (0, e) hk
        obtain ⟨c1, c2⟩ := cno_sp H h3.1
        exact ⟨v, h1, x, h2, c1, c2.trans h3.2⟩
      · subst ha
        exact (h.2 k).1 a hk
  · rw [List.getElem?_map] at ha
    cases hk : ls[k]? with
    | none => rw [hk] at ha; cases ha
    | some o =>
      rw [hk] at ha
      have ha : cnV fs o = none := Option.some.inj ha
      unfold cnV at ha
      split at ha
      · cases ha
      · subst ha
        exact (h.2 k).2 hk
noncomputable def vfyP (rg : List Rg) (T : List Sm) (TP : List Pm) (ANa ANb : List (Nat × List (Nat × An))) (JN : List (Nat × An)) (yA : Nat → Nat → Bool) (yB bg : Nat → Bool) (n g : Nat) (p : Pm) : Bool := smW p.2.2.1 && (p.2.2.1.2.2.2.2.1.all (scB (smG p.2.2.1)) && (match psM[p.2.2.1.1]?, psM[p.1]? with
  | some m, some m' => (let ins := enA p.2.2.1.2.2.1 0; let a := ins.take p.2.1; let b := ins.drop p.2.1; Nat.ble p.2.1 ins.length && (vfyE m a && (vfyE m' b && (sideB true a && (sideB false b && (Nat.ble 1 p.2.2.1.2.1 && pw rg p.2.2.1.2.2.2.2.2.1 T TP ANa ANb JN yA yB bg g g (p.2.2.1.2.1 - 1) (m'.2.2.2.2.2.1, m'.2.2.2.1, anT ANb p.1) n p.2.2.1.1 (p.2.2.1.2.1 - 1) [] false false (cnS p.2.2.1) (0, eLnA m.2.2.1 a, []) (0, (eLnA m'.2.2.1 b).map (cnV p.2.2.1.2.2.2.2.1), []) (fun S1 r b sk => ex rg p.2.2.1.2.2.2.2.2.1 T ANb (fun S2 r' => finP rg p.2.2.1 p.2.2.2 S2 r r') noS g (p.2.2.1.2.1 - 1) [] (m'.2.2.2.2.2.1, m'.2.2.2.1, anT ANb p.1) [] sk (S1, b.1, b.2.1, b.2.2))))))))
  | _, _ => false))
theorem SR.cut {ρ : Nat → Int} {n k : Nat} {st : List AV} {a b : List Value} (h : SR ρ n st (a ++ b)) (hk : a.length = k) (hs : k ≤ st.length) : SR ρ n (st.take k) a ∧ SR ρ n (st.drop k) b := by
  obtain ⟨x, y, e, h1, h2, h3⟩ := SR.split h hs
  obtain ⟨rfl, rfl⟩ := List.append_inj e (hk.trans h3.symm)
  exact ⟨h1, h2⟩
theorem vfyP_sp {T : List Sm} {TP : List Pm} {ANa ANb : List (Nat × List (Nat × An))} {JN : List (Nat × An)} {yA : Nat → Nat → Bool} {yB bg : Nat → Bool} {n g : Nat} {p : Pm} (hT : ∀ t ∈ T, SmOK rg t) (hTP : ∀ p ∈ TP, PmOK rg p) (hv : vfyP rg T TP ANa ANb JN yA yB bg n g p = true) : PmOK rg p := by
  intro d hd ρ as bs h hlen hin hb hc hf hR
  obtain ⟨mB, nA, s, es⟩ := p
  dsimp only at hd hlen hin hb hc hf
  obtain ⟨hw, hv⟩ := Bool.and_eq_true_iff.mp hv
  obtain ⟨hsc, hv⟩ := Bool.and_eq_true_iff.mp hv
  rw [List.all_eq_true] at hsc
  split at hv
  · rename_i m m' hps hps'
    obtain ⟨yy, bb, ml, rt, o, cd, q⟩ := m
    obtain ⟨yy', bb', ml', rt', o', cd', q'⟩ := m'
    dsimp only at hps hps' hv hw hsc
    obtain ⟨x0, hv⟩ := Bool.and_eq_true_iff.mp hv
    obtain ⟨x1, hv⟩ := Bool.and_eq_true_iff.mp hv
    obtain ⟨x2, hv⟩ := Bool.and_eq_true_iff.mp hv
    obtain ⟨x3, hv⟩ := Bool.and_eq_true_iff.mp hv
    obtain ⟨x4, hv⟩ := Bool.and_eq_true_iff.mp hv
    obtain ⟨x5, hx⟩ := Bool.and_eq_true_iff.mp hv
    have x5 := Nat.le_of_ble_eq_true x5
    obtain ⟨d', rfl⟩ : ∃ d', d = d' + 1 := ⟨d - 1, by omega⟩
    have hG : nonR s.2.2.1 + s.2.2.2.1.length = smG s := rfl
    have hSR : SR ρ (smG s) (enA s.2.2.1 0) (as ++ bs) := enA_SR hin (by omega)
    obtain ⟨sA, sB⟩ := SR.cut hSR hlen (Nat.le_of_ble_eq_true x0)
    have hw' := hw
    simp only [smW, Bool.and_eq_true, List.all_eq_true] at hw'
    have M : Mo rg s.2.2.2.2.2.1 h ρ (smS s) h := by
      refine ⟨⟨fun q hq => ?_, fun f hf' => ⟨scB_S (hsc f hf'), hf f hf'⟩⟩, fun c hc' => ?_, hR, Frm.rf⟩
      · rcases List.mem_append.mp hq with hq | hq
        · have := gbI_sp hin q hq
          exact ⟨by show q.1 < smG s; omega, this.2⟩
        · have := gbL_lt q hq
          exact ⟨by show q.1 < smG s; omega, hb q hq⟩
      · have := celG_S hw'.1 (show nonR s.2.2.1 ≤ smG s by omega) (Nat.le_of_eq hG) c hc'
        exact kcV_O (hc c hc') this.1 this.2
    have HF : ∀ f ∈ s.2.2.2.2.1, leS (smG s) f ∧ 0 ≤ leV ρ f := M.1.2
    have M : Mo rg s.2.2.2.2.2.1 h ρ (cnS s) h := by
      refine ⟨M.1, fun c hc => ?_, M.2.2⟩
      obtain ⟨c0, hc0, rfl⟩ := List.mem_map.mp hc
      obtain ⟨s1, s2, k⟩ := M.2.1 c0 hc0
      obtain ⟨q1, q2⟩ := cno_sp HF s2
      refine ⟨s1, q1, ?_⟩
      dsimp only
      rw [q2]
      exact k
    simp only [vfyE, Bool.and_eq_true] at x1 x2
    have vA := sideB_sp sA x3
    have vB := sideB_sp sB x4
    have nil : ∀ s, sS s [] := fun s v hv => by cases hv
    obtain ⟨rA, hA, rB, hB, p1, p2, p3, p4, p5⟩ := pw_sp (rg := rg) (ws := s.2.2.2.2.2.1) (h0 := h) (P := fun ra rb H => PmPost rg s es ρ h ra rb H) (eB := d') hT hTP (show s.2.1 - 1 ≤ d' by omega) (psS_at hps') n s.1 (s.2.1 - 1) d' [] false false (cnS s) 0 _ [] 0 _ [] _ [] (yy, bb, ml, rt, o, cd, q) ρ h _ _ [] [] hx hps (show s.2.1 - 1 ≤ d' by omega) (Nat.le_refl _) (fun f hf => by cases hf) M (eLnA_LR sA) rfl (cnV_LR HF (eLnA_LR sB)) rfl (fun al hal => by cases hal) (lS_eLn vA) (nil _) (lS_eLn vB) (nil _) (fun ρ' S' h' r rv pb' lb' sb' lc' sc' sk a1 a2 M' hr hrs lB' sB' uB' vB' hfin => by
      have hQ : ∀ X : Cf → Prop, Clo (Call d') cd' rt' (fun r' h'' => PmPost rg s es ρ h rv r' h'') X → X (pb', lc', sc', h') := fun X hX => by
        refine ex_sp (rg := rg) (ws := s.2.2.2.2.2.1) (h0 := h) (ρ0 := ρ') (n0 := S'.1) (δ := 0) (Q0 := fun r' h'' => PmPost rg s es ρ h rv r' h'') (X0 := fun _ => False) (fun s hs => (hT s hs).q) (fun ρ2 S2 h2 r' rv' k1 k2 M2 hr' hf' => ?_) (fun _ _ _ _ _ _ _ _ _ _ _ _ _ q => by cases q) g (s.2.1 - 1) d' [] (cd', rt', anT ANb mB) [] sk _ ρ' X _ (pb', lc', sc', h') (show s.2.1 - 1 ≤ d' by omega) hfin Ag.rf (Nat.le_refl _) ⟨M', rfl, lB', sB'⟩ hX (fun al hal => by cases hal) (fun _ z q => q.elim) (fun r h q => q)
        have a1 : Ag ρ ρ' (smG s) := a1
        exact ⟨M2.2.2.1, M2.2.2.2, finP_sp (a1.tr (k1.mono a2) (Nat.le_refl _)) (Nat.le_trans a2 k2) M2 (by
          cases r with
          | none => exact hr
          | some a => obtain ⟨x, e, g⟩ := hr; exact ⟨x, e, g.ext k1 k2⟩) hr' hf'⟩
      obtain ⟨rB, hB, p1, p2⟩ := run_of hQ
      obtain ⟨o1, o2, -⟩ := Run.off (s := !true) (psS_at hps') p2 uB' vB'
      refine ⟨rB, hB, p2, o2, ?_⟩
      rw [mx_sw (s := true) (h := h') (k := hB) o2.symm, ← show hB = mxH (!true) hB h' from o1]
      exact p1)
    have o1 := Run.off (s := true) (psS_at hps) p1 (lS_eLn vA) (nil _)
    have o2 := Run.off (s := false) (psS_at hps') p2 (lS_eLn vB) (nil _)
    refine ⟨rA, hA, rB, hB, ?_, ?_, p3, p4, o1.2.2, o2.2.2, p5⟩
    · exact crun_of hps (by rw [← eLa_len sA]; exact x1.1) (by rw [SR.len sA]; exact beqT x1.2.1) (rcA_sp sA x1.2.2) p1
    · exact crun_of hps' (by rw [← eLa_len sB]; exact x2.1) (by rw [SR.len sB]; exact beqT x2.2.1) (rcA_sp sB x2.2.2) p2
  · cases hv
end PMS
/-- one argument's bounds, cut in two -/
noncomputable def cutI (b : Bool) (c : Int) : Nat → List (Nat × Int × Int) → List (Nat × Int × Int)
  | _, [] => []
  | 0, (t, l, u) :: r => (if t = 2 then (t, l, u) else bif b then (t, l, c) else (t, c + 1, u)) :: r
  | j + 1, q :: r => q :: cutI b c j r
theorem cutI_non {b : Bool} {c : Int} : ∀ {j : Nat} {l : List (Nat × Int × Int)}, nonR (cutI b c j l) = nonR l
  | 0, [] => rfl
  | _ + 1, [] => rfl
  | 0, (t, l, u) :: r => by
    unfold cutI
    unfold nonR
    by_cases h : t = 2
    · rw [if_pos h]
    · rw [if_neg h]
      cases b
      · show (List.filter _ ((t, c + 1, u) :: r)).length = _
        rw [List.filter_cons, List.filter_cons]
        dsimp only
        split <;> rfl
      · show (List.filter _ ((t, l, c) :: r)).length = _
        rw [List.filter_cons, List.filter_cons]
        dsimp only
        split <;> rfl
  | j + 1, q :: r => by
    have ih := cutI_non (b := b) (c := c) (j := j) (l := r)
    unfold nonR at ih ⊢
    unfold cutI
    rw [List.filter_cons, List.filter_cons]
    split
    · rw [List.length_cons, List.length_cons, ih]
    · exact ih
theorem cutI_sp {ρ : Nat → Int} {c : Int} : ∀ {j : Nat} {l : List (Nat × Int × Int)} {k : Nat} {as : List Value}, inV ρ l k as → inV ρ (cutI true c j l) k as ∨ inV ρ (cutI false c j l) k as
  | 0, [], _, _, h => .inl h
  | _ + 1, [], _, _, h => .inl h
  | 0, (t, l, u) :: r, k, as, h => by
    obtain ⟨v, s, rfl, h⟩ := h
    by_cases ht : t = 2
    · left
      unfold cutI
      rw [if_pos ht]
      exact ⟨v, s, rfl, h⟩
    · rw [if_neg ht] at h
      obtain ⟨⟨h1, h2⟩, h3, h4⟩ := h
      unfold cutI
      rw [if_neg ht, if_neg ht]
      by_cases hc : ρ k ≤ c
      · left
        show ∃ v' s', v :: s = v' :: s' ∧ _
        refine ⟨v, s, rfl, ?_⟩
        rw [if_neg ht]
        exact ⟨⟨h1, hc⟩, h3, h4⟩
      · right
        show ∃ v' s', v :: s = v' :: s' ∧ _
        refine ⟨v, s, rfl, ?_⟩
        rw [if_neg ht]
        exact ⟨⟨by omega, h2⟩, h3, h4⟩
  | j + 1, (t, l, u) :: r, k, as, h => by
    obtain ⟨v, s, rfl, h⟩ := h
    have mk : ∀ b, (if t = 2 then v = .ref l.toNat ∧ 0 ≤ l ∧ inV ρ (cutI b c j r) k s else (l ≤ ρ k ∧ ρ k ≤ u) ∧ (if t = 0 then ∃ x : Int32, v = .int x ∧ ρ k = x.toInt else t = 1 ∧ ∃ x : Int64, v = .long x ∧ ρ k = x.toInt) ∧ inV ρ (cutI b c j r) (k + 1) s) → inV ρ (cutI b c (j + 1) ((t, l, u) :: r)) k (v :: s) := fun b q => by
      unfold cutI
      exact ⟨v, s, rfl, q⟩
    by_cases ht : t = 2
    · rw [if_pos ht] at h
      obtain ⟨h1, h2, h3⟩ := h
      rcases cutI_sp (c := c) (j := j) h3 with q | q
      · exact .inl (mk true (by rw [if_pos ht]; exact ⟨h1, h2, q⟩))
      · exact .inr (mk false (by rw [if_pos ht]; exact ⟨h1, h2, q⟩))
    · rw [if_neg ht] at h
      obtain ⟨h1, h2, h3⟩ := h
      rcases cutI_sp (c := c) (j := j) h3 with q | q
      · exact .inl (mk true (by rw [if_neg ht]; exact ⟨h1, h2, q⟩))
      · exact .inr (mk false (by rw [if_neg ht]; exact ⟨h1, h2, q⟩))
theorem pm_cut {rg : List Rg} {mB nA m D : Nat} {ins : List (Nat × Int × Int)} {gs : List Gen} {fs : List LE} {ws : List Wr} {os : List (List Gen × Option LE × List Kc × List LE)} {es : List (Option LE)} (j : Nat) (c : Int) (h1 : PmOK rg (mB, nA, (m, D, cutI true c j ins, gs, fs, ws, os), es)) (h2 : PmOK rg (mB, nA, (m, D, cutI false c j ins, gs, fs, ws, os), es)) : PmOK rg (mB, nA, (m, D, ins, gs, fs, ws, os), es) := by
  intro d hd ρ as bs h hlen hin hb hc hf hR
  have go : ∀ b, inV ρ (cutI b c j ins) 0 (as ++ bs) → PmOK rg (mB, nA, (m, D, cutI b c j ins, gs, fs, ws, os), es) → ∃ rA hA rB hB, CRun d m as h rA hA ∧ CRun d mB bs h rB hB ∧ hA.2.2 = h.2.2 ∧ hB.2.2 = h.2.2 ∧ (∀ v, rA = some v → vS true v) ∧ (∀ v, rB = some v → vS false v) ∧ PmPost rg (m, D, ins, gs, fs, ws, os) es ρ h rA rB (mxH true hA hB) := by
    intro b q H
    have eN : nonR (cutI b c j ins) = nonR ins := cutI_non
    obtain ⟨rA, hA, rB, hB, p1, p2, p3, p4, p5, p6, p7⟩ := H d hd ρ as bs h hlen q (by show bdV ρ gs (nonR (cutI b c j ins)); rw [eN]; exact hb) (by show ∀ c' ∈ celG (nonR (cutI b c j ins)) gs, _; rw [eN]; exact hc) hf hR
    refine ⟨rA, hA, rB, hB, p1, p2, p3, p4, p5, p6, p7.1, p7.2.1, ?_⟩
    have p8 := p7.2.2
    have eG : smG (m, D, cutI b c j ins, gs, fs, ws, os) = smG (m, D, ins, gs, fs, ws, os) := by
      show nonR (cutI b c j ins) + gs.length = nonR ins + gs.length
      rw [eN]
    rw [eG] at p8
    exact p8
  rcases cutI_sp (c := c) (j := j) hin with q | q
  · exact go true q h1
  · exact go false q h2
/-- one more fact, or its contrary -/
theorem pm_cutF {rg : List Rg} {mB nA m D : Nat} {ins : List (Nat × Int × Int)} {gs : List Gen} {fs : List LE} {ws : List Wr} {os : List (List Gen × Option LE × List Kc × List LE)} {es : List (Option LE)} (e : LE) (h1 : PmOK rg (mB, nA, (m, D, ins, gs, fs ++ [e], ws, os), es)) (h2 : PmOK rg (mB, nA, (m, D, ins, gs, fs ++ [leK (leSc (-1) e) (-1)], ws, os), es)) : PmOK rg (mB, nA, (m, D, ins, gs, fs, ws, os), es) := by
  intro d hd ρ as bs h hlen hin hb hc hf hR
  by_cases q : 0 ≤ leV ρ e
  · exact h1 d hd ρ as bs h hlen hin hb hc (fun f hf' => by
      rcases List.mem_append.mp hf' with z | z
      · exact hf f z
      · rw [List.mem_singleton.mp z]
        exact q) hR
  · exact h2 d hd ρ as bs h hlen hin hb hc (fun f hf' => by
      rcases List.mem_append.mp hf' with z | z
      · exact hf f z
      · rw [List.mem_singleton.mp z, leV_K, leV_sc]
        omega) hR
/-- the bounds of a known cell, cut in two -/
noncomputable def cutB (b : Bool) (c : Int) : Nat → List Gen → List Gen
  | _, [] => []
  | 0, (s, l, u) :: r => (bif b then (s, l, c) else (s, c + 1, u)) :: r
  | j + 1, q :: r => q :: cutB b c j r
theorem cutB_len {b : Bool} {c : Int} : ∀ {j : Nat} {l : List Gen}, (cutB b c j l).length = l.length
  | 0, [] => rfl
  | _ + 1, [] => rfl
  | 0, (s, l, u) :: r => by
    unfold cutB
    rfl
  | j + 1, q :: r => by
    unfold cutB
    rw [List.length_cons, List.length_cons, cutB_len]
theorem cutB_cel {b : Bool} {c : Int} : ∀ {j : Nat} {l : List Gen} {n : Nat}, celG n (cutB b c j l) = celG n l
  | 0, [], _ => rfl
  | _ + 1, [], _ => rfl
  | 0, ((a, k, o, i), l, u) :: r, n => by
    unfold cutB
    cases b <;> rcases a with _ | _ | a <;> rfl
  | j + 1, ((a, k, o, i), l, u) :: r, n => by
    unfold cutB
    have ih := cutB_cel (b := b) (c := c) (j := j) (l := r) (n := n + 1)
    rcases a with _ | _ | a
    · show celG (n + 1) _ = celG (n + 1) _
      exact ih
    · show _ :: celG (n + 1) _ = _ :: celG (n + 1) _
      rw [ih]
    · show celG (n + 1) _ = celG (n + 1) _
      exact ih
theorem cutB_sp {ρ : Nat → Int} {c : Int} : ∀ {j : Nat} {l : List Gen} {k : Nat}, bdV ρ l k → bdV ρ (cutB true c j l) k ∨ bdV ρ (cutB false c j l) k
  | 0, [], _, h => .inl h
  | _ + 1, [], _, h => .inl h
  | 0, (s, l, u) :: r, k, h => by
    have h0 := h (k, l, u) List.mem_cons_self
    dsimp only at h0
    have hr : ∀ q ∈ gbL r (k + 1), q.2.1 ≤ ρ q.1 ∧ ρ q.1 ≤ q.2.2 := fun q hq => h q (List.mem_cons_of_mem _ hq)
    by_cases hc : ρ k ≤ c
    · left
      intro q hq
      rcases List.mem_cons.mp hq with rfl | hq
      · exact ⟨h0.1, hc⟩
      · exact hr q hq
    · right
      intro q hq
      rcases List.mem_cons.mp hq with rfl | hq
      · exact ⟨by show c + 1 ≤ ρ k; omega, h0.2⟩
      · exact hr q hq
  | j + 1, g :: r, k, h => by
    have h0 := h (k, g.2.1, g.2.2) List.mem_cons_self
    have mk : ∀ b, bdV ρ (cutB b c j r) (k + 1) → bdV ρ (cutB b c (j + 1) (g :: r)) k := fun b q x hx => by
      unfold cutB at hx
      rcases List.mem_cons.mp hx with rfl | hx
      · exact h0
      · exact q x hx
    rcases cutB_sp (c := c) (j := j) (l := r) (k := k + 1) (fun q hq => h q (List.mem_cons_of_mem _ hq)) with q | q
    · exact .inl (mk true q)
    · exact .inr (mk false q)
theorem pm_cutG {rg : List Rg} {mB nA m D : Nat} {ins : List (Nat × Int × Int)} {gs : List Gen} {fs : List LE} {ws : List Wr} {os : List (List Gen × Option LE × List Kc × List LE)} {es : List (Option LE)} (j : Nat) (c : Int) (h1 : PmOK rg (mB, nA, (m, D, ins, cutB true c j gs, fs, ws, os), es)) (h2 : PmOK rg (mB, nA, (m, D, ins, cutB false c j gs, fs, ws, os), es)) : PmOK rg (mB, nA, (m, D, ins, gs, fs, ws, os), es) := by
  intro d hd ρ as bs h hlen hin hb hc hf hR
  have go : ∀ b, bdV ρ (cutB b c j gs) (nonR ins) → PmOK rg (mB, nA, (m, D, ins, cutB b c j gs, fs, ws, os), es) → ∃ rA hA rB hB, CRun d m as h rA hA ∧ CRun d mB bs h rB hB ∧ hA.2.2 = h.2.2 ∧ hB.2.2 = h.2.2 ∧ (∀ v, rA = some v → vS true v) ∧ (∀ v, rB = some v → vS false v) ∧ PmPost rg (m, D, ins, gs, fs, ws, os) es ρ h rA rB (mxH true hA hB) := by
    intro b q H
    obtain ⟨rA, hA, rB, hB, p1, p2, p3, p4, p5, p6, p7⟩ := H d hd ρ as bs h hlen hin q (by show ∀ c' ∈ celG (nonR ins) (cutB b c j gs), _; rw [cutB_cel]; exact hc) hf hR
    refine ⟨rA, hA, rB, hB, p1, p2, p3, p4, p5, p6, p7.1, p7.2.1, ?_⟩
    have p8 := p7.2.2
    have eG : smG (m, D, ins, cutB b c j gs, fs, ws, os) = smG (m, D, ins, gs, fs, ws, os) := by
      show nonR ins + (cutB b c j gs).length = nonR ins + gs.length
      rw [cutB_len]
    rw [eG] at p8
    exact p8
  rcases cutB_sp (c := c) (j := j) hb with q | q
  · exact go true q h1
  · exact go false q h2
