/-! Two posts of one call hold together. -/
theorem cal_stp {cd : Cd} {z : Cf} {q : Nat × Nat} (h : cal cd z = some q) : stp cd z = none := by
  unfold cal at h
  unfold stp
  split at h
  · rename_i e
    rw [e]
    rfl
  · rename_i e
    rw [e]
    split at h
    · rename_i ha
      dsimp only [Tok.ty_mk, Tok.st_mk, Tok.nx_mk, Tok.val_mk, PA.i_mk, PA.due_mk, PA.S_mk, PA.ob_mk, PA.on_mk, PA.pr_mk, PA.out_mk, PB.i_mk, PB.ob_mk, PB.nt_mk, PB.pr_mk, PB.out_mk]
      unfold stI
      simp [Tok.ty_mk, Tok.st_mk, Tok.nx_mk, Tok.val_mk, PA.i_mk, PA.due_mk, PA.S_mk, PA.ob_mk, PA.on_mk, PA.pr_mk, PA.out_mk, PB.i_mk, PB.ob_mk, PB.nt_mk, PB.pr_mk, PB.out_mk]
      intro q
      omega
    · cases h
  · cases h
theorem rtp_stp {cd : Cd} {rt : Option FieldType} {z : Cf} {q : Prop × Option Value} (h : rtp cd rt z = some q) : stp cd z = none := by
  unfold rtp at h
  unfold stp
  split at h
  · rename_i e
    rw [e]
    unfold rok at h
    split at h <;> first | rfl | cases h
  · cases h
theorem rtp_cal {cd : Cd} {rt : Option FieldType} {z : Cf} {q : Prop × Option Value} (h : rtp cd rt z = some q) : cal cd z = none := by
  unfold rtp at h
  unfold cal
  split at h
  · rename_i e
    rw [e]
    unfold rok at h
    split at h <;> first | rfl | cases h
  · cases h
noncomputable def Gd (d : Nat) (cd : Cd) (rt : Option FieldType) (Q : Option Value → Hp → Prop) (z : Cf) : Prop := ∀ X : Cf → Prop, Clo (Call d) cd rt Q X → X z
section GD
variable {d : Nat} {cd : Cd} {rt : Option FieldType} {Q : Option Value → Hp → Prop}
theorem Gd.clo : Clo (Call d) cd rt Q (Gd d cd rt Q) := ⟨fun z z' G e g k X c => c.1 z z' G e g (k X c), fun pc ls st h mid n as rest e1 e2 e3 e4 k X c => c.2.1 pc ls st h mid n as rest e1 e2 e3 e4 (k.mono (fun r h' q => q X c)), fun z G r e g q X c => c.2.2 z G r e g q⟩
theorem Gd.st {z z' : Cf} {G : Prop} (k : Gd d cd rt Q z) (e : stp cd z = some (G, z')) : Gd d cd rt Q z' := by
  refine (k (fun w => Gd d cd rt Q w ∧ (w = z → Gd d cd rt Q z')) ⟨fun w w' G' e' g' x => ⟨Gd.clo.1 w w' G' e' g' x.1, fun q => ?_⟩, fun pc ls st h mid n as rest e1 e2 e3 e4 x => ⟨Gd.clo.2.1 pc ls st h mid n as rest e1 e2 e3 e4 (x.mono (fun r h' q => q.1)), fun q => ?_⟩, fun w G' r e' g' q' => ⟨Gd.clo.2.2 w G' r e' g' q', fun q => ?_⟩⟩).2 rfl
  · subst q
    have := Option.some.inj (e.symm.trans e')
    rw [(Prod.mk.inj this).2]
    exact x.1
  · rw [← q, cal_stp e1] at e
    cases e
  · rw [← q, rtp_stp e'] at e
    cases e
theorem Gd.cl {pc : Nat} {ls : Lc} {st : List Value} {h : Hp} {mid n : Nat} {as rest : List Value} (k : Gd d cd rt Q (pc, ls, st, h)) (e1 : cal cd (pc, ls, st, h) = some (mid, n)) (e2 : as.length = n) (e3 : st = as.reverse ++ rest) : Call d mid as h (fun r h' => Gd d cd rt Q (pc + 3, ls, r.toList ++ rest, h')) := by
  refine (k (fun w => Gd d cd rt Q w ∧ (w = (pc, ls, st, h) → Call d mid as h (fun r h' => Gd d cd rt Q (pc + 3, ls, r.toList ++ rest, h')))) ⟨fun w w' G' e' g' x => ⟨Gd.clo.1 w w' G' e' g' x.1, fun q => ?_⟩, fun pc' ls' st' h' mid' n' as' rest' f1 f2 f3 f4 x => ⟨Gd.clo.2.1 pc' ls' st' h' mid' n' as' rest' f1 f2 f3 f4 (x.mono (fun r h' q => q.1)), fun q => ?_⟩, fun w G' r e' g' q' => ⟨Gd.clo.2.2 w G' r e' g' q', fun q => ?_⟩⟩).2 rfl
  · rw [q, cal_stp e1] at e'
    cases e'
  · cases q
    have q1 := Option.some.inj (e1.symm.trans f1)
    obtain ⟨rfl, rfl⟩ := Prod.mk.inj q1
    have q2 := List.append_inj (e3.symm.trans f3) (by rw [List.length_reverse, List.length_reverse, e2, f2])
    obtain ⟨q2, rfl⟩ := q2
    obtain rfl := List.reverse_inj.mp q2
    exact x.mono (fun r h' q => q.1)
  · rw [q] at e'
    rw [rtp_cal e'] at e1
    cases e1
theorem Gd.re {z : Cf} {G : Prop} {r : Option Value} (k : Gd d cd rt Q z) (e : rtp cd rt z = some (G, r)) : Q r z.2.2.2 := by
  refine (k (fun w => Gd d cd rt Q w ∧ (w = z → Q r z.2.2.2)) ⟨fun w w' G' e' g' x => ⟨Gd.clo.1 w w' G' e' g' x.1, fun q => ?_⟩, fun pc' ls' st' h' mid' n' as' rest' f1 f2 f3 f4 x => ⟨Gd.clo.2.1 pc' ls' st' h' mid' n' as' rest' f1 f2 f3 f4 (x.mono (fun r h' q => q.1)), fun q => ?_⟩, fun w G' r' e' g' q' => ⟨Gd.clo.2.2 w G' r' e' g' q', fun q => ?_⟩⟩).2 rfl
  · rw [q, rtp_stp e] at e'
    cases e'
  · rw [← q] at e
    rw [rtp_cal e] at f1
    cases f1
  · subst q
    have := Option.some.inj (e.symm.trans e')
    rw [(Prod.mk.inj this).2]
    exact q'
end GD
theorem Call.and : ∀ {d mid : Nat} {as : List Value} {h : Hp} {Q1 Q2 : Option Value → Hp → Prop}, Call d mid as h Q1 → Call d mid as h Q2 → Call d mid as h (fun r h' => Q1 r h' ∧ Q2 r h')
  | 0, _, _, _, _, _, a, _ => a
  | d + 1, mid, as, h, Q1, Q2, a, b => by
    have no : ∀ {Q : Option Value → Hp → Prop}, lib mid as h Q → psM[mid]? = none := fun {Q} l => by
      have : mid = 900 ∨ mid = 901 ∨ mid = 902 := by
        unfold lib at l
        split at l
        · exact Or.inl l.1
        · obtain ⟨i, s, -, -, l⟩ := l
          rcases l with l | l
          · exact Or.inr (Or.inl l.1)
          · exact Or.inr (Or.inr l.1)
        · exact l.elim
      rcases this with rfl | rfl | rfl <;> rfl
    rcases a with a | ⟨y, b', ml, rt, o, cd, q, h1, h2, h3, h4, hX⟩
    · rcases b with b | ⟨y', b', ml', rt', o', cd', q', g1, g2, g3, g4, gX⟩
      · refine Or.inl ?_
        unfold lib at a b ⊢
        split at a
        · obtain ⟨e, i, l, a1, a2, a3⟩ := a
          obtain ⟨-, i', l', b1, b2, b3⟩ := b
          obtain rfl : i = i' := Nat.add_left_cancel (a1.symm.trans b1)
          obtain rfl := Option.some.inj (a2.symm.trans b2)
          exact ⟨e, i, l, a1, a2, a3, b3⟩
        · obtain ⟨i, l, a1, a2, a3⟩ := a
          obtain ⟨i', l', b1, b2, b3⟩ := b
          obtain rfl : i = i' := Nat.add_left_cancel (a1.symm.trans b1)
          obtain rfl := Option.some.inj (a2.symm.trans b2)
          refine ⟨i, l, a1, a2, ?_⟩
          rcases a3 with ⟨e, k, c, c1, c2, c3⟩ | ⟨e, c1, c2⟩
          · rcases b3 with ⟨e', k', c', d1, d2, d3⟩ | ⟨e', -⟩
            · refine Or.inl ⟨e, k, c, c1, c2, c3, ?_⟩
              have ll : l.length ≤ 6 := (by decide : ∀ l ∈ stT', l.length ≤ 6) l (List.mem_of_getElem? a2)
              have k1 : k < l.length := (List.getElem?_eq_some_iff.mp c2).1
              have k2 : k' < l.length := (List.getElem?_eq_some_iff.mp d2).1
              have kk := congrArg Int32.toInt (c1.symm.trans d1)
              rw [nI_i (by omega), nI_i (by omega)] at kk
              obtain rfl : k = k' := by omega
              obtain rfl := Option.some.inj (c2.symm.trans d2)
              exact d3
            · exact absurd (e.symm.trans e') (by decide)
          · rcases b3 with ⟨e', -⟩ | ⟨e', d1, d2⟩
            · exact absurd (e.symm.trans e') (by decide)
            · exact Or.inr ⟨e, c1, c2, d2⟩
        · exact a.elim
      · rw [no a] at g1; cases g1
    · rcases b with b | ⟨y', b'', ml', rt', o', cd', q', g1, g2, g3, g4, gX⟩
      · rw [no b] at h1; cases h1
      · have := Option.some.inj (h1.symm.trans g1)
        cases this
        refine Or.inr ⟨y, b', ml, rt, o, cd, q, h1, h2, h3, h4, fun X hc => ?_⟩
        exact gX (fun z => Gd d cd rt Q1 z → X z) ⟨fun z z' G e g x k => hc.1 z z' G e g (x (k.st e)), fun pc ls st h mid n as rest e1 e2 e3 e4 x k => hc.2.1 pc ls st h mid n as rest e1 e2 e3 e4 (((k.cl e1 e2 e3).and x).mono (fun r h' q => q.2 q.1)), fun z G r e g x k => hc.2.2 z G r e g ⟨k.re e, x⟩⟩ (fun X' c => hX X' c)
/-! Both readers, on THE TAPE that holds the same bytes. -/
section CG
variable {f g : Int32 → Int32} {n : Nat} {t : Tok}
theorem kcB_cg (e : ∀ p, p < n → f (nI p) = g (nI p)) : ∀ {l : List Nat} {s : Nat}, s + l.length ≤ n → kcB f s l = kcB g s l
  | [], _, _ => rfl
  | c :: r, s, h => by
    simp only [Tok.ty_mk, Tok.st_mk, Tok.nx_mk, Tok.val_mk, PA.i_mk, PA.due_mk, PA.S_mk, PA.ob_mk, PA.on_mk, PA.pr_mk, PA.out_mk, PB.i_mk, PB.ob_mk, PB.nt_mk, PB.pr_mk, PB.out_mk, List.length_cons] at h
    show (decide (f (nI s) = nI c) && kcB f (s + 1) r) = (decide (g (nI s) = nI c) && kcB g (s + 1) r)
    rw [e s (by omega), kcB_cg e (by omega)]
theorem kwB_cg (e : ∀ p, p < n → f (nI p) = g (nI p)) (w : TkW f n t) (i : Nat) : kwB i f t = kwB i g t := by
  unfold kwB
  have := w.w1
  have := w.w2
  by_cases hl : t.nx - t.st = (stT'.getD i []).length
  · rw [kcB_cg e (by omega)]
  · rw [decide_eq_false hl]
    rfl
theorem keyN_cg (e : ∀ p, p < n → f (nI p) = g (nI p)) (w : TkW f n t) : keyN f t = keyN g t := by
  unfold keyN
  rw [kwB_cg e w 0, kwB_cg e w 1, kwB_cg e w 2, kwB_cg e w 3, kwB_cg e w 4, kwB_cg e w 5]
theorem cat_cg (e : ∀ p, p < n → f (nI p) = g (nI p)) (w : TkW f n t) (key : Nat) : cat f key t = cat g key t := by
  by_cases h1 : t.ty = 1
  · have lt := w.w6 (by rw [h1]; decide)
    have := w.w2
    rw [cat_1 h1, cat_1 h1, e t.st (by omega)]
  · unfold cat
    simp only [Tok.ty_mk, Tok.st_mk, Tok.nx_mk, Tok.val_mk, PA.i_mk, PA.due_mk, PA.S_mk, PA.ob_mk, PA.on_mk, PA.pr_mk, PA.out_mk, PB.i_mk, PB.ob_mk, PB.nt_mk, PB.pr_mk, PB.out_mk, h1, ↓reduceIte]
end CG
theorem rp_both {d : Nat} {h : Hp} {n tx : Nat} (hd : 106 ≤ d) (tA : TP h n) (tB : TPB h n) (bA : BY (h.1 54) n) (e : ∀ p, p < n → h.1 54 (nI p) = h.1 78 (nI p)) (ex : h.1 66 4 = nI tx) (hx : tx ≤ 12) {PoA_ PB' : Option Value → Hp → Prop} (SA : Call d 27 [.ref 55] h PoA_) (SB' : Call d 224 [.ref 65] h PB') : ∃ rA hA rB hB, CRun d 27 [.ref 55] h rA hA ∧ CRun d 224 [.ref 65] h rB hB ∧ PoA_ rA hA ∧ PB' rB hB ∧ frA h hA ∧ EnB h hB (adB tx) ∧ ((∃ s, s ≤ 96 ∧ rA = some (.int (nI s)) ∧ rB = some (.int (-1)) ∧ hB.1 65 17 = nI s) ∨ (∃ key pr out, key ≤ 5 ∧ rA = some (.int (-1000000005)) ∧ rB = some (.int (nI key)) ∧ hA.1 55 3 = nI key ∧ hA.1 55 4 = nI pr ∧ hB.1 65 26 = nI pr ∧ hA.1 56 1 = nI out.length ∧ PLr (hA.1 57) out ∧ hB.1 65 24 = nI out.length ∧ SBs (hB.1 66) key (adB tx) out ∧ out.length ≤ 96)) := by
  have bB : BY (h.1 78) n := fun p hp => by rw [← e p hp]; exact bA p hp
  have et := tks_cg e
  have wA := tks_w bA
  have sl : ∀ i, (tks (h.1 54) n i).st ≤ 96 := fun i => by
    have := (wA i).w1
    have := (wA i).w2
    have := tA.hn
    omega
  have ec : ∀ key, (fun i => cat (h.1 78) key (tks (h.1 78) n i)) = (fun i => cat (h.1 54) key (tks (h.1 54) n i)) := fun key => funext fun i => by
    rw [← et i]
    exact (cat_cg e (wA i) key).symm
  have ek : keyN (h.1 78) (tks (h.1 78) n 0) = keyN (h.1 54) (tks (h.1 54) n 0) := by
    rw [← et 0]
    exact (keyN_cg e (wA 0)).symm
  have hts : ∀ key i b, (fun i => cat (h.1 54) key (tks (h.1 54) n i)) i = .op b → 1 ≤ bnd b := fun key i b q => (cat_opE q).2.2
  obtain ⟨d', rfl⟩ : ∃ d', d = d' + 106 := ⟨d - 106, by omega⟩
  -- the reference first
  have cB : Call (d' + 106) 224 [.ref 65] h (fun rB hB => EnB h hB (adB tx) ∧ ((keyN (h.1 54) (tks (h.1 54) n 0) = -1000000005 ∧ rB = some (.int (-1)) ∧ hB.1 65 17 = nI (tks (h.1 54) n 0).st) ∨ ∃ key r, key ≤ 5 ∧ keyN (h.1 54) (tks (h.1 54) n 0) = nI key ∧ prs (fun i => cat (h.1 54) key (tks (h.1 54) n i)) false 1 ⟨1, 0, 0, 0, []⟩ r ∧ ((∃ i, r = .inr i ∧ rB = some (.int (-1)) ∧ hB.1 65 17 = nI (tks (h.1 54) n i).st) ∨ ∃ b, r = .inl b ∧ ((cat (h.1 54) key (tks (h.1 54) n b.i) = .fin ∧ rB = some (.int (nI key)) ∧ hB.1 65 26 = nI b.pr ∧ hB.1 65 24 = nI b.out.length ∧ SBs (hB.1 66) key (adB tx) b.out) ∨ (cat (h.1 54) key (tks (h.1 54) n b.i) ≠ .fin ∧ rB = some (.int (-1)) ∧ hB.1 65 17 = nI (tks (h.1 54) n b.i).st))))) := by
    refine c_parse tB bB ex hx (fun q h' en e17 => ⟨en, Or.inl ⟨ek.symm.trans q, rfl, by rw [e17, et 0]⟩⟩) (fun key hkey q r p => ?_)
    rw [ec key] at p
    have q := ek.symm.trans q
    have ecb : ∀ i, cat (h.1 78) key (tks (h.1 78) n i) = cat (h.1 54) key (tks (h.1 54) n i) := fun i => congrFun (ec key) i
    cases r with
    | inr i => exact fun h' en e17 => ⟨en, Or.inr ⟨key, .inr i, hkey, q, p, Or.inl ⟨i, rfl, rfl, by rw [e17, et i]⟩⟩⟩
    | inl b => exact ⟨fun fi h' en e26 e24 sb => ⟨en, Or.inr ⟨key, .inl b, hkey, q, p, Or.inr ⟨b, rfl, Or.inl ⟨(ecb b.i).symm.trans fi, rfl, e26, e24, sb⟩⟩⟩⟩, fun fi h' en e17 => ⟨en, Or.inr ⟨key, .inl b, hkey, q, p, Or.inr ⟨b, rfl, Or.inr ⟨fun z => fi ((ecb b.i).trans z), rfl, by rw [e17, et b.i]⟩⟩⟩⟩⟩
  obtain ⟨rB, hB, ⟨⟨en, PB⟩, pb⟩, cB⟩ := (cB.and SB').det
  have ki : ∀ k key : Nat, k ≤ 5 → key ≤ 5 → nI k = nI key → k = key := fun k key a b q => (nIle_eq (by omega) (by omega)).mp q
  have nk : ∀ k : Nat, k ≤ 5 → (-1000000005 : Int32) ≠ nI k := fun k hk q => by
    have := congrArg Int32.toInt q
    rw [nI_i (by omega)] at this
    have c : (-1000000005 : Int32).toInt = -1000000005 := rfl
    omega
  rcases PB with ⟨q, rb, e17⟩ | ⟨key, r, hkey, q, p, PB⟩
  · have cA : Call (d' + 100 + 6) 27 [.ref 55] h (fun rA hA => frA h hA ∧ rA = some (.int (nI (tks (h.1 54) n 0).st))) := c_readAll tA bA (fun _ h' f => ⟨f, rfl⟩) (fun k hk z => absurd (q.symm.trans z) (nk k hk))
    obtain ⟨rA, hA, ⟨⟨fa, ra⟩, pa⟩, cA⟩ := (cA.and SA).det
    exact ⟨rA, hA, rB, hB, cA, cB, pa, pb, fa, en, Or.inl ⟨_, sl 0, ra, rb, e17⟩⟩
  · have al := prs_all (hts key) p
    rcases PB with ⟨i, rfl, rb, e17⟩ | ⟨b, rfl, ⟨fi, rb, e26, e24, sb⟩ | ⟨fi, rb, e17⟩⟩
    · obtain ⟨a, ga, fa⟩ := al
      have cA : Call (d' + 100 + 6) 27 [.ref 55] h (fun rA hA => frA h hA ∧ rA = some (.int (nI (tks (h.1 54) n i).st))) := c_readAll tA bA (fun z => absurd (z.symm.trans q) (nk key hkey)) (fun k hk z => by
        obtain rfl := ki k key hk hkey (z.symm.trans q)
        exact Or.inl ⟨a, i, ga, fa, fun h' f => ⟨f, rfl⟩⟩)
      obtain ⟨rA, hA, ⟨⟨fa, ra⟩, pa⟩, cA⟩ := (cA.and SA).det
      exact ⟨rA, hA, rB, hB, cA, cB, pa, pb, fa, en, Or.inl ⟨_, sl i, ra, rb, e17⟩⟩
    · obtain ⟨a, ga, -, al⟩ := al
      obtain ⟨ai, ad, ao, ap, as_⟩ := al fi
      have cA : Call (d' + 100 + 6) 27 [.ref 55] h (fun rA hA => frA h hA ∧ rA = some (.int (-1000000005)) ∧ hA.1 55 3 = nI key ∧ hA.1 55 4 = nI b.pr ∧ hA.1 56 1 = nI b.out.length ∧ PLr (hA.1 57) b.out ∧ b.out.length ≤ 96) := c_readAll tA bA (fun z => absurd (z.symm.trans q) (nk key hkey)) (fun k hk z => by
        obtain rfl := ki k key hk hkey (z.symm.trans q)
        refine Or.inr ⟨a, ga, by rw [ai]; exact fi, ad, ao, fun h' f r e3 => ⟨f, rfl, e3, by rw [← ap]; exact r.pr, ?_, ?_, ?_⟩⟩
        · have := r.g.o1
          rw [as_] at this
          exact this
        · have := r.g.o2
          rw [as_] at this
          exact this
        · have := r.g.ln
          rw [as_] at this
          simpa [Tok.ty_mk, Tok.st_mk, Tok.nx_mk, Tok.val_mk, PA.i_mk, PA.due_mk, PA.S_mk, PA.ob_mk, PA.on_mk, PA.pr_mk, PA.out_mk, PB.i_mk, PB.ob_mk, PB.nt_mk, PB.pr_mk, PB.out_mk] using this)
      obtain ⟨rA, hA, ⟨⟨fa, ra, e3, e4, e56, pl, ln⟩, pa⟩, cA⟩ := (cA.and SA).det
      exact ⟨rA, hA, rB, hB, cA, cB, pa, pb, fa, en, Or.inr ⟨key, b.pr, b.out, hkey, ra, rb, e3, e4, e26, e56, pl, e24, sb, ln⟩⟩
    · obtain ⟨a, ga, al, -⟩ := al
      have fa := al fi
      have cA : Call (d' + 100 + 6) 27 [.ref 55] h (fun rA hA => frA h hA ∧ rA = some (.int (nI (tks (h.1 54) n b.i).st))) := c_readAll tA bA (fun z => absurd (z.symm.trans q) (nk key hkey)) (fun k hk z => by
        obtain rfl := ki k key hk hkey (z.symm.trans q)
        exact Or.inl ⟨a, b.i, ga, fa, fun h' f => ⟨f, rfl⟩⟩)
      obtain ⟨rA, hA, ⟨⟨fa, ra⟩, pa⟩, cA⟩ := (cA.and SA).det
      exact ⟨rA, hA, rB, hB, cA, cB, pa, pb, fa, en, Or.inl ⟨_, sl b.i, ra, rb, e17⟩⟩
