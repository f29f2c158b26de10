/-! What is known of a method, shown by its walk. -/
noncomputable def srcR (S : Sx) (r : Option AV) : List Gen → Option (List LE)
  | [] => some []
  | g :: l => match (match g.1.1 with
      | 2 => (match r with
        | some (0, e) => some e
        | _ => none)
      | _ => srcV S [] g.1), srcR S r l with
    | some e, some σ => some (e :: σ)
    | _, _ => none
noncomputable def celT (kc : List Kc) : List Gen := kc.map fun c => ((1, c.1, c.2.1, c.2.2.1), 0, 0)
noncomputable def okRt (D : Db) (f : Nat → LE) (e : Option LE) (r : Option AV) : Bool := match e, r with
  | none, none => true
  | some e, some (0, e') => eqv D e' (leSb f e)
  | _, _ => false
noncomputable def finS (rg : List Rg) (s : Sm) (S : Sx) (r : Option AV) : Bool := s.2.2.2.2.2.2.any fun o => let S2 := tch rg (tch rg S o.1) (celT o.2.2.1); match srcR S2 r o.1 with
  | some σ => let f := fLL (smG s) σ; let S3 := tch8 rg S2 f o.2.2.1; okB S3.2.1 o.1 σ && okRt S3.2.1 f o.2.1 r && okF S3.2.1 f o.2.2.2 && okK S3 f o.2.2.1
  | none => false
noncomputable def enA : List (Nat × Int × Int) → Nat → List AV
  | [], _ => []
  | (t, l, _) :: r, k => if Nat.beq t 2 = true then (2, (l, [])) :: enA r k else (t, leX k) :: enA r (k + 1)
noncomputable def gbI : List (Nat × Int × Int) → Nat → List (Nat × Int × Int)
  | [], _ => []
  | (t, l, u) :: r, k => if Nat.beq t 2 = true then gbI r k else (k, l, u) :: gbI r (k + 1)
noncomputable def smS (s : Sm) : Sx := (smG s, (gbI s.2.2.1 0 ++ gbL s.2.2.2.1 (nonR s.2.2.1), s.2.2.2.2.1), celG (nonR s.2.2.1) s.2.2.2.1)
noncomputable def vfyB (rg : List Rg) (T : List Sm) (AN : List (Nat × List (Nat × An))) (g : Nat) (s : Sm) (m : Mi) : Bool := Nat.ble (eLa (enA s.2.2.1 0)).length m.2.2.1 && (Nat.beq (enA s.2.2.1 0).length (if m.2.2.2.2.2.2.1 = 0 then m.2.2.2.2.2.2.2.1 else m.2.2.2.2.2.2.2.1 + 1) && (rcA m.2.2.2.2.2.2.1 m.2.2.2.2.1 (enA s.2.2.1 0) && (Nat.ble 1 s.2.1 && ex rg s.2.2.2.2.2.1 T AN (finS rg s) noS g (s.2.1 - 1) [] (m.2.2.2.2.2.1, m.2.2.2.1, anT AN s.1) [] false (smS s, 0, eLnA m.2.2.1 (enA s.2.2.1 0), []))))
noncomputable def vfy (rg : List Rg) (T : List Sm) (AN : List (Nat × List (Nat × An))) (g : Nat) (s : Sm) : Bool := smW s && (s.2.2.2.2.1.all (scB (smG s)) && (match psM[s.1]? with
  | some m => vfyB rg T AN g s m
  | none => false))
section VFY
variable {rg : List Rg} {ws : List Wr} {h0 : Hp}
theorem enA_SR {ρ : Nat → Int} {n : Nat} : ∀ {ins : List (Nat × Int × Int)} {k : Nat} {as : List Value}, inV ρ ins k as → k + nonR ins ≤ n → SR ρ n (enA ins k) as
  | [], _, _, h, _ => h
  | (t, l, u) :: r, k, as, h, hn => by
    obtain ⟨v, s, rfl, h⟩ := h
    unfold enA
    split
    · rename_i ht
      cases beqT ht
      rw [if_pos rfl] at h
      obtain ⟨rfl, h1, h2⟩ := h
      have e : nonR ((2, l, u) :: r) = nonR r := by unfold nonR; rfl
      refine SR.cons ⟨l.toNat, rfl, ?_⟩ (enA_SR h2 (by omega))
      show (l, []) = (Int.ofNat l.toNat, [])
      rw [show Int.ofNat l.toNat = l from Int.toNat_of_nonneg h1]
    · rename_i ht
      have e : nonR ((t, l, u) :: r) = nonR r + 1 := by unfold nonR; rw [List.filter_cons_of_pos (by rw [(Bool.not_eq_true _).mp ht]; rfl)]; rfl
      rw [if_neg (fun q => ht (by rw [q]; rfl))] at h
      obtain ⟨h1, h2, h3⟩ := h
      refine SR.cons ?_ (enA_SR h3 (by omega))
      split at h2
      · rename_i h0
        subst h0
        obtain ⟨x, rfl, h2⟩ := h2
        exact ⟨x, rfl, leS_X (by omega), by rw [leV_X]; exact h2⟩
      · obtain ⟨rfl, x, rfl, h2⟩ := h2
        exact ⟨x, rfl, leS_X (by omega), by rw [leV_X]; exact h2⟩
theorem gbI_sp {ρ : Nat → Int} : ∀ {ins : List (Nat × Int × Int)} {k : Nat} {as : List Value}, inV ρ ins k as → ∀ q ∈ gbI ins k, q.1 < k + nonR ins ∧ q.2.1 ≤ ρ q.1 ∧ ρ q.1 ≤ q.2.2
  | [], _, _, _, q, hq => by cases hq
  | (t, l, u) :: r, k, as, h, q, hq => by
    obtain ⟨v, s, rfl, h⟩ := h
    unfold gbI at hq
    split at hq
    · rename_i ht
      cases beqT ht
      rw [if_pos rfl] at h
      obtain ⟨rfl, h1, h2⟩ := h
      have e : nonR ((2, l, u) :: r) = nonR r := by unfold nonR; rfl
      rw [e]
      exact gbI_sp h2 q hq
    · rename_i ht
      have e : nonR ((t, l, u) :: r) = nonR r + 1 := by unfold nonR; rw [List.filter_cons_of_pos (by rw [(Bool.not_eq_true _).mp ht]; rfl)]; rfl
      rw [if_neg (fun q => ht (by rw [q]; rfl))] at h
      obtain ⟨h1, h2, h3⟩ := h
      rcases List.mem_cons.mp hq with rfl | hq
      · exact ⟨by show k < _; omega, h1⟩
      · obtain ⟨j1, j2⟩ := gbI_sp h3 q hq
        exact ⟨by omega, j2⟩
theorem gbL_lt : ∀ {gs : List Gen} {k : Nat}, ∀ q ∈ gbL gs k, q.1 < k + gs.length
  | [], _, q, hq => by cases hq
  | g :: r, k, q, hq => by
    rcases List.mem_cons.mp hq with rfl | hq
    · show k < k + (r.length + 1); omega
    · have := gbL_lt (gs := r) (k := k + 1) q hq
      show q.1 < k + (r.length + 1); omega
theorem celG_S {m : Nat} : ∀ {gs : List Gen} {k n : Nat}, (∀ g ∈ gs, scB m g.1.2.2.2 = true) → m ≤ n → k + gs.length ≤ n → ∀ c ∈ celG k gs, leS n c.2.2.1 ∧ leS n c.2.2.2
  | [], _, _, _, _, _, c, hc => by cases hc
  | g :: r, k, n, hg, hm, hn, c, hc => by
    have ih := celG_S (gs := r) (k := k + 1) (n := n) (fun q m => hg q (List.mem_cons_of_mem _ m)) hm (by simp only [List.length_cons] at hn; omega)
    have g0 := hg g List.mem_cons_self
    simp only [List.length_cons] at hn
    obtain ⟨⟨t, kk, o, i⟩, b⟩ := g
    unfold celG at hc
    split at hc
    · cases hc
    · rename_i k2 o2 i2 b2 r2 heq
      cases heq
      rcases List.mem_cons.mp hc with rfl | hc
      · exact ⟨leS_mono (scB_S g0) hm, leS_X (by omega)⟩
      · exact ih c hc
    · rename_i heq
      cases heq
      exact ih c hc
theorem srcR_sp {ρ : Nat → Int} {S : Sx} {h : Hp} {r : Option AV} {rv : Option Value} (M : Mo rg ws h0 ρ S h) (hr : rvO ρ S.1 r rv) : ∀ {gs : List Gen} {σ : List LE}, srcR S r gs = some σ → σ.length = gs.length
  | [], _, q => by cases q; rfl
  | g :: l, σ, q => by
    unfold srcR at q
    split at q
    · rename_i e σ' h1 h2
      cases q
      simp [srcR_sp M hr h2]
    · cases q
theorem Frm.rf {h : Hp} : Frm ws h h := ⟨fun _ _ _ => rfl, fun _ _ _ => rfl, rfl⟩
theorem finS_sp {s : Sm} {ρ0 ρ : Nat → Int} {S : Sx} {h : Hp} {r : Option AV} {rv : Option Value} (hA : Ag ρ0 ρ (smG s)) (hn : smG s ≤ S.1) (M : Mo rg ws h0 ρ S h) (hr : rvO ρ S.1 r rv) (g : finS rg s S r = true) : ∃ o ∈ s.2.2.2.2.2.2, ∃ ρ', Ag ρ0 ρ' (smG s) ∧ bdV ρ' o.1 (smG s) ∧ rtV ρ' o.2.1 rv ∧ (∀ c ∈ o.2.2.1, kcV ρ' h c) ∧ (∀ f ∈ o.2.2.2, 0 ≤ leV ρ' f) := by
  simp only [finS, List.any_eq_true] at g
  obtain ⟨o, ho, g⟩ := g
  obtain ⟨ρ1, a1, a2, M1⟩ := tch_sp (l := o.1) M
  obtain ⟨ρ2', b1', b2', M2'⟩ := tch_sp (l := celT o.2.2.1) M1
  split at g
  · rename_i σ hσ
    obtain ⟨ρ2, b1'', b2'', M2⟩ := tch8_sp (f := fLL (smG s) σ) (kc := o.2.2.1) M2'
    have b1 := b1'.tr b1'' b2'
    have b2 := Nat.le_trans b2' b2''
    (try dsimp only at g)
    simp only [Bool.and_eq_true] at g
    obtain ⟨⟨⟨g1, g2⟩, g3⟩, g4⟩ := g
    have ag : Ag ρ ρ2 S.1 := a1.tr b1 a2
    refine ⟨o, ho, fun k => leV ρ2 (fLL (smG s) σ k), (hA.tr (ag.mono hn) (Nat.le_refl _)).tr fLL_ag (Nat.le_refl _), ?_, ?_, okK_sp M2 g4, ?_⟩
    · intro q hq
      exact ((okB_sp (ρ' := fun k => leV ρ2 (fLL (smG s) σ k)) (k := smG s) M2.1 g1 (fun i hi => by show leV ρ2 (fLL (smG s) σ (smG s + i)) = _; rw [fLL_hi])).2 q hq).1
    · unfold okRt at g2
      unfold rtV
      split at g2
      · rename_i e0 
        rw [e0]
        exact hr
      · rename_i e e' e0
        rw [e0]
        obtain ⟨x, rfl, y, rfl, gy⟩ := hr
        have := eqv_sp M2.1 g2
        rw [leSb_V] at this
        exact ⟨y, rfl, this.symm.trans ((leV_ext gy.1 ag).trans gy.2)⟩
      · cases g2
    · intro f hf
      have := en2_sp M2.1 ((List.all_eq_true.mp g3) f hf)
      rw [leSb_V] at this
      exact this
  · cases g
theorem vfyQ_sp {T : List Sm} {AN : List (Nat × List (Nat × An))} {g δ : Nat} {s : Sm} {ρ : Nat → Int} (hT : ∀ t ∈ T, SmQ rg δ ρ (smG s) t) (hv : vfy rg T AN g s = true) {d : Nat} (hd : s.2.1 + δ ≤ d) {as : List Value} {h : Hp} : SmB rg s d ρ as h := by
  intro hin hb hc hf hR
  obtain ⟨hw, hv⟩ := Bool.and_eq_true_iff.mp hv
  obtain ⟨hsc, hv⟩ := Bool.and_eq_true_iff.mp hv
  rw [List.all_eq_true] at hsc
  split at hv
  · rename_i m hps
    obtain ⟨y, bb, ml, rt, o, cd, q⟩ := m
    obtain ⟨x1, hv⟩ := Bool.and_eq_true_iff.mp hv
    obtain ⟨x2, hv⟩ := Bool.and_eq_true_iff.mp hv
    obtain ⟨x3, hv⟩ := Bool.and_eq_true_iff.mp hv
    obtain ⟨x5, x4⟩ := Bool.and_eq_true_iff.mp hv
    have x5 := Nat.le_of_ble_eq_true x5
    dsimp only at x1 x2 x3 x4
    obtain ⟨d', rfl⟩ : ∃ d', d = d' + 1 := ⟨d - 1, by omega⟩
    have hG : nonR s.2.2.1 + s.2.2.2.1.length = smG s := rfl
    have hSR : SR ρ (smG s) (enA s.2.2.1 0) as := enA_SR hin (by omega)
    have hw' := hw
    simp only [smW, Bool.and_eq_true, List.all_eq_true] at hw'
    have M : Mo rg s.2.2.2.2.2.1 h ρ (smS s) h := by
      refine ⟨⟨fun q hq => ?_, fun f hf' => ⟨scB_S (hsc f hf'), hf f hf'⟩⟩, fun c hc' => ?_, hR, Frm.rf⟩
      · rcases List.mem_append.mp hq with hq | hq
        · have := gbI_sp hin q hq
          exact ⟨by show q.1 < smG s; omega, this.2⟩
        · have := gbL_lt q hq
          exact ⟨by show q.1 < smG s; omega, hb q hq⟩
      · have := celG_S hw'.1 (show nonR s.2.2.1 ≤ smG s by omega) (Nat.le_of_eq hG) c hc'
        exact kcV_O (hc c hc') this.1 this.2
    refine call_of hps (by rw [← eLa_len hSR]; exact x1) (by rw [SR.len hSR]; exact beqT x2) (rcA_sp hSR x3) (fun X hX => ?_)
    exact ex_sp (rg := rg) (ws := s.2.2.2.2.2.1) (h0 := h) (Q0 := fun r h' => (∀ q ∈ rg, RgO h' q) ∧ Frm s.2.2.2.2.2.1 h h' ∧ ∃ o ∈ s.2.2.2.2.2.2, ∃ ρ', Ag ρ ρ' (smG s) ∧ bdV ρ' o.1 (smG s) ∧ rtV ρ' o.2.1 r ∧ (∀ c ∈ o.2.2.1, kcV ρ' h' c) ∧ (∀ f ∈ o.2.2.2, 0 ≤ leV ρ' f)) (ρ0 := ρ) (n0 := smG s) hT (fun ρ' S h1 r rv a1 a2 a3 a4 a5 => ⟨a3.2.2.1, a3.2.2.2, finS_sp a1 a2 a3 a4 a5⟩) (X0 := fun _ => False) (fun _ _ _ _ _ _ _ _ _ _ _ _ _ q => by cases q) g (s.2.1 - 1) d' [] (cd, rt, anT AN s.1) [] false _ ρ X _ _ (by omega) x4 Ag.rf (Nat.le_refl _) ⟨M, rfl, eLnA_LR hSR, rfl⟩ hX (fun al hal => by cases hal) (fun _ _ q => q.elim) (fun r h1 q => q)
  · cases hv
theorem vfy_sp {T : List Sm} {AN : List (Nat × List (Nat × An))} {g : Nat} {s : Sm} (hT : ∀ s ∈ T, SmOK rg s) (hv : vfy rg T AN g s = true) : SmOK rg s := fun _ hd ρ _ _ => vfyQ_sp (δ := 0) (ρ := ρ) (fun t ht => (hT t ht).q) hv (by simpa using hd)
/-- a known method that calls itself: with a measure below n -/
noncomputable def SmR (rg : List Rg) (μ : LE) (K n : Nat) (s : Sm) : Prop := ∀ d, s.2.1 + K * n ≤ d → ∀ (ρ : Nat → Int) (as : List Value) (h : Hp), leV ρ μ < n → SmB rg s d ρ as h
noncomputable def moreF (s : Sm) (D : Nat) (fs : List LE) : Sm := (s.1, D, s.2.2.1, s.2.2.2.1, s.2.2.2.2.1 ++ fs, s.2.2.2.2.2)
/-- the walked method's measure -/
noncomputable def mu5 (μ : LE) : LE := (μ.1, μ.2.map fun p => (500 + p.1, p.2))
theorem mu5_V {μ : LE} {ρ ρ0 : Nat → Int} {n0 : Nat} (hs : leS n0 μ) (h : ∀ j, j < n0 → ρ (500 + j) = ρ0 j) : leV ρ (mu5 μ) = leV ρ0 μ := by
  have : ∀ l : List (Nat × Int), (∀ p ∈ l, p.1 < n0) → leT ρ (l.map fun p => (500 + p.1, p.2)) = leT ρ0 l := by
    intro l
    induction l with
    | nil => intro _; rfl
    | cons p r ih =>
      intro hl
      obtain ⟨k, a⟩ := p
      show a * ρ (500 + k) + leT ρ _ = a * ρ0 k + leT ρ0 r
      rw [h k (hl (k, a) List.mem_cons_self), ih (fun q hq => hl q (List.mem_cons_of_mem _ hq))]
  show μ.1 + leT ρ (μ.2.map fun p => (500 + p.1, p.2)) = μ.1 + leT ρ0 μ.2
  rw [this _ hs]
theorem SmR.lo {μ : LE} {K n n0 D : Nat} {s : Sm} {ρ0 : Nat → Int} (H : SmR rg μ K n s) (hs : leS n0 μ) (hD : D + K = s.2.1) (h0 : leV ρ0 μ < (n + 1 : Nat)) : SmQ rg (K * (n + 1)) ρ0 n0 (moreF s D [leK (leSub (mu5 μ) μ) (-1)]) := by
  intro d hd ρ as h hj
  intro hin hb hc hf hR
  have hm := hf _ (List.mem_append_right _ List.mem_cons_self)
  rw [leV_K, leV_sub, mu5_V hs hj] at hm
  have hd : D + K * (n + 1) ≤ d := hd
  rw [Nat.mul_add] at hd
  exact H d (by omega) ρ as h (by omega) hin hb hc (fun f h => hf f (List.mem_append_left _ h)) hR
theorem SmR.eq {μ : LE} {K n n0 : Nat} {s : Sm} {ρ0 : Nat → Int} (H : SmR rg μ K (n + 1) s) (hs : leS n0 μ) (h0 : leV ρ0 μ < (n + 1 : Nat)) : SmQ rg (K * (n + 1)) ρ0 n0 (moreF s s.2.1 [leSub (mu5 μ) μ]) := by
  intro d hd ρ as h hj
  intro hin hb hc hf hR
  have hm := hf _ (List.mem_append_right _ List.mem_cons_self)
  rw [leV_sub, mu5_V hs hj] at hm
  exact H d hd ρ as h (by omega) hin hb hc (fun f h => hf f (List.mem_append_left _ h)) hR
theorem SmR.up {μ : LE} {K n : Nat} {T : List Sm} {AN : List (Nat × List (Nat × An))} {g : Nat} {s : Sm} (hv : vfy rg T AN g s = true) (hT : ∀ ρ0 : Nat → Int, leV ρ0 μ < (n + 1 : Nat) → ∀ t ∈ T, SmQ rg (K * (n + 1)) ρ0 (smG s) t) : SmR rg μ K (n + 1) s := fun _ hd ρ _ _ hm => vfyQ_sp (hT ρ hm) hv hd
theorem SmR.zero {μ : LE} {K : Nat} {s : Sm} (h : μ ∈ s.2.2.2.2.1) : SmR rg μ K 0 s := by
  intro d _ ρ as h0 hm hin hb hc hf hR
  have := hf _ h
  have hm : leV ρ μ < ((0 : Nat) : Int) := hm
  omega
theorem SmR.ok {μ : LE} {K n D : Nat} {s : Sm} (H : SmR rg μ K n s) (hD : s.2.1 + K * n ≤ D) (h : leK (leSc (-1) μ) ((n : Int) - 1) ∈ s.2.2.2.2.1) : SmOK rg (moreF s D []) := by
  intro d hd ρ as h0
  intro hin hb hc hf hR
  have hm := hf _ (List.mem_append_left _ h)
  rw [leV_K, leV_sc] at hm
  exact H d (Nat.le_trans hD hd) ρ as h0 (by omega) hin hb hc (fun f h => hf f (List.mem_append_left _ h)) hR
end VFY
