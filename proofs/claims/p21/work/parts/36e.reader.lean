/-- words and signs in their order -/
noncomputable def tks (f : Int32 → Int32) (n : Nat) : Nat → Tok
  | 0 => tokN f n ⟨3, 0, 0, 0⟩
  | i + 1 => tokN f n (tks f n i)
/-- bytes of THE TAPE -/
noncomputable def BY (f : Int32 → Int32) (n : Nat) : Prop := ∀ p, p < n → 0 ≤ f (nI p) ∧ f (nI p) ≤ 255
theorem tokS_w {f : Int32 → Int32} {n p s : Nat} {beh : Prop} [Decidable beh] (b : BY f n) (hs : s ≤ n) : TkW f n (tokS f n beh p s) ∧ (tokS f n beh p s).st = s := by
  by_cases h : s < n
  · have hb := b s h
    by_cases hl : 97 ≤ f (nI s) ∧ f (nI s) ≤ 122
    · rw [tokS_let h hl]
      have k := sk_b (c := cL) (f := f) hs
      have g : s < sk cL f n s := by
        rw [sk_go h (show cL (f (nI s)) = true from decide_eq_true hl)]
        have := sk_b (c := cL) (f := f) (p := s + 1) h
        omega
      refine ⟨⟨k.1, k.2, ?_, fun _ => hb, fun q => ?_, fun _ => g⟩, rfl⟩
      · dsimp only [Tok.ty_mk, Tok.st_mk, Tok.nx_mk, Tok.val_mk, PA.i_mk, PA.due_mk, PA.S_mk, PA.ob_mk, PA.on_mk, PA.pr_mk, PA.out_mk, PB.i_mk, PB.ob_mk, PB.nt_mk, PB.pr_mk, PB.out_mk]; split
        · exact Or.inr (Or.inr (Or.inr (Or.inr rfl)))
        · exact Or.inr (Or.inl rfl)
      · dsimp only [Tok.ty_mk, Tok.st_mk, Tok.nx_mk, Tok.val_mk, PA.i_mk, PA.due_mk, PA.S_mk, PA.ob_mk, PA.on_mk, PA.pr_mk, PA.out_mk, PB.i_mk, PB.ob_mk, PB.nt_mk, PB.pr_mk, PB.out_mk] at q
        split at q <;> exact absurd q (by decide)
    · by_cases hd : 48 ≤ f (nI s) ∧ f (nI s) ≤ 57
      · rw [tokS_dig h hl hd]
        have k := sk_b (c := cD) (f := f) hs
        have g : s < sk cD f n s := by
          rw [sk_go h (show cD (f (nI s)) = true from decide_eq_true hd)]
          have := sk_b (c := cD) (f := f) (p := s + 1) h
          omega
        refine ⟨⟨k.1, k.2, ?_, fun _ => hb, fun q => ?_, fun _ => g⟩, rfl⟩
        · dsimp only [Tok.ty_mk, Tok.st_mk, Tok.nx_mk, Tok.val_mk, PA.i_mk, PA.due_mk, PA.S_mk, PA.ob_mk, PA.on_mk, PA.pr_mk, PA.out_mk, PB.i_mk, PB.ob_mk, PB.nt_mk, PB.pr_mk, PB.out_mk]; split
          · exact Or.inr (Or.inr (Or.inr (Or.inr rfl)))
          · exact Or.inr (Or.inr (Or.inl rfl))
        · dsimp only [Tok.ty_mk, Tok.st_mk, Tok.nx_mk, Tok.val_mk, PA.i_mk, PA.due_mk, PA.S_mk, PA.ob_mk, PA.on_mk, PA.pr_mk, PA.out_mk, PB.i_mk, PB.ob_mk, PB.nt_mk, PB.pr_mk, PB.out_mk] at q
          split at q <;> exact absurd q (by decide)
      · rw [tokS_sig h hl hd]
        refine ⟨⟨Nat.le_succ _, h, Or.inr (Or.inr (Or.inr (Or.inl rfl))), fun q => absurd q (by simp [Tok.ty_mk, Tok.st_mk, Tok.nx_mk, Tok.val_mk, PA.i_mk, PA.due_mk, PA.S_mk, PA.ob_mk, PA.on_mk, PA.pr_mk, PA.out_mk, PB.i_mk, PB.ob_mk, PB.nt_mk, PB.pr_mk, PB.out_mk]), fun _ => ?_, fun _ => Nat.lt_succ_self _⟩, rfl⟩
        obtain ⟨h0, h1⟩ := hb
        rw [Int32.le_iff_toInt_le] at h0 h1
        exact ⟨h0, h1⟩
  · rw [tokS_end h]
    exact ⟨⟨Nat.le_refl _, hs, Or.inl rfl, fun q => absurd q (by simp [Tok.ty_mk, Tok.st_mk, Tok.nx_mk, Tok.val_mk, PA.i_mk, PA.due_mk, PA.S_mk, PA.ob_mk, PA.on_mk, PA.pr_mk, PA.out_mk, PB.i_mk, PB.ob_mk, PB.nt_mk, PB.pr_mk, PB.out_mk]), fun q => absurd q (by simp [Tok.ty_mk, Tok.st_mk, Tok.nx_mk, Tok.val_mk, PA.i_mk, PA.due_mk, PA.S_mk, PA.ob_mk, PA.on_mk, PA.pr_mk, PA.out_mk, PB.i_mk, PB.ob_mk, PB.nt_mk, PB.pr_mk, PB.out_mk]), fun q => absurd rfl q⟩, rfl⟩
theorem tokN_w {f : Int32 → Int32} {n : Nat} {t : Tok} (b : BY f n) (h : t.nx ≤ n) : TkW f n (tokN f n t) ∧ t.nx ≤ (tokN f n t).st := by
  have k := sk_b (c := cB) (f := f) h
  have w := tokS_w (f := f) (n := n) (beh := t.ty = 1 ∨ t.ty = 2) (p := t.nx) b k.2
  exact ⟨w.1, by show t.nx ≤ (tokS f n (t.ty = 1 ∨ t.ty = 2) t.nx (sk cB f n t.nx)).st; rw [w.2]; exact k.1⟩
theorem tks_w {f : Int32 → Int32} {n : Nat} (b : BY f n) : ∀ i, TkW f n (tks f n i)
  | 0 => (tokN_w b (Nat.zero_le _)).1
  | i + 1 => (tokN_w b (tks_w b i).w2).1
theorem tks_nx {f : Int32 → Int32} {n : Nat} (b : BY f n) (i : Nat) : (tks f n i).nx ≤ (tks f n (i + 1)).st := (tokN_w b (tks_w b i).w2).2
noncomputable def frA (h h' : Hp) : Prop := (∀ o (j : Int32), ¬ (o = 55 ∨ o = 56 ∨ o = 57 ∨ o = 58 ∨ o = 59) → h'.1 o j = h.1 o j) ∧ h'.2 = h.2
theorem frA_rf {h : Hp} : frA h h := ⟨fun _ _ _ => rfl, rfl⟩
theorem frA.tr {h h1 h2 : Hp} (a : frA h h1) (b : frA h1 h2) : frA h h2 := ⟨fun o j q => (b.1 o j q).trans (a.1 o j q), b.2.trans a.2⟩
theorem frA.st {h h1 : Hp} {j v : Int32} (f : frA h h1) : frA h (hI h1 55 j v) := ⟨fun o k q => (hI_ne (fun e => q (Or.inl e))).trans (f.1 o k q), f.2⟩
theorem frT.a {h h1 : Hp} (f : frT h h1) : frA h h1 := ⟨fun o j q => f.1 o j (fun r => q (Or.inl r.1)), f.2⟩
theorem frRd.a {J : List Int32} {h h1 : Hp} (f : frRd J h h1) : frA h h1 := ⟨fun o j q => f.1 o j (fun r => q (by
  rcases r with r | r | r | r | r
  · exact Or.inr (Or.inl r.1)
  · exact Or.inr (Or.inr (Or.inl r))
  · exact Or.inr (Or.inr (Or.inr (Or.inl r.1)))
  · exact Or.inr (Or.inr (Or.inr (Or.inr r)))
  · exact Or.inl r.1)), f.2⟩
/-- where the class's reader stands at its loop -/
noncomputable abbrev LHd (h0 h : Hp) (f : Int32 → Int32) (n key : Nat) (a : PA) (k : Nat) : Prop := (RdA h a) ∧ (TkA h (tks f n a.i)) ∧ (h.1 55 3 = nI key) ∧ (TP h n) ∧ (h.1 54 = f) ∧ (a.i = k + 1) ∧ (a.S.length + a.out.length ≤ k) ∧ (a.pr ≤ k) ∧ (k ≤ (tks f n a.i).st) ∧ (frA h0 h)
theorem LHd.r {h0 h : Hp} {f : Int32 → Int32} {n key : Nat} {a : PA} {k : Nat} (self_ : LHd h0 h f n key a k) : RdA h a := self_.1
theorem LHd.tk {h0 h : Hp} {f : Int32 → Int32} {n key : Nat} {a : PA} {k : Nat} (self_ : LHd h0 h f n key a k) : TkA h (tks f n a.i) := self_.2.1
theorem LHd.ek {h0 h : Hp} {f : Int32 → Int32} {n key : Nat} {a : PA} {k : Nat} (self_ : LHd h0 h f n key a k) : h.1 55 3 = nI key := self_.2.2.1
theorem LHd.tp {h0 h : Hp} {f : Int32 → Int32} {n key : Nat} {a : PA} {k : Nat} (self_ : LHd h0 h f n key a k) : TP h n := self_.2.2.2.1
theorem LHd.ef {h0 h : Hp} {f : Int32 → Int32} {n key : Nat} {a : PA} {k : Nat} (self_ : LHd h0 h f n key a k) : h.1 54 = f := self_.2.2.2.2.1
theorem LHd.ai {h0 h : Hp} {f : Int32 → Int32} {n key : Nat} {a : PA} {k : Nat} (self_ : LHd h0 h f n key a k) : a.i = k + 1 := self_.2.2.2.2.2.1
theorem LHd.ln {h0 h : Hp} {f : Int32 → Int32} {n key : Nat} {a : PA} {k : Nat} (self_ : LHd h0 h f n key a k) : a.S.length + a.out.length ≤ k := self_.2.2.2.2.2.2.1
theorem LHd.pr {h0 h : Hp} {f : Int32 → Int32} {n key : Nat} {a : PA} {k : Nat} (self_ : LHd h0 h f n key a k) : a.pr ≤ k := self_.2.2.2.2.2.2.2.1
theorem LHd.ks {h0 h : Hp} {f : Int32 → Int32} {n key : Nat} {a : PA} {k : Nat} (self_ : LHd h0 h f n key a k) : k ≤ (tks f n a.i).st := self_.2.2.2.2.2.2.2.2.1
theorem LHd.fr {h0 h : Hp} {f : Int32 → Int32} {n key : Nat} {a : PA} {k : Nat} (self_ : LHd h0 h f n key a k) : frA h0 h := self_.2.2.2.2.2.2.2.2.2
theorem endN_len {S : List Int} : ∀ {o : Nat} {out : List Int}, (endN o S out).2.1.length + (endN o S out).2.2.length = S.length + out.length := by
  induction S with
  | nil => intro o out; rw [endN_st (by decide)]
  | cons b T ih =>
    intro o out
    by_cases hb : b = 33
    · subst hb
      cases o with
      | zero => rw [endN_0 rfl]
      | succ o =>
        have := ih (o := o) (out := sg 33 :: out)
        show (endN o T (sg 33 :: out)).2.1.length + (endN o T (sg 33 :: out)).2.2.length = _
        rw [this]
        simp only [Tok.ty_mk, Tok.st_mk, Tok.nx_mk, Tok.val_mk, PA.i_mk, PA.due_mk, PA.S_mk, PA.ob_mk, PA.on_mk, PA.pr_mk, PA.out_mk, PB.i_mk, PB.ob_mk, PB.nt_mk, PB.pr_mk, PB.out_mk, List.length_cons]
        omega
    · rw [endN_st (S := b :: T) hb]
/-- a step lays at most one sign or step more -/
theorem stA_len {tk : Tk} {a b : PA} (h : stA tk a = some b) : b.i = a.i + 1 ∧ b.S.length + b.out.length ≤ a.S.length + a.out.length + 1 ∧ b.pr ≤ a.pr + 1 := by
  unfold stA stepA at h
  split at h
  · cases h
    have := endN_len (S := a.S) (o := a.on) (out := (by assumption : Int) :: a.out)
    refine ⟨rfl, ?_, Nat.le_refl _⟩
    dsimp only [Tok.ty_mk, Tok.st_mk, Tok.nx_mk, Tok.val_mk, PA.i_mk, PA.due_mk, PA.S_mk, PA.ob_mk, PA.on_mk, PA.pr_mk, PA.out_mk, PB.i_mk, PB.ob_mk, PB.nt_mk, PB.pr_mk, PB.out_mk]
    rw [endN_len]
    simp only [Tok.ty_mk, Tok.st_mk, Tok.nx_mk, Tok.val_mk, PA.i_mk, PA.due_mk, PA.S_mk, PA.ob_mk, PA.on_mk, PA.pr_mk, PA.out_mk, PB.i_mk, PB.ob_mk, PB.nt_mk, PB.pr_mk, PB.out_mk, List.length_cons]
    omega
  · split at h
    · cases h
      refine ⟨rfl, ?_, Nat.le_succ _⟩
      simp only [Tok.ty_mk, Tok.st_mk, Tok.nx_mk, Tok.val_mk, PA.i_mk, PA.due_mk, PA.S_mk, PA.ob_mk, PA.on_mk, PA.pr_mk, PA.out_mk, PB.i_mk, PB.ob_mk, PB.nt_mk, PB.pr_mk, PB.out_mk, List.length_cons]
      omega
    · cases h
  · split at h
    · cases h
      refine ⟨rfl, ?_, Nat.le_succ _⟩
      simp only [Tok.ty_mk, Tok.st_mk, Tok.nx_mk, Tok.val_mk, PA.i_mk, PA.due_mk, PA.S_mk, PA.ob_mk, PA.on_mk, PA.pr_mk, PA.out_mk, PB.i_mk, PB.ob_mk, PB.nt_mk, PB.pr_mk, PB.out_mk, List.length_cons]
      omega
    · cases h
  · split at h
    · cases h
    · cases h
      refine ⟨rfl, ?_, Nat.le_succ _⟩
      dsimp only [Tok.ty_mk, Tok.st_mk, Tok.nx_mk, Tok.val_mk, PA.i_mk, PA.due_mk, PA.S_mk, PA.ob_mk, PA.on_mk, PA.pr_mk, PA.out_mk, PB.i_mk, PB.ob_mk, PB.nt_mk, PB.pr_mk, PB.out_mk]
      rw [endN_len]
      have := settle_len (L := 1) (S := a.S) (out := a.out)
      simp only [Tok.ty_mk, Tok.st_mk, Tok.nx_mk, Tok.val_mk, PA.i_mk, PA.due_mk, PA.S_mk, PA.ob_mk, PA.on_mk, PA.pr_mk, PA.out_mk, PB.i_mk, PB.ob_mk, PB.nt_mk, PB.pr_mk, PB.out_mk, List.length_tail]
      omega
  · dsimp only [Tok.ty_mk, Tok.st_mk, Tok.nx_mk, Tok.val_mk, PA.i_mk, PA.due_mk, PA.S_mk, PA.ob_mk, PA.on_mk, PA.pr_mk, PA.out_mk, PB.i_mk, PB.ob_mk, PB.nt_mk, PB.pr_mk, PB.out_mk] at h
    split at h
    · split at h
      · cases h
      · cases h
        refine ⟨rfl, ?_, Nat.le_succ _⟩
        simp only [Tok.ty_mk, Tok.st_mk, Tok.nx_mk, Tok.val_mk, PA.i_mk, PA.due_mk, PA.S_mk, PA.ob_mk, PA.on_mk, PA.pr_mk, PA.out_mk, PB.i_mk, PB.ob_mk, PB.nt_mk, PB.pr_mk, PB.out_mk, List.length_cons]
        rw [Nat.add_right_comm, settle_len]
        omega
    · split at h
      · cases h
      · cases h
        refine ⟨rfl, ?_, Nat.le_succ _⟩
        simp only [Tok.ty_mk, Tok.st_mk, Tok.nx_mk, Tok.val_mk, PA.i_mk, PA.due_mk, PA.S_mk, PA.ob_mk, PA.on_mk, PA.pr_mk, PA.out_mk, PB.i_mk, PB.ob_mk, PB.nt_mk, PB.pr_mk, PB.out_mk, List.length_cons]
        rw [Nat.add_right_comm, settle_len]
        omega
  · cases h
theorem tks_f {f : Int32 → Int32} {key : Nat} {t : Tok} (h : cat f key t = .fin) : t.ty = 0 := by
  apply Decidable.not_not.mp
  intro h0
  unfold cat at h
  rw [if_neg h0] at h
  split at h
  · split at h <;> cases h
  · split at h
    · split at h <;> cases h
    · split at h
      · split at h
        · cases h
        · split at h
          · cases h
          · split at h
            · cases h
            · split at h <;> cases h
      · cases h
theorem eqA {tk : Tk} {a b c : PA} (h : stA tk a = some b) (k : stA tk a = some c) : b = c := Option.some.inj (h.symm.trans k)
section LHD
variable {h0 h h1 h2 : Hp} {f : Int32 → Int32} {n key k : Nat} {a b : PA}
theorem LHd.d1 (H : LHd h0 h f n key a k) (q : ¬ h.1 55 9 = 0) : a.due = true := by
  cases e : a.due with
  | true => rfl
  | false => exact absurd (by rw [H.r.du, e]; rfl) q
theorem LHd.d0 (H : LHd h0 h f n key a k) (q : h.1 55 9 = 0) : a.due = false := by
  cases e : a.due with
  | false => rfl
  | true =>
    rw [H.r.du, e] at q
    exact absurd q (by decide)
theorem LHd.st (H : LHd h0 h f n key a k) (b : BY f n) (nf : cat f key (tks f n a.i) ≠ .fin) : k < n ∧ (tks f n a.i).ty ≠ 0 := by
  have w := tks_w b a.i
  have t0 : (tks f n a.i).ty ≠ 0 := fun q => nf (cat_0 q)
  have := w.w6 t0
  have := w.w2
  have := H.ks
  exact ⟨by omega, t0⟩
theorem LHd.l96 (H : LHd h0 h f n key a k) (b : BY f n) (nf : cat f key (tks f n a.i) ≠ .fin) : a.S.length + a.out.length < 96 := by
  have := (H.st b nf).1
  have := H.tp.hn
  have := H.ln
  omega
theorem LHd.p96 (H : LHd h0 h f n key a k) (b : BY f n) (nf : cat f key (tks f n a.i) ≠ .fin) : a.pr < 96 := by
  have := (H.st b nf).1
  have := H.tp.hn
  have := H.pr
  omega
theorem LHd.dead {P : Prop} (H : LHd h0 h f n key a k) (b : BY f n) (nf : cat f key (tks f n a.i) ≠ .fin) (q : 96 ≤ nI k ∨ h.1 55 7 = 0) : P := by
  have s := H.st b nf
  have := H.tp.hn
  rcases q with q | q
  · have := (tx_le (a := 96) (by decide) (by omega)).mp q
    omega
  · exact absurd (H.tk.2.2.1.symm.trans q) s.2
theorem LHd.tpx (H : LHd h0 h f n key a k) (f1 : frRd [4, 9, 10, 11] h h1) : TP h1 n := ⟨H.tp.hn, (f1.a.1 53 1 (by decide)).trans H.tp.en⟩
theorem LHd.ef1 (H : LHd h0 h f n key a k) (f1 : frRd [4, 9, 10, 11] h h1) : h1.1 54 = f := (funext fun j => f1.a.1 54 j (by decide)).trans H.ef
theorem LHd.nbx (H : LHd h0 h f n key a k) (b : BY f n) (f1 : frRd [4, 9, 10, 11] h h1) : NB h1 n := fun p hp => by rw [H.ef1 f1]; exact (b p hp).1
theorem LHd.tkx (H : LHd h0 h f n key a k) (f1 : frRd [4, 9, 10, 11] h h1) : TkA h1 (tks f n a.i) := ⟨(f1.at55 (by decide)).trans H.tk.1, (f1.at55 (by decide)).trans H.tk.2.1, (f1.at55 (by decide)).trans H.tk.2.2.1, fun q => (f1.at55 (by decide)).trans (H.tk.2.2.2 q)⟩
theorem RdA.t {a : PA} (r : RdA h a) (f1 : frT h h1) : RdA h1 a := ⟨r.g.cg (f1.1 _ _ (by decide)) (fun j => f1.1 _ _ (by simp [Tok.ty_mk, Tok.st_mk, Tok.nx_mk, Tok.val_mk, PA.i_mk, PA.due_mk, PA.S_mk, PA.ob_mk, PA.on_mk, PA.pr_mk, PA.out_mk, PB.i_mk, PB.ob_mk, PB.nt_mk, PB.pr_mk, PB.out_mk])) (f1.1 _ _ (by decide)) (fun j => f1.1 _ _ (by simp [Tok.ty_mk, Tok.st_mk, Tok.nx_mk, Tok.val_mk, PA.i_mk, PA.due_mk, PA.S_mk, PA.ob_mk, PA.on_mk, PA.pr_mk, PA.out_mk, PB.i_mk, PB.ob_mk, PB.nt_mk, PB.pr_mk, PB.out_mk])), r.sb, (f1.1 _ _ (by decide)).trans r.du, (f1.1 _ _ (by decide)).trans r.ob, (f1.1 _ _ (by decide)).trans r.on, (f1.1 _ _ (by decide)).trans r.pr, r.b1, r.b2, r.b3⟩
theorem LHd.nxt (H : LHd h0 h f n key a k) (by_ : BY f n) (nf : cat f key (tks f n a.i) ≠ .fin) (hs : stA (cat f key (tks f n a.i)) a = some b) (f1 : frRd [4, 9, 10, 11] h h1) (r1 : RdA h1 b) (f2 : frT h1 h2) (t2 : TkA h2 (tokN (h1.1 54) n (tks f n a.i))) : LHd h0 h2 f n key b (k + 1) := by
  obtain ⟨l1, l2, l3⟩ := stA_len hs
  have s := H.st by_ nf
  have ef := H.ef1 f1
  rw [ef] at t2
  have w := tks_w by_ a.i
  have := H.ln
  have := H.pr
  have := H.ks
  have := w.w6 s.2
  have := tks_nx by_ a.i
  refine ⟨r1.t f2, by rw [l1]; exact t2, ?_, ⟨H.tp.hn, ?_⟩, ?_, by rw [l1, H.ai], by omega, by omega, by rw [l1]; omega, (H.fr.tr f1.a).tr f2.a⟩
  · exact (f2.1 _ _ (by decide)).trans ((f1.at55 (by decide)).trans H.ek)
  · exact (f2.1 _ _ (by decide)).trans (H.tpx f1).en
  · exact (funext fun j => f2.1 54 j (by simp [Tok.ty_mk, Tok.st_mk, Tok.nx_mk, Tok.val_mk, PA.i_mk, PA.due_mk, PA.S_mk, PA.ob_mk, PA.on_mk, PA.pr_mk, PA.out_mk, PB.i_mk, PB.ob_mk, PB.nt_mk, PB.pr_mk, PB.out_mk])).trans ef
end LHD
theorem c_clear56 {d : Nat} {Q : Option Value → Hp → Prop} {h : Hp} (k : Q none (hI h 56 1 0)) : Call (d + 1) 22 [.ref 56] h Q := by
  refine call_of (rfl : psM[22]? = some _) rfl rfl (rcvV rfl) (fun X hX => ?_)
  show X (0, [some (.ref 56)], [], h)
  refine go hX 3 (gs := [True, True, True]) (z' := (5, [some (.ref 56)], [], (hI h 56 1 0))) rfl ⟨trivial, trivial, trivial, trivial⟩ ?_
  refine rt_ hX (G := True) (r := none) rfl trivial ?_
  exact k
theorem c_clear58 {d : Nat} {Q : Option Value → Hp → Prop} {h : Hp} (k : Q none (hI h 58 1 0)) : Call (d + 1) 22 [.ref 58] h Q := by
  refine call_of (rfl : psM[22]? = some _) rfl rfl (rcvV rfl) (fun X hX => ?_)
  show X (0, [some (.ref 58)], [], h)
  refine go hX 3 (gs := [True, True, True]) (z' := (5, [some (.ref 58)], [], (hI h 58 1 0))) rfl ⟨trivial, trivial, trivial, trivial⟩ ?_
  refine rt_ hX (G := True) (r := none) rfl trivial ?_
  exact k
theorem c_anew {d : Nat} {Q : Option Value → Hp → Prop} {h : Hp} (k : Q none (hI (hI (hI (hI (hI (hI (hI (hI h 56 1 0) 58 1 0) 55 4 0) 55 6 0) 55 7 3) 55 9 1) 55 10 0) 55 11 0)) : Call (d + 2) 29 [.ref 55] h Q := by
  refine call_of (rfl : psM[29]? = some _) rfl rfl (rcvV rfl) (fun X hX => ?_)
  show X (0, [some (.ref 55)], [], h)
  refine go hX 2 (gs := [True, True]) (z' := (4, [some (.ref 55)], [.ref 56], h)) rfl ⟨trivial, trivial, trivial⟩ ?_
  refine cl hX 22 1 [.ref 56] [] rfl rfl rfl rfl ?_
  refine c_clear56 ?_
  show X (7, [some (.ref 55)], [], (hI h 56 1 0))
  refine go hX 2 (gs := [True, True]) (z' := (11, [some (.ref 55)], [.ref 58], (hI h 56 1 0))) rfl ⟨trivial, trivial, trivial⟩ ?_
  refine cl hX 22 1 [.ref 58] [] rfl rfl rfl rfl ?_
  refine c_clear58 ?_
  show X (14, [some (.ref 55)], [], (hI (hI h 56 1 0) 58 1 0))
  refine go hX 18 (gs := [True, True, True, True, True, True, isB 1, True, True, True, True, True, True, True, True, True, True, True]) (z' := (44, [some (.ref 55)], [], (hI (hI (hI (hI (hI (hI (hI (hI h 56 1 0) 58 1 0) 55 4 0) 55 6 0) 55 7 3) 55 9 1) 55 10 0) 55 11 0))) rfl ⟨trivial, trivial, trivial, trivial, trivial, trivial, ?_, trivial, trivial, trivial, trivial, trivial, trivial, trivial, trivial, trivial, trivial, trivial, trivial⟩ ?_
  · exact isB1
  refine rt_ hX (G := True) (r := none) rfl trivial ?_
  exact k
theorem anew_r {h : Hp} : RdA (hI (hI (hI (hI (hI (hI (hI (hI h 56 1 0) 58 1 0) 55 4 0) 55 6 0) 55 7 3) 55 9 1) 55 10 0) 55 11 0) ⟨1, true, [], 0, 0, 0, []⟩ := ⟨⟨by simp [Tok.ty_mk, Tok.st_mk, Tok.nx_mk, Tok.val_mk, PA.i_mk, PA.due_mk, PA.S_mk, PA.ob_mk, PA.on_mk, PA.pr_mk, PA.out_mk, PB.i_mk, PB.ob_mk, PB.nt_mk, PB.pr_mk, PB.out_mk, hI]; rfl, trivial, by simp [Tok.ty_mk, Tok.st_mk, Tok.nx_mk, Tok.val_mk, PA.i_mk, PA.due_mk, PA.S_mk, PA.ob_mk, PA.on_mk, PA.pr_mk, PA.out_mk, PB.i_mk, PB.ob_mk, PB.nt_mk, PB.pr_mk, PB.out_mk, hI]; rfl, trivial, Nat.zero_le _⟩, (fun x hx => by cases hx), by simp [Tok.ty_mk, Tok.st_mk, Tok.nx_mk, Tok.val_mk, PA.i_mk, PA.due_mk, PA.S_mk, PA.ob_mk, PA.on_mk, PA.pr_mk, PA.out_mk, PB.i_mk, PB.ob_mk, PB.nt_mk, PB.pr_mk, PB.out_mk, hI], by simp [Tok.ty_mk, Tok.st_mk, Tok.nx_mk, Tok.val_mk, PA.i_mk, PA.due_mk, PA.S_mk, PA.ob_mk, PA.on_mk, PA.pr_mk, PA.out_mk, PB.i_mk, PB.ob_mk, PB.nt_mk, PB.pr_mk, PB.out_mk, hI]; rfl, by simp [Tok.ty_mk, Tok.st_mk, Tok.nx_mk, Tok.val_mk, PA.i_mk, PA.due_mk, PA.S_mk, PA.ob_mk, PA.on_mk, PA.pr_mk, PA.out_mk, PB.i_mk, PB.ob_mk, PB.nt_mk, PB.pr_mk, PB.out_mk, hI]; rfl, by simp [Tok.ty_mk, Tok.st_mk, Tok.nx_mk, Tok.val_mk, PA.i_mk, PA.due_mk, PA.S_mk, PA.ob_mk, PA.on_mk, PA.pr_mk, PA.out_mk, PB.i_mk, PB.ob_mk, PB.nt_mk, PB.pr_mk, PB.out_mk, hI]; rfl, Nat.zero_le _, Nat.zero_le _, Nat.zero_le _⟩
theorem anew_f {h : Hp} : frA h (hI (hI (hI (hI (hI (hI (hI (hI h 56 1 0) 58 1 0) 55 4 0) 55 6 0) 55 7 3) 55 9 1) 55 10 0) 55 11 0) := by
  refine ⟨fun o j q => ?_, rfl⟩
  have q1 : o ≠ 55 := fun e => q (Or.inl e)
  have q2 : o ≠ 56 := fun e => q (Or.inr (Or.inl e))
  have q3 : o ≠ 58 := fun e => q (Or.inr (Or.inr (Or.inr (Or.inl e))))
  rw [hI_ne q1, hI_ne q1, hI_ne q1, hI_ne q1, hI_ne q1, hI_ne q1, hI_ne q3, hI_ne q2]
theorem ra_step {d : Nat} {Q : Option Value → Hp → Prop} {X : Cf → Prop} (hX : Clo (Call (d + 5)) cd27 (some .int) Q X) {h0 h : Hp} {f : Int32 → Int32} {n key k : Nat} {a : PA} {l2 : Option Value} (hl : l2 = none ∨ ∃ x, l2 = some (.int x)) (H : LHd h0 h f n key a k) (by_ : BY f n) (hkey : key ≤ 5) {b : PA} (nf : cat f key (tks f n a.i) ≠ .fin) (hs : stA (cat f key (tks f n a.i)) a = some b) (K : ∀ h', LHd h0 h' f n key b (k + 1) → X (36, [some (.ref 55), some (.int (nI (k + 1))), some (.int 1)], [], h')) : X (36, [some (.ref 55), some (.int (nI k)), l2], [], h) := by
  rcases hl with rfl | ⟨x, rfl⟩
  ·
    refine go hX 3 (gs := [True, True, True]) (z' := (if 96 ≤ (nI k) then 87 else 42, [some (.ref 55), some (.int (nI k)), none], [], h)) rfl ⟨trivial, trivial, trivial, trivial⟩ ?_
    refine br (fun b1 => ?_) (fun b1 => ?_)
    ·
      refine go hX 3 (gs := [True, True, True]) (z' := (if (h.1 55 9) = 0 then 94 else 101, [some (.ref 55), some (.int (nI k)), none], [], h)) rfl ⟨trivial, trivial, trivial, trivial⟩ ?_
      refine br (fun b2 => ?_) (fun b2 => ?_)
      ·
        refine go hX 3 (gs := [True, True, True]) (z' := (if (h.1 55 10) ≤ 0 then 106 else 101, [some (.ref 55), some (.int (nI k)), none], [], h)) rfl ⟨trivial, trivial, trivial, trivial⟩ ?_
        refine br (fun b3 => ?_) (fun b3 => ?_)
        ·
          refine go hX 2 (gs := [True, True]) (z' := (108, [some (.ref 55), some (.int (nI k)), none], [.int 1, .ref 55], h)) rfl ⟨trivial, trivial, trivial⟩ ?_
          refine cl hX 46 2 [.ref 55, .int 1] [] rfl rfl rfl rfl ?_
          exact H.dead by_ nf (Or.inl b1)
        ·
          refine go hX 2 (gs := [True, True]) (z' := (105, [some (.ref 55), some (.int (nI k)), none], [.int (h.1 55 5)], h)) rfl ⟨trivial, trivial, trivial⟩ ?_
          refine rt_ hX (G := True) (r := some (.int (h.1 55 5))) rfl trivial ?_
          exact H.dead by_ nf (Or.inl b1)
      ·
        refine go hX 2 (gs := [True, True]) (z' := (105, [some (.ref 55), some (.int (nI k)), none], [.int (h.1 55 5)], h)) rfl ⟨trivial, trivial, trivial⟩ ?_
        refine rt_ hX (G := True) (r := some (.int (h.1 55 5))) rfl trivial ?_
        exact H.dead by_ nf (Or.inl b1)
    ·
      refine go hX 3 (gs := [True, True, True]) (z' := (if (h.1 55 7) = 0 then 87 else 49, [some (.ref 55), some (.int (nI k)), none], [], h)) rfl ⟨trivial, trivial, trivial, trivial⟩ ?_
      refine br (fun b4 => ?_) (fun b4 => ?_)
      ·
        refine go hX 3 (gs := [True, True, True]) (z' := (if (h.1 55 9) = 0 then 94 else 101, [some (.ref 55), some (.int (nI k)), none], [], h)) rfl ⟨trivial, trivial, trivial, trivial⟩ ?_
        refine br (fun b5 => ?_) (fun b5 => ?_)
        ·
          refine go hX 3 (gs := [True, True, True]) (z' := (if (h.1 55 10) ≤ 0 then 106 else 101, [some (.ref 55), some (.int (nI k)), none], [], h)) rfl ⟨trivial, trivial, trivial, trivial⟩ ?_
          refine br (fun b6 => ?_) (fun b6 => ?_)
          ·
            refine go hX 2 (gs := [True, True]) (z' := (108, [some (.ref 55), some (.int (nI k)), none], [.int 1, .ref 55], h)) rfl ⟨trivial, trivial, trivial⟩ ?_
            refine cl hX 46 2 [.ref 55, .int 1] [] rfl rfl rfl rfl ?_
            exact H.dead by_ nf (Or.inr b4)
          ·
            refine go hX 2 (gs := [True, True]) (z' := (105, [some (.ref 55), some (.int (nI k)), none], [.int (h.1 55 5)], h)) rfl ⟨trivial, trivial, trivial⟩ ?_
            refine rt_ hX (G := True) (r := some (.int (h.1 55 5))) rfl trivial ?_
            exact H.dead by_ nf (Or.inr b4)
        ·
          refine go hX 2 (gs := [True, True]) (z' := (105, [some (.ref 55), some (.int (nI k)), none], [.int (h.1 55 5)], h)) rfl ⟨trivial, trivial, trivial⟩ ?_
          refine rt_ hX (G := True) (r := some (.int (h.1 55 5))) rfl trivial ?_
          exact H.dead by_ nf (Or.inr b4)
      ·
        refine go hX 3 (gs := [True, True, True]) (z' := (if (h.1 55 9) = 0 then 63 else 56, [some (.ref 55), some (.int (nI k)), none], [], h)) rfl ⟨trivial, trivial, trivial, trivial⟩ ?_
        refine br (fun b7 => ?_) (fun b7 => ?_)
        ·
          refine go hX 1 (gs := [True]) (z' := (64, [some (.ref 55), some (.int (nI k)), none], [.ref 55], h)) rfl ⟨trivial, trivial⟩ ?_
          refine cl hX 43 1 [.ref 55] [] rfl rfl rfl rfl ?_
          refine c_readSign (key := key) H.tp H.r (H.d0 b7) H.tk (by rw [H.ef]; exact tks_w by_ _) (H.l96 by_ nf) (fun a' h1 e f1 r1 => ?_) (fun e h1 f1 => ?_)
          ·
            show X (67, [some (.ref 55), some (.int (nI k)), none], [.int 1], h1)
            refine go hX 4 (gs := [True, True, True, True]) (z' := (78, [some (.ref 55), some (.int (nI k)), some (.int 1)], [.ref 55], h1)) rfl ⟨trivial, trivial, trivial, trivial, trivial⟩ ?_
            refine cl hX 30 1 [.ref 55] [] rfl rfl rfl rfl ?_
            have e := eqA (H.ef ▸ e) hs; subst e; refine c_goOn (H.tpx f1) (H.nbx by_ f1) (H.tkx f1).2.1 (H.tkx f1).2.2.1 (tks_w by_ _).w2 (fun h2 f2 t2 => ?_)
            show X (81, [some (.ref 55), some (.int (nI k)), some (.int 1)], [], h2)
            refine go hX 2 (gs := [True, True]) (z' := (36, [some (.ref 55), some (.int ((nI k) + 1)), some (.int 1)], [], h2)) rfl ⟨trivial, trivial, trivial⟩ ?_
            rw [tx_1]
            exact K h2 (H.nxt by_ nf hs f1 r1 f2 t2)
          ·
            show X (67, [some (.ref 55), some (.int (nI k)), none], [.int 0], h1)
            refine go hX 5 (gs := [True, True, True, True, True]) (z' := (76, [some (.ref 55), some (.int (nI k)), some (.int 0)], [.int (h1.1 55 5)], h1)) rfl ⟨trivial, trivial, trivial, trivial, trivial, trivial⟩ ?_
            refine rt_ hX (G := True) (r := some (.int (h1.1 55 5))) rfl trivial ?_
            exact absurd (hs.symm.trans (H.ef ▸ e)) (by simp [Tok.ty_mk, Tok.st_mk, Tok.nx_mk, Tok.val_mk, PA.i_mk, PA.due_mk, PA.S_mk, PA.ob_mk, PA.on_mk, PA.pr_mk, PA.out_mk, PB.i_mk, PB.ob_mk, PB.nt_mk, PB.pr_mk, PB.out_mk])
        ·
          refine go hX 1 (gs := [True]) (z' := (57, [some (.ref 55), some (.int (nI k)), none], [.ref 55], h)) rfl ⟨trivial, trivial⟩ ?_
          refine cl hX 39 1 [.ref 55] [] rfl rfl rfl rfl ?_
          refine c_readPart H.tp H.r (H.d1 b7) H.tk (by rw [H.ef]; exact tks_w by_ _) (H.l96 by_ nf) H.ek hkey (by have := H.p96 by_ nf; omega) (fun a' h1 e f1 r1 => ?_) (fun e => ?_)
          ·
            show X (60, [some (.ref 55), some (.int (nI k)), none], [.int 1], h1)
            refine go hX 5 (gs := [True, True, True, True, True]) (z' := (78, [some (.ref 55), some (.int (nI k)), some (.int 1)], [.ref 55], h1)) rfl ⟨trivial, trivial, trivial, trivial, trivial, trivial⟩ ?_
            refine cl hX 30 1 [.ref 55] [] rfl rfl rfl rfl ?_
            have e := eqA (H.ef ▸ e) hs; subst e; refine c_goOn (H.tpx f1) (H.nbx by_ f1) (H.tkx f1).2.1 (H.tkx f1).2.2.1 (tks_w by_ _).w2 (fun h2 f2 t2 => ?_)
            show X (81, [some (.ref 55), some (.int (nI k)), some (.int 1)], [], h2)
            refine go hX 2 (gs := [True, True]) (z' := (36, [some (.ref 55), some (.int ((nI k) + 1)), some (.int 1)], [], h2)) rfl ⟨trivial, trivial, trivial⟩ ?_
            rw [tx_1]
            exact K h2 (H.nxt by_ nf hs f1 r1 f2 t2)
          ·
            show X (60, [some (.ref 55), some (.int (nI k)), none], [.int 0], h)
            refine go hX 6 (gs := [True, True, True, True, True, True]) (z' := (76, [some (.ref 55), some (.int (nI k)), some (.int 0)], [.int (h.1 55 5)], h)) rfl ⟨trivial, trivial, trivial, trivial, trivial, trivial, trivial⟩ ?_
            refine rt_ hX (G := True) (r := some (.int (h.1 55 5))) rfl trivial ?_
            exact absurd (hs.symm.trans (H.ef ▸ e)) (by simp [Tok.ty_mk, Tok.st_mk, Tok.nx_mk, Tok.val_mk, PA.i_mk, PA.due_mk, PA.S_mk, PA.ob_mk, PA.on_mk, PA.pr_mk, PA.out_mk, PB.i_mk, PB.ob_mk, PB.nt_mk, PB.pr_mk, PB.out_mk])
  ·
    refine go hX 3 (gs := [True, True, True]) (z' := (if 96 ≤ (nI k) then 87 else 42, [some (.ref 55), some (.int (nI k)), some (.int x)], [], h)) rfl ⟨trivial, trivial, trivial, trivial⟩ ?_
    refine br (fun b1 => ?_) (fun b1 => ?_)
    ·
      refine go hX 3 (gs := [True, True, True]) (z' := (if (h.1 55 9) = 0 then 94 else 101, [some (.ref 55), some (.int (nI k)), some (.int x)], [], h)) rfl ⟨trivial, trivial, trivial, trivial⟩ ?_
      refine br (fun b2 => ?_) (fun b2 => ?_)
      ·
        refine go hX 3 (gs := [True, True, True]) (z' := (if (h.1 55 10) ≤ 0 then 106 else 101, [some (.ref 55), some (.int (nI k)), some (.int x)], [], h)) rfl ⟨trivial, trivial, trivial, trivial⟩ ?_
        refine br (fun b3 => ?_) (fun b3 => ?_)
        ·
          refine go hX 2 (gs := [True, True]) (z' := (108, [some (.ref 55), some (.int (nI k)), some (.int x)], [.int 1, .ref 55], h)) rfl ⟨trivial, trivial, trivial⟩ ?_
          refine cl hX 46 2 [.ref 55, .int 1] [] rfl rfl rfl rfl ?_
          exact H.dead by_ nf (Or.inl b1)
        ·
          refine go hX 2 (gs := [True, True]) (z' := (105, [some (.ref 55), some (.int (nI k)), some (.int x)], [.int (h.1 55 5)], h)) rfl ⟨trivial, trivial, trivial⟩ ?_
          refine rt_ hX (G := True) (r := some (.int (h.1 55 5))) rfl trivial ?_
          exact H.dead by_ nf (Or.inl b1)
      ·
        refine go hX 2 (gs := [True, True]) (z' := (105, [some (.ref 55), some (.int (nI k)), some (.int x)], [.int (h.1 55 5)], h)) rfl ⟨trivial, trivial, trivial⟩ ?_
        refine rt_ hX (G := True) (r := some (.int (h.1 55 5))) rfl trivial ?_
        exact H.dead by_ nf (Or.inl b1)
    ·
      refine go hX 3 (gs := [True, True, True]) (z' := (if (h.1 55 7) = 0 then 87 else 49, [some (.ref 55), some (.int (nI k)), some (.int x)], [], h)) rfl ⟨trivial, trivial, trivial, trivial⟩ ?_
      refine br (fun b4 => ?_) (fun b4 => ?_)
      ·
        refine go hX 3 (gs := [True, True, True]) (z' := (if (h.1 55 9) = 0 then 94 else 101, [some (.ref 55), some (.int (nI k)), some (.int x)], [], h)) rfl ⟨trivial, trivial, trivial, trivial⟩ ?_
        refine br (fun b5 => ?_) (fun b5 => ?_)
        ·
          refine go hX 3 (gs := [True, True, True]) (z' := (if (h.1 55 10) ≤ 0 then 106 else 101, [some (.ref 55), some (.int (nI k)), some (.int x)], [], h)) rfl ⟨trivial, trivial, trivial, trivial⟩ ?_
          refine br (fun b6 => ?_) (fun b6 => ?_)
          ·
            refine go hX 2 (gs := [True, True]) (z' := (108, [some (.ref 55), some (.int (nI k)), some (.int x)], [.int 1, .ref 55], h)) rfl ⟨trivial, trivial, trivial⟩ ?_
            refine cl hX 46 2 [.ref 55, .int 1] [] rfl rfl rfl rfl ?_
            exact H.dead by_ nf (Or.inr b4)
          ·
            refine go hX 2 (gs := [True, True]) (z' := (105, [some (.ref 55), some (.int (nI k)), some (.int x)], [.int (h.1 55 5)], h)) rfl ⟨trivial, trivial, trivial⟩ ?_
            refine rt_ hX (G := True) (r := some (.int (h.1 55 5))) rfl trivial ?_
            exact H.dead by_ nf (Or.inr b4)
        ·
          refine go hX 2 (gs := [True, True]) (z' := (105, [some (.ref 55), some (.int (nI k)), some (.int x)], [.int (h.1 55 5)], h)) rfl ⟨trivial, trivial, trivial⟩ ?_
          refine rt_ hX (G := True) (r := some (.int (h.1 55 5))) rfl trivial ?_
          exact H.dead by_ nf (Or.inr b4)
      ·
        refine go hX 3 (gs := [True, True, True]) (z' := (if (h.1 55 9) = 0 then 63 else 56, [some (.ref 55), some (.int (nI k)), some (.int x)], [], h)) rfl ⟨trivial, trivial, trivial, trivial⟩ ?_
        refine br (fun b7 => ?_) (fun b7 => ?_)
        ·
          refine go hX 1 (gs := [True]) (z' := (64, [some (.ref 55), some (.int (nI k)), some (.int x)], [.ref 55], h)) rfl ⟨trivial, trivial⟩ ?_
          refine cl hX 43 1 [.ref 55] [] rfl rfl rfl rfl ?_
          refine c_readSign (key := key) H.tp H.r (H.d0 b7) H.tk (by rw [H.ef]; exact tks_w by_ _) (H.l96 by_ nf) (fun a' h1 e f1 r1 => ?_) (fun e h1 f1 => ?_)
          ·
            show X (67, [some (.ref 55), some (.int (nI k)), some (.int x)], [.int 1], h1)
            refine go hX 4 (gs := [True, True, True, True]) (z' := (78, [some (.ref 55), some (.int (nI k)), some (.int 1)], [.ref 55], h1)) rfl ⟨trivial, trivial, trivial, trivial, trivial⟩ ?_
            refine cl hX 30 1 [.ref 55] [] rfl rfl rfl rfl ?_
            have e := eqA (H.ef ▸ e) hs; subst e; refine c_goOn (H.tpx f1) (H.nbx by_ f1) (H.tkx f1).2.1 (H.tkx f1).2.2.1 (tks_w by_ _).w2 (fun h2 f2 t2 => ?_)
            show X (81, [some (.ref 55), some (.int (nI k)), some (.int 1)], [], h2)
            refine go hX 2 (gs := [True, True]) (z' := (36, [some (.ref 55), some (.int ((nI k) + 1)), some (.int 1)], [], h2)) rfl ⟨trivial, trivial, trivial⟩ ?_
            rw [tx_1]
            exact K h2 (H.nxt by_ nf hs f1 r1 f2 t2)
          ·
            show X (67, [some (.ref 55), some (.int (nI k)), some (.int x)], [.int 0], h1)
            refine go hX 5 (gs := [True, True, True, True, True]) (z' := (76, [some (.ref 55), some (.int (nI k)), some (.int 0)], [.int (h1.1 55 5)], h1)) rfl ⟨trivial, trivial, trivial, trivial, trivial, trivial⟩ ?_
            refine rt_ hX (G := True) (r := some (.int (h1.1 55 5))) rfl trivial ?_
            exact absurd (hs.symm.trans (H.ef ▸ e)) (by simp [Tok.ty_mk, Tok.st_mk, Tok.nx_mk, Tok.val_mk, PA.i_mk, PA.due_mk, PA.S_mk, PA.ob_mk, PA.on_mk, PA.pr_mk, PA.out_mk, PB.i_mk, PB.ob_mk, PB.nt_mk, PB.pr_mk, PB.out_mk])
        ·
          refine go hX 1 (gs := [True]) (z' := (57, [some (.ref 55), some (.int (nI k)), some (.int x)], [.ref 55], h)) rfl ⟨trivial, trivial⟩ ?_
          refine cl hX 39 1 [.ref 55] [] rfl rfl rfl rfl ?_
          refine c_readPart H.tp H.r (H.d1 b7) H.tk (by rw [H.ef]; exact tks_w by_ _) (H.l96 by_ nf) H.ek hkey (by have := H.p96 by_ nf; omega) (fun a' h1 e f1 r1 => ?_) (fun e => ?_)
          ·
            show X (60, [some (.ref 55), some (.int (nI k)), some (.int x)], [.int 1], h1)
            refine go hX 5 (gs := [True, True, True, True, True]) (z' := (78, [some (.ref 55), some (.int (nI k)), some (.int 1)], [.ref 55], h1)) rfl ⟨trivial, trivial, trivial, trivial, trivial, trivial⟩ ?_
            refine cl hX 30 1 [.ref 55] [] rfl rfl rfl rfl ?_
            have e := eqA (H.ef ▸ e) hs; subst e; refine c_goOn (H.tpx f1) (H.nbx by_ f1) (H.tkx f1).2.1 (H.tkx f1).2.2.1 (tks_w by_ _).w2 (fun h2 f2 t2 => ?_)
            show X (81, [some (.ref 55), some (.int (nI k)), some (.int 1)], [], h2)
            refine go hX 2 (gs := [True, True]) (z' := (36, [some (.ref 55), some (.int ((nI k) + 1)), some (.int 1)], [], h2)) rfl ⟨trivial, trivial, trivial⟩ ?_
            rw [tx_1]
            exact K h2 (H.nxt by_ nf hs f1 r1 f2 t2)
          ·
            show X (60, [some (.ref 55), some (.int (nI k)), some (.int x)], [.int 0], h)
            refine go hX 6 (gs := [True, True, True, True, True, True]) (z' := (76, [some (.ref 55), some (.int (nI k)), some (.int 0)], [.int (h.1 55 5)], h)) rfl ⟨trivial, trivial, trivial, trivial, trivial, trivial, trivial⟩ ?_
            refine rt_ hX (G := True) (r := some (.int (h.1 55 5))) rfl trivial ?_
            exact absurd (hs.symm.trans (H.ef ▸ e)) (by simp [Tok.ty_mk, Tok.st_mk, Tok.nx_mk, Tok.val_mk, PA.i_mk, PA.due_mk, PA.S_mk, PA.ob_mk, PA.on_mk, PA.pr_mk, PA.out_mk, PB.i_mk, PB.ob_mk, PB.nt_mk, PB.pr_mk, PB.out_mk])
theorem ra_ft {d : Nat} {Q : Option Value → Hp → Prop} {X : Cf → Prop} (hX : Clo (Call (d + 5)) cd27 (some .int) Q X) {h0 h : Hp} {f : Int32 → Int32} {n key k : Nat} {a : PA} {l2 : Option Value} (hl : l2 = none ∨ ∃ x, l2 = some (.int x)) (H : LHd h0 h f n key a k) (by_ : BY f n) (hkey : key ≤ 5) (nf : cat f key (tks f n a.i) ≠ .fin) (hs : stA (cat f key (tks f n a.i)) a = none) (kk : ∀ h', frA h0 h' → Q (some (.int (nI (tks f n a.i).st))) h') : X (36, [some (.ref 55), some (.int (nI k)), l2], [], h) := by
  rcases hl with rfl | ⟨x, rfl⟩
  ·
    refine go hX 3 (gs := [True, True, True]) (z' := (if 96 ≤ (nI k) then 87 else 42, [some (.ref 55), some (.int (nI k)), none], [], h)) rfl ⟨trivial, trivial, trivial, trivial⟩ ?_
    refine br (fun b1 => ?_) (fun b1 => ?_)
    ·
      refine go hX 3 (gs := [True, True, True]) (z' := (if (h.1 55 9) = 0 then 94 else 101, [some (.ref 55), some (.int (nI k)), none], [], h)) rfl ⟨trivial, trivial, trivial, trivial⟩ ?_
      refine br (fun b2 => ?_) (fun b2 => ?_)
      ·
        refine go hX 3 (gs := [True, True, True]) (z' := (if (h.1 55 10) ≤ 0 then 106 else 101, [some (.ref 55), some (.int (nI k)), none], [], h)) rfl ⟨trivial, trivial, trivial, trivial⟩ ?_
        refine br (fun b3 => ?_) (fun b3 => ?_)
        ·
          refine go hX 2 (gs := [True, True]) (z' := (108, [some (.ref 55), some (.int (nI k)), none], [.int 1, .ref 55], h)) rfl ⟨trivial, trivial, trivial⟩ ?_
          refine cl hX 46 2 [.ref 55, .int 1] [] rfl rfl rfl rfl ?_
          exact H.dead by_ nf (Or.inl b1)
        ·
          refine go hX 2 (gs := [True, True]) (z' := (105, [some (.ref 55), some (.int (nI k)), none], [.int (h.1 55 5)], h)) rfl ⟨trivial, trivial, trivial⟩ ?_
          refine rt_ hX (G := True) (r := some (.int (h.1 55 5))) rfl trivial ?_
          exact H.dead by_ nf (Or.inl b1)
      ·
        refine go hX 2 (gs := [True, True]) (z' := (105, [some (.ref 55), some (.int (nI k)), none], [.int (h.1 55 5)], h)) rfl ⟨trivial, trivial, trivial⟩ ?_
        refine rt_ hX (G := True) (r := some (.int (h.1 55 5))) rfl trivial ?_
        exact H.dead by_ nf (Or.inl b1)
    ·
      refine go hX 3 (gs := [True, True, True]) (z' := (if (h.1 55 7) = 0 then 87 else 49, [some (.ref 55), some (.int (nI k)), none], [], h)) rfl ⟨trivial, trivial, trivial, trivial⟩ ?_
      refine br (fun b4 => ?_) (fun b4 => ?_)
      ·
        refine go hX 3 (gs := [True, True, True]) (z' := (if (h.1 55 9) = 0 then 94 else 101, [some (.ref 55), some (.int (nI k)), none], [], h)) rfl ⟨trivial, trivial, trivial, trivial⟩ ?_
        refine br (fun b5 => ?_) (fun b5 => ?_)
        ·
          refine go hX 3 (gs := [True, True, True]) (z' := (if (h.1 55 10) ≤ 0 then 106 else 101, [some (.ref 55), some (.int (nI k)), none], [], h)) rfl ⟨trivial, trivial, trivial, trivial⟩ ?_
          refine br (fun b6 => ?_) (fun b6 => ?_)
          ·
            refine go hX 2 (gs := [True, True]) (z' := (108, [some (.ref 55), some (.int (nI k)), none], [.int 1, .ref 55], h)) rfl ⟨trivial, trivial, trivial⟩ ?_
            refine cl hX 46 2 [.ref 55, .int 1] [] rfl rfl rfl rfl ?_
            exact H.dead by_ nf (Or.inr b4)
          ·
            refine go hX 2 (gs := [True, True]) (z' := (105, [some (.ref 55), some (.int (nI k)), none], [.int (h.1 55 5)], h)) rfl ⟨trivial, trivial, trivial⟩ ?_
            refine rt_ hX (G := True) (r := some (.int (h.1 55 5))) rfl trivial ?_
            exact H.dead by_ nf (Or.inr b4)
        ·
          refine go hX 2 (gs := [True, True]) (z' := (105, [some (.ref 55), some (.int (nI k)), none], [.int (h.1 55 5)], h)) rfl ⟨trivial, trivial, trivial⟩ ?_
          refine rt_ hX (G := True) (r := some (.int (h.1 55 5))) rfl trivial ?_
          exact H.dead by_ nf (Or.inr b4)
      ·
        refine go hX 3 (gs := [True, True, True]) (z' := (if (h.1 55 9) = 0 then 63 else 56, [some (.ref 55), some (.int (nI k)), none], [], h)) rfl ⟨trivial, trivial, trivial, trivial⟩ ?_
        refine br (fun b7 => ?_) (fun b7 => ?_)
        ·
          refine go hX 1 (gs := [True]) (z' := (64, [some (.ref 55), some (.int (nI k)), none], [.ref 55], h)) rfl ⟨trivial, trivial⟩ ?_
          refine cl hX 43 1 [.ref 55] [] rfl rfl rfl rfl ?_
          refine c_readSign (key := key) H.tp H.r (H.d0 b7) H.tk (by rw [H.ef]; exact tks_w by_ _) (H.l96 by_ nf) (fun a' h1 e f1 r1 => ?_) (fun e h1 f1 => ?_)
          ·
            show X (67, [some (.ref 55), some (.int (nI k)), none], [.int 1], h1)
            refine go hX 4 (gs := [True, True, True, True]) (z' := (78, [some (.ref 55), some (.int (nI k)), some (.int 1)], [.ref 55], h1)) rfl ⟨trivial, trivial, trivial, trivial, trivial⟩ ?_
            refine cl hX 30 1 [.ref 55] [] rfl rfl rfl rfl ?_
            exact absurd (hs.symm.trans (H.ef ▸ e)) (by simp [Tok.ty_mk, Tok.st_mk, Tok.nx_mk, Tok.val_mk, PA.i_mk, PA.due_mk, PA.S_mk, PA.ob_mk, PA.on_mk, PA.pr_mk, PA.out_mk, PB.i_mk, PB.ob_mk, PB.nt_mk, PB.pr_mk, PB.out_mk])
          ·
            show X (67, [some (.ref 55), some (.int (nI k)), none], [.int 0], h1)
            refine go hX 5 (gs := [True, True, True, True, True]) (z' := (76, [some (.ref 55), some (.int (nI k)), some (.int 0)], [.int (h1.1 55 5)], h1)) rfl ⟨trivial, trivial, trivial, trivial, trivial, trivial⟩ ?_
            refine rt_ hX (G := True) (r := some (.int (h1.1 55 5))) rfl trivial ?_
            rw [f1.at55 (by decide), H.tk.1]; exact kk h1 (H.fr.tr f1.a)
        ·
          refine go hX 1 (gs := [True]) (z' := (57, [some (.ref 55), some (.int (nI k)), none], [.ref 55], h)) rfl ⟨trivial, trivial⟩ ?_
          refine cl hX 39 1 [.ref 55] [] rfl rfl rfl rfl ?_
          refine c_readPart H.tp H.r (H.d1 b7) H.tk (by rw [H.ef]; exact tks_w by_ _) (H.l96 by_ nf) H.ek hkey (by have := H.p96 by_ nf; omega) (fun a' h1 e f1 r1 => ?_) (fun e => ?_)
          ·
            show X (60, [some (.ref 55), some (.int (nI k)), none], [.int 1], h1)
            refine go hX 5 (gs := [True, True, True, True, True]) (z' := (78, [some (.ref 55), some (.int (nI k)), some (.int 1)], [.ref 55], h1)) rfl ⟨trivial, trivial, trivial, trivial, trivial, trivial⟩ ?_
            refine cl hX 30 1 [.ref 55] [] rfl rfl rfl rfl ?_
            exact absurd (hs.symm.trans (H.ef ▸ e)) (by simp [Tok.ty_mk, Tok.st_mk, Tok.nx_mk, Tok.val_mk, PA.i_mk, PA.due_mk, PA.S_mk, PA.ob_mk, PA.on_mk, PA.pr_mk, PA.out_mk, PB.i_mk, PB.ob_mk, PB.nt_mk, PB.pr_mk, PB.out_mk])
          ·
            show X (60, [some (.ref 55), some (.int (nI k)), none], [.int 0], h)
            refine go hX 6 (gs := [True, True, True, True, True, True]) (z' := (76, [some (.ref 55), some (.int (nI k)), some (.int 0)], [.int (h.1 55 5)], h)) rfl ⟨trivial, trivial, trivial, trivial, trivial, trivial, trivial⟩ ?_
            refine rt_ hX (G := True) (r := some (.int (h.1 55 5))) rfl trivial ?_
            rw [H.tk.1]; exact kk h H.fr
  ·
    refine go hX 3 (gs := [True, True, True]) (z' := (if 96 ≤ (nI k) then 87 else 42, [some (.ref 55), some (.int (nI k)), some (.int x)], [], h)) rfl ⟨trivial, trivial, trivial, trivial⟩ ?_
    refine br (fun b1 => ?_) (fun b1 => ?_)
    ·
      refine go hX 3 (gs := [True, True, True]) (z' := (if (h.1 55 9) = 0 then 94 else 101, [some (.ref 55), some (.int (nI k)), some (.int x)], [], h)) rfl ⟨trivial, trivial, trivial, trivial⟩ ?_
      refine br (fun b2 => ?_) (fun b2 => ?_)
      ·
        refine go hX 3 (gs := [True, True, True]) (z' := (if (h.1 55 10) ≤ 0 then 106 else 101, [some (.ref 55), some (.int (nI k)), some (.int x)], [], h)) rfl ⟨trivial, trivial, trivial, trivial⟩ ?_
        refine br (fun b3 => ?_) (fun b3 => ?_)
        ·
          refine go hX 2 (gs := [True, True]) (z' := (108, [some (.ref 55), some (.int (nI k)), some (.int x)], [.int 1, .ref 55], h)) rfl ⟨trivial, trivial, trivial⟩ ?_
          refine cl hX 46 2 [.ref 55, .int 1] [] rfl rfl rfl rfl ?_
          exact H.dead by_ nf (Or.inl b1)
        ·
          refine go hX 2 (gs := [True, True]) (z' := (105, [some (.ref 55), some (.int (nI k)), some (.int x)], [.int (h.1 55 5)], h)) rfl ⟨trivial, trivial, trivial⟩ ?_
          refine rt_ hX (G := True) (r := some (.int (h.1 55 5))) rfl trivial ?_
          exact H.dead by_ nf (Or.inl b1)
      ·
        refine go hX 2 (gs := [True, True]) (z' := (105, [some (.ref 55), some (.int (nI k)), some (.int x)], [.int (h.1 55 5)], h)) rfl ⟨trivial, trivial, trivial⟩ ?_
        refine rt_ hX (G := True) (r := some (.int (h.1 55 5))) rfl trivial ?_
        exact H.dead by_ nf (Or.inl b1)
    ·
      refine go hX 3 (gs := [True, True, True]) (z' := (if (h.1 55 7) = 0 then 87 else 49, [some (.ref 55), some (.int (nI k)), some (.int x)], [], h)) rfl ⟨trivial, trivial, trivial, trivial⟩ ?_
      refine br (fun b4 => ?_) (fun b4 => ?_)
      ·
        refine go hX 3 (gs := [True, True, True]) (z' := (if (h.1 55 9) = 0 then 94 else 101, [some (.ref 55), some (.int (nI k)), some (.int x)], [], h)) rfl ⟨trivial, trivial, trivial, trivial⟩ ?_
        refine br (fun b5 => ?_) (fun b5 => ?_)
        ·
          refine go hX 3 (gs := [True, True, True]) (z' := (if (h.1 55 10) ≤ 0 then 106 else 101, [some (.ref 55), some (.int (nI k)), some (.int x)], [], h)) rfl ⟨trivial, trivial, trivial, trivial⟩ ?_
          refine br (fun b6 => ?_) (fun b6 => ?_)
          ·
            refine go hX 2 (gs := [True, True]) (z' := (108, [some (.ref 55), some (.int (nI k)), some (.int x)], [.int 1, .ref 55], h)) rfl ⟨trivial, trivial, trivial⟩ ?_
            refine cl hX 46 2 [.ref 55, .int 1] [] rfl rfl rfl rfl ?_
            exact H.dead by_ nf (Or.inr b4)
          ·
            refine go hX 2 (gs := [True, True]) (z' := (105, [some (.ref 55), some (.int (nI k)), some (.int x)], [.int (h.1 55 5)], h)) rfl ⟨trivial, trivial, trivial⟩ ?_
            refine rt_ hX (G := True) (r := some (.int (h.1 55 5))) rfl trivial ?_
            exact H.dead by_ nf (Or.inr b4)
        ·
          refine go hX 2 (gs := [True, True]) (z' := (105, [some (.ref 55), some (.int (nI k)), some (.int x)], [.int (h.1 55 5)], h)) rfl ⟨trivial, trivial, trivial⟩ ?_
          refine rt_ hX (G := True) (r := some (.int (h.1 55 5))) rfl trivial ?_
          exact H.dead by_ nf (Or.inr b4)
      ·
        refine go hX 3 (gs := [True, True, True]) (z' := (if (h.1 55 9) = 0 then 63 else 56, [some (.ref 55), some (.int (nI k)), some (.int x)], [], h)) rfl ⟨trivial, trivial, trivial, trivial⟩ ?_
        refine br (fun b7 => ?_) (fun b7 => ?_)
        ·
          refine go hX 1 (gs := [True]) (z' := (64, [some (.ref 55), some (.int (nI k)), some (.int x)], [.ref 55], h)) rfl ⟨trivial, trivial⟩ ?_
          refine cl hX 43 1 [.ref 55] [] rfl rfl rfl rfl ?_
          refine c_readSign (key := key) H.tp H.r (H.d0 b7) H.tk (by rw [H.ef]; exact tks_w by_ _) (H.l96 by_ nf) (fun a' h1 e f1 r1 => ?_) (fun e h1 f1 => ?_)
          ·
            show X (67, [some (.ref 55), some (.int (nI k)), some (.int x)], [.int 1], h1)
            refine go hX 4 (gs := [True, True, True, True]) (z' := (78, [some (.ref 55), some (.int (nI k)), some (.int 1)], [.ref 55], h1)) rfl ⟨trivial, trivial, trivial, trivial, trivial⟩ ?_
            refine cl hX 30 1 [.ref 55] [] rfl rfl rfl rfl ?_
            exact absurd (hs.symm.trans (H.ef ▸ e)) (by simp [Tok.ty_mk, Tok.st_mk, Tok.nx_mk, Tok.val_mk, PA.i_mk, PA.due_mk, PA.S_mk, PA.ob_mk, PA.on_mk, PA.pr_mk, PA.out_mk, PB.i_mk, PB.ob_mk, PB.nt_mk, PB.pr_mk, PB.out_mk])
          ·
            show X (67, [some (.ref 55), some (.int (nI k)), some (.int x)], [.int 0], h1)
            refine go hX 5 (gs := [True, True, True, True, True]) (z' := (76, [some (.ref 55), some (.int (nI k)), some (.int 0)], [.int (h1.1 55 5)], h1)) rfl ⟨trivial, trivial, trivial, trivial, trivial, trivial⟩ ?_
            refine rt_ hX (G := True) (r := some (.int (h1.1 55 5))) rfl trivial ?_
            rw [f1.at55 (by decide), H.tk.1]; exact kk h1 (H.fr.tr f1.a)
        ·
          refine go hX 1 (gs := [True]) (z' := (57, [some (.ref 55), some (.int (nI k)), some (.int x)], [.ref 55], h)) rfl ⟨trivial, trivial⟩ ?_
          refine cl hX 39 1 [.ref 55] [] rfl rfl rfl rfl ?_
          refine c_readPart H.tp H.r (H.d1 b7) H.tk (by rw [H.ef]; exact tks_w by_ _) (H.l96 by_ nf) H.ek hkey (by have := H.p96 by_ nf; omega) (fun a' h1 e f1 r1 => ?_) (fun e => ?_)
          ·
            show X (60, [some (.ref 55), some (.int (nI k)), some (.int x)], [.int 1], h1)
            refine go hX 5 (gs := [True, True, True, True, True]) (z' := (78, [some (.ref 55), some (.int (nI k)), some (.int 1)], [.ref 55], h1)) rfl ⟨trivial, trivial, trivial, trivial, trivial, trivial⟩ ?_
            refine cl hX 30 1 [.ref 55] [] rfl rfl rfl rfl ?_
            exact absurd (hs.symm.trans (H.ef ▸ e)) (by simp [Tok.ty_mk, Tok.st_mk, Tok.nx_mk, Tok.val_mk, PA.i_mk, PA.due_mk, PA.S_mk, PA.ob_mk, PA.on_mk, PA.pr_mk, PA.out_mk, PB.i_mk, PB.ob_mk, PB.nt_mk, PB.pr_mk, PB.out_mk])
          ·
            show X (60, [some (.ref 55), some (.int (nI k)), some (.int x)], [.int 0], h)
            refine go hX 6 (gs := [True, True, True, True, True, True]) (z' := (76, [some (.ref 55), some (.int (nI k)), some (.int 0)], [.int (h.1 55 5)], h)) rfl ⟨trivial, trivial, trivial, trivial, trivial, trivial, trivial⟩ ?_
            refine rt_ hX (G := True) (r := some (.int (h.1 55 5))) rfl trivial ?_
            rw [H.tk.1]; exact kk h H.fr
theorem ra_end {d : Nat} {Q : Option Value → Hp → Prop} {X : Cf → Prop} (hX : Clo (Call (d + 5)) cd27 (some .int) Q X) {h0 h : Hp} {f : Int32 → Int32} {n key k : Nat} {a : PA} {l2 : Option Value} (hl : l2 = none ∨ ∃ x, l2 = some (.int x)) (H : LHd h0 h f n key a k) (by_ : BY f n) (hkey : key ≤ 5) (fi : cat f key (tks f n a.i) = .fin) (K1 : h.1 55 9 = 0 → h.1 55 10 ≤ 0 → ∀ h', frA h0 h' → RdA h' ⟨a.i, a.due, (settle 1 a.S a.out).1, a.ob, a.on, a.pr, (settle 1 a.S a.out).2⟩ → h'.1 55 3 = nI key → Q (some (.int (-1000000005))) h') (K0 : ¬ h.1 55 9 = 0 ∨ ¬ h.1 55 10 ≤ 0 → ∀ h', frA h0 h' → Q (some (.int (nI (tks f n a.i).st))) h') : X (36, [some (.ref 55), some (.int (nI k)), l2], [], h) := by
  rcases hl with rfl | ⟨x, rfl⟩
  ·
    refine go hX 3 (gs := [True, True, True]) (z' := (if 96 ≤ (nI k) then 87 else 42, [some (.ref 55), some (.int (nI k)), none], [], h)) rfl ⟨trivial, trivial, trivial, trivial⟩ ?_
    refine br (fun b1 => ?_) (fun b1 => ?_)
    ·
      refine go hX 3 (gs := [True, True, True]) (z' := (if (h.1 55 9) = 0 then 94 else 101, [some (.ref 55), some (.int (nI k)), none], [], h)) rfl ⟨trivial, trivial, trivial, trivial⟩ ?_
      refine br (fun b2 => ?_) (fun b2 => ?_)
      ·
        refine go hX 3 (gs := [True, True, True]) (z' := (if (h.1 55 10) ≤ 0 then 106 else 101, [some (.ref 55), some (.int (nI k)), none], [], h)) rfl ⟨trivial, trivial, trivial, trivial⟩ ?_
        refine br (fun b3 => ?_) (fun b3 => ?_)
        ·
          refine go hX 2 (gs := [True, True]) (z' := (108, [some (.ref 55), some (.int (nI k)), none], [.int 1, .ref 55], h)) rfl ⟨trivial, trivial, trivial⟩ ?_
          refine cl hX 46 2 [.ref 55, .int 1] [] rfl rfl rfl rfl ?_
          refine c_settle (L := 1) (by decide) (by decide) H.r.g H.r.sb (fun h1 f1 g1 => ?_)
          show X (111, [some (.ref 55), some (.int (nI k)), none], [], h1)
          refine go hX 1 (gs := [True]) (z' := (113, [some (.ref 55), some (.int (nI k)), none], [.int (-1000000005)], h1)) rfl ⟨trivial, trivial⟩ ?_
          refine rt_ hX (G := True) (r := some (.int (-1000000005))) rfl trivial ?_
          exact K1 b2 b3 h1 (H.fr.tr (f1.x (J := [])).a) ⟨g1, settle_sb H.r.sb, (f1.at55 _).trans H.r.du, (f1.at55 _).trans H.r.ob, (f1.at55 _).trans H.r.on, (f1.at55 _).trans H.r.pr, H.r.b1, H.r.b2, H.r.b3⟩ ((f1.at55 _).trans H.ek)
        ·
          refine go hX 2 (gs := [True, True]) (z' := (105, [some (.ref 55), some (.int (nI k)), none], [.int (h.1 55 5)], h)) rfl ⟨trivial, trivial, trivial⟩ ?_
          refine rt_ hX (G := True) (r := some (.int (h.1 55 5))) rfl trivial ?_
          rw [H.tk.1]; exact K0 (Or.inr b3) h H.fr
      ·
        refine go hX 2 (gs := [True, True]) (z' := (105, [some (.ref 55), some (.int (nI k)), none], [.int (h.1 55 5)], h)) rfl ⟨trivial, trivial, trivial⟩ ?_
        refine rt_ hX (G := True) (r := some (.int (h.1 55 5))) rfl trivial ?_
        rw [H.tk.1]; exact K0 (Or.inl b2) h H.fr
    ·
      refine go hX 3 (gs := [True, True, True]) (z' := (if (h.1 55 7) = 0 then 87 else 49, [some (.ref 55), some (.int (nI k)), none], [], h)) rfl ⟨trivial, trivial, trivial, trivial⟩ ?_
      refine br (fun b4 => ?_) (fun b4 => ?_)
      ·
        refine go hX 3 (gs := [True, True, True]) (z' := (if (h.1 55 9) = 0 then 94 else 101, [some (.ref 55), some (.int (nI k)), none], [], h)) rfl ⟨trivial, trivial, trivial, trivial⟩ ?_
        refine br (fun b5 => ?_) (fun b5 => ?_)
        ·
          refine go hX 3 (gs := [True, True, True]) (z' := (if (h.1 55 10) ≤ 0 then 106 else 101, [some (.ref 55), some (.int (nI k)), none], [], h)) rfl ⟨trivial, trivial, trivial, trivial⟩ ?_
          refine br (fun b6 => ?_) (fun b6 => ?_)
          ·
            refine go hX 2 (gs := [True, True]) (z' := (108, [some (.ref 55), some (.int (nI k)), none], [.int 1, .ref 55], h)) rfl ⟨trivial, trivial, trivial⟩ ?_
            refine cl hX 46 2 [.ref 55, .int 1] [] rfl rfl rfl rfl ?_
            refine c_settle (L := 1) (by decide) (by decide) H.r.g H.r.sb (fun h1 f1 g1 => ?_)
            show X (111, [some (.ref 55), some (.int (nI k)), none], [], h1)
            refine go hX 1 (gs := [True]) (z' := (113, [some (.ref 55), some (.int (nI k)), none], [.int (-1000000005)], h1)) rfl ⟨trivial, trivial⟩ ?_
            refine rt_ hX (G := True) (r := some (.int (-1000000005))) rfl trivial ?_
            exact K1 b5 b6 h1 (H.fr.tr (f1.x (J := [])).a) ⟨g1, settle_sb H.r.sb, (f1.at55 _).trans H.r.du, (f1.at55 _).trans H.r.ob, (f1.at55 _).trans H.r.on, (f1.at55 _).trans H.r.pr, H.r.b1, H.r.b2, H.r.b3⟩ ((f1.at55 _).trans H.ek)
          ·
            refine go hX 2 (gs := [True, True]) (z' := (105, [some (.ref 55), some (.int (nI k)), none], [.int (h.1 55 5)], h)) rfl ⟨trivial, trivial, trivial⟩ ?_
            refine rt_ hX (G := True) (r := some (.int (h.1 55 5))) rfl trivial ?_
            rw [H.tk.1]; exact K0 (Or.inr b6) h H.fr
        ·
          refine go hX 2 (gs := [True, True]) (z' := (105, [some (.ref 55), some (.int (nI k)), none], [.int (h.1 55 5)], h)) rfl ⟨trivial, trivial, trivial⟩ ?_
          refine rt_ hX (G := True) (r := some (.int (h.1 55 5))) rfl trivial ?_
          rw [H.tk.1]; exact K0 (Or.inl b5) h H.fr
      ·
        refine go hX 3 (gs := [True, True, True]) (z' := (if (h.1 55 9) = 0 then 63 else 56, [some (.ref 55), some (.int (nI k)), none], [], h)) rfl ⟨trivial, trivial, trivial, trivial⟩ ?_
        refine br (fun b7 => ?_) (fun b7 => ?_)
        ·
          refine go hX 1 (gs := [True]) (z' := (64, [some (.ref 55), some (.int (nI k)), none], [.ref 55], h)) rfl ⟨trivial, trivial⟩ ?_
          refine cl hX 43 1 [.ref 55] [] rfl rfl rfl rfl ?_
          exact absurd (H.tk.2.2.1.trans (tks_f fi)) b4
        ·
          refine go hX 1 (gs := [True]) (z' := (57, [some (.ref 55), some (.int (nI k)), none], [.ref 55], h)) rfl ⟨trivial, trivial⟩ ?_
          refine cl hX 39 1 [.ref 55] [] rfl rfl rfl rfl ?_
          exact absurd (H.tk.2.2.1.trans (tks_f fi)) b4
  ·
    refine go hX 3 (gs := [True, True, True]) (z' := (if 96 ≤ (nI k) then 87 else 42, [some (.ref 55), some (.int (nI k)), some (.int x)], [], h)) rfl ⟨trivial, trivial, trivial, trivial⟩ ?_
    refine br (fun b1 => ?_) (fun b1 => ?_)
    ·
      refine go hX 3 (gs := [True, True, True]) (z' := (if (h.1 55 9) = 0 then 94 else 101, [some (.ref 55), some (.int (nI k)), some (.int x)], [], h)) rfl ⟨trivial, trivial, trivial, trivial⟩ ?_
      refine br (fun b2 => ?_) (fun b2 => ?_)
      ·
        refine go hX 3 (gs := [True, True, True]) (z' := (if (h.1 55 10) ≤ 0 then 106 else 101, [some (.ref 55), some (.int (nI k)), some (.int x)], [], h)) rfl ⟨trivial, trivial, trivial, trivial⟩ ?_
        refine br (fun b3 => ?_) (fun b3 => ?_)
        ·
          refine go hX 2 (gs := [True, True]) (z' := (108, [some (.ref 55), some (.int (nI k)), some (.int x)], [.int 1, .ref 55], h)) rfl ⟨trivial, trivial, trivial⟩ ?_
          refine cl hX 46 2 [.ref 55, .int 1] [] rfl rfl rfl rfl ?_
          refine c_settle (L := 1) (by decide) (by decide) H.r.g H.r.sb (fun h1 f1 g1 => ?_)
          show X (111, [some (.ref 55), some (.int (nI k)), some (.int x)], [], h1)
          refine go hX 1 (gs := [True]) (z' := (113, [some (.ref 55), some (.int (nI k)), some (.int x)], [.int (-1000000005)], h1)) rfl ⟨trivial, trivial⟩ ?_
          refine rt_ hX (G := True) (r := some (.int (-1000000005))) rfl trivial ?_
          exact K1 b2 b3 h1 (H.fr.tr (f1.x (J := [])).a) ⟨g1, settle_sb H.r.sb, (f1.at55 _).trans H.r.du, (f1.at55 _).trans H.r.ob, (f1.at55 _).trans H.r.on, (f1.at55 _).trans H.r.pr, H.r.b1, H.r.b2, H.r.b3⟩ ((f1.at55 _).trans H.ek)
        ·
          refine go hX 2 (gs := [True, True]) (z' := (105, [some (.ref 55), some (.int (nI k)), some (.int x)], [.int (h.1 55 5)], h)) rfl ⟨trivial, trivial, trivial⟩ ?_
          refine rt_ hX (G := True) (r := some (.int (h.1 55 5))) rfl trivial ?_
          rw [H.tk.1]; exact K0 (Or.inr b3) h H.fr
      ·
        refine go hX 2 (gs := [True, True]) (z' := (105, [some (.ref 55), some (.int (nI k)), some (.int x)], [.int (h.1 55 5)], h)) rfl ⟨trivial, trivial, trivial⟩ ?_
        refine rt_ hX (G := True) (r := some (.int (h.1 55 5))) rfl trivial ?_
        rw [H.tk.1]; exact K0 (Or.inl b2) h H.fr
    ·
      refine go hX 3 (gs := [True, True, True]) (z' := (if (h.1 55 7) = 0 then 87 else 49, [some (.ref 55), some (.int (nI k)), some (.int x)], [], h)) rfl ⟨trivial, trivial, trivial, trivial⟩ ?_
      refine br (fun b4 => ?_) (fun b4 => ?_)
      ·
        refine go hX 3 (gs := [True, True, True]) (z' := (if (h.1 55 9) = 0 then 94 else 101, [some (.ref 55), some (.int (nI k)), some (.int x)], [], h)) rfl ⟨trivial, trivial, trivial, trivial⟩ ?_
        refine br (fun b5 => ?_) (fun b5 => ?_)
        ·
          refine go hX 3 (gs := [True, True, True]) (z' := (if (h.1 55 10) ≤ 0 then 106 else 101, [some (.ref 55), some (.int (nI k)), some (.int x)], [], h)) rfl ⟨trivial, trivial, trivial, trivial⟩ ?_
          refine br (fun b6 => ?_) (fun b6 => ?_)
          ·
            refine go hX 2 (gs := [True, True]) (z' := (108, [some (.ref 55), some (.int (nI k)), some (.int x)], [.int 1, .ref 55], h)) rfl ⟨trivial, trivial, trivial⟩ ?_
            refine cl hX 46 2 [.ref 55, .int 1] [] rfl rfl rfl rfl ?_
            refine c_settle (L := 1) (by decide) (by decide) H.r.g H.r.sb (fun h1 f1 g1 => ?_)
            show X (111, [some (.ref 55), some (.int (nI k)), some (.int x)], [], h1)
            refine go hX 1 (gs := [True]) (z' := (113, [some (.ref 55), some (.int (nI k)), some (.int x)], [.int (-1000000005)], h1)) rfl ⟨trivial, trivial⟩ ?_
            refine rt_ hX (G := True) (r := some (.int (-1000000005))) rfl trivial ?_
            exact K1 b5 b6 h1 (H.fr.tr (f1.x (J := [])).a) ⟨g1, settle_sb H.r.sb, (f1.at55 _).trans H.r.du, (f1.at55 _).trans H.r.ob, (f1.at55 _).trans H.r.on, (f1.at55 _).trans H.r.pr, H.r.b1, H.r.b2, H.r.b3⟩ ((f1.at55 _).trans H.ek)
          ·
            refine go hX 2 (gs := [True, True]) (z' := (105, [some (.ref 55), some (.int (nI k)), some (.int x)], [.int (h.1 55 5)], h)) rfl ⟨trivial, trivial, trivial⟩ ?_
            refine rt_ hX (G := True) (r := some (.int (h.1 55 5))) rfl trivial ?_
            rw [H.tk.1]; exact K0 (Or.inr b6) h H.fr
        ·
          refine go hX 2 (gs := [True, True]) (z' := (105, [some (.ref 55), some (.int (nI k)), some (.int x)], [.int (h.1 55 5)], h)) rfl ⟨trivial, trivial, trivial⟩ ?_
          refine rt_ hX (G := True) (r := some (.int (h.1 55 5))) rfl trivial ?_
          rw [H.tk.1]; exact K0 (Or.inl b5) h H.fr
      ·
        refine go hX 3 (gs := [True, True, True]) (z' := (if (h.1 55 9) = 0 then 63 else 56, [some (.ref 55), some (.int (nI k)), some (.int x)], [], h)) rfl ⟨trivial, trivial, trivial, trivial⟩ ?_
        refine br (fun b7 => ?_) (fun b7 => ?_)
        ·
          refine go hX 1 (gs := [True]) (z' := (64, [some (.ref 55), some (.int (nI k)), some (.int x)], [.ref 55], h)) rfl ⟨trivial, trivial⟩ ?_
          refine cl hX 43 1 [.ref 55] [] rfl rfl rfl rfl ?_
          exact absurd (H.tk.2.2.1.trans (tks_f fi)) b4
        ·
          refine go hX 1 (gs := [True]) (z' := (57, [some (.ref 55), some (.int (nI k)), some (.int x)], [.ref 55], h)) rfl ⟨trivial, trivial⟩ ?_
          refine cl hX 39 1 [.ref 55] [] rfl rfl rfl rfl ?_
          exact absurd (H.tk.2.2.1.trans (tks_f fi)) b4
/-! The KEY, in words alone. -/
noncomputable def kcB (f : Int32 → Int32) : Nat → List Nat → Bool
  | _, [] => true
  | s, c :: r => decide (f (nI s) = nI c) && kcB f (s + 1) r
noncomputable def kwB (i : Nat) (f : Int32 → Int32) (t : Tok) : Bool := decide (t.nx - t.st = (stT'.getD i []).length) && kcB f t.st (stT'.getD i [])
noncomputable def keyN (f : Int32 → Int32) (t : Tok) : Int32 := if t.ty = 1 then (if kwB 0 f t = true then 0 else if kwB 1 f t = true then 1 else if kwB 2 f t = true then 2 else if kwB 3 f t = true then 3 else if kwB 4 f t = true then 4 else if kwB 5 f t = true then 5 else -1000000005) else -1000000005
theorem nI_1' (s k : Nat) : nI s + nI k = nI (s + k) := nI_add s k
theorem kw_3 {f : Int32 → Int32} {t : Tok} {i c0 c1 c2 : Nat} (h : stT'.getD i [] = [c0, c1, c2]) : kwB i f t = true ↔ t.nx - t.st = 3 ∧ f (nI t.st) = nI c0 ∧ f (nI (t.st + 1)) = nI c1 ∧ f (nI (t.st + 2)) = nI c2 := by
  unfold kwB
  rw [h]
  simp [Tok.ty_mk, Tok.st_mk, Tok.nx_mk, Tok.val_mk, PA.i_mk, PA.due_mk, PA.S_mk, PA.ob_mk, PA.on_mk, PA.pr_mk, PA.out_mk, PB.i_mk, PB.ob_mk, PB.nt_mk, PB.pr_mk, PB.out_mk, kcB]
theorem kw_4 {f : Int32 → Int32} {t : Tok} {i c0 c1 c2 c3 : Nat} (h : stT'.getD i [] = [c0, c1, c2, c3]) : kwB i f t = true ↔ t.nx - t.st = 4 ∧ f (nI t.st) = nI c0 ∧ f (nI (t.st + 1)) = nI c1 ∧ f (nI (t.st + 2)) = nI c2 ∧ f (nI (t.st + 3)) = nI c3 := by
  unfold kwB
  rw [h]
  simp [Tok.ty_mk, Tok.st_mk, Tok.nx_mk, Tok.val_mk, PA.i_mk, PA.due_mk, PA.S_mk, PA.ob_mk, PA.on_mk, PA.pr_mk, PA.out_mk, PB.i_mk, PB.ob_mk, PB.nt_mk, PB.pr_mk, PB.out_mk, kcB]
theorem kw_5 {f : Int32 → Int32} {t : Tok} {i c0 c1 c2 c3 c4 : Nat} (h : stT'.getD i [] = [c0, c1, c2, c3, c4]) : kwB i f t = true ↔ t.nx - t.st = 5 ∧ f (nI t.st) = nI c0 ∧ f (nI (t.st + 1)) = nI c1 ∧ f (nI (t.st + 2)) = nI c2 ∧ f (nI (t.st + 3)) = nI c3 ∧ f (nI (t.st + 4)) = nI c4 := by
  unfold kwB
  rw [h]
  simp [Tok.ty_mk, Tok.st_mk, Tok.nx_mk, Tok.val_mk, PA.i_mk, PA.due_mk, PA.S_mk, PA.ob_mk, PA.on_mk, PA.pr_mk, PA.out_mk, PB.i_mk, PB.ob_mk, PB.nt_mk, PB.pr_mk, PB.out_mk, kcB]
theorem kw_6 {f : Int32 → Int32} {t : Tok} {i c0 c1 c2 c3 c4 c5 : Nat} (h : stT'.getD i [] = [c0, c1, c2, c3, c4, c5]) : kwB i f t = true ↔ t.nx - t.st = 6 ∧ f (nI t.st) = nI c0 ∧ f (nI (t.st + 1)) = nI c1 ∧ f (nI (t.st + 2)) = nI c2 ∧ f (nI (t.st + 3)) = nI c3 ∧ f (nI (t.st + 4)) = nI c4 ∧ f (nI (t.st + 5)) = nI c5 := by
  unfold kwB
  rw [h]
  simp [Tok.ty_mk, Tok.st_mk, Tok.nx_mk, Tok.val_mk, PA.i_mk, PA.due_mk, PA.S_mk, PA.ob_mk, PA.on_mk, PA.pr_mk, PA.out_mk, PB.i_mk, PB.ob_mk, PB.nt_mk, PB.pr_mk, PB.out_mk, kcB]
theorem kl_eq {h : Hp} {t : Tok} {n : Nat} {f : Int32 → Int32} (w : TkW f n t) (hn : n ≤ 96) (hk : TkA h t) {k : Nat} (hk4 : k ≤ 4000) : nI k = h.1 55 6 - h.1 55 5 ↔ t.nx - t.st = k := by
  have := (tx_le4 w hn hk hk4).2
  exact ⟨fun q => this.mp q.symm, fun q => (this.mpr q).symm⟩
theorem kc_eq {h : Hp} {t : Tok} (hk : TkA h t) (c j : Nat) : nI c = h.1 54 (h.1 55 5 + nI j) ↔ h.1 54 (nI (t.st + j)) = nI c := by
  rw [hk.1, nI_add]
  exact ⟨fun q => q.symm, fun q => q.symm⟩
theorem cw0_eq {h : Hp} {t : Tok} {n : Nat} (w : TkW (h.1 54) n t) (hn : n ≤ 96) (hk : TkA h t) : cw0 h ↔ kwB 0 (h.1 54) t = true := by
  rw [kw_3 (i := 0) rfl]
  exact and_congr (kl_eq w hn hk (k := 3) (by decide)) (and_congr (kc_eq hk 112 0) (and_congr (kc_eq hk 97 1) (kc_eq hk 121 2)))
theorem cw1_eq {h : Hp} {t : Tok} {n : Nat} (w : TkW (h.1 54) n t) (hn : n ≤ 96) (hk : TkA h t) : cw1 h ↔ kwB 1 (h.1 54) t = true := by
  rw [kw_4 (i := 1) rfl]
  exact and_congr (kl_eq w hn hk (k := 4) (by decide)) (and_congr (kc_eq hk 108 0) (and_congr (kc_eq hk 111 1) (and_congr (kc_eq hk 115 2) (kc_eq hk 116 3))))
theorem cw2_eq {h : Hp} {t : Tok} {n : Nat} (w : TkW (h.1 54) n t) (hn : n ≤ 96) (hk : TkA h t) : cw2 h ↔ kwB 2 (h.1 54) t = true := by
  rw [kw_6 (i := 2) rfl]
  exact and_congr (kl_eq w hn hk (k := 6) (by decide)) (and_congr (kc_eq hk 118 0) (and_congr (kc_eq hk 105 1) (and_congr (kc_eq hk 99 2) (and_congr (kc_eq hk 116 3) (and_congr (kc_eq hk 105 4) (kc_eq hk 109 5))))))
theorem cw3_eq {h : Hp} {t : Tok} {n : Nat} (w : TkW (h.1 54) n t) (hn : n ≤ 96) (hk : TkA h t) : cw3 h ↔ kwB 3 (h.1 54) t = true := by
  rw [kw_4 (i := 3) rfl]
  exact and_congr (kl_eq w hn hk (k := 4) (by decide)) (and_congr (kc_eq hk 115 0) (and_congr (kc_eq hk 97 1) (and_congr (kc_eq hk 118 2) (kc_eq hk 101 3))))
theorem cw4_eq {h : Hp} {t : Tok} {n : Nat} (w : TkW (h.1 54) n t) (hn : n ≤ 96) (hk : TkA h t) : cw4 h ↔ kwB 4 (h.1 54) t = true := by
  rw [kw_5 (i := 4) rfl]
  exact and_congr (kl_eq w hn hk (k := 5) (by decide)) (and_congr (kc_eq hk 108 0) (and_congr (kc_eq hk 101 1) (and_congr (kc_eq hk 97 2) (and_congr (kc_eq hk 115 3) (kc_eq hk 116 4)))))
theorem cw5_eq {h : Hp} {t : Tok} {n : Nat} (w : TkW (h.1 54) n t) (hn : n ≤ 96) (hk : TkA h t) : cw5 h ↔ kwB 5 (h.1 54) t = true := by
  rw [kw_4 (i := 5) rfl]
  exact and_congr (kl_eq w hn hk (k := 4) (by decide)) (and_congr (kc_eq hk 100 0) (and_congr (kc_eq hk 97 1) (and_congr (kc_eq hk 121 2) (kc_eq hk 115 3))))
theorem keyA_eq {h : Hp} {t : Tok} {n : Nat} (w : TkW (h.1 54) n t) (hn : n ≤ 96) (hk : TkA h t) : keyA h = keyN (h.1 54) t := by
  unfold keyA keyN
  simp only [Tok.ty_mk, Tok.st_mk, Tok.nx_mk, Tok.val_mk, PA.i_mk, PA.due_mk, PA.S_mk, PA.ob_mk, PA.on_mk, PA.pr_mk, PA.out_mk, PB.i_mk, PB.ob_mk, PB.nt_mk, PB.pr_mk, PB.out_mk, cw0_eq w hn hk, cw1_eq w hn hk, cw2_eq w hn hk, cw3_eq w hn hk, cw4_eq w hn hk, cw5_eq w hn hk, hk.2.2.1]
theorem keyN_r {f : Int32 → Int32} {t : Tok} : keyN f t = -1000000005 ∨ ∃ k, k ≤ 5 ∧ keyN f t = nI k := by
  unfold keyN
  split
  · split
    · exact Or.inr ⟨0, by omega, rfl⟩
    · split
      · exact Or.inr ⟨1, by omega, rfl⟩
      · split
        · exact Or.inr ⟨2, by omega, rfl⟩
        · split
          · exact Or.inr ⟨3, by omega, rfl⟩
          · split
            · exact Or.inr ⟨4, by omega, rfl⟩
            · split
              · exact Or.inr ⟨5, by omega, rfl⟩
              · exact Or.inl rfl
  · exact Or.inl rfl
theorem c_anewA {d : Nat} {Q : Option Value → Hp → Prop} {h : Hp} (K : ∀ h1, frA h h1 → RdA h1 ⟨1, true, [], 0, 0, 0, []⟩ → h1.1 55 6 = nI 0 → h1.1 55 7 = 3 → Q none h1) : Call (d + 2) 29 [.ref 55] h Q := c_anew (K _ anew_f anew_r (by simp [Tok.ty_mk, Tok.st_mk, Tok.nx_mk, Tok.val_mk, PA.i_mk, PA.due_mk, PA.S_mk, PA.ob_mk, PA.on_mk, PA.pr_mk, PA.out_mk, PB.i_mk, PB.ob_mk, PB.nt_mk, PB.pr_mk, PB.out_mk, hI]; rfl) (by simp [Tok.ty_mk, Tok.st_mk, Tok.nx_mk, Tok.val_mk, PA.i_mk, PA.due_mk, PA.S_mk, PA.ob_mk, PA.on_mk, PA.pr_mk, PA.out_mk, PB.i_mk, PB.ob_mk, PB.nt_mk, PB.pr_mk, PB.out_mk, hI]))
theorem ra_run {d : Nat} {Q : Option Value → Hp → Prop} {X : Cf → Prop} (hX : Clo (Call (d + 5)) cd27 (some .int) Q X) {h0 : Hp} {f : Int32 → Int32} {n key : Nat} (by_ : BY f n) (hkey : key ≤ 5) {a b : PA} (g : goA (fun i => cat f key (tks f n i)) a b) : ∀ {k : Nat} {h : Hp} {l2 : Option Value}, (l2 = none ∨ ∃ x, l2 = some (.int x)) → LHd h0 h f n key a k → (∀ (k' : Nat) (h' : Hp) (l2' : Option Value), (l2' = none ∨ ∃ x, l2' = some (.int x)) → LHd h0 h' f n key b k' → X (36, [some (.ref 55), some (.int (nI k')), l2'], [], h')) → X (36, [some (.ref 55), some (.int (nI k)), l2], [], h) := by
  refine g (fun a0 b0 => ∀ {k : Nat} {h : Hp} {l2 : Option Value}, (l2 = none ∨ ∃ x, l2 = some (.int x)) → LHd h0 h f n key a0 k → (∀ (k' : Nat) (h' : Hp) (l2' : Option Value), (l2' = none ∨ ∃ x, l2' = some (.int x)) → LHd h0 h' f n key b0 k' → X (36, [some (.ref 55), some (.int (nI k')), l2'], [], h')) → X (36, [some (.ref 55), some (.int (nI k)), l2], [], h)) ?_ ?_
  · intro a k h l2 hl H K
    exact K _ _ _ hl H
  · intro a b0 c nf hs ih k h l2 hl H K
    exact ra_step hX hl H by_ hkey nf ((stA_eq (ts := fun i => cat f key (tks f n i))).symm.trans hs) (fun h' H' => ih (Or.inr ⟨1, rfl⟩) H' K)
theorem TkA.w3 {h : Hp} {t : Tok} {v : Int32} (k : TkA h t) : TkA (hI h 55 3 v) t := ⟨(hI_j (by decide)).trans k.1, (hI_j (by decide)).trans k.2.1, (hI_j (by decide)).trans k.2.2.1, fun q => (hI_j (by decide)).trans (k.2.2.2 q)⟩
theorem RdA.w3 {h : Hp} {a : PA} {v : Int32} (r : RdA h a) : RdA (hI h 55 3 v) a := ⟨r.g.w55, r.sb, (hI_j (by decide)).trans r.du, (hI_j (by decide)).trans r.ob, (hI_j (by decide)).trans r.on, (hI_j (by decide)).trans r.pr, r.b1, r.b2, r.b3⟩
/-- where a run of the class's reader ends -/
noncomputable def endA (f : Int32 → Int32) (n key : Nat) (h : Hp) (Q : Option Value → Hp → Prop) : Prop :=
  (∃ a i, goA (fun i => cat f key (tks f n i)) ⟨1, true, [], 0, 0, 0, []⟩ a ∧ ftA (fun i => cat f key (tks f n i)) a i ∧ ∀ h', frA h h' → Q (some (.int (nI (tks f n i).st))) h') ∨
  (∃ a, goA (fun i => cat f key (tks f n i)) ⟨1, true, [], 0, 0, 0, []⟩ a ∧ cat f key (tks f n a.i) = .fin ∧ a.due = false ∧ a.ob = 0 ∧ ∀ h', frA h h' → RdA h' ⟨a.i, a.due, (settle 1 a.S a.out).1, a.ob, a.on, a.pr, (settle 1 a.S a.out).2⟩ → h'.1 55 3 = nI key → Q (some (.int (-1000000005))) h')
theorem ra_all {d : Nat} {Q : Option Value → Hp → Prop} {X : Cf → Prop} (hX : Clo (Call (d + 5)) cd27 (some .int) Q X) {h0 h : Hp} {f : Int32 → Int32} {n key : Nat} (by_ : BY f n) (hkey : key ≤ 5) (H : LHd h0 h f n key ⟨1, true, [], 0, 0, 0, []⟩ 0) (K : endA f n key h0 Q) : X (36, [some (.ref 55), some (.int (nI 0)), none], [], h) := by
  rcases K with ⟨a, i, g, ⟨ai, ft⟩, K⟩ | ⟨a, g, fi, hd, ho, K⟩
  · subst ai
    refine ra_run hX by_ hkey g (Or.inl rfl) H (fun k' h' l2' hl H' => ?_)
    rcases ft with ⟨fi, q⟩ | ⟨nf, q⟩
    · refine ra_end hX hl H' by_ hkey fi (fun q1 q2 => ?_) (fun _ => K)
      exfalso
      rcases q with q | q
      · rw [H'.r.du, q] at q1
        exact absurd q1 (by decide)
      · rw [H'.r.ob] at q2
        have := tx_n0 q2 (by have := H'.r.b1; omega)
        omega
    · exact ra_ft hX hl H' by_ hkey nf ((stA_eq (ts := fun i => cat f key (tks f n i))).symm.trans q) K
  · refine ra_run hX by_ hkey g (Or.inl rfl) H (fun k' h' l2' hl H' => ?_)
    refine ra_end hX hl H' by_ hkey fi (fun _ _ => K) (fun q => ?_)
    exfalso
    rcases q with q | q
    · exact q (by rw [H'.r.du, hd]; rfl)
    · exact q (by rw [H'.r.ob, ho]; exact Int32.le_refl _)
theorem frA.e54 {h h1 : Hp} (f : frA h h1) : h1.1 54 = h.1 54 := funext fun j => f.1 54 j (by decide)
theorem TP.a {h h1 : Hp} {n : Nat} (t : TP h n) (f : frA h h1) : TP h1 n := ⟨t.hn, (f.1 53 1 (by decide)).trans t.en⟩
theorem BY.nb {h h1 : Hp} {n : Nat} (b : BY (h.1 54) n) (f : frA h h1) : NB h1 n := fun p hp => by rw [f.e54]; exact (b p hp).1
theorem c_readAll {d : Nat} {Q : Option Value → Hp → Prop} {h : Hp} {n : Nat} (tp : TP h n) (by_ : BY (h.1 54) n) (KN : keyN (h.1 54) (tks (h.1 54) n 0) = -1000000005 → ∀ h', frA h h' → Q (some (.int (nI (tks (h.1 54) n 0).st))) h') (KK : ∀ key, key ≤ 5 → keyN (h.1 54) (tks (h.1 54) n 0) = nI key → endA (h.1 54) n key h Q) : Call (d + 6) 27 [.ref 55] h Q := by
  refine call_of (rfl : psM[27]? = some _) rfl rfl (rcvV rfl) (fun X hX => ?_)
  show X (0, [some (.ref 55), none, none], [], h)
  refine go hX 1 (gs := [True]) (z' := (1, [some (.ref 55), none, none], [.ref 55], h)) rfl ⟨trivial, trivial⟩ ?_
  refine cl hX 29 1 [.ref 55] [] rfl rfl rfl rfl ?_
  refine c_anewA (fun h1 f1 r1 e6 e7 => ?_)
  show X (4, [some (.ref 55), none, none], [], h1)
  refine go hX 1 (gs := [True]) (z' := (5, [some (.ref 55), none, none], [.ref 55], h1)) rfl ⟨trivial, trivial⟩ ?_
  refine cl hX 30 1 [.ref 55] [] rfl rfl rfl rfl ?_
  refine c_goOn (k := ⟨3, 0, 0, 0⟩) (tp.a f1) (by_.nb f1) e6 e7 (Nat.zero_le _) (fun h2 f2 t2 => ?_)
  have f12 := f1.tr f2.a
  rw [f1.e54] at t2
  show X (8, [some (.ref 55), none, none], [], h2)
  refine go hX 2 (gs := [True, True]) (z' := (10, [some (.ref 55), none, none], [.ref 55, .ref 55], h2)) rfl ⟨trivial, trivial, trivial⟩ ?_
  refine cl hX 35 1 [.ref 55] [.ref 55] rfl rfl rfl rfl ?_
  have w0 := tks_w by_ 0
  have w0' : TkW (h2.1 54) n (tks (h.1 54) n 0) := by rw [f12.e54]; exact w0
  refine c_keyA (tp.a f12) t2.1 t2.2.1 w0.w1 w0.w2 ?_
  rw [keyA_eq w0' tp.hn t2, f12.e54]
  have f12v : frA h (hI h2 55 3 (keyN (h.1 54) (tks (h.1 54) n 0))) := f12.st
  show X (13, [some (.ref 55), none, none], [.int (keyN (h.1 54) (tks (h.1 54) n 0)), .ref 55], h2)
  refine go hX 5 (gs := [True, True, True, True, True]) (z' := (if (keyN (h.1 54) (tks (h.1 54) n 0)) = (-1000000005) then 25 else 30, [some (.ref 55), none, none], [], (hI h2 55 3 (keyN (h.1 54) (tks (h.1 54) n 0))))) rfl ⟨trivial, trivial, trivial, trivial, trivial, trivial⟩ ?_
  refine br (fun b1 => ?_) (fun b1 => ?_)
  ·
    refine go hX 2 (gs := [True, True]) (z' := (29, [some (.ref 55), none, none], [.int (h2.1 55 5)], (hI h2 55 3 (keyN (h.1 54) (tks (h.1 54) n 0))))) rfl ⟨trivial, trivial, trivial⟩ ?_
    refine rt_ hX (G := True) (r := some (.int (h2.1 55 5))) rfl trivial ?_
    have e5 : (hI h2 55 3 (keyN (h.1 54) (tks (h.1 54) n 0))).1 55 5 = nI (tks (h.1 54) n 0).st := t2.w3.1
    refine Eq.mp (congrArg (fun z => Q (some (.int z)) _) e5.symm) (KN b1 _ f12v)
  ·
    refine go hX 1 (gs := [True]) (z' := (31, [some (.ref 55), none, none], [.ref 55], (hI h2 55 3 (keyN (h.1 54) (tks (h.1 54) n 0))))) rfl ⟨trivial, trivial⟩ ?_
    refine cl hX 30 1 [.ref 55] [] rfl rfl rfl rfl ?_
    refine c_goOn (k := tks (h.1 54) n 0) (tp.a f12v) (by_.nb f12v) t2.w3.2.1 t2.w3.2.2.1 (tks_w by_ 0).w2 (fun h4 f4 t4 => ?_)
    show X (34, [some (.ref 55), none, none], [], h4)
    refine go hX 2 (gs := [True, True]) (z' := (36, [some (.ref 55), some (.int 0), none], [], h4)) rfl ⟨trivial, trivial, trivial⟩ ?_
    rcases keyN_r (f := h.1 54) (t := tks (h.1 54) n 0) with q | ⟨key, hkey, q⟩
    · exact absurd q b1
    refine ra_all hX by_ hkey ⟨(r1.t f2).w3.t f4, ?_, ?_, (tp.a (f12v.tr f4.a)), (f12v.tr f4.a).e54, rfl, Nat.le_refl _, Nat.le_refl _, Nat.zero_le _, f12v.tr f4.a⟩ (KK key hkey q)
    · rw [f12v.e54] at t4; exact t4
    · exact (f4.1 _ _ (by decide)).trans (hI_eq.trans q)
