/-! The reference's reader. -/
/-- a step there: 0 a NUMBER, 1 a NAME's letter, 2 a sign -/
noncomputable def stR (key : Nat) (s : Int) (x v : Int32) : Prop := (x = 0 ∧ v.toInt = s ∧ 0 ≤ s ∧ s < 10000) ∨ (x = 1 ∧ ∃ k, k < (nmT key).length ∧ s = 10000 + (k : Int) ∧ v = nI ((nmT key).getD k 0)) ∨ (x = 2 ∧ s = 20000 + v.toInt ∧ (v.toInt = 33 ∨ v.toInt = 43 ∨ v.toInt = 45 ∨ v.toInt = 42 ∨ v.toInt = 47 ∨ v.toInt = 60 ∨ v.toInt = 61 ∨ v.toInt = 62 ∨ v.toInt = 38 ∨ v.toInt = 124))
noncomputable def SBs (g : Int32 → Int32) (key A0 : Nat) : List Int → Prop
  | [] => True
  | s :: o => stR key s (g (nI (A0 + 2 * o.length))) (g (nI (A0 + 2 * o.length + 1))) ∧ SBs g key A0 o
theorem SBs.cg {g g' : Int32 → Int32} {key A0 : Nat} : ∀ {o : List Int}, SBs g key A0 o → (∀ j, j < A0 + 2 * o.length → g' (nI j) = g (nI j)) → SBs g' key A0 o
  | [], _, _ => trivial
  | s :: o, h, e => by
    refine ⟨?_, SBs.cg h.2 (fun j hj => e j (by simp only [Tok.ty_mk, Tok.st_mk, Tok.nx_mk, Tok.val_mk, PA.i_mk, PA.due_mk, PA.S_mk, PA.ob_mk, PA.on_mk, PA.pr_mk, PA.out_mk, PB.i_mk, PB.ob_mk, PB.nt_mk, PB.pr_mk, PB.out_mk, List.length_cons]; omega))⟩
    rw [e _ (by simp only [Tok.ty_mk, Tok.st_mk, Tok.nx_mk, Tok.val_mk, PA.i_mk, PA.due_mk, PA.S_mk, PA.ob_mk, PA.on_mk, PA.pr_mk, PA.out_mk, PB.i_mk, PB.ob_mk, PB.nt_mk, PB.pr_mk, PB.out_mk, List.length_cons]; omega), e _ (by simp only [Tok.ty_mk, Tok.st_mk, Tok.nx_mk, Tok.val_mk, PA.i_mk, PA.due_mk, PA.S_mk, PA.ob_mk, PA.on_mk, PA.pr_mk, PA.out_mk, PB.i_mk, PB.ob_mk, PB.nt_mk, PB.pr_mk, PB.out_mk, List.length_cons]; omega)]
    exact h.1
/-- but for what the reader changes all is as it was -/
noncomputable def frBB (A0 : Nat) (h h' : Hp) : Prop := (∀ o (j : Int32), ¬ (o = 65 ∧ (j = 17 ∨ j = 18 ∨ j = 19 ∨ j = 20 ∨ j = 21 ∨ j = 22 ∨ j = 23 ∨ j = 24 ∨ j = 26) ∨ o = 66 ∧ ∃ k : Nat, k < 192 ∧ j = nI (A0 + k)) → h'.1 o j = h.1 o j) ∧ h'.2 = h.2
section FBB
variable {A0 : Nat} {h h1 h2 : Hp}
theorem frBB_rf : frBB A0 h h := ⟨fun _ _ _ => rfl, rfl⟩
theorem frBB.tr (a : frBB A0 h h1) (b : frBB A0 h1 h2) : frBB A0 h h2 := ⟨fun o j q => (b.1 o j q).trans (a.1 o j q), b.2.trans a.2⟩
theorem frBB.s65 (f : frBB A0 h h1) {j v : Int32} (hj : j = 17 ∨ j = 18 ∨ j = 19 ∨ j = 20 ∨ j = 21 ∨ j = 22 ∨ j = 23 ∨ j = 24 ∨ j = 26) : frBB A0 h (hI h1 65 j v) := by
  refine ⟨fun o k q => ?_, f.2⟩
  show (if o = 65 ∧ k = j then v else h1.1 o k) = _
  rw [if_neg (fun (e : o = 65 ∧ k = j) => q (Or.inl ⟨e.1, by rw [e.2]; exact hj⟩))]
  exact f.1 o k q
theorem frBB.s66 (f : frBB A0 h h1) {k : Nat} {v : Int32} (hk : k < 192) : frBB A0 h (hI h1 66 (nI (A0 + k)) v) := by
  refine ⟨fun o j q => ?_, f.2⟩
  show (if o = 66 ∧ j = nI (A0 + k) then v else h1.1 o j) = _
  rw [if_neg (fun (e : o = 66 ∧ j = nI (A0 + k)) => q (Or.inr ⟨e.1, k, hk, e.2⟩))]
  exact f.1 o j q
theorem frB.bb (f : frB h h1) : frBB A0 h h1 := ⟨fun o j q => f.1 o j (fun r => q (Or.inl ⟨r.1, by
  rcases r.2 with r | r | r | r | r
  · exact Or.inl r
  · exact Or.inr (Or.inl r)
  · exact Or.inr (Or.inr (Or.inl r))
  · exact Or.inr (Or.inr (Or.inr (Or.inl r)))
  · exact Or.inr (Or.inr (Or.inr (Or.inr (Or.inl r))))⟩)), f.2⟩
end FBB
/-- the reference's reader at a word or sign -/
noncomputable abbrev RdB (h0 h : Hp) (f : Int32 → Int32) (n key A0 : Nat) (b : PB) : Prop := (h.1 65 22 = nI b.ob) ∧ (h.1 65 23 = nI b.nt) ∧ (h.1 65 26 = nI b.pr) ∧ (h.1 65 24 = nI b.out.length) ∧ (SBs (h.1 66) key A0 b.out) ∧ (TkB h (tks f n b.i)) ∧ (TPB h n) ∧ (h.1 78 = f) ∧ (h.1 65 25 = nI A0) ∧ (604 ≤ A0 ∧ A0 ≤ 3200) ∧ (b.ob ≤ 8) ∧ (b.nt ≤ 8) ∧ (1 ≤ b.i) ∧ (b.out.length ≤ b.i) ∧ (b.i ≤ (tks f n b.i).st + 1) ∧ (frBB A0 h0 h)
theorem RdB.ob {h0 h : Hp} {f : Int32 → Int32} {n key A0 : Nat} {b : PB} (self_ : RdB h0 h f n key A0 b) : h.1 65 22 = nI b.ob := self_.1
theorem RdB.nt {h0 h : Hp} {f : Int32 → Int32} {n key A0 : Nat} {b : PB} (self_ : RdB h0 h f n key A0 b) : h.1 65 23 = nI b.nt := self_.2.1
theorem RdB.pr {h0 h : Hp} {f : Int32 → Int32} {n key A0 : Nat} {b : PB} (self_ : RdB h0 h f n key A0 b) : h.1 65 26 = nI b.pr := self_.2.2.1
theorem RdB.so {h0 h : Hp} {f : Int32 → Int32} {n key A0 : Nat} {b : PB} (self_ : RdB h0 h f n key A0 b) : h.1 65 24 = nI b.out.length := self_.2.2.2.1
theorem RdB.sb {h0 h : Hp} {f : Int32 → Int32} {n key A0 : Nat} {b : PB} (self_ : RdB h0 h f n key A0 b) : SBs (h.1 66) key A0 b.out := self_.2.2.2.2.1
theorem RdB.tk {h0 h : Hp} {f : Int32 → Int32} {n key A0 : Nat} {b : PB} (self_ : RdB h0 h f n key A0 b) : TkB h (tks f n b.i) := self_.2.2.2.2.2.1
theorem RdB.tp {h0 h : Hp} {f : Int32 → Int32} {n key A0 : Nat} {b : PB} (self_ : RdB h0 h f n key A0 b) : TPB h n := self_.2.2.2.2.2.2.1
theorem RdB.ef {h0 h : Hp} {f : Int32 → Int32} {n key A0 : Nat} {b : PB} (self_ : RdB h0 h f n key A0 b) : h.1 78 = f := self_.2.2.2.2.2.2.2.1
theorem RdB.ba {h0 h : Hp} {f : Int32 → Int32} {n key A0 : Nat} {b : PB} (self_ : RdB h0 h f n key A0 b) : h.1 65 25 = nI A0 := self_.2.2.2.2.2.2.2.2.1
theorem RdB.a0 {h0 h : Hp} {f : Int32 → Int32} {n key A0 : Nat} {b : PB} (self_ : RdB h0 h f n key A0 b) : 604 ≤ A0 ∧ A0 ≤ 3200 := self_.2.2.2.2.2.2.2.2.2.1
theorem RdB.b1 {h0 h : Hp} {f : Int32 → Int32} {n key A0 : Nat} {b : PB} (self_ : RdB h0 h f n key A0 b) : b.ob ≤ 8 := self_.2.2.2.2.2.2.2.2.2.2.1
theorem RdB.b2 {h0 h : Hp} {f : Int32 → Int32} {n key A0 : Nat} {b : PB} (self_ : RdB h0 h f n key A0 b) : b.nt ≤ 8 := self_.2.2.2.2.2.2.2.2.2.2.2.1
theorem RdB.i1 {h0 h : Hp} {f : Int32 → Int32} {n key A0 : Nat} {b : PB} (self_ : RdB h0 h f n key A0 b) : 1 ≤ b.i := self_.2.2.2.2.2.2.2.2.2.2.2.2.1
theorem RdB.ln {h0 h : Hp} {f : Int32 → Int32} {n key A0 : Nat} {b : PB} (self_ : RdB h0 h f n key A0 b) : b.out.length ≤ b.i := self_.2.2.2.2.2.2.2.2.2.2.2.2.2.1
theorem RdB.ki {h0 h : Hp} {f : Int32 → Int32} {n key A0 : Nat} {b : PB} (self_ : RdB h0 h f n key A0 b) : b.i ≤ (tks f n b.i).st + 1 := self_.2.2.2.2.2.2.2.2.2.2.2.2.2.2.1
theorem RdB.fr {h0 h : Hp} {f : Int32 → Int32} {n key A0 : Nat} {b : PB} (self_ : RdB h0 h f n key A0 b) : frBB A0 h0 h := self_.2.2.2.2.2.2.2.2.2.2.2.2.2.2.2
/-- how a level's call ends -/
noncomputable def PoB (h0 h' : Hp) (f : Int32 → Int32) (n key A0 : Nat) : PR → Prop
  | .inl b' => RdB h0 h' f n key A0 b'
  | .inr i => h'.1 65 17 = nI (tks f n i).st ∧ frBB A0 h0 h'
noncomputable def rvB : PR → Int32
  | .inl _ => 1
  | .inr _ => 0
section TB
variable {h : Hp} {t : Tok} {f : Int32 → Int32} {key : Nat}
theorem TkB.t3 (k : TkB h t) : h.1 65 19 = 3 ↔ t.ty = 3 := by
  rw [k.b19]
  unfold tyB
  split
  · rename_i q
    exact ⟨fun r => absurd r (by decide), fun r => by rw [q.1] at r; exact absurd r (by decide)⟩
  · exact Iff.rfl
/-- which sign it is -/
theorem TkB.sg (k : TkB h t) (c : Int32) : (h.1 65 19 = 3 ∧ h.1 65 21 = c) ↔ (t.ty = 3 ∧ t.val = c) := by
  rw [k.t3]
  exact and_congr_right (fun q => by rw [k.b21 q])
theorem cat_opI (c : Int32) (hc : 1 ≤ bnd c.toInt) : cat f key t = .op c.toInt ↔ (t.ty = 3 ∧ t.val = c) := by
  constructor
  · intro e
    have t3 : t.ty = 3 := Decidable.not_not.mp (fun q => (cat_n3 (f := f) (key := key) q).2 _ e)
    refine ⟨t3, ?_⟩
    have nb : 1 ≤ bnd t.val.toInt := Decidable.not_not.mp (fun q => by
      by_cases h4 : t.val = 41
      · rw [cat_cl t3 h4] at e; cases e
      · exact (cat_b0 (f := f) (key := key) t3 h4 (by omega)).2 _ e)
    rw [cat_op t3 nb] at e
    exact Int32.toInt_inj.mp (Tk.op.inj e)
  · rintro ⟨t3, rfl⟩
    exact cat_op t3 hc
theorem cat_bangI : cat f key t = .bang ↔ (t.ty = 3 ∧ t.val = 33) := by
  constructor
  · intro e
    unfold cat at e
    split at e
    · cases e
    · split at e
      · split at e <;> cases e
      · split at e
        · split at e <;> cases e
        · split at e
          · rename_i t3
            split at e
            · exact ⟨t3, by assumption⟩
            · split at e
              · cases e
              · split at e
                · cases e
                · split at e <;> cases e
          · cases e
  · rintro ⟨t3, v⟩
    rw [cat_3 t3, if_pos v]
theorem cat_opnI : cat f key t = .opn ↔ (t.ty = 3 ∧ t.val = 40) := by
  constructor
  · intro e
    unfold cat at e
    split at e
    · cases e
    · split at e
      · split at e <;> cases e
      · split at e
        · split at e <;> cases e
        · split at e
          · rename_i t3
            split at e
            · cases e
            · split at e
              · exact ⟨t3, by assumption⟩
              · split at e
                · cases e
                · split at e <;> cases e
          · cases e
  · rintro ⟨t3, v⟩
    rw [cat_3 t3, if_neg (by rw [v]; decide), if_pos v]
theorem cat_clsI : cat f key t = .cls ↔ (t.ty = 3 ∧ t.val = 41) := by
  constructor
  · intro e
    have t3 : t.ty = 3 := Decidable.not_not.mp (fun q => (cat_n3 (f := f) (key := key) q).1 e)
    refine ⟨t3, Decidable.not_not.mp (fun h4 => ?_)⟩
    by_cases nb : 1 ≤ bnd t.val.toInt
    · rw [cat_op t3 nb] at e; cases e
    · exact (cat_b0 (f := f) (key := key) t3 h4 (by omega)).1 e
  · rintro ⟨t3, v⟩
    exact cat_cl t3 v
end TB
/-- a level takes no more steps than words and signs -/
theorem prs_len {ts : Nat → Tk} {q : Bool} {l : Nat} {b : PB} {r : PR} (h : prs ts q l b r) : ∀ b', r = .inl b' → b.i ≤ b'.i ∧ b'.out.length + b.i ≤ b.out.length + b'.i := by
  refine h (fun _ _ b r => ∀ b', r = .inl b' → b.i ≤ b'.i ∧ b'.out.length + b.i ≤ b.out.length + b'.i) ?_ ?_ ?_ ?_ ?_ ?_ ?_ ?_ ?_ ?_ ?_ ?_ ?_ ?_ ?_ ?_ ?_
  · intro l0 b0 b10 r0 _ i1 i2
    intro b' e; have := i1 _ rfl; have := i2 b' e; omega
  · intro l0 b0 i0 _ _ _
    intro b' e; cases e
  · intro l0 b0 _
    intro b' e; cases e; exact ⟨Nat.le_refl _, Nat.le_refl _⟩
  · intro l0 b0 b20 s0 r0 _ _ _ i1 i2
    intro b' e; have h1 := i1 _ rfl; have h2 := i2 b' e; simp only [Tok.ty_mk, Tok.st_mk, Tok.nx_mk, Tok.val_mk, PA.i_mk, PA.due_mk, PA.S_mk, PA.ob_mk, PA.on_mk, PA.pr_mk, PA.out_mk, PB.i_mk, PB.ob_mk, PB.nt_mk, PB.pr_mk, PB.out_mk, PB.nx, PB.em, List.length_cons] at h1 h2; omega
  · intro l0 b0 s0 i0 _ _ _ _
    intro b' e; cases e
  · intro b0 b10 i1 _
    intro b' e; cases e; exact i1 _ rfl
  · intro b0 b10 b20 s0 i1 _ _ i2
    intro b' e; cases e; have h1 := i1 _ rfl; have h2 := i2 _ rfl; simp only [Tok.ty_mk, Tok.st_mk, Tok.nx_mk, Tok.val_mk, PA.i_mk, PA.due_mk, PA.S_mk, PA.ob_mk, PA.on_mk, PA.pr_mk, PA.out_mk, PB.i_mk, PB.ob_mk, PB.nt_mk, PB.pr_mk, PB.out_mk, PB.nx, PB.em, List.length_cons] at h1 h2 ⊢; omega
  · intro b0 b10 s0 i0 _ _ _ _
    intro b' e; cases e
  · intro b0 s0 _
    intro b' e; cases e; simp only [Tok.ty_mk, Tok.st_mk, Tok.nx_mk, Tok.val_mk, PA.i_mk, PA.due_mk, PA.S_mk, PA.ob_mk, PA.on_mk, PA.pr_mk, PA.out_mk, PB.i_mk, PB.ob_mk, PB.nt_mk, PB.pr_mk, PB.out_mk, List.length_cons]; omega
  · intro b0 b10 _ _ i1
    intro b' e; cases e; have h1 := i1 _ rfl; simp only [Tok.ty_mk, Tok.st_mk, Tok.nx_mk, Tok.val_mk, PA.i_mk, PA.due_mk, PA.S_mk, PA.ob_mk, PA.on_mk, PA.pr_mk, PA.out_mk, PB.i_mk, PB.ob_mk, PB.nt_mk, PB.pr_mk, PB.out_mk, List.length_cons] at h1 ⊢; omega
  · intro b0 i0 _ _ _
    intro b' e; cases e
  · intro b0 _ _
    intro b' e; cases e
  · intro b0 b10 _ _ i1 _
    intro b' e; cases e; have h1 := i1 _ rfl; simp only [Tok.ty_mk, Tok.st_mk, Tok.nx_mk, Tok.val_mk, PA.i_mk, PA.due_mk, PA.S_mk, PA.ob_mk, PA.on_mk, PA.pr_mk, PA.out_mk, PB.i_mk, PB.ob_mk, PB.nt_mk, PB.pr_mk, PB.out_mk] at h1 ⊢; omega
  · intro b0 i0 _ _ _
    intro b' e; cases e
  · intro b0 b10 _ _ _ _
    intro b' e; cases e
  · intro b0 _ _
    intro b' e; cases e
  · intro b0 _ _ _
    intro b' e; cases e
/-- what is open stays so -/
theorem prs_on {ts : Nat → Tk} {q : Bool} {l : Nat} {b : PB} {r : PR} (h : prs ts q l b r) : ∀ b', r = .inl b' → b'.ob = b.ob ∧ b'.nt = b.nt := by
  refine h (fun _ _ b r => ∀ b', r = .inl b' → b'.ob = b.ob ∧ b'.nt = b.nt) ?_ ?_ ?_ ?_ ?_ ?_ ?_ ?_ ?_ ?_ ?_ ?_ ?_ ?_ ?_ ?_ ?_
  · intro l0 b0 b10 r0 _ i1 i2
    intro b' e; have h1 := i1 _ rfl; have h2 := i2 b' e; exact ⟨h2.1.trans h1.1, h2.2.trans h1.2⟩
  · intro l0 b0 i0 _ _ _
    intro b' e; cases e
  · intro l0 b0 _
    intro b' e; cases e; exact ⟨rfl, rfl⟩
  · intro l0 b0 b20 s0 r0 _ _ _ i1 i2
    intro b' e; have h1 := i1 _ rfl; have h2 := i2 b' e; exact ⟨h2.1.trans h1.1, h2.2.trans h1.2⟩
  · intro l0 b0 s0 i0 _ _ _ _
    intro b' e; cases e
  · intro b0 b10 i1 _
    intro b' e; cases e; exact i1 _ rfl
  · intro b0 b10 b20 s0 i1 _ _ i2
    intro b' e; cases e; have h1 := i1 _ rfl; have h2 := i2 _ rfl; exact ⟨h2.1.trans h1.1, h2.2.trans h1.2⟩
  · intro b0 b10 s0 i0 _ _ _ _
    intro b' e; cases e
  · intro b0 s0 _
    intro b' e; cases e; exact ⟨rfl, rfl⟩
  · intro b0 b10 _ _ i1
    intro b' e; cases e; have h1 := i1 _ rfl; exact ⟨h1.1, by have := h1.2; simp only [Tok.ty_mk, Tok.st_mk, Tok.nx_mk, Tok.val_mk, PA.i_mk, PA.due_mk, PA.S_mk, PA.ob_mk, PA.on_mk, PA.pr_mk, PA.out_mk, PB.i_mk, PB.ob_mk, PB.nt_mk, PB.pr_mk, PB.out_mk] at this ⊢; omega⟩
  · intro b0 i0 _ _ _
    intro b' e; cases e
  · intro b0 _ _
    intro b' e; cases e
  · intro b0 b10 _ _ i1 _
    intro b' e; cases e; have h1 := i1 _ rfl; exact ⟨by have := h1.1; simp only [Tok.ty_mk, Tok.st_mk, Tok.nx_mk, Tok.val_mk, PA.i_mk, PA.due_mk, PA.S_mk, PA.ob_mk, PA.on_mk, PA.pr_mk, PA.out_mk, PB.i_mk, PB.ob_mk, PB.nt_mk, PB.pr_mk, PB.out_mk] at this ⊢; omega, h1.2⟩
  · intro b0 i0 _ _ _
    intro b' e; cases e
  · intro b0 b10 _ _ _ _
    intro b' e; cases e
  · intro b0 _ _
    intro b' e; cases e
  · intro b0 _ _ _
    intro b' e; cases e
theorem c_isSg {d : Nat} {Q : Option Value → Hp → Prop} {h : Hp} {c : Int32} (k1 : h.1 65 19 = 3 ∧ h.1 65 21 = c → Q (some (.int 1)) h) (k0 : ¬ (h.1 65 19 = 3 ∧ h.1 65 21 = c) → Q (some (.int 0)) h) : Call (d + 1) 212 [.ref 65, .int c] h Q := by
  refine call_of (rfl : psM[212]? = some _) rfl rfl (rcvV rfl) (fun X hX => ?_)
  show X (0, [some (.ref 65), some (.int c)], [], h)
  refine go hX 4 (gs := [True, True, True, True]) (z' := (if (h.1 65 19) = 3 then 8 else 20, [some (.ref 65), some (.int c)], [], h)) rfl ⟨trivial, trivial, trivial, trivial, trivial⟩ ?_
  refine br (fun b1 => ?_) (fun b1 => ?_)
  ·
    refine go hX 4 (gs := [True, True, True, True]) (z' := (if (h.1 65 21) = c then 16 else 20, [some (.ref 65), some (.int c)], [], h)) rfl ⟨trivial, trivial, trivial, trivial, trivial⟩ ?_
    refine br (fun b2 => ?_) (fun b2 => ?_)
    ·
      refine go hX 2 (gs := [True, True]) (z' := (21, [some (.ref 65), some (.int c)], [.int 1], h)) rfl ⟨trivial, trivial, trivial⟩ ?_
      refine rt_ hX (G := isB 1) (r := some (.int 1)) rfl isB1 ?_
      exact k1 (by grind)
    ·
      refine go hX 1 (gs := [True]) (z' := (21, [some (.ref 65), some (.int c)], [.int 0], h)) rfl ⟨trivial, trivial⟩ ?_
      refine rt_ hX (G := isB 0) (r := some (.int 0)) rfl isB0 ?_
      exact k0 (by grind)
  ·
    refine go hX 1 (gs := [True]) (z' := (21, [some (.ref 65), some (.int c)], [.int 0], h)) rfl ⟨trivial, trivial⟩ ?_
    refine rt_ hX (G := isB 0) (r := some (.int 0)) rfl isB0 ?_
    exact k0 (by grind)
theorem c_stp {d : Nat} {Q : Option Value → Hp → Prop} {h : Hp} {x v : Int32} (ha0 : 604 ≤ h.1 65 25) (ha1 : h.1 65 25 ≤ 3200) (hl0 : 0 ≤ h.1 65 24) (hl1 : h.1 65 24 ≤ 96) (k : Q none (hI (hI (hI h 66 (h.1 65 25 + 2 * h.1 65 24) x) 66 (h.1 65 25 + 2 * h.1 65 24 + 1) v) 65 24 (h.1 65 24 + 1))) : Call (d + 1) 217 [.ref 65, .int x, .int v] h Q := by
  refine call_of (rfl : psM[217]? = some _) rfl rfl (rcvV rfl) (fun X hX => ?_)
  show X (0, [some (.ref 65), some (.int x), some (.int v)], [], h)
  refine go hX 30 (gs := [True, True, True, True, True, True, ibd (((h.1 65 25) + (2 * (h.1 65 24))) + 1) 3400, True, True, True, True, True, True, True, True, True, True, True, True, ibd ((h.1 65 25) + (2 * (h.1 65 24))) 3400, True, True, True, True, True, True, True, True, True, True]) (z' := (46, [some (.ref 65), some (.int x), some (.int v)], [], (hI (hI (hI h 66 ((h.1 65 25) + (2 * (h.1 65 24))) x) 66 (((h.1 65 25) + (2 * (h.1 65 24))) + 1) v) 65 24 ((h.1 65 24) + 1)))) rfl ⟨trivial, trivial, trivial, trivial, trivial, trivial, ?_, trivial, trivial, trivial, trivial, trivial, trivial, trivial, trivial, trivial, trivial, trivial, trivial, ?_, trivial, trivial, trivial, trivial, trivial, trivial, trivial, trivial, trivial, trivial, trivial⟩ ?_
  · exact ibd_of (B := 3400) rfl (by grind) (by grind)
  · exact ibd_of (B := 3400) rfl (by grind) (by grind)
  refine rt_ hX (G := True) (r := none) rfl trivial ?_
  exact k
theorem nI_2 {k : Nat} (h : k ≤ 4000) : 2 * nI k = nI (2 * k) := by
  apply Int32.toInt_inj.mp
  have c : (2 : Int32).toInt = 2 := rfl
  rw [Int32.toInt_mul, c, nI_i (by omega), nI_i (by omega), b32 (by omega) (by omega)]
  omega
section RDB
variable {h0 h h1 : Hp} {f : Int32 → Int32} {n key A0 : Nat} {b : PB} {d : Nat} {Q : Option Value → Hp → Prop}
theorem RdB.len (R : RdB h0 h f n key A0 b) (by_ : BY f n) : b.out.length ≤ 97 ∧ b.i ≤ 97 := by
  have w := tks_w by_ b.i
  have := w.w1
  have := w.w2
  have := R.tp.hn
  have := R.ki
  have := R.ln
  omega
theorem RdB.next (R : RdB h0 h f n key A0 b) (by_ : BY f n) (t0 : (tks f n b.i).ty ≠ 0) (hl : (tks f n b.i).ty = 2 → (tks f n b.i).nx - (tks f n b.i).st ≤ 4) (K : ∀ h', RdB h0 h' f n key A0 b.nx → Q none h') : Call (d + 3) 211 [.ref 65] h Q := by
  have w := tks_w by_ b.i
  have lt := w.w6 t0
  refine c_next R.tp R.tk.b18 R.tk.b19 w.w2 hl (fun _ => by omega) (fun h' f1 t1 => K h' ?_)
  rw [R.ef] at t1
  have s := tks_nx by_ b.i
  have ki := R.ki
  have ln := R.ln
  have i1 := R.i1
  have e : ∀ j : Int32, ¬ (j = 17 ∨ j = 18 ∨ j = 19 ∨ j = 20 ∨ j = 21) → h'.1 65 j = h.1 65 j := fun j hj => f1.1 65 j (fun q => hj q.2)
  refine ⟨(e 22 (by decide)).trans R.ob, (e 23 (by decide)).trans R.nt, (e 26 (by decide)).trans R.pr, (e 24 (by decide)).trans R.so, ?_, t1, ⟨R.tp.hn, (e 16 (by decide)).trans R.tp.en⟩, ?_, (e 25 (by decide)).trans R.ba, R.a0, R.b1, R.b2, ?_, ?_, ?_, R.fr.tr f1.bb⟩
  · exact R.sb.cg (fun j _ => f1.1 66 _ (by simp [Tok.ty_mk, Tok.st_mk, Tok.nx_mk, Tok.val_mk, PA.i_mk, PA.due_mk, PA.S_mk, PA.ob_mk, PA.on_mk, PA.pr_mk, PA.out_mk, PB.i_mk, PB.ob_mk, PB.nt_mk, PB.pr_mk, PB.out_mk]))
  · exact (funext fun j => f1.1 78 j (by simp [Tok.ty_mk, Tok.st_mk, Tok.nx_mk, Tok.val_mk, PA.i_mk, PA.due_mk, PA.S_mk, PA.ob_mk, PA.on_mk, PA.pr_mk, PA.out_mk, PB.i_mk, PB.ob_mk, PB.nt_mk, PB.pr_mk, PB.out_mk])).trans R.ef
  · show 1 ≤ b.i + 1; omega
  · show b.out.length ≤ b.i + 1; omega
  · show b.i + 1 ≤ (tks f n (b.i + 1)).st + 1; omega
theorem RdB.sign (R : RdB h0 h f n key A0 b) (c : Int32) (k1 : (tks f n b.i).ty = 3 ∧ (tks f n b.i).val = c → Q (some (.int 1)) h) (k0 : ¬ ((tks f n b.i).ty = 3 ∧ (tks f n b.i).val = c) → Q (some (.int 0)) h) : Call (d + 1) 212 [.ref 65, .int c] h Q := c_isSg (fun q => k1 ((R.tk.sg c).mp q)) (fun q => k0 (fun r => q ((R.tk.sg c).mpr r)))
theorem RdB.step (R : RdB h0 h f n key A0 b) (by_ : BY f n) {s : Int} {x v : Int32} (hs : stR key s x v) (l : b.out.length + 1 ≤ b.i) (r95 : b.out.length ≤ 95) (K : ∀ h', (∀ j : Int32, j ≠ 24 → h'.1 65 j = h.1 65 j) → RdB h0 h' f n key A0 ⟨b.i, b.ob, b.nt, b.pr, s :: b.out⟩ → Q none h') : Call (d + 1) 217 [.ref 65, .int x, .int v] h Q := by
  have hl := R.len by_
  have a0 := R.a0
  have l1 := l
  have e1 : h.1 65 25 + 2 * h.1 65 24 = nI (A0 + 2 * b.out.length) := by rw [R.ba, R.so, nI_2 (by omega), nI_add]
  refine c_stp (by rw [R.ba]; exact (tx_le (a := 604) (by decide) (by omega)).mpr (by omega)) (by rw [R.ba]; exact (tx_le (b := 3200) (by omega) (by decide)).mpr (by omega)) (by rw [R.so]; exact tx_0 _ (by omega)) (by rw [R.so]; exact (tx_le (b := 96) (by omega) (by decide)).mpr (by omega)) ?_
  rw [e1, tx_1, R.so, tx_1]
  have ne : ∀ j : Int32, j ≠ 24 → (hI (hI (hI h 66 (nI (A0 + 2 * b.out.length)) x) 66 (nI (A0 + 2 * b.out.length + 1)) v) 65 24 (nI (b.out.length + 1))).1 65 j = h.1 65 j := fun j hj => by
    rw [hI_j hj, hI_ne (by decide), hI_ne (by decide)]
  refine K _ ne ⟨(ne 22 (by decide)).trans R.ob, (ne 23 (by decide)).trans R.nt, (ne 26 (by decide)).trans R.pr, hI_eq, ?_, ⟨(ne 17 (by decide)).trans R.tk.b17, (ne 18 (by decide)).trans R.tk.b18, (ne 19 (by decide)).trans R.tk.b19, fun p q => (ne 20 (by decide)).trans (R.tk.b20 p q), fun p => (ne 21 (by decide)).trans (R.tk.b21 p), fun p => ?_⟩, ⟨R.tp.hn, (ne 16 (by decide)).trans R.tp.en⟩, ?_, (ne 25 (by decide)).trans R.ba, R.a0, R.b1, R.b2, R.i1, by simp only [Tok.ty_mk, Tok.st_mk, Tok.nx_mk, Tok.val_mk, PA.i_mk, PA.due_mk, PA.S_mk, PA.ob_mk, PA.on_mk, PA.pr_mk, PA.out_mk, PB.i_mk, PB.ob_mk, PB.nt_mk, PB.pr_mk, PB.out_mk, List.length_cons]; omega, R.ki, ?_⟩
  · refine ⟨?_, R.sb.cg (fun j hj => ?_)⟩
    · have x1 : (hI (hI (hI h 66 (nI (A0 + 2 * b.out.length)) x) 66 (nI (A0 + 2 * b.out.length + 1)) v) 65 24 (nI (b.out.length + 1))).1 66 (nI (A0 + 2 * b.out.length)) = x := by rw [hI_ne (by decide), hI_j (fun e => absurd ((nIle_eq (by omega) (by omega)).mp e) (by omega)), hI_eq]
      have x2 : (hI (hI (hI h 66 (nI (A0 + 2 * b.out.length)) x) 66 (nI (A0 + 2 * b.out.length + 1)) v) 65 24 (nI (b.out.length + 1))).1 66 (nI (A0 + 2 * b.out.length + 1)) = v := by rw [hI_ne (by decide), hI_eq]
      rw [x1, x2]
      exact hs
    · rw [hI_ne (by decide), hI_j (fun e => absurd ((nIle_eq (by omega) (by omega)).mp e) (by omega)), hI_j (fun e => absurd ((nIle_eq (by omega) (by omega)).mp e) (by omega))]
  · rw [ne 21 (by decide), R.tk.bw p, hI_ne (by decide), hI_ne (by decide), hI_ne (by decide)]
    rfl
  · refine (funext fun j => ?_).trans R.ef
    rw [hI_ne (by decide), hI_ne (by decide), hI_ne (by decide)]
  · exact (((R.fr.s66 (k := 2 * b.out.length) (by omega)).s66 (k := 2 * b.out.length + 1) (by omega)).s65 (by decide))
theorem RdB.w (R : RdB h0 h f n key A0 b) {j v : Int32} {b' : PB} (hj : j = 22 ∨ j = 23 ∨ j = 26) (ho : (hI h 65 j v).1 65 22 = nI b'.ob) (hn : (hI h 65 j v).1 65 23 = nI b'.nt) (hp : (hI h 65 j v).1 65 26 = nI b'.pr) (e1 : b'.i = b.i) (e2 : b'.out = b.out) (l1 : b'.ob ≤ 8) (l2 : b'.nt ≤ 8) : RdB h0 (hI h 65 j v) f n key A0 b' := by
  have ne : ∀ k : Int32, ¬ (k = 22 ∨ k = 23 ∨ k = 26) → (hI h 65 j v).1 65 k = h.1 65 k := fun k hk => hI_j (fun e => hk (e ▸ hj))
  have hj' : j = 17 ∨ j = 18 ∨ j = 19 ∨ j = 20 ∨ j = 21 ∨ j = 22 ∨ j = 23 ∨ j = 24 ∨ j = 26 := by
    rcases hj with q | q | q
    · exact Or.inr (Or.inr (Or.inr (Or.inr (Or.inr (Or.inl q)))))
    · exact Or.inr (Or.inr (Or.inr (Or.inr (Or.inr (Or.inr (Or.inl q))))))
    · exact Or.inr (Or.inr (Or.inr (Or.inr (Or.inr (Or.inr (Or.inr (Or.inr q)))))))
  refine ⟨ho, hn, hp, (ne 24 (by decide)).trans (by rw [e2]; exact R.so), by rw [e2]; exact R.sb.cg (fun _ _ => hI_ne (by decide)), ?_, ⟨R.tp.hn, (ne 16 (by decide)).trans R.tp.en⟩, (funext fun _ => hI_ne (by decide)).trans R.ef, (ne 25 (by decide)).trans R.ba, R.a0, l1, l2, by rw [e1]; exact R.i1, by rw [e1, e2]; exact R.ln, by rw [e1]; exact R.ki, R.fr.s65 hj'⟩
  rw [e1]
  exact ⟨(ne 17 (by decide)).trans R.tk.b17, (ne 18 (by decide)).trans R.tk.b18, (ne 19 (by decide)).trans R.tk.b19, fun p q => (ne 20 (by decide)).trans (R.tk.b20 p q), fun p => (ne 21 (by decide)).trans (R.tk.b21 p), fun p => by rw [ne 21 (by decide), R.tk.bw p, hI_ne (by decide)]⟩
end RDB
/-- what a call of a level does -/
noncomputable def SubB (d mid l : Nat) (f : Int32 → Int32) (n key A0 m : Nat) : Prop := ∀ {h0 h : Hp} {b : PB} {Q : Option Value → Hp → Prop}, RdB h0 h f n key A0 b → b.out.length + 1 ≤ b.i → 16 ≤ b.ob + b.nt + m → (∀ r h', prs (fun i => cat f key (tks f n i)) false l b r → PoB h0 h' f n key A0 r → Q (some (.int (rvB r))) h') → Call d mid [.ref 65, .int (nI key)] h Q
theorem SubB.two {d mid l : Nat} {f : Int32 → Int32} {n key A0 m : Nat} (S : SubB d mid l f n key A0 m) {h0 h : Hp} {b : PB} {Q : Option Value → Hp → Prop} (R : RdB h0 h f n key A0 b) (tl : b.out.length + 1 ≤ b.i) (hm : 16 ≤ b.ob + b.nt + m) (K1 : ∀ b1 h1, prs (fun i => cat f key (tks f n i)) false l b (.inl b1) → RdB h0 h1 f n key A0 b1 → Q (some (.int 1)) h1) (K0 : ∀ i h1, prs (fun i => cat f key (tks f n i)) false l b (.inr i) → PoB h0 h1 f n key A0 (.inr i) → Q (some (.int 0)) h1) : Call d mid [.ref 65, .int (nI key)] h Q := S R tl hm (fun r h' p po => by
  cases r with
  | inl b1 => exact K1 b1 h' p po
  | inr i => exact K0 i h' p po)
theorem cat_opE {f : Int32 → Int32} {key : Nat} {t : Tok} {s : Int} (e : cat f key t = .op s) : t.ty = 3 ∧ s = t.val.toInt ∧ 1 ≤ bnd s := by
  have t3 : t.ty = 3 := Decidable.not_not.mp (fun q => (cat_n3 (f := f) (key := key) q).2 _ e)
  have nb : 1 ≤ bnd t.val.toInt := Decidable.not_not.mp (fun q => by
    by_cases h4 : t.val = 41
    · rw [cat_cl t3 h4] at e; cases e
    · exact (cat_b0 (f := f) (key := key) t3 h4 (by omega)).2 _ e)
  rw [cat_op t3 nb] at e
  have := Tk.op.inj e
  exact ⟨t3, this.symm, this ▸ nb⟩
theorem bnd_5 {x : Int} (h : bnd x = 5) : x = 42 ∨ x = 47 := by
  unfold bnd at h
  repeat' split at h
  all_goals first | assumption | omega
theorem bnd_4 {x : Int} (h : bnd x = 4) : x = 43 ∨ x = 45 := by
  unfold bnd at h
  repeat' split at h
  all_goals first | assumption | omega
theorem bnd_3 {x : Int} (h : bnd x = 3) : x = 60 ∨ x = 61 ∨ x = 62 := by
  unfold bnd at h
  repeat' split at h
  all_goals first | assumption | omega
theorem bnd_2 {x : Int} (h : bnd x = 2) : x = 38 := by
  unfold bnd at h
  repeat' split at h
  all_goals first | assumption | omega
theorem bnd_1 {x : Int} (h : bnd x = 1) : x = 124 := by
  unfold bnd at h
  repeat' split at h
  all_goals first | assumption | omega
theorem val_i {v c : Int32} {k : Int} (h : v.toInt = k) (hc : c.toInt = k) : v = c := Int32.toInt_inj.mp (h.trans hc.symm)
theorem stR_sg {key : Nat} {v : Int32} (hv : v.toInt = 33 ∨ v.toInt = 43 ∨ v.toInt = 45 ∨ v.toInt = 42 ∨ v.toInt = 47 ∨ v.toInt = 60 ∨ v.toInt = 61 ∨ v.toInt = 62 ∨ v.toInt = 38 ∨ v.toInt = 124) : stR key (sg v.toInt) 2 v := Or.inr (Or.inr ⟨rfl, rfl, hv⟩)
theorem lp_term {e : Nat} {Q : Option Value → Hp → Prop} {X : Cf → Prop} (hX : Clo (Call (e + 3)) cd222 (some .boolean) Q X) {f : Int32 → Int32} {n key A0 m : Nat} (S : SubB (e + 3) 223 6 f n key A0 m) (by_ : BY f n) {h0 : Hp} : ∀ {t : Nat} {h : Hp} {b : PB} {l2 : Option Value}, 98 - b.i ≤ t → (l2 = none ∨ ∃ x, l2 = some (.int x)) → RdB h0 h f n key A0 b → b.out.length + 1 ≤ b.i → 16 ≤ b.ob + b.nt + m → (∀ r h', prs (fun i => cat f key (tks f n i)) true 5 b r → PoB h0 h' f n key A0 r → Q (some (.int (rvB r))) h') → X (10, [some (.ref 65), some (.int (nI key)), l2], [], h) := by
  intro t
  induction t with
  | zero => exact fun {h b l2} ht hl R _ _ _ => absurd (R.len by_).2 (by omega)
  | succ t ih =>
    intro h b l2 ht hl R tl hm K
    rcases hl with rfl | ⟨x, rfl⟩
    ·
      refine go hX 2 (gs := [True, True]) (z' := (13, [some (.ref 65), some (.int (nI key)), none], [.int 42, .ref 65], h)) rfl ⟨trivial, trivial, trivial⟩ ?_
      refine cl hX 212 2 [.ref 65, .int 42] [] rfl rfl rfl rfl ?_
      refine R.sign 42 (fun s1 => ?_) (fun s1 => ?_)
      ·
        show X (16, [some (.ref 65), some (.int (nI key)), none], [.int 1], h)
        refine go hX 5 (gs := [True, True, True, True, True]) (z' := (34, [some (.ref 65), some (.int (nI key)), some (.int (h.1 65 21))], [.ref 65], h)) rfl ⟨trivial, trivial, trivial, trivial, trivial, trivial⟩ ?_
        refine cl hX 211 1 [.ref 65] [] rfl rfl rfl rfl ?_
        rw [show h.1 65 21 = 42 from (R.tk.b21 s1.1).trans s1.2]
        refine R.next by_ (fun z => absurd (s1.1.symm.trans z) (by decide)) (fun q => absurd (s1.1.symm.trans q) (by decide)) (fun h1 r1 => ?_)
        show X (37, [some (.ref 65), some (.int (nI key)), some (.int 42)], [], h1)
        refine go hX 2 (gs := [True, True]) (z' := (39, [some (.ref 65), some (.int (nI key)), some (.int 42)], [.int (nI key), .ref 65], h1)) rfl ⟨trivial, trivial, trivial⟩ ?_
        refine cl hX 223 2 [.ref 65, .int (nI key)] [] rfl rfl rfl rfl ?_
        refine S.two r1 (by have := R.ln; show b.out.length + 1 ≤ b.i + 1; omega) hm (fun b2 h2 p2 r2 => ?_) (fun i2 h2 p2 e2 => ?_)
        ·
          show X (42, [some (.ref 65), some (.int (nI key)), some (.int 42)], [.int 1], h2)
          refine go hX 4 (gs := [True, True, True, True]) (z' := (50, [some (.ref 65), some (.int (nI key)), some (.int 42)], [.int 42, .int 2, .ref 65], h2)) rfl ⟨trivial, trivial, trivial, trivial, trivial⟩ ?_
          refine cl hX 217 3 [.ref 65, .int 2, .int 42] [] rfl rfl rfl rfl ?_
          have le := prs_len p2 _ rfl
          simp only [Tok.ty_mk, Tok.st_mk, Tok.nx_mk, Tok.val_mk, PA.i_mk, PA.due_mk, PA.S_mk, PA.ob_mk, PA.on_mk, PA.pr_mk, PA.out_mk, PB.i_mk, PB.ob_mk, PB.nt_mk, PB.pr_mk, PB.out_mk, PB.nx] at le
          have lb := r2.len by_
          refine r2.step by_ (stR_sg (v := 42) (by decide)) (by omega) (by omega) (fun h3 _ r3 => ?_)
          show X (53, [some (.ref 65), some (.int (nI key)), some (.int 42)], [], h3)
          refine go hX 1 (gs := [True]) (z' := (10, [some (.ref 65), some (.int (nI key)), some (.int 42)], [], h3)) rfl ⟨trivial, trivial⟩ ?_
          have on := prs_on p2 _ rfl
          exact ih (by simp only [Tok.ty_mk, Tok.st_mk, Tok.nx_mk, Tok.val_mk, PA.i_mk, PA.due_mk, PA.S_mk, PA.ob_mk, PA.on_mk, PA.pr_mk, PA.out_mk, PB.i_mk, PB.ob_mk, PB.nt_mk, PB.pr_mk, PB.out_mk]; omega) (Or.inr ⟨_, rfl⟩) r3 (by simp only [Tok.ty_mk, Tok.st_mk, Tok.nx_mk, Tok.val_mk, PA.i_mk, PA.due_mk, PA.S_mk, PA.ob_mk, PA.on_mk, PA.pr_mk, PA.out_mk, PB.i_mk, PB.ob_mk, PB.nt_mk, PB.pr_mk, PB.out_mk, List.length_cons]; omega) (by simp only [Tok.ty_mk, Tok.st_mk, Tok.nx_mk, Tok.val_mk, PA.i_mk, PA.due_mk, PA.S_mk, PA.ob_mk, PA.on_mk, PA.pr_mk, PA.out_mk, PB.i_mk, PB.ob_mk, PB.nt_mk, PB.pr_mk, PB.out_mk]; rw [on.1, on.2]; exact hm) (fun r h' q po => K r h' (.lpS (by decide) ((cat_opI 42 (by decide)).mpr s1) (by decide) p2 q) po)
        ·
          show X (42, [some (.ref 65), some (.int (nI key)), some (.int 42)], [.int 0], h2)
          refine go hX 2 (gs := [True, True]) (z' := (46, [some (.ref 65), some (.int (nI key)), some (.int 42)], [.int 0], h2)) rfl ⟨trivial, trivial, trivial⟩ ?_
          refine rt_ hX (G := isB 0) (r := some (.int 0)) rfl isB0 ?_
          exact K (.inr i2) h2 (.lpF (by decide) ((cat_opI 42 (by decide)).mpr s1) (by decide) p2) e2
      ·
        show X (16, [some (.ref 65), some (.int (nI key)), none], [.int 0], h)
        refine go hX 3 (gs := [True, True, True]) (z' := (22, [some (.ref 65), some (.int (nI key)), none], [.int 47, .ref 65], h)) rfl ⟨trivial, trivial, trivial, trivial⟩ ?_
        refine cl hX 212 2 [.ref 65, .int 47] [] rfl rfl rfl rfl ?_
        refine R.sign 47 (fun s2 => ?_) (fun s2 => ?_)
        ·
          show X (25, [some (.ref 65), some (.int (nI key)), none], [.int 1], h)
          refine go hX 5 (gs := [True, True, True, True, True]) (z' := (34, [some (.ref 65), some (.int (nI key)), some (.int (h.1 65 21))], [.ref 65], h)) rfl ⟨trivial, trivial, trivial, trivial, trivial, trivial⟩ ?_
          refine cl hX 211 1 [.ref 65] [] rfl rfl rfl rfl ?_
          rw [show h.1 65 21 = 47 from (R.tk.b21 s2.1).trans s2.2]
          refine R.next by_ (fun z => absurd (s2.1.symm.trans z) (by decide)) (fun q => absurd (s2.1.symm.trans q) (by decide)) (fun h1 r1 => ?_)
          show X (37, [some (.ref 65), some (.int (nI key)), some (.int 47)], [], h1)
          refine go hX 2 (gs := [True, True]) (z' := (39, [some (.ref 65), some (.int (nI key)), some (.int 47)], [.int (nI key), .ref 65], h1)) rfl ⟨trivial, trivial, trivial⟩ ?_
          refine cl hX 223 2 [.ref 65, .int (nI key)] [] rfl rfl rfl rfl ?_
          refine S.two r1 (by have := R.ln; show b.out.length + 1 ≤ b.i + 1; omega) hm (fun b2 h2 p2 r2 => ?_) (fun i2 h2 p2 e2 => ?_)
          ·
            show X (42, [some (.ref 65), some (.int (nI key)), some (.int 47)], [.int 1], h2)
            refine go hX 4 (gs := [True, True, True, True]) (z' := (50, [some (.ref 65), some (.int (nI key)), some (.int 47)], [.int 47, .int 2, .ref 65], h2)) rfl ⟨trivial, trivial, trivial, trivial, trivial⟩ ?_
            refine cl hX 217 3 [.ref 65, .int 2, .int 47] [] rfl rfl rfl rfl ?_
            have le := prs_len p2 _ rfl
            simp only [Tok.ty_mk, Tok.st_mk, Tok.nx_mk, Tok.val_mk, PA.i_mk, PA.due_mk, PA.S_mk, PA.ob_mk, PA.on_mk, PA.pr_mk, PA.out_mk, PB.i_mk, PB.ob_mk, PB.nt_mk, PB.pr_mk, PB.out_mk, PB.nx] at le
            have lb := r2.len by_
            refine r2.step by_ (stR_sg (v := 47) (by decide)) (by omega) (by omega) (fun h3 _ r3 => ?_)
            show X (53, [some (.ref 65), some (.int (nI key)), some (.int 47)], [], h3)
            refine go hX 1 (gs := [True]) (z' := (10, [some (.ref 65), some (.int (nI key)), some (.int 47)], [], h3)) rfl ⟨trivial, trivial⟩ ?_
            have on := prs_on p2 _ rfl
            exact ih (by simp only [Tok.ty_mk, Tok.st_mk, Tok.nx_mk, Tok.val_mk, PA.i_mk, PA.due_mk, PA.S_mk, PA.ob_mk, PA.on_mk, PA.pr_mk, PA.out_mk, PB.i_mk, PB.ob_mk, PB.nt_mk, PB.pr_mk, PB.out_mk]; omega) (Or.inr ⟨_, rfl⟩) r3 (by simp only [Tok.ty_mk, Tok.st_mk, Tok.nx_mk, Tok.val_mk, PA.i_mk, PA.due_mk, PA.S_mk, PA.ob_mk, PA.on_mk, PA.pr_mk, PA.out_mk, PB.i_mk, PB.ob_mk, PB.nt_mk, PB.pr_mk, PB.out_mk, List.length_cons]; omega) (by simp only [Tok.ty_mk, Tok.st_mk, Tok.nx_mk, Tok.val_mk, PA.i_mk, PA.due_mk, PA.S_mk, PA.ob_mk, PA.on_mk, PA.pr_mk, PA.out_mk, PB.i_mk, PB.ob_mk, PB.nt_mk, PB.pr_mk, PB.out_mk]; rw [on.1, on.2]; exact hm) (fun r h' q po => K r h' (.lpS (by decide) ((cat_opI 47 (by decide)).mpr s2) (by decide) p2 q) po)
          ·
            show X (42, [some (.ref 65), some (.int (nI key)), some (.int 47)], [.int 0], h2)
            refine go hX 2 (gs := [True, True]) (z' := (46, [some (.ref 65), some (.int (nI key)), some (.int 47)], [.int 0], h2)) rfl ⟨trivial, trivial, trivial⟩ ?_
            refine rt_ hX (G := isB 0) (r := some (.int 0)) rfl isB0 ?_
            exact K (.inr i2) h2 (.lpF (by decide) ((cat_opI 47 (by decide)).mpr s2) (by decide) p2) e2
        ·
          show X (25, [some (.ref 65), some (.int (nI key)), none], [.int 0], h)
          refine go hX 2 (gs := [True, True]) (z' := (57, [some (.ref 65), some (.int (nI key)), none], [.int 1], h)) rfl ⟨trivial, trivial, trivial⟩ ?_
          refine rt_ hX (G := isB 1) (r := some (.int 1)) rfl isB1 ?_
          have ne : ∀ s, cat f key (tks f n b.i) = .op s → bnd s ≠ 5 := fun s es hb => by
            have q := cat_opE es
            rcases bnd_5 hb with e0 | e0
            · exact s1 ⟨q.1, val_i (q.2.1.symm.trans e0) rfl⟩
            · exact s2 ⟨q.1, val_i (q.2.1.symm.trans e0) rfl⟩
          exact K (.inl b) h (.lpE ne) R
    ·
      refine go hX 2 (gs := [True, True]) (z' := (13, [some (.ref 65), some (.int (nI key)), some (.int x)], [.int 42, .ref 65], h)) rfl ⟨trivial, trivial, trivial⟩ ?_
      refine cl hX 212 2 [.ref 65, .int 42] [] rfl rfl rfl rfl ?_
      refine R.sign 42 (fun s1 => ?_) (fun s1 => ?_)
      ·
        show X (16, [some (.ref 65), some (.int (nI key)), some (.int x)], [.int 1], h)
        refine go hX 5 (gs := [True, True, True, True, True]) (z' := (34, [some (.ref 65), some (.int (nI key)), some (.int (h.1 65 21))], [.ref 65], h)) rfl ⟨trivial, trivial, trivial, trivial, trivial, trivial⟩ ?_
        refine cl hX 211 1 [.ref 65] [] rfl rfl rfl rfl ?_
        rw [show h.1 65 21 = 42 from (R.tk.b21 s1.1).trans s1.2]
        refine R.next by_ (fun z => absurd (s1.1.symm.trans z) (by decide)) (fun q => absurd (s1.1.symm.trans q) (by decide)) (fun h1 r1 => ?_)
        show X (37, [some (.ref 65), some (.int (nI key)), some (.int 42)], [], h1)
        refine go hX 2 (gs := [True, True]) (z' := (39, [some (.ref 65), some (.int (nI key)), some (.int 42)], [.int (nI key), .ref 65], h1)) rfl ⟨trivial, trivial, trivial⟩ ?_
        refine cl hX 223 2 [.ref 65, .int (nI key)] [] rfl rfl rfl rfl ?_
        refine S.two r1 (by have := R.ln; show b.out.length + 1 ≤ b.i + 1; omega) hm (fun b2 h2 p2 r2 => ?_) (fun i2 h2 p2 e2 => ?_)
        ·
          show X (42, [some (.ref 65), some (.int (nI key)), some (.int 42)], [.int 1], h2)
          refine go hX 4 (gs := [True, True, True, True]) (z' := (50, [some (.ref 65), some (.int (nI key)), some (.int 42)], [.int 42, .int 2, .ref 65], h2)) rfl ⟨trivial, trivial, trivial, trivial, trivial⟩ ?_
          refine cl hX 217 3 [.ref 65, .int 2, .int 42] [] rfl rfl rfl rfl ?_
          have le := prs_len p2 _ rfl
          simp only [Tok.ty_mk, Tok.st_mk, Tok.nx_mk, Tok.val_mk, PA.i_mk, PA.due_mk, PA.S_mk, PA.ob_mk, PA.on_mk, PA.pr_mk, PA.out_mk, PB.i_mk, PB.ob_mk, PB.nt_mk, PB.pr_mk, PB.out_mk, PB.nx] at le
          have lb := r2.len by_
          refine r2.step by_ (stR_sg (v := 42) (by decide)) (by omega) (by omega) (fun h3 _ r3 => ?_)
          show X (53, [some (.ref 65), some (.int (nI key)), some (.int 42)], [], h3)
          refine go hX 1 (gs := [True]) (z' := (10, [some (.ref 65), some (.int (nI key)), some (.int 42)], [], h3)) rfl ⟨trivial, trivial⟩ ?_
          have on := prs_on p2 _ rfl
          exact ih (by simp only [Tok.ty_mk, Tok.st_mk, Tok.nx_mk, Tok.val_mk, PA.i_mk, PA.due_mk, PA.S_mk, PA.ob_mk, PA.on_mk, PA.pr_mk, PA.out_mk, PB.i_mk, PB.ob_mk, PB.nt_mk, PB.pr_mk, PB.out_mk]; omega) (Or.inr ⟨_, rfl⟩) r3 (by simp only [Tok.ty_mk, Tok.st_mk, Tok.nx_mk, Tok.val_mk, PA.i_mk, PA.due_mk, PA.S_mk, PA.ob_mk, PA.on_mk, PA.pr_mk, PA.out_mk, PB.i_mk, PB.ob_mk, PB.nt_mk, PB.pr_mk, PB.out_mk, List.length_cons]; omega) (by simp only [Tok.ty_mk, Tok.st_mk, Tok.nx_mk, Tok.val_mk, PA.i_mk, PA.due_mk, PA.S_mk, PA.ob_mk, PA.on_mk, PA.pr_mk, PA.out_mk, PB.i_mk, PB.ob_mk, PB.nt_mk, PB.pr_mk, PB.out_mk]; rw [on.1, on.2]; exact hm) (fun r h' q po => K r h' (.lpS (by decide) ((cat_opI 42 (by decide)).mpr s1) (by decide) p2 q) po)
        ·
          show X (42, [some (.ref 65), some (.int (nI key)), some (.int 42)], [.int 0], h2)
          refine go hX 2 (gs := [True, True]) (z' := (46, [some (.ref 65), some (.int (nI key)), some (.int 42)], [.int 0], h2)) rfl ⟨trivial, trivial, trivial⟩ ?_
          refine rt_ hX (G := isB 0) (r := some (.int 0)) rfl isB0 ?_
          exact K (.inr i2) h2 (.lpF (by decide) ((cat_opI 42 (by decide)).mpr s1) (by decide) p2) e2
      ·
        show X (16, [some (.ref 65), some (.int (nI key)), some (.int x)], [.int 0], h)
        refine go hX 3 (gs := [True, True, True]) (z' := (22, [some (.ref 65), some (.int (nI key)), some (.int x)], [.int 47, .ref 65], h)) rfl ⟨trivial, trivial, trivial, trivial⟩ ?_
        refine cl hX 212 2 [.ref 65, .int 47] [] rfl rfl rfl rfl ?_
        refine R.sign 47 (fun s2 => ?_) (fun s2 => ?_)
        ·
          show X (25, [some (.ref 65), some (.int (nI key)), some (.int x)], [.int 1], h)
          refine go hX 5 (gs := [True, True, True, True, True]) (z' := (34, [some (.ref 65), some (.int (nI key)), some (.int (h.1 65 21))], [.ref 65], h)) rfl ⟨trivial, trivial, trivial, trivial, trivial, trivial⟩ ?_
          refine cl hX 211 1 [.ref 65] [] rfl rfl rfl rfl ?_
          rw [show h.1 65 21 = 47 from (R.tk.b21 s2.1).trans s2.2]
          refine R.next by_ (fun z => absurd (s2.1.symm.trans z) (by decide)) (fun q => absurd (s2.1.symm.trans q) (by decide)) (fun h1 r1 => ?_)
          show X (37, [some (.ref 65), some (.int (nI key)), some (.int 47)], [], h1)
          refine go hX 2 (gs := [True, True]) (z' := (39, [some (.ref 65), some (.int (nI key)), some (.int 47)], [.int (nI key), .ref 65], h1)) rfl ⟨trivial, trivial, trivial⟩ ?_
          refine cl hX 223 2 [.ref 65, .int (nI key)] [] rfl rfl rfl rfl ?_
          refine S.two r1 (by have := R.ln; show b.out.length + 1 ≤ b.i + 1; omega) hm (fun b2 h2 p2 r2 => ?_) (fun i2 h2 p2 e2 => ?_)
          ·
            show X (42, [some (.ref 65), some (.int (nI key)), some (.int 47)], [.int 1], h2)
            refine go hX 4 (gs := [True, True, True, True]) (z' := (50, [some (.ref 65), some (.int (nI key)), some (.int 47)], [.int 47, .int 2, .ref 65], h2)) rfl ⟨trivial, trivial, trivial, trivial, trivial⟩ ?_
            refine cl hX 217 3 [.ref 65, .int 2, .int 47] [] rfl rfl rfl rfl ?_
            have le := prs_len p2 _ rfl
            simp only [Tok.ty_mk, Tok.st_mk, Tok.nx_mk, Tok.val_mk, PA.i_mk, PA.due_mk, PA.S_mk, PA.ob_mk, PA.on_mk, PA.pr_mk, PA.out_mk, PB.i_mk, PB.ob_mk, PB.nt_mk, PB.pr_mk, PB.out_mk, PB.nx] at le
            have lb := r2.len by_
            refine r2.step by_ (stR_sg (v := 47) (by decide)) (by omega) (by omega) (fun h3 _ r3 => ?_)
            show X (53, [some (.ref 65), some (.int (nI key)), some (.int 47)], [], h3)
            refine go hX 1 (gs := [True]) (z' := (10, [some (.ref 65), some (.int (nI key)), some (.int 47)], [], h3)) rfl ⟨trivial, trivial⟩ ?_
            have on := prs_on p2 _ rfl
            exact ih (by simp only [Tok.ty_mk, Tok.st_mk, Tok.nx_mk, Tok.val_mk, PA.i_mk, PA.due_mk, PA.S_mk, PA.ob_mk, PA.on_mk, PA.pr_mk, PA.out_mk, PB.i_mk, PB.ob_mk, PB.nt_mk, PB.pr_mk, PB.out_mk]; omega) (Or.inr ⟨_, rfl⟩) r3 (by simp only [Tok.ty_mk, Tok.st_mk, Tok.nx_mk, Tok.val_mk, PA.i_mk, PA.due_mk, PA.S_mk, PA.ob_mk, PA.on_mk, PA.pr_mk, PA.out_mk, PB.i_mk, PB.ob_mk, PB.nt_mk, PB.pr_mk, PB.out_mk, List.length_cons]; omega) (by simp only [Tok.ty_mk, Tok.st_mk, Tok.nx_mk, Tok.val_mk, PA.i_mk, PA.due_mk, PA.S_mk, PA.ob_mk, PA.on_mk, PA.pr_mk, PA.out_mk, PB.i_mk, PB.ob_mk, PB.nt_mk, PB.pr_mk, PB.out_mk]; rw [on.1, on.2]; exact hm) (fun r h' q po => K r h' (.lpS (by decide) ((cat_opI 47 (by decide)).mpr s2) (by decide) p2 q) po)
          ·
            show X (42, [some (.ref 65), some (.int (nI key)), some (.int 47)], [.int 0], h2)
            refine go hX 2 (gs := [True, True]) (z' := (46, [some (.ref 65), some (.int (nI key)), some (.int 47)], [.int 0], h2)) rfl ⟨trivial, trivial, trivial⟩ ?_
            refine rt_ hX (G := isB 0) (r := some (.int 0)) rfl isB0 ?_
            exact K (.inr i2) h2 (.lpF (by decide) ((cat_opI 47 (by decide)).mpr s2) (by decide) p2) e2
        ·
          show X (25, [some (.ref 65), some (.int (nI key)), some (.int x)], [.int 0], h)
          refine go hX 2 (gs := [True, True]) (z' := (57, [some (.ref 65), some (.int (nI key)), some (.int x)], [.int 1], h)) rfl ⟨trivial, trivial, trivial⟩ ?_
          refine rt_ hX (G := isB 1) (r := some (.int 1)) rfl isB1 ?_
          have ne : ∀ s, cat f key (tks f n b.i) = .op s → bnd s ≠ 5 := fun s es hb => by
            have q := cat_opE es
            rcases bnd_5 hb with e0 | e0
            · exact s1 ⟨q.1, val_i (q.2.1.symm.trans e0) rfl⟩
            · exact s2 ⟨q.1, val_i (q.2.1.symm.trans e0) rfl⟩
          exact K (.inl b) h (.lpE ne) R
theorem lv_term {e : Nat} {f : Int32 → Int32} {n key A0 m : Nat} (by_ : BY f n) (S : SubB (e + 3) 223 6 f n key A0 m) : SubB (e + 4) 222 5 f n key A0 m := by
  intro h0 h b Q R tl hm K
  refine call_of (rfl : psM[222]? = some _) rfl rfl (rcvV rfl) (fun X hX => ?_)
  show X (0, [some (.ref 65), some (.int (nI key)), none], [], h)
  refine go hX 2 (gs := [True, True]) (z' := (2, [some (.ref 65), some (.int (nI key)), none], [.int (nI key), .ref 65], h)) rfl ⟨trivial, trivial, trivial⟩ ?_
  refine cl hX 223 2 [.ref 65, .int (nI key)] [] rfl rfl rfl rfl ?_
  refine S.two R tl hm (fun b1 h1 p1 r1 => ?_) (fun i1 h1 p1 e1 => ?_)
  ·
    show X (5, [some (.ref 65), some (.int (nI key)), none], [.int 1], h1)
    refine go hX 1 (gs := [True]) (z' := (10, [some (.ref 65), some (.int (nI key)), none], [], h1)) rfl ⟨trivial, trivial⟩ ?_
    have on := prs_on p1 _ rfl
    have le := prs_len p1 _ rfl
    exact lp_term hX S by_ (Nat.le_refl _) (Or.inl rfl) r1 (by omega) (by rw [on.1, on.2]; exact hm) (fun r h' q po => K r h' (.up (by decide) p1 q) po)
  ·
    show X (5, [some (.ref 65), some (.int (nI key)), none], [.int 0], h1)
    refine go hX 2 (gs := [True, True]) (z' := (9, [some (.ref 65), some (.int (nI key)), none], [.int 0], h1)) rfl ⟨trivial, trivial, trivial⟩ ?_
    refine rt_ hX (G := isB 0) (r := some (.int 0)) rfl isB0 ?_
    exact K (.inr i1) h1 (.upF (by decide) (by decide) p1) e1
theorem lp_sum {e : Nat} {Q : Option Value → Hp → Prop} {X : Cf → Prop} (hX : Clo (Call (e + 3)) cd221 (some .boolean) Q X) {f : Int32 → Int32} {n key A0 m : Nat} (S : SubB (e + 3) 222 5 f n key A0 m) (by_ : BY f n) {h0 : Hp} : ∀ {t : Nat} {h : Hp} {b : PB} {l2 : Option Value}, 98 - b.i ≤ t → (l2 = none ∨ ∃ x, l2 = some (.int x)) → RdB h0 h f n key A0 b → b.out.length + 1 ≤ b.i → 16 ≤ b.ob + b.nt + m → (∀ r h', prs (fun i => cat f key (tks f n i)) true 4 b r → PoB h0 h' f n key A0 r → Q (some (.int (rvB r))) h') → X (10, [some (.ref 65), some (.int (nI key)), l2], [], h) := by
  intro t
  induction t with
  | zero => exact fun {h b l2} ht hl R _ _ _ => absurd (R.len by_).2 (by omega)
  | succ t ih =>
    intro h b l2 ht hl R tl hm K
    rcases hl with rfl | ⟨x, rfl⟩
    ·
      refine go hX 2 (gs := [True, True]) (z' := (13, [some (.ref 65), some (.int (nI key)), none], [.int 43, .ref 65], h)) rfl ⟨trivial, trivial, trivial⟩ ?_
      refine cl hX 212 2 [.ref 65, .int 43] [] rfl rfl rfl rfl ?_
      refine R.sign 43 (fun s1 => ?_) (fun s1 => ?_)
      ·
        show X (16, [some (.ref 65), some (.int (nI key)), none], [.int 1], h)
        refine go hX 5 (gs := [True, True, True, True, True]) (z' := (34, [some (.ref 65), some (.int (nI key)), some (.int (h.1 65 21))], [.ref 65], h)) rfl ⟨trivial, trivial, trivial, trivial, trivial, trivial⟩ ?_
        refine cl hX 211 1 [.ref 65] [] rfl rfl rfl rfl ?_
        rw [show h.1 65 21 = 43 from (R.tk.b21 s1.1).trans s1.2]
        refine R.next by_ (fun z => absurd (s1.1.symm.trans z) (by decide)) (fun q => absurd (s1.1.symm.trans q) (by decide)) (fun h1 r1 => ?_)
        show X (37, [some (.ref 65), some (.int (nI key)), some (.int 43)], [], h1)
        refine go hX 2 (gs := [True, True]) (z' := (39, [some (.ref 65), some (.int (nI key)), some (.int 43)], [.int (nI key), .ref 65], h1)) rfl ⟨trivial, trivial, trivial⟩ ?_
        refine cl hX 222 2 [.ref 65, .int (nI key)] [] rfl rfl rfl rfl ?_
        refine S.two r1 (by have := R.ln; show b.out.length + 1 ≤ b.i + 1; omega) hm (fun b2 h2 p2 r2 => ?_) (fun i2 h2 p2 e2 => ?_)
        ·
          show X (42, [some (.ref 65), some (.int (nI key)), some (.int 43)], [.int 1], h2)
          refine go hX 4 (gs := [True, True, True, True]) (z' := (50, [some (.ref 65), some (.int (nI key)), some (.int 43)], [.int 43, .int 2, .ref 65], h2)) rfl ⟨trivial, trivial, trivial, trivial, trivial⟩ ?_
          refine cl hX 217 3 [.ref 65, .int 2, .int 43] [] rfl rfl rfl rfl ?_
          have le := prs_len p2 _ rfl
          simp only [Tok.ty_mk, Tok.st_mk, Tok.nx_mk, Tok.val_mk, PA.i_mk, PA.due_mk, PA.S_mk, PA.ob_mk, PA.on_mk, PA.pr_mk, PA.out_mk, PB.i_mk, PB.ob_mk, PB.nt_mk, PB.pr_mk, PB.out_mk, PB.nx] at le
          have lb := r2.len by_
          refine r2.step by_ (stR_sg (v := 43) (by decide)) (by omega) (by omega) (fun h3 _ r3 => ?_)
          show X (53, [some (.ref 65), some (.int (nI key)), some (.int 43)], [], h3)
          refine go hX 1 (gs := [True]) (z' := (10, [some (.ref 65), some (.int (nI key)), some (.int 43)], [], h3)) rfl ⟨trivial, trivial⟩ ?_
          have on := prs_on p2 _ rfl
          exact ih (by simp only [Tok.ty_mk, Tok.st_mk, Tok.nx_mk, Tok.val_mk, PA.i_mk, PA.due_mk, PA.S_mk, PA.ob_mk, PA.on_mk, PA.pr_mk, PA.out_mk, PB.i_mk, PB.ob_mk, PB.nt_mk, PB.pr_mk, PB.out_mk]; omega) (Or.inr ⟨_, rfl⟩) r3 (by simp only [Tok.ty_mk, Tok.st_mk, Tok.nx_mk, Tok.val_mk, PA.i_mk, PA.due_mk, PA.S_mk, PA.ob_mk, PA.on_mk, PA.pr_mk, PA.out_mk, PB.i_mk, PB.ob_mk, PB.nt_mk, PB.pr_mk, PB.out_mk, List.length_cons]; omega) (by simp only [Tok.ty_mk, Tok.st_mk, Tok.nx_mk, Tok.val_mk, PA.i_mk, PA.due_mk, PA.S_mk, PA.ob_mk, PA.on_mk, PA.pr_mk, PA.out_mk, PB.i_mk, PB.ob_mk, PB.nt_mk, PB.pr_mk, PB.out_mk]; rw [on.1, on.2]; exact hm) (fun r h' q po => K r h' (.lpS (by decide) ((cat_opI 43 (by decide)).mpr s1) (by decide) p2 q) po)
        ·
          show X (42, [some (.ref 65), some (.int (nI key)), some (.int 43)], [.int 0], h2)
          refine go hX 2 (gs := [True, True]) (z' := (46, [some (.ref 65), some (.int (nI key)), some (.int 43)], [.int 0], h2)) rfl ⟨trivial, trivial, trivial⟩ ?_
          refine rt_ hX (G := isB 0) (r := some (.int 0)) rfl isB0 ?_
          exact K (.inr i2) h2 (.lpF (by decide) ((cat_opI 43 (by decide)).mpr s1) (by decide) p2) e2
      ·
        show X (16, [some (.ref 65), some (.int (nI key)), none], [.int 0], h)
        refine go hX 3 (gs := [True, True, True]) (z' := (22, [some (.ref 65), some (.int (nI key)), none], [.int 45, .ref 65], h)) rfl ⟨trivial, trivial, trivial, trivial⟩ ?_
        refine cl hX 212 2 [.ref 65, .int 45] [] rfl rfl rfl rfl ?_
        refine R.sign 45 (fun s2 => ?_) (fun s2 => ?_)
        ·
          show X (25, [some (.ref 65), some (.int (nI key)), none], [.int 1], h)
          refine go hX 5 (gs := [True, True, True, True, True]) (z' := (34, [some (.ref 65), some (.int (nI key)), some (.int (h.1 65 21))], [.ref 65], h)) rfl ⟨trivial, trivial, trivial, trivial, trivial, trivial⟩ ?_
          refine cl hX 211 1 [.ref 65] [] rfl rfl rfl rfl ?_
          rw [show h.1 65 21 = 45 from (R.tk.b21 s2.1).trans s2.2]
          refine R.next by_ (fun z => absurd (s2.1.symm.trans z) (by decide)) (fun q => absurd (s2.1.symm.trans q) (by decide)) (fun h1 r1 => ?_)
          show X (37, [some (.ref 65), some (.int (nI key)), some (.int 45)], [], h1)
          refine go hX 2 (gs := [True, True]) (z' := (39, [some (.ref 65), some (.int (nI key)), some (.int 45)], [.int (nI key), .ref 65], h1)) rfl ⟨trivial, trivial, trivial⟩ ?_
          refine cl hX 222 2 [.ref 65, .int (nI key)] [] rfl rfl rfl rfl ?_
          refine S.two r1 (by have := R.ln; show b.out.length + 1 ≤ b.i + 1; omega) hm (fun b2 h2 p2 r2 => ?_) (fun i2 h2 p2 e2 => ?_)
          ·
            show X (42, [some (.ref 65), some (.int (nI key)), some (.int 45)], [.int 1], h2)
            refine go hX 4 (gs := [True, True, True, True]) (z' := (50, [some (.ref 65), some (.int (nI key)), some (.int 45)], [.int 45, .int 2, .ref 65], h2)) rfl ⟨trivial, trivial, trivial, trivial, trivial⟩ ?_
            refine cl hX 217 3 [.ref 65, .int 2, .int 45] [] rfl rfl rfl rfl ?_
            have le := prs_len p2 _ rfl
            simp only [Tok.ty_mk, Tok.st_mk, Tok.nx_mk, Tok.val_mk, PA.i_mk, PA.due_mk, PA.S_mk, PA.ob_mk, PA.on_mk, PA.pr_mk, PA.out_mk, PB.i_mk, PB.ob_mk, PB.nt_mk, PB.pr_mk, PB.out_mk, PB.nx] at le
            have lb := r2.len by_
            refine r2.step by_ (stR_sg (v := 45) (by decide)) (by omega) (by omega) (fun h3 _ r3 => ?_)
            show X (53, [some (.ref 65), some (.int (nI key)), some (.int 45)], [], h3)
            refine go hX 1 (gs := [True]) (z' := (10, [some (.ref 65), some (.int (nI key)), some (.int 45)], [], h3)) rfl ⟨trivial, trivial⟩ ?_
            have on := prs_on p2 _ rfl
            exact ih (by simp only [Tok.ty_mk, Tok.st_mk, Tok.nx_mk, Tok.val_mk, PA.i_mk, PA.due_mk, PA.S_mk, PA.ob_mk, PA.on_mk, PA.pr_mk, PA.out_mk, PB.i_mk, PB.ob_mk, PB.nt_mk, PB.pr_mk, PB.out_mk]; omega) (Or.inr ⟨_, rfl⟩) r3 (by simp only [Tok.ty_mk, Tok.st_mk, Tok.nx_mk, Tok.val_mk, PA.i_mk, PA.due_mk, PA.S_mk, PA.ob_mk, PA.on_mk, PA.pr_mk, PA.out_mk, PB.i_mk, PB.ob_mk, PB.nt_mk, PB.pr_mk, PB.out_mk, List.length_cons]; omega) (by simp only [Tok.ty_mk, Tok.st_mk, Tok.nx_mk, Tok.val_mk, PA.i_mk, PA.due_mk, PA.S_mk, PA.ob_mk, PA.on_mk, PA.pr_mk, PA.out_mk, PB.i_mk, PB.ob_mk, PB.nt_mk, PB.pr_mk, PB.out_mk]; rw [on.1, on.2]; exact hm) (fun r h' q po => K r h' (.lpS (by decide) ((cat_opI 45 (by decide)).mpr s2) (by decide) p2 q) po)
          ·
            show X (42, [some (.ref 65), some (.int (nI key)), some (.int 45)], [.int 0], h2)
            refine go hX 2 (gs := [True, True]) (z' := (46, [some (.ref 65), some (.int (nI key)), some (.int 45)], [.int 0], h2)) rfl ⟨trivial, trivial, trivial⟩ ?_
            refine rt_ hX (G := isB 0) (r := some (.int 0)) rfl isB0 ?_
            exact K (.inr i2) h2 (.lpF (by decide) ((cat_opI 45 (by decide)).mpr s2) (by decide) p2) e2
        ·
          show X (25, [some (.ref 65), some (.int (nI key)), none], [.int 0], h)
          refine go hX 2 (gs := [True, True]) (z' := (57, [some (.ref 65), some (.int (nI key)), none], [.int 1], h)) rfl ⟨trivial, trivial, trivial⟩ ?_
          refine rt_ hX (G := isB 1) (r := some (.int 1)) rfl isB1 ?_
          have ne : ∀ s, cat f key (tks f n b.i) = .op s → bnd s ≠ 4 := fun s es hb => by
            have q := cat_opE es
            rcases bnd_4 hb with e0 | e0
            · exact s1 ⟨q.1, val_i (q.2.1.symm.trans e0) rfl⟩
            · exact s2 ⟨q.1, val_i (q.2.1.symm.trans e0) rfl⟩
          exact K (.inl b) h (.lpE ne) R
    ·
      refine go hX 2 (gs := [True, True]) (z' := (13, [some (.ref 65), some (.int (nI key)), some (.int x)], [.int 43, .ref 65], h)) rfl ⟨trivial, trivial, trivial⟩ ?_
      refine cl hX 212 2 [.ref 65, .int 43] [] rfl rfl rfl rfl ?_
      refine R.sign 43 (fun s1 => ?_) (fun s1 => ?_)
      ·
        show X (16, [some (.ref 65), some (.int (nI key)), some (.int x)], [.int 1], h)
        refine go hX 5 (gs := [True, True, True, True, True]) (z' := (34, [some (.ref 65), some (.int (nI key)), some (.int (h.1 65 21))], [.ref 65], h)) rfl ⟨trivial, trivial, trivial, trivial, trivial, trivial⟩ ?_
        refine cl hX 211 1 [.ref 65] [] rfl rfl rfl rfl ?_
        rw [show h.1 65 21 = 43 from (R.tk.b21 s1.1).trans s1.2]
        refine R.next by_ (fun z => absurd (s1.1.symm.trans z) (by decide)) (fun q => absurd (s1.1.symm.trans q) (by decide)) (fun h1 r1 => ?_)
        show X (37, [some (.ref 65), some (.int (nI key)), some (.int 43)], [], h1)
        refine go hX 2 (gs := [True, True]) (z' := (39, [some (.ref 65), some (.int (nI key)), some (.int 43)], [.int (nI key), .ref 65], h1)) rfl ⟨trivial, trivial, trivial⟩ ?_
        refine cl hX 222 2 [.ref 65, .int (nI key)] [] rfl rfl rfl rfl ?_
        refine S.two r1 (by have := R.ln; show b.out.length + 1 ≤ b.i + 1; omega) hm (fun b2 h2 p2 r2 => ?_) (fun i2 h2 p2 e2 => ?_)
        ·
          show X (42, [some (.ref 65), some (.int (nI key)), some (.int 43)], [.int 1], h2)
          refine go hX 4 (gs := [True, True, True, True]) (z' := (50, [some (.ref 65), some (.int (nI key)), some (.int 43)], [.int 43, .int 2, .ref 65], h2)) rfl ⟨trivial, trivial, trivial, trivial, trivial⟩ ?_
          refine cl hX 217 3 [.ref 65, .int 2, .int 43] [] rfl rfl rfl rfl ?_
          have le := prs_len p2 _ rfl
          simp only [Tok.ty_mk, Tok.st_mk, Tok.nx_mk, Tok.val_mk, PA.i_mk, PA.due_mk, PA.S_mk, PA.ob_mk, PA.on_mk, PA.pr_mk, PA.out_mk, PB.i_mk, PB.ob_mk, PB.nt_mk, PB.pr_mk, PB.out_mk, PB.nx] at le
          have lb := r2.len by_
          refine r2.step by_ (stR_sg (v := 43) (by decide)) (by omega) (by omega) (fun h3 _ r3 => ?_)
          show X (53, [some (.ref 65), some (.int (nI key)), some (.int 43)], [], h3)
          refine go hX 1 (gs := [True]) (z' := (10, [some (.ref 65), some (.int (nI key)), some (.int 43)], [], h3)) rfl ⟨trivial, trivial⟩ ?_
          have on := prs_on p2 _ rfl
          exact ih (by simp only [Tok.ty_mk, Tok.st_mk, Tok.nx_mk, Tok.val_mk, PA.i_mk, PA.due_mk, PA.S_mk, PA.ob_mk, PA.on_mk, PA.pr_mk, PA.out_mk, PB.i_mk, PB.ob_mk, PB.nt_mk, PB.pr_mk, PB.out_mk]; omega) (Or.inr ⟨_, rfl⟩) r3 (by simp only [Tok.ty_mk, Tok.st_mk, Tok.nx_mk, Tok.val_mk, PA.i_mk, PA.due_mk, PA.S_mk, PA.ob_mk, PA.on_mk, PA.pr_mk, PA.out_mk, PB.i_mk, PB.ob_mk, PB.nt_mk, PB.pr_mk, PB.out_mk, List.length_cons]; omega) (by simp only [Tok.ty_mk, Tok.st_mk, Tok.nx_mk, Tok.val_mk, PA.i_mk, PA.due_mk, PA.S_mk, PA.ob_mk, PA.on_mk, PA.pr_mk, PA.out_mk, PB.i_mk, PB.ob_mk, PB.nt_mk, PB.pr_mk, PB.out_mk]; rw [on.1, on.2]; exact hm) (fun r h' q po => K r h' (.lpS (by decide) ((cat_opI 43 (by decide)).mpr s1) (by decide) p2 q) po)
        ·
          show X (42, [some (.ref 65), some (.int (nI key)), some (.int 43)], [.int 0], h2)
          refine go hX 2 (gs := [True, True]) (z' := (46, [some (.ref 65), some (.int (nI key)), some (.int 43)], [.int 0], h2)) rfl ⟨trivial, trivial, trivial⟩ ?_
          refine rt_ hX (G := isB 0) (r := some (.int 0)) rfl isB0 ?_
          exact K (.inr i2) h2 (.lpF (by decide) ((cat_opI 43 (by decide)).mpr s1) (by decide) p2) e2
      ·
        show X (16, [some (.ref 65), some (.int (nI key)), some (.int x)], [.int 0], h)
        refine go hX 3 (gs := [True, True, True]) (z' := (22, [some (.ref 65), some (.int (nI key)), some (.int x)], [.int 45, .ref 65], h)) rfl ⟨trivial, trivial, trivial, trivial⟩ ?_
        refine cl hX 212 2 [.ref 65, .int 45] [] rfl rfl rfl rfl ?_
        refine R.sign 45 (fun s2 => ?_) (fun s2 => ?_)
        ·
          show X (25, [some (.ref 65), some (.int (nI key)), some (.int x)], [.int 1], h)
          refine go hX 5 (gs := [True, True, True, True, True]) (z' := (34, [some (.ref 65), some (.int (nI key)), some (.int (h.1 65 21))], [.ref 65], h)) rfl ⟨trivial, trivial, trivial, trivial, trivial, trivial⟩ ?_
          refine cl hX 211 1 [.ref 65] [] rfl rfl rfl rfl ?_
          rw [show h.1 65 21 = 45 from (R.tk.b21 s2.1).trans s2.2]
          refine R.next by_ (fun z => absurd (s2.1.symm.trans z) (by decide)) (fun q => absurd (s2.1.symm.trans q) (by decide)) (fun h1 r1 => ?_)
          show X (37, [some (.ref 65), some (.int (nI key)), some (.int 45)], [], h1)
          refine go hX 2 (gs := [True, True]) (z' := (39, [some (.ref 65), some (.int (nI key)), some (.int 45)], [.int (nI key), .ref 65], h1)) rfl ⟨trivial, trivial, trivial⟩ ?_
          refine cl hX 222 2 [.ref 65, .int (nI key)] [] rfl rfl rfl rfl ?_
          refine S.two r1 (by have := R.ln; show b.out.length + 1 ≤ b.i + 1; omega) hm (fun b2 h2 p2 r2 => ?_) (fun i2 h2 p2 e2 => ?_)
          ·
            show X (42, [some (.ref 65), some (.int (nI key)), some (.int 45)], [.int 1], h2)
            refine go hX 4 (gs := [True, True, True, True]) (z' := (50, [some (.ref 65), some (.int (nI key)), some (.int 45)], [.int 45, .int 2, .ref 65], h2)) rfl ⟨trivial, trivial, trivial, trivial, trivial⟩ ?_
            refine cl hX 217 3 [.ref 65, .int 2, .int 45] [] rfl rfl rfl rfl ?_
            have le := prs_len p2 _ rfl
            simp only [Tok.ty_mk, Tok.st_mk, Tok.nx_mk, Tok.val_mk, PA.i_mk, PA.due_mk, PA.S_mk, PA.ob_mk, PA.on_mk, PA.pr_mk, PA.out_mk, PB.i_mk, PB.ob_mk, PB.nt_mk, PB.pr_mk, PB.out_mk, PB.nx] at le
            have lb := r2.len by_
            refine r2.step by_ (stR_sg (v := 45) (by decide)) (by omega) (by omega) (fun h3 _ r3 => ?_)
            show X (53, [some (.ref 65), some (.int (nI key)), some (.int 45)], [], h3)
            refine go hX 1 (gs := [True]) (z' := (10, [some (.ref 65), some (.int (nI key)), some (.int 45)], [], h3)) rfl ⟨trivial, trivial⟩ ?_
            have on := prs_on p2 _ rfl
            exact ih (by simp only [Tok.ty_mk, Tok.st_mk, Tok.nx_mk, Tok.val_mk, PA.i_mk, PA.due_mk, PA.S_mk, PA.ob_mk, PA.on_mk, PA.pr_mk, PA.out_mk, PB.i_mk, PB.ob_mk, PB.nt_mk, PB.pr_mk, PB.out_mk]; omega) (Or.inr ⟨_, rfl⟩) r3 (by simp only [Tok.ty_mk, Tok.st_mk, Tok.nx_mk, Tok.val_mk, PA.i_mk, PA.due_mk, PA.S_mk, PA.ob_mk, PA.on_mk, PA.pr_mk, PA.out_mk, PB.i_mk, PB.ob_mk, PB.nt_mk, PB.pr_mk, PB.out_mk, List.length_cons]; omega) (by simp only [Tok.ty_mk, Tok.st_mk, Tok.nx_mk, Tok.val_mk, PA.i_mk, PA.due_mk, PA.S_mk, PA.ob_mk, PA.on_mk, PA.pr_mk, PA.out_mk, PB.i_mk, PB.ob_mk, PB.nt_mk, PB.pr_mk, PB.out_mk]; rw [on.1, on.2]; exact hm) (fun r h' q po => K r h' (.lpS (by decide) ((cat_opI 45 (by decide)).mpr s2) (by decide) p2 q) po)
          ·
            show X (42, [some (.ref 65), some (.int (nI key)), some (.int 45)], [.int 0], h2)
            refine go hX 2 (gs := [True, True]) (z' := (46, [some (.ref 65), some (.int (nI key)), some (.int 45)], [.int 0], h2)) rfl ⟨trivial, trivial, trivial⟩ ?_
            refine rt_ hX (G := isB 0) (r := some (.int 0)) rfl isB0 ?_
            exact K (.inr i2) h2 (.lpF (by decide) ((cat_opI 45 (by decide)).mpr s2) (by decide) p2) e2
        ·
          show X (25, [some (.ref 65), some (.int (nI key)), some (.int x)], [.int 0], h)
          refine go hX 2 (gs := [True, True]) (z' := (57, [some (.ref 65), some (.int (nI key)), some (.int x)], [.int 1], h)) rfl ⟨trivial, trivial, trivial⟩ ?_
          refine rt_ hX (G := isB 1) (r := some (.int 1)) rfl isB1 ?_
          have ne : ∀ s, cat f key (tks f n b.i) = .op s → bnd s ≠ 4 := fun s es hb => by
            have q := cat_opE es
            rcases bnd_4 hb with e0 | e0
            · exact s1 ⟨q.1, val_i (q.2.1.symm.trans e0) rfl⟩
            · exact s2 ⟨q.1, val_i (q.2.1.symm.trans e0) rfl⟩
          exact K (.inl b) h (.lpE ne) R
theorem lv_sum {e : Nat} {f : Int32 → Int32} {n key A0 m : Nat} (by_ : BY f n) (S : SubB (e + 3) 222 5 f n key A0 m) : SubB (e + 4) 221 4 f n key A0 m := by
  intro h0 h b Q R tl hm K
  refine call_of (rfl : psM[221]? = some _) rfl rfl (rcvV rfl) (fun X hX => ?_)
  show X (0, [some (.ref 65), some (.int (nI key)), none], [], h)
  refine go hX 2 (gs := [True, True]) (z' := (2, [some (.ref 65), some (.int (nI key)), none], [.int (nI key), .ref 65], h)) rfl ⟨trivial, trivial, trivial⟩ ?_
  refine cl hX 222 2 [.ref 65, .int (nI key)] [] rfl rfl rfl rfl ?_
  refine S.two R tl hm (fun b1 h1 p1 r1 => ?_) (fun i1 h1 p1 e1 => ?_)
  ·
    show X (5, [some (.ref 65), some (.int (nI key)), none], [.int 1], h1)
    refine go hX 1 (gs := [True]) (z' := (10, [some (.ref 65), some (.int (nI key)), none], [], h1)) rfl ⟨trivial, trivial⟩ ?_
    have on := prs_on p1 _ rfl
    have le := prs_len p1 _ rfl
    exact lp_sum hX S by_ (Nat.le_refl _) (Or.inl rfl) r1 (by omega) (by rw [on.1, on.2]; exact hm) (fun r h' q po => K r h' (.up (by decide) p1 q) po)
  ·
    show X (5, [some (.ref 65), some (.int (nI key)), none], [.int 0], h1)
    refine go hX 2 (gs := [True, True]) (z' := (9, [some (.ref 65), some (.int (nI key)), none], [.int 0], h1)) rfl ⟨trivial, trivial, trivial⟩ ?_
    refine rt_ hX (G := isB 0) (r := some (.int 0)) rfl isB0 ?_
    exact K (.inr i1) h1 (.upF (by decide) (by decide) p1) e1
theorem lv_test {e : Nat} {f : Int32 → Int32} {n key A0 m : Nat} (by_ : BY f n) (S : SubB (e + 3) 221 4 f n key A0 m) : SubB (e + 4) 220 3 f n key A0 m := by
  intro h0 h b Q R tl hm K
  refine call_of (rfl : psM[220]? = some _) rfl rfl (rcvV rfl) (fun X hX => ?_)
  show X (0, [some (.ref 65), some (.int (nI key)), none], [], h)
  refine go hX 2 (gs := [True, True]) (z' := (2, [some (.ref 65), some (.int (nI key)), none], [.int (nI key), .ref 65], h)) rfl ⟨trivial, trivial, trivial⟩ ?_
  refine cl hX 221 2 [.ref 65, .int (nI key)] [] rfl rfl rfl rfl ?_
  refine S.two R tl hm (fun b1 h1 p1 r1 => ?_) (fun i1 h1 p1 e1 => ?_)
  ·
    show X (5, [some (.ref 65), some (.int (nI key)), none], [.int 1], h1)
    refine go hX 3 (gs := [True, True, True]) (z' := (13, [some (.ref 65), some (.int (nI key)), none], [.int 60, .ref 65], h1)) rfl ⟨trivial, trivial, trivial, trivial⟩ ?_
    refine cl hX 212 2 [.ref 65, .int 60] [] rfl rfl rfl rfl ?_
    refine r1.sign 60 (fun s1 => ?_) (fun s1 => ?_)
    ·
      show X (16, [some (.ref 65), some (.int (nI key)), none], [.int 1], h1)
      refine go hX 5 (gs := [True, True, True, True, True]) (z' := (43, [some (.ref 65), some (.int (nI key)), some (.int (h1.1 65 21))], [.ref 65], h1)) rfl ⟨trivial, trivial, trivial, trivial, trivial, trivial⟩ ?_
      refine cl hX 211 1 [.ref 65] [] rfl rfl rfl rfl ?_
      rw [show h1.1 65 21 = 60 from (r1.tk.b21 s1.1).trans s1.2]
      have on1 := prs_on p1 _ rfl
      have le1 := prs_len p1 _ rfl
      refine r1.next by_ (fun z => absurd (s1.1.symm.trans z) (by decide)) (fun q => absurd (s1.1.symm.trans q) (by decide)) (fun h2 r2 => ?_)
      show X (46, [some (.ref 65), some (.int (nI key)), some (.int 60)], [], h2)
      refine go hX 2 (gs := [True, True]) (z' := (48, [some (.ref 65), some (.int (nI key)), some (.int 60)], [.int (nI key), .ref 65], h2)) rfl ⟨trivial, trivial, trivial⟩ ?_
      refine cl hX 221 2 [.ref 65, .int (nI key)] [] rfl rfl rfl rfl ?_
      refine S.two r2 (by have := r1.ln; show b1.out.length + 1 ≤ b1.i + 1; omega) (by show 16 ≤ b1.ob + b1.nt + m; rw [on1.1, on1.2]; exact hm) (fun b2 h3 p2 r3 => ?_) (fun i2 h3 p2 e2 => ?_)
      ·
        show X (51, [some (.ref 65), some (.int (nI key)), some (.int 60)], [.int 1], h3)
        refine go hX 4 (gs := [True, True, True, True]) (z' := (59, [some (.ref 65), some (.int (nI key)), some (.int 60)], [.int 60, .int 2, .ref 65], h3)) rfl ⟨trivial, trivial, trivial, trivial, trivial⟩ ?_
        refine cl hX 217 3 [.ref 65, .int 2, .int 60] [] rfl rfl rfl rfl ?_
        have le := prs_len p2 _ rfl
        simp only [Tok.ty_mk, Tok.st_mk, Tok.nx_mk, Tok.val_mk, PA.i_mk, PA.due_mk, PA.S_mk, PA.ob_mk, PA.on_mk, PA.pr_mk, PA.out_mk, PB.i_mk, PB.ob_mk, PB.nt_mk, PB.pr_mk, PB.out_mk, PB.nx] at le
        have lb := r3.len by_
        have tl1 : b1.out.length + 1 ≤ b1.i := by omega
        refine r3.step by_ (stR_sg (v := 60) (by decide)) (by omega) (by omega) (fun h4 _ r4 => ?_)
        show X (62, [some (.ref 65), some (.int (nI key)), some (.int 60)], [], h4)
        refine go hX 1 (gs := [True]) (z' := (63, [some (.ref 65), some (.int (nI key)), some (.int 60)], [.int 1], h4)) rfl ⟨trivial, trivial⟩ ?_
        refine rt_ hX (G := isB 1) (r := some (.int 1)) rfl isB1 ?_
        exact K (.inl _) h4 (.tt p1 ((cat_opI 60 (by decide)).mpr s1) (by decide) p2) r4
      ·
        show X (51, [some (.ref 65), some (.int (nI key)), some (.int 60)], [.int 0], h3)
        refine go hX 2 (gs := [True, True]) (z' := (55, [some (.ref 65), some (.int (nI key)), some (.int 60)], [.int 0], h3)) rfl ⟨trivial, trivial, trivial⟩ ?_
        refine rt_ hX (G := isB 0) (r := some (.int 0)) rfl isB0 ?_
        exact K (.inr i2) h3 (.tf p1 ((cat_opI 60 (by decide)).mpr s1) (by decide) p2) e2
    ·
      show X (16, [some (.ref 65), some (.int (nI key)), none], [.int 0], h1)
      refine go hX 3 (gs := [True, True, True]) (z' := (22, [some (.ref 65), some (.int (nI key)), none], [.int 61, .ref 65], h1)) rfl ⟨trivial, trivial, trivial, trivial⟩ ?_
      refine cl hX 212 2 [.ref 65, .int 61] [] rfl rfl rfl rfl ?_
      refine r1.sign 61 (fun s2 => ?_) (fun s2 => ?_)
      ·
        show X (25, [some (.ref 65), some (.int (nI key)), none], [.int 1], h1)
        refine go hX 5 (gs := [True, True, True, True, True]) (z' := (43, [some (.ref 65), some (.int (nI key)), some (.int (h1.1 65 21))], [.ref 65], h1)) rfl ⟨trivial, trivial, trivial, trivial, trivial, trivial⟩ ?_
        refine cl hX 211 1 [.ref 65] [] rfl rfl rfl rfl ?_
        rw [show h1.1 65 21 = 61 from (r1.tk.b21 s2.1).trans s2.2]
        have on1 := prs_on p1 _ rfl
        have le1 := prs_len p1 _ rfl
        refine r1.next by_ (fun z => absurd (s2.1.symm.trans z) (by decide)) (fun q => absurd (s2.1.symm.trans q) (by decide)) (fun h2 r2 => ?_)
        show X (46, [some (.ref 65), some (.int (nI key)), some (.int 61)], [], h2)
        refine go hX 2 (gs := [True, True]) (z' := (48, [some (.ref 65), some (.int (nI key)), some (.int 61)], [.int (nI key), .ref 65], h2)) rfl ⟨trivial, trivial, trivial⟩ ?_
        refine cl hX 221 2 [.ref 65, .int (nI key)] [] rfl rfl rfl rfl ?_
        refine S.two r2 (by have := r1.ln; show b1.out.length + 1 ≤ b1.i + 1; omega) (by show 16 ≤ b1.ob + b1.nt + m; rw [on1.1, on1.2]; exact hm) (fun b2 h3 p2 r3 => ?_) (fun i2 h3 p2 e2 => ?_)
        ·
          show X (51, [some (.ref 65), some (.int (nI key)), some (.int 61)], [.int 1], h3)
          refine go hX 4 (gs := [True, True, True, True]) (z' := (59, [some (.ref 65), some (.int (nI key)), some (.int 61)], [.int 61, .int 2, .ref 65], h3)) rfl ⟨trivial, trivial, trivial, trivial, trivial⟩ ?_
          refine cl hX 217 3 [.ref 65, .int 2, .int 61] [] rfl rfl rfl rfl ?_
          have le := prs_len p2 _ rfl
          simp only [Tok.ty_mk, Tok.st_mk, Tok.nx_mk, Tok.val_mk, PA.i_mk, PA.due_mk, PA.S_mk, PA.ob_mk, PA.on_mk, PA.pr_mk, PA.out_mk, PB.i_mk, PB.ob_mk, PB.nt_mk, PB.pr_mk, PB.out_mk, PB.nx] at le
          have lb := r3.len by_
          have tl1 : b1.out.length + 1 ≤ b1.i := by omega
          refine r3.step by_ (stR_sg (v := 61) (by decide)) (by omega) (by omega) (fun h4 _ r4 => ?_)
          show X (62, [some (.ref 65), some (.int (nI key)), some (.int 61)], [], h4)
          refine go hX 1 (gs := [True]) (z' := (63, [some (.ref 65), some (.int (nI key)), some (.int 61)], [.int 1], h4)) rfl ⟨trivial, trivial⟩ ?_
          refine rt_ hX (G := isB 1) (r := some (.int 1)) rfl isB1 ?_
          exact K (.inl _) h4 (.tt p1 ((cat_opI 61 (by decide)).mpr s2) (by decide) p2) r4
        ·
          show X (51, [some (.ref 65), some (.int (nI key)), some (.int 61)], [.int 0], h3)
          refine go hX 2 (gs := [True, True]) (z' := (55, [some (.ref 65), some (.int (nI key)), some (.int 61)], [.int 0], h3)) rfl ⟨trivial, trivial, trivial⟩ ?_
          refine rt_ hX (G := isB 0) (r := some (.int 0)) rfl isB0 ?_
          exact K (.inr i2) h3 (.tf p1 ((cat_opI 61 (by decide)).mpr s2) (by decide) p2) e2
      ·
        show X (25, [some (.ref 65), some (.int (nI key)), none], [.int 0], h1)
        refine go hX 3 (gs := [True, True, True]) (z' := (31, [some (.ref 65), some (.int (nI key)), none], [.int 62, .ref 65], h1)) rfl ⟨trivial, trivial, trivial, trivial⟩ ?_
        refine cl hX 212 2 [.ref 65, .int 62] [] rfl rfl rfl rfl ?_
        refine r1.sign 62 (fun s3 => ?_) (fun s3 => ?_)
        ·
          show X (34, [some (.ref 65), some (.int (nI key)), none], [.int 1], h1)
          refine go hX 5 (gs := [True, True, True, True, True]) (z' := (43, [some (.ref 65), some (.int (nI key)), some (.int (h1.1 65 21))], [.ref 65], h1)) rfl ⟨trivial, trivial, trivial, trivial, trivial, trivial⟩ ?_
          refine cl hX 211 1 [.ref 65] [] rfl rfl rfl rfl ?_
          rw [show h1.1 65 21 = 62 from (r1.tk.b21 s3.1).trans s3.2]
          have on1 := prs_on p1 _ rfl
          have le1 := prs_len p1 _ rfl
          refine r1.next by_ (fun z => absurd (s3.1.symm.trans z) (by decide)) (fun q => absurd (s3.1.symm.trans q) (by decide)) (fun h2 r2 => ?_)
          show X (46, [some (.ref 65), some (.int (nI key)), some (.int 62)], [], h2)
          refine go hX 2 (gs := [True, True]) (z' := (48, [some (.ref 65), some (.int (nI key)), some (.int 62)], [.int (nI key), .ref 65], h2)) rfl ⟨trivial, trivial, trivial⟩ ?_
          refine cl hX 221 2 [.ref 65, .int (nI key)] [] rfl rfl rfl rfl ?_
          refine S.two r2 (by have := r1.ln; show b1.out.length + 1 ≤ b1.i + 1; omega) (by show 16 ≤ b1.ob + b1.nt + m; rw [on1.1, on1.2]; exact hm) (fun b2 h3 p2 r3 => ?_) (fun i2 h3 p2 e2 => ?_)
          ·
            show X (51, [some (.ref 65), some (.int (nI key)), some (.int 62)], [.int 1], h3)
            refine go hX 4 (gs := [True, True, True, True]) (z' := (59, [some (.ref 65), some (.int (nI key)), some (.int 62)], [.int 62, .int 2, .ref 65], h3)) rfl ⟨trivial, trivial, trivial, trivial, trivial⟩ ?_
            refine cl hX 217 3 [.ref 65, .int 2, .int 62] [] rfl rfl rfl rfl ?_
            have le := prs_len p2 _ rfl
            simp only [Tok.ty_mk, Tok.st_mk, Tok.nx_mk, Tok.val_mk, PA.i_mk, PA.due_mk, PA.S_mk, PA.ob_mk, PA.on_mk, PA.pr_mk, PA.out_mk, PB.i_mk, PB.ob_mk, PB.nt_mk, PB.pr_mk, PB.out_mk, PB.nx] at le
            have lb := r3.len by_
            have tl1 : b1.out.length + 1 ≤ b1.i := by omega
            refine r3.step by_ (stR_sg (v := 62) (by decide)) (by omega) (by omega) (fun h4 _ r4 => ?_)
            show X (62, [some (.ref 65), some (.int (nI key)), some (.int 62)], [], h4)
            refine go hX 1 (gs := [True]) (z' := (63, [some (.ref 65), some (.int (nI key)), some (.int 62)], [.int 1], h4)) rfl ⟨trivial, trivial⟩ ?_
            refine rt_ hX (G := isB 1) (r := some (.int 1)) rfl isB1 ?_
            exact K (.inl _) h4 (.tt p1 ((cat_opI 62 (by decide)).mpr s3) (by decide) p2) r4
          ·
            show X (51, [some (.ref 65), some (.int (nI key)), some (.int 62)], [.int 0], h3)
            refine go hX 2 (gs := [True, True]) (z' := (55, [some (.ref 65), some (.int (nI key)), some (.int 62)], [.int 0], h3)) rfl ⟨trivial, trivial, trivial⟩ ?_
            refine rt_ hX (G := isB 0) (r := some (.int 0)) rfl isB0 ?_
            exact K (.inr i2) h3 (.tf p1 ((cat_opI 62 (by decide)).mpr s3) (by decide) p2) e2
        ·
          show X (34, [some (.ref 65), some (.int (nI key)), none], [.int 0], h1)
          refine go hX 2 (gs := [True, True]) (z' := (63, [some (.ref 65), some (.int (nI key)), none], [.int 1], h1)) rfl ⟨trivial, trivial, trivial⟩ ?_
          refine rt_ hX (G := isB 1) (r := some (.int 1)) rfl isB1 ?_
          have ne : ∀ s, cat f key (tks f n b1.i) = .op s → bnd s ≠ 3 := fun s es hb => by
            have q := cat_opE es
            rcases bnd_3 hb with e0 | e0 | e0
            · exact s1 ⟨q.1, val_i (q.2.1.symm.trans e0) rfl⟩
            · exact s2 ⟨q.1, val_i (q.2.1.symm.trans e0) rfl⟩
            · exact s3 ⟨q.1, val_i (q.2.1.symm.trans e0) rfl⟩
          exact K (.inl b1) h1 (.te p1 ne) r1
  ·
    show X (5, [some (.ref 65), some (.int (nI key)), none], [.int 0], h1)
    refine go hX 2 (gs := [True, True]) (z' := (9, [some (.ref 65), some (.int (nI key)), none], [.int 0], h1)) rfl ⟨trivial, trivial, trivial⟩ ?_
    refine rt_ hX (G := isB 0) (r := some (.int 0)) rfl isB0 ?_
    exact K (.inr i1) h1 (.upF (by decide) (by decide) p1) e1
theorem lp_both {e : Nat} {Q : Option Value → Hp → Prop} {X : Cf → Prop} (hX : Clo (Call (e + 3)) cd219 (some .boolean) Q X) {f : Int32 → Int32} {n key A0 m : Nat} (S : SubB (e + 3) 220 3 f n key A0 m) (by_ : BY f n) {h0 : Hp} : ∀ {t : Nat} {h : Hp} {b : PB}, 98 - b.i ≤ t → RdB h0 h f n key A0 b → b.out.length + 1 ≤ b.i → 16 ≤ b.ob + b.nt + m → (∀ r h', prs (fun i => cat f key (tks f n i)) true 2 b r → PoB h0 h' f n key A0 r → Q (some (.int (rvB r))) h') → X (10, [some (.ref 65), some (.int (nI key))], [], h) := by
  intro t
  induction t with
  | zero => exact fun {h b} ht R _ _ _ => absurd (R.len by_).2 (by omega)
  | succ t ih =>
    intro h b ht R tl hm K
    refine go hX 2 (gs := [True, True]) (z' := (13, [some (.ref 65), some (.int (nI key))], [.int 38, .ref 65], h)) rfl ⟨trivial, trivial, trivial⟩ ?_
    refine cl hX 212 2 [.ref 65, .int 38] [] rfl rfl rfl rfl ?_
    refine R.sign 38 (fun s1 => ?_) (fun s1 => ?_)
    ·
      show X (16, [some (.ref 65), some (.int (nI key))], [.int 1], h)
      refine go hX 2 (gs := [True, True]) (z' := (20, [some (.ref 65), some (.int (nI key))], [.ref 65], h)) rfl ⟨trivial, trivial, trivial⟩ ?_
      refine cl hX 211 1 [.ref 65] [] rfl rfl rfl rfl ?_
      refine R.next by_ (fun z => absurd (s1.1.symm.trans z) (by decide)) (fun q => absurd (s1.1.symm.trans q) (by decide)) (fun h1 r1 => ?_)
      show X (23, [some (.ref 65), some (.int (nI key))], [], h1)
      refine go hX 2 (gs := [True, True]) (z' := (25, [some (.ref 65), some (.int (nI key))], [.int (nI key), .ref 65], h1)) rfl ⟨trivial, trivial, trivial⟩ ?_
      refine cl hX 220 2 [.ref 65, .int (nI key)] [] rfl rfl rfl rfl ?_
      refine S.two r1 (by have := R.ln; show b.out.length + 1 ≤ b.i + 1; omega) hm (fun b2 h2 p2 r2 => ?_) (fun i2 h2 p2 e2 => ?_)
      ·
        show X (28, [some (.ref 65), some (.int (nI key))], [.int 1], h2)
        refine go hX 4 (gs := [True, True, True, True]) (z' := (37, [some (.ref 65), some (.int (nI key))], [.int 38, .int 2, .ref 65], h2)) rfl ⟨trivial, trivial, trivial, trivial, trivial⟩ ?_
        refine cl hX 217 3 [.ref 65, .int 2, .int 38] [] rfl rfl rfl rfl ?_
        have le := prs_len p2 _ rfl
        simp only [Tok.ty_mk, Tok.st_mk, Tok.nx_mk, Tok.val_mk, PA.i_mk, PA.due_mk, PA.S_mk, PA.ob_mk, PA.on_mk, PA.pr_mk, PA.out_mk, PB.i_mk, PB.ob_mk, PB.nt_mk, PB.pr_mk, PB.out_mk, PB.nx] at le
        have lb := r2.len by_
        refine r2.step by_ (stR_sg (v := 38) (by decide)) (by omega) (by omega) (fun h3 _ r3 => ?_)
        show X (40, [some (.ref 65), some (.int (nI key))], [], h3)
        refine go hX 1 (gs := [True]) (z' := (10, [some (.ref 65), some (.int (nI key))], [], h3)) rfl ⟨trivial, trivial⟩ ?_
        have on := prs_on p2 _ rfl
        exact ih (by simp only [Tok.ty_mk, Tok.st_mk, Tok.nx_mk, Tok.val_mk, PA.i_mk, PA.due_mk, PA.S_mk, PA.ob_mk, PA.on_mk, PA.pr_mk, PA.out_mk, PB.i_mk, PB.ob_mk, PB.nt_mk, PB.pr_mk, PB.out_mk]; omega) r3 (by simp only [Tok.ty_mk, Tok.st_mk, Tok.nx_mk, Tok.val_mk, PA.i_mk, PA.due_mk, PA.S_mk, PA.ob_mk, PA.on_mk, PA.pr_mk, PA.out_mk, PB.i_mk, PB.ob_mk, PB.nt_mk, PB.pr_mk, PB.out_mk, List.length_cons]; omega) (by simp only [Tok.ty_mk, Tok.st_mk, Tok.nx_mk, Tok.val_mk, PA.i_mk, PA.due_mk, PA.S_mk, PA.ob_mk, PA.on_mk, PA.pr_mk, PA.out_mk, PB.i_mk, PB.ob_mk, PB.nt_mk, PB.pr_mk, PB.out_mk]; rw [on.1, on.2]; exact hm) (fun r h' q po => K r h' (.lpS (by decide) ((cat_opI 38 (by decide)).mpr s1) (by decide) p2 q) po)
      ·
        show X (28, [some (.ref 65), some (.int (nI key))], [.int 0], h2)
        refine go hX 2 (gs := [True, True]) (z' := (32, [some (.ref 65), some (.int (nI key))], [.int 0], h2)) rfl ⟨trivial, trivial, trivial⟩ ?_
        refine rt_ hX (G := isB 0) (r := some (.int 0)) rfl isB0 ?_
        exact K (.inr i2) h2 (.lpF (by decide) ((cat_opI 38 (by decide)).mpr s1) (by decide) p2) e2
    ·
      show X (16, [some (.ref 65), some (.int (nI key))], [.int 0], h)
      refine go hX 2 (gs := [True, True]) (z' := (44, [some (.ref 65), some (.int (nI key))], [.int 1], h)) rfl ⟨trivial, trivial, trivial⟩ ?_
      refine rt_ hX (G := isB 1) (r := some (.int 1)) rfl isB1 ?_
      have ne : ∀ s, cat f key (tks f n b.i) = .op s → bnd s ≠ 2 := fun s es hb => by
        have q := cat_opE es
        exact s1 ⟨q.1, val_i (q.2.1.symm.trans (bnd_2 hb)) rfl⟩
      exact K (.inl b) h (.lpE ne) R
theorem lv_both {e : Nat} {f : Int32 → Int32} {n key A0 m : Nat} (by_ : BY f n) (S : SubB (e + 3) 220 3 f n key A0 m) : SubB (e + 4) 219 2 f n key A0 m := by
  intro h0 h b Q R tl hm K
  refine call_of (rfl : psM[219]? = some _) rfl rfl (rcvV rfl) (fun X hX => ?_)
  show X (0, [some (.ref 65), some (.int (nI key))], [], h)
  refine go hX 2 (gs := [True, True]) (z' := (2, [some (.ref 65), some (.int (nI key))], [.int (nI key), .ref 65], h)) rfl ⟨trivial, trivial, trivial⟩ ?_
  refine cl hX 220 2 [.ref 65, .int (nI key)] [] rfl rfl rfl rfl ?_
  refine S.two R tl hm (fun b1 h1 p1 r1 => ?_) (fun i1 h1 p1 e1 => ?_)
  ·
    show X (5, [some (.ref 65), some (.int (nI key))], [.int 1], h1)
    refine go hX 1 (gs := [True]) (z' := (10, [some (.ref 65), some (.int (nI key))], [], h1)) rfl ⟨trivial, trivial⟩ ?_
    have on := prs_on p1 _ rfl
    have le := prs_len p1 _ rfl
    exact lp_both hX S by_ (Nat.le_refl _) r1 (by omega) (by rw [on.1, on.2]; exact hm) (fun r h' q po => K r h' (.up (by decide) p1 q) po)
  ·
    show X (5, [some (.ref 65), some (.int (nI key))], [.int 0], h1)
    refine go hX 2 (gs := [True, True]) (z' := (9, [some (.ref 65), some (.int (nI key))], [.int 0], h1)) rfl ⟨trivial, trivial, trivial⟩ ?_
    refine rt_ hX (G := isB 0) (r := some (.int 0)) rfl isB0 ?_
    exact K (.inr i1) h1 (.upF (by decide) (by decide) p1) e1
theorem lp_either {e : Nat} {Q : Option Value → Hp → Prop} {X : Cf → Prop} (hX : Clo (Call (e + 3)) cd218 (some .boolean) Q X) {f : Int32 → Int32} {n key A0 m : Nat} (S : SubB (e + 3) 219 2 f n key A0 m) (by_ : BY f n) {h0 : Hp} : ∀ {t : Nat} {h : Hp} {b : PB}, 98 - b.i ≤ t → RdB h0 h f n key A0 b → b.out.length + 1 ≤ b.i → 16 ≤ b.ob + b.nt + m → (∀ r h', prs (fun i => cat f key (tks f n i)) true 1 b r → PoB h0 h' f n key A0 r → Q (some (.int (rvB r))) h') → X (10, [some (.ref 65), some (.int (nI key))], [], h) := by
  intro t
  induction t with
  | zero => exact fun {h b} ht R _ _ _ => absurd (R.len by_).2 (by omega)
  | succ t ih =>
    intro h b ht R tl hm K
    refine go hX 2 (gs := [True, True]) (z' := (13, [some (.ref 65), some (.int (nI key))], [.int 124, .ref 65], h)) rfl ⟨trivial, trivial, trivial⟩ ?_
    refine cl hX 212 2 [.ref 65, .int 124] [] rfl rfl rfl rfl ?_
    refine R.sign 124 (fun s1 => ?_) (fun s1 => ?_)
    ·
      show X (16, [some (.ref 65), some (.int (nI key))], [.int 1], h)
      refine go hX 2 (gs := [True, True]) (z' := (20, [some (.ref 65), some (.int (nI key))], [.ref 65], h)) rfl ⟨trivial, trivial, trivial⟩ ?_
      refine cl hX 211 1 [.ref 65] [] rfl rfl rfl rfl ?_
      refine R.next by_ (fun z => absurd (s1.1.symm.trans z) (by decide)) (fun q => absurd (s1.1.symm.trans q) (by decide)) (fun h1 r1 => ?_)
      show X (23, [some (.ref 65), some (.int (nI key))], [], h1)
      refine go hX 2 (gs := [True, True]) (z' := (25, [some (.ref 65), some (.int (nI key))], [.int (nI key), .ref 65], h1)) rfl ⟨trivial, trivial, trivial⟩ ?_
      refine cl hX 219 2 [.ref 65, .int (nI key)] [] rfl rfl rfl rfl ?_
      refine S.two r1 (by have := R.ln; show b.out.length + 1 ≤ b.i + 1; omega) hm (fun b2 h2 p2 r2 => ?_) (fun i2 h2 p2 e2 => ?_)
      ·
        show X (28, [some (.ref 65), some (.int (nI key))], [.int 1], h2)
        refine go hX 4 (gs := [True, True, True, True]) (z' := (37, [some (.ref 65), some (.int (nI key))], [.int 124, .int 2, .ref 65], h2)) rfl ⟨trivial, trivial, trivial, trivial, trivial⟩ ?_
        refine cl hX 217 3 [.ref 65, .int 2, .int 124] [] rfl rfl rfl rfl ?_
        have le := prs_len p2 _ rfl
        simp only [Tok.ty_mk, Tok.st_mk, Tok.nx_mk, Tok.val_mk, PA.i_mk, PA.due_mk, PA.S_mk, PA.ob_mk, PA.on_mk, PA.pr_mk, PA.out_mk, PB.i_mk, PB.ob_mk, PB.nt_mk, PB.pr_mk, PB.out_mk, PB.nx] at le
        have lb := r2.len by_
        refine r2.step by_ (stR_sg (v := 124) (by decide)) (by omega) (by omega) (fun h3 _ r3 => ?_)
        show X (40, [some (.ref 65), some (.int (nI key))], [], h3)
        refine go hX 1 (gs := [True]) (z' := (10, [some (.ref 65), some (.int (nI key))], [], h3)) rfl ⟨trivial, trivial⟩ ?_
        have on := prs_on p2 _ rfl
        exact ih (by simp only [Tok.ty_mk, Tok.st_mk, Tok.nx_mk, Tok.val_mk, PA.i_mk, PA.due_mk, PA.S_mk, PA.ob_mk, PA.on_mk, PA.pr_mk, PA.out_mk, PB.i_mk, PB.ob_mk, PB.nt_mk, PB.pr_mk, PB.out_mk]; omega) r3 (by simp only [Tok.ty_mk, Tok.st_mk, Tok.nx_mk, Tok.val_mk, PA.i_mk, PA.due_mk, PA.S_mk, PA.ob_mk, PA.on_mk, PA.pr_mk, PA.out_mk, PB.i_mk, PB.ob_mk, PB.nt_mk, PB.pr_mk, PB.out_mk, List.length_cons]; omega) (by simp only [Tok.ty_mk, Tok.st_mk, Tok.nx_mk, Tok.val_mk, PA.i_mk, PA.due_mk, PA.S_mk, PA.ob_mk, PA.on_mk, PA.pr_mk, PA.out_mk, PB.i_mk, PB.ob_mk, PB.nt_mk, PB.pr_mk, PB.out_mk]; rw [on.1, on.2]; exact hm) (fun r h' q po => K r h' (.lpS (by decide) ((cat_opI 124 (by decide)).mpr s1) (by decide) p2 q) po)
      ·
        show X (28, [some (.ref 65), some (.int (nI key))], [.int 0], h2)
        refine go hX 2 (gs := [True, True]) (z' := (32, [some (.ref 65), some (.int (nI key))], [.int 0], h2)) rfl ⟨trivial, trivial, trivial⟩ ?_
        refine rt_ hX (G := isB 0) (r := some (.int 0)) rfl isB0 ?_
        exact K (.inr i2) h2 (.lpF (by decide) ((cat_opI 124 (by decide)).mpr s1) (by decide) p2) e2
    ·
      show X (16, [some (.ref 65), some (.int (nI key))], [.int 0], h)
      refine go hX 2 (gs := [True, True]) (z' := (44, [some (.ref 65), some (.int (nI key))], [.int 1], h)) rfl ⟨trivial, trivial, trivial⟩ ?_
      refine rt_ hX (G := isB 1) (r := some (.int 1)) rfl isB1 ?_
      have ne : ∀ s, cat f key (tks f n b.i) = .op s → bnd s ≠ 1 := fun s es hb => by
        have q := cat_opE es
        exact s1 ⟨q.1, val_i (q.2.1.symm.trans (bnd_1 hb)) rfl⟩
      exact K (.inl b) h (.lpE ne) R
theorem lv_either {e : Nat} {f : Int32 → Int32} {n key A0 m : Nat} (by_ : BY f n) (S : SubB (e + 3) 219 2 f n key A0 m) : SubB (e + 4) 218 1 f n key A0 m := by
  intro h0 h b Q R tl hm K
  refine call_of (rfl : psM[218]? = some _) rfl rfl (rcvV rfl) (fun X hX => ?_)
  show X (0, [some (.ref 65), some (.int (nI key))], [], h)
  refine go hX 2 (gs := [True, True]) (z' := (2, [some (.ref 65), some (.int (nI key))], [.int (nI key), .ref 65], h)) rfl ⟨trivial, trivial, trivial⟩ ?_
  refine cl hX 219 2 [.ref 65, .int (nI key)] [] rfl rfl rfl rfl ?_
  refine S.two R tl hm (fun b1 h1 p1 r1 => ?_) (fun i1 h1 p1 e1 => ?_)
  ·
    show X (5, [some (.ref 65), some (.int (nI key))], [.int 1], h1)
    refine go hX 1 (gs := [True]) (z' := (10, [some (.ref 65), some (.int (nI key))], [], h1)) rfl ⟨trivial, trivial⟩ ?_
    have on := prs_on p1 _ rfl
    have le := prs_len p1 _ rfl
    exact lp_either hX S by_ (Nat.le_refl _) r1 (by omega) (by rw [on.1, on.2]; exact hm) (fun r h' q po => K r h' (.up (by decide) p1 q) po)
  ·
    show X (5, [some (.ref 65), some (.int (nI key))], [.int 0], h1)
    refine go hX 2 (gs := [True, True]) (z' := (9, [some (.ref 65), some (.int (nI key))], [.int 0], h1)) rfl ⟨trivial, trivial, trivial⟩ ?_
    refine rt_ hX (G := isB 0) (r := some (.int 0)) rfl isB0 ?_
    exact K (.inr i1) h1 (.upF (by decide) (by decide) p1) e1
theorem gA_lt {p : Nat} {v b : Int32} : (gA p v b).toInt < 10000 := by
  have c9 : (9999 : Int32).toInt = 9999 := rfl
  unfold gA
  split
  · rename_i h
    rw [Int32.lt_iff_toInt_lt, c9] at h
    omega
  · rw [c9]; decide
theorem dvF_lt {f : Int32 → Int32} {n : Nat} : ∀ {k p : Nat} {v : Int32}, v.toInt < 10000 → (dvF gA f n k p v).toInt < 10000
  | 0, _, _, h => h
  | k + 1, p, v, h => by
    show (if _ then dvF gA f n k (p + 1) (gA p v (f (nI p))) else v).toInt < 10000
    split
    · exact dvF_lt gA_lt
    · exact h
theorem tokS_val {f : Int32 → Int32} {n p s : Nat} {beh : Prop} [Decidable beh] (h2 : (tokS f n beh p s).ty = 2) : (tokS f n beh p s).val.toInt < 10000 := by
  by_cases h : s < n
  · by_cases hl : 97 ≤ f (nI s) ∧ f (nI s) ≤ 122
    · rw [tokS_let h hl] at h2
      dsimp only [Tok.ty_mk, Tok.st_mk, Tok.nx_mk, Tok.val_mk, PA.i_mk, PA.due_mk, PA.S_mk, PA.ob_mk, PA.on_mk, PA.pr_mk, PA.out_mk, PB.i_mk, PB.ob_mk, PB.nt_mk, PB.pr_mk, PB.out_mk] at h2
      split at h2 <;> exact absurd h2 (by decide)
    · by_cases hd : 48 ≤ f (nI s) ∧ f (nI s) ≤ 57
      · rw [tokS_dig h hl hd]
        exact dvF_lt (by decide)
      · rw [tokS_sig h hl hd] at h2
        exact absurd h2 (by simp [Tok.ty_mk, Tok.st_mk, Tok.nx_mk, Tok.val_mk, PA.i_mk, PA.due_mk, PA.S_mk, PA.ob_mk, PA.on_mk, PA.pr_mk, PA.out_mk, PB.i_mk, PB.ob_mk, PB.nt_mk, PB.pr_mk, PB.out_mk])
  · rw [tokS_end h] at h2
    exact absurd h2 (by simp [Tok.ty_mk, Tok.st_mk, Tok.nx_mk, Tok.val_mk, PA.i_mk, PA.due_mk, PA.S_mk, PA.ob_mk, PA.on_mk, PA.pr_mk, PA.out_mk, PB.i_mk, PB.ob_mk, PB.nt_mk, PB.pr_mk, PB.out_mk])
theorem tks_val {f : Int32 → Int32} {n : Nat} : ∀ i, (tks f n i).ty = 2 → (tks f n i).val.toInt < 10000
  | 0, h => tokS_val h
  | _ + 1, h => tokS_val h
theorem gA_ge {p : Nat} {v b : Int32} (v0 : 0 ≤ v.toInt) (v1 : v.toInt < 10000) (b0 : 48 ≤ b) (b1 : b ≤ 57) : 0 ≤ (gA p v b).toInt := by
  have c9 : (9999 : Int32).toInt = 9999 := rfl
  have c10 : (10 : Int32).toInt = 10 := rfl
  have c48 : (48 : Int32).toInt = 48 := rfl
  have c57 : (57 : Int32).toInt = 57 := rfl
  rw [Int32.le_iff_toInt_le, c48] at b0
  rw [Int32.le_iff_toInt_le, c57] at b1
  have e1 : (v * 10).toInt = v.toInt * 10 := by rw [Int32.toInt_mul, c10, b32 (by omega) (by omega)]
  have e2 : (v * 10 + b).toInt = v.toInt * 10 + b.toInt := by rw [Int32.toInt_add, e1, b32 (by omega) (by omega)]
  have e3 : (v * 10 + b - 48).toInt = v.toInt * 10 + b.toInt - 48 := by rw [Int32.toInt_sub, e2, c48, b32 (by omega) (by omega)]
  unfold gA
  split
  · rw [e3]; omega
  · rw [c9]; decide
theorem dvF_ge {f : Int32 → Int32} {n : Nat} : ∀ {k p : Nat} {v : Int32}, 0 ≤ v.toInt → v.toInt < 10000 → 0 ≤ (dvF gA f n k p v).toInt
  | 0, _, _, h, _ => h
  | k + 1, p, v, h, h1 => by
    show 0 ≤ (if p < n ∧ cD (f (nI p)) = true then dvF gA f n k (p + 1) (gA p v (f (nI p))) else v).toInt
    split
    · rename_i q
      have q := of_decide_eq_true q.2
      exact dvF_ge (gA_ge h h1 q.1 q.2) gA_lt
    · exact h
theorem tokS_val0 {f : Int32 → Int32} {n p s : Nat} {beh : Prop} [Decidable beh] (h2 : (tokS f n beh p s).ty = 2) : 0 ≤ (tokS f n beh p s).val.toInt := by
  by_cases h : s < n
  · by_cases hl : 97 ≤ f (nI s) ∧ f (nI s) ≤ 122
    · rw [tokS_let h hl] at h2
      dsimp only [Tok.ty_mk, Tok.st_mk, Tok.nx_mk, Tok.val_mk, PA.i_mk, PA.due_mk, PA.S_mk, PA.ob_mk, PA.on_mk, PA.pr_mk, PA.out_mk, PB.i_mk, PB.ob_mk, PB.nt_mk, PB.pr_mk, PB.out_mk] at h2
      split at h2 <;> exact absurd h2 (by decide)
    · by_cases hd : 48 ≤ f (nI s) ∧ f (nI s) ≤ 57
      · rw [tokS_dig h hl hd]
        exact dvF_ge (by decide) (by decide)
      · rw [tokS_sig h hl hd] at h2
        exact absurd h2 (by simp [Tok.ty_mk, Tok.st_mk, Tok.nx_mk, Tok.val_mk, PA.i_mk, PA.due_mk, PA.S_mk, PA.ob_mk, PA.on_mk, PA.pr_mk, PA.out_mk, PB.i_mk, PB.ob_mk, PB.nt_mk, PB.pr_mk, PB.out_mk])
  · rw [tokS_end h] at h2
    exact absurd h2 (by simp [Tok.ty_mk, Tok.st_mk, Tok.nx_mk, Tok.val_mk, PA.i_mk, PA.due_mk, PA.S_mk, PA.ob_mk, PA.on_mk, PA.pr_mk, PA.out_mk, PB.i_mk, PB.ob_mk, PB.nt_mk, PB.pr_mk, PB.out_mk])
theorem tks_val0 {f : Int32 → Int32} {n : Nat} (_ : BY f n) : ∀ i, (tks f n i).ty = 2 → 0 ≤ (tks f n i).val.toInt
  | 0, h => tokS_val0 h
  | _ + 1, h => tokS_val0 h
theorem tokS_let1 {f : Int32 → Int32} {n p s : Nat} {beh : Prop} [Decidable beh] (h1 : (tokS f n beh p s).ty = 1) : 97 ≤ f (nI (tokS f n beh p s).st) := by
  by_cases h : s < n
  · by_cases hl : 97 ≤ f (nI s) ∧ f (nI s) ≤ 122
    · rw [tokS_let h hl]
      exact hl.1
    · by_cases hd : 48 ≤ f (nI s) ∧ f (nI s) ≤ 57
      · rw [tokS_dig h hl hd] at h1
        dsimp only [Tok.ty_mk, Tok.st_mk, Tok.nx_mk, Tok.val_mk, PA.i_mk, PA.due_mk, PA.S_mk, PA.ob_mk, PA.on_mk, PA.pr_mk, PA.out_mk, PB.i_mk, PB.ob_mk, PB.nt_mk, PB.pr_mk, PB.out_mk] at h1
        split at h1 <;> exact absurd h1 (by decide)
      · rw [tokS_sig h hl hd] at h1
        exact absurd h1 (by simp [Tok.ty_mk, Tok.st_mk, Tok.nx_mk, Tok.val_mk, PA.i_mk, PA.due_mk, PA.S_mk, PA.ob_mk, PA.on_mk, PA.pr_mk, PA.out_mk, PB.i_mk, PB.ob_mk, PB.nt_mk, PB.pr_mk, PB.out_mk])
  · rw [tokS_end h] at h1
    exact absurd h1 (by simp [Tok.ty_mk, Tok.st_mk, Tok.nx_mk, Tok.val_mk, PA.i_mk, PA.due_mk, PA.S_mk, PA.ob_mk, PA.on_mk, PA.pr_mk, PA.out_mk, PB.i_mk, PB.ob_mk, PB.nt_mk, PB.pr_mk, PB.out_mk])
theorem tks_let1 {f : Int32 → Int32} {n : Nat} : ∀ i, (tks f n i).ty = 1 → 97 ≤ f (nI (tks f n i).st)
  | 0, h => tokS_let1 h
  | _ + 1, h => tokS_let1 h
theorem tyB_2 {t : Tok} : tyB t = 2 ↔ t.ty = 2 ∧ t.nx - t.st ≤ 4 := by
  unfold tyB
  split
  · rename_i q
    exact ⟨fun r => absurd r (by decide), fun r => by omega⟩
  · rename_i q
    exact ⟨fun r => ⟨r, by
      by_cases h : t.nx - t.st ≤ 4
      · exact h
      · exact absurd ⟨r, by omega⟩ q⟩, fun r => r.1⟩
theorem tyB_1 {t : Tok} : tyB t = 1 ↔ t.ty = 1 := by
  unfold tyB
  split
  · rename_i q
    exact ⟨fun r => absurd r (by decide), fun r => by rw [q.1] at r; exact absurd r (by decide)⟩
  · exact Iff.rfl
/-- a NAME by its letter -/
noncomputable def nmI (key : Nat) (b : Int32) : Prop := ∃ j, j < (nmT key).length ∧ b = nI ((nmT key).getD j 0) ∧ sIx (nmT key) b 0 = nI j
theorem c_isNm {d key : Nat} {b : Int32} {Q : Option Value → Hp → Prop} {h : Hp} (hkey : key ≤ 5) (k1 : nmI key b → Q (some (.int 1)) h) (k0 : sIx (nmT key) b 0 = -1 → Q (some (.int 0)) h) : Call (d + 1) 216 [.int (nI key), .int b] h Q := by
  rcases (show key = 0 ∨ key = 1 ∨ key = 2 ∨ key = 3 ∨ key = 4 ∨ key = 5 by omega) with rfl | rfl | rfl | rfl | rfl | rfl
  · refine c_isName0 (fun q => k1 ?_) (fun q => k0 ?_)
    · rcases q with rfl | rfl | rfl
      · exact ⟨0, by decide, rfl, by decide⟩
      · exact ⟨1, by decide, rfl, by decide⟩
      · exact ⟨2, by decide, rfl, by decide⟩
    · exact (if_neg (fun e => q (Or.inl e))).trans ((if_neg (fun e => q (Or.inr (Or.inl e)))).trans (if_neg (fun e => q (Or.inr (Or.inr e)))))
  · refine c_isName1 (fun q => k1 ?_) (fun q => k0 ?_)
    · subst q
      exact ⟨0, by decide, rfl, by decide⟩
    · exact if_neg q
  · refine c_isName2 (fun q => k1 ?_) (fun q => k0 ?_)
    · rcases q with rfl | rfl
      · exact ⟨0, by decide, rfl, by decide⟩
      · exact ⟨1, by decide, rfl, by decide⟩
    · exact (if_neg (fun e => q (Or.inl e))).trans (if_neg (fun e => q (Or.inr e)))
  · refine c_isName3 (fun q => k1 ?_) (fun q => k0 ?_)
    · rcases q with rfl | rfl
      · exact ⟨0, by decide, rfl, by decide⟩
      · exact ⟨1, by decide, rfl, by decide⟩
    · exact (if_neg (fun e => q (Or.inl e))).trans (if_neg (fun e => q (Or.inr e)))
  · refine c_isName4 (fun q => k1 ?_) (fun q => k0 ?_)
    · subst q
      exact ⟨0, by decide, rfl, by decide⟩
    · exact if_neg q
  · refine c_isName5 (fun q => k1 ?_) (fun q => k0 ?_)
    · rcases q with rfl | rfl
      · exact ⟨0, by decide, rfl, by decide⟩
      · exact ⟨1, by decide, rfl, by decide⟩
    · exact (if_neg (fun e => q (Or.inl e))).trans (if_neg (fun e => q (Or.inr e)))
section CATP
variable {f : Int32 → Int32} {key : Nat} {t : Tok}
theorem nmI_cat (h : t.ty = 1) (h1 : t.nx - t.st = 1) (q : nmI key (f (nI t.st))) : ∃ j, j < (nmT key).length ∧ f (nI t.st) = nI ((nmT key).getD j 0) ∧ cat f key t = .part (10000 + (j : Int)) := by
  obtain ⟨j, hj, e, s⟩ := q
  refine ⟨j, hj, e, ?_⟩
  have l3 : j < 4000 := by
    have : (nmT key).length ≤ 100 := by
      unfold nmT
      rw [List.getD_eq_getElem?_getD]
      by_cases hk : 6 + key < 12
      · rcases (show key = 0 ∨ key = 1 ∨ key = 2 ∨ key = 3 ∨ key = 4 ∨ key = 5 by omega) with rfl | rfl | rfl | rfl | rfl | rfl <;> decide
      · rw [List.getElem?_eq_none (by show 12 ≤ 6 + key; omega)]
        decide
    omega
  rw [cat_1 h, if_pos ⟨h1, by rw [s]; exact tx_0 j (by omega)⟩, s]
  congr 1
  have c : (10000 : Int32).toInt = 10000 := rfl
  rw [Int32.toInt_add, c, nI_i (by omega), b32 (by omega) (by omega)]
theorem nm0_cat (h : t.ty = 1) (q : t.nx - t.st = 1 → sIx (nmT key) (f (nI t.st)) 0 = -1) : cat f key t = .bad := by
  rw [cat_1 h, if_neg (fun p => by rw [q p.1] at p; exact absurd p.2 (by decide))]
theorem cat_partE {s : Int} (e : cat f key t = .part s) : t.ty = 2 ∧ t.nx - t.st ≤ 4 ∨ t.ty = 1 ∧ t.nx - t.st = 1 ∧ 0 ≤ sIx (nmT key) (f (nI t.st)) 0 := by
  unfold cat at e
  split at e
  · cases e
  · split at e
    · rename_i h
      split at e
      · exact Or.inl ⟨h, by assumption⟩
      · cases e
    · split at e
      · rename_i h
        split at e
        · rename_i q
          exact Or.inr ⟨h, q⟩
        · cases e
      · split at e
        · split at e
          · cases e
          · split at e
            · cases e
            · split at e
              · cases e
              · split at e <;> cases e
        · cases e
end CATP
theorem RdB.r95 {h0 h : Hp} {f : Int32 → Int32} {n key A0 : Nat} {b : PB} (R : RdB h0 h f n key A0 b) (by_ : BY f n) (t0 : (tks f n b.i).ty ≠ 0) (tl : b.out.length + 1 ≤ b.i) : b.out.length ≤ 95 := by
  have w := tks_w by_ b.i
  have := w.w6 t0
  have := w.w2
  have := R.tp.hn
  have := R.ki
  omega
theorem lv_part0 {e : Nat} {f : Int32 → Int32} {n key A0 m : Nat} (by_ : BY f n) (hkey : key ≤ 5) (S6 : ∀ m', m = m' + 1 → SubB (e + 3) 223 6 f n key A0 m') (S1 : ∀ m', m = m' + 1 → SubB (e + 3) 218 1 f n key A0 m') : SubB (e + 4) 223 6 f n key A0 m := by
  intro h0 h b Q R tl hm K
  refine call_of (rfl : psM[223]? = some _) rfl rfl (rcvV rfl) (fun X hX => ?_)
  show X (0, [some (.ref 65), some (.int (nI key))], [], h)
  refine go hX 4 (gs := [True, True, True, True]) (z' := (if (h.1 65 19) = 2 then 8 else 33, [some (.ref 65), some (.int (nI key))], [], h)) rfl ⟨trivial, trivial, trivial, trivial, trivial⟩ ?_
  refine br (fun b1 => ?_) (fun b1 => ?_)
  ·
    refine go hX 4 (gs := [True, True, True, True]) (z' := (14, [some (.ref 65), some (.int (nI key))], [.int (h.1 65 20), .int 0, .ref 65], h)) rfl ⟨trivial, trivial, trivial, trivial, trivial⟩ ?_
    refine cl hX 217 3 [.ref 65, .int 0, .int (h.1 65 20)] [] rfl rfl rfl rfl ?_
    have q2 := tyB_2.mp (R.tk.b19.symm.trans b1)
    have t0 : (tks f n b.i).ty ≠ 0 := by rw [q2.1]; decide
    have hl : (tks f n b.i).ty = 2 → (tks f n b.i).nx - (tks f n b.i).st ≤ 4 := fun _ => q2.2
    have OP : cat f key (tks f n b.i) = .part (tks f n b.i).val.toInt := (cat_2 q2.1).trans (if_pos q2.2)
    rw [R.tk.b20 q2.1 q2.2]
    refine R.step by_ (s := (tks f n b.i).val.toInt) (Or.inl ⟨rfl, rfl, tks_val0 by_ _ q2.1, tks_val _ q2.1⟩) tl (R.r95 by_ t0 tl) (fun h1 _ r1 => ?_)
    show X (17, [some (.ref 65), some (.int (nI key))], [], h1)
    refine go hX 7 (gs := [True, True, True, True, True, True, True]) (z' := (28, [some (.ref 65), some (.int (nI key))], [.ref 65], (hI h1 65 26 ((h1.1 65 26) + 1)))) rfl ⟨trivial, trivial, trivial, trivial, trivial, trivial, trivial, trivial⟩ ?_
    refine cl hX 211 1 [.ref 65] [] rfl rfl rfl rfl ?_
    refine (r1.w (b' := ⟨b.i, b.ob, b.nt, b.pr + 1, _⟩) (by decide) ((hI_j (by decide)).trans r1.ob) ((hI_j (by decide)).trans r1.nt) (hI_eq.trans (by rw [r1.pr, tx_1]; rfl)) rfl rfl r1.b1 r1.b2).next by_ t0 hl (fun h2 r2 => ?_)
    show X (31, [some (.ref 65), some (.int (nI key))], [], h2)
    refine go hX 1 (gs := [True]) (z' := (32, [some (.ref 65), some (.int (nI key))], [.int 1], h2)) rfl ⟨trivial, trivial⟩ ?_
    refine rt_ hX (G := isB 1) (r := some (.int 1)) rfl isB1 ?_
    exact K (.inl _) h2 (.part OP) r2
  ·
    refine go hX 4 (gs := [True, True, True, True]) (z' := (if (h.1 65 19) = 1 then 41 else 84, [some (.ref 65), some (.int (nI key))], [], h)) rfl ⟨trivial, trivial, trivial, trivial, trivial⟩ ?_
    refine br (fun b2 => ?_) (fun b2 => ?_)
    ·
      refine go hX 3 (gs := [True, True, True]) (z' := (if (h.1 65 21) = 0 then 84 else 48, [some (.ref 65), some (.int (nI key))], [], h)) rfl ⟨trivial, trivial, trivial, trivial⟩ ?_
      refine br (fun b3 => ?_) (fun b3 => ?_)
      ·
        refine go hX 2 (gs := [True, True]) (z' := (87, [some (.ref 65), some (.int (nI key))], [.int 33, .ref 65], h)) rfl ⟨trivial, trivial, trivial⟩ ?_
        refine cl hX 212 2 [.ref 65, .int 33] [] rfl rfl rfl rfl ?_
        refine R.sign 33 (fun s33 => ?_) (fun s33 => ?_)
        ·
          show X (90, [some (.ref 65), some (.int (nI key))], [.int 1], h)
          refine go hX 5 (gs := [True, True, True, True, True]) (z' := (if 8 ≤ (h.1 65 23) then 145 else 102, [some (.ref 65), some (.int (nI key))], [], h)) rfl ⟨trivial, trivial, trivial, trivial, trivial, trivial⟩ ?_
          refine br (fun b4 => ?_) (fun b4 => ?_)
          ·
            refine go hX 2 (gs := [True, True]) (z' := (148, [some (.ref 65), some (.int (nI key))], [.int 40, .ref 65], h)) rfl ⟨trivial, trivial, trivial⟩ ?_
            refine cl hX 212 2 [.ref 65, .int 40] [] rfl rfl rfl rfl ?_
            refine R.sign 40 (fun s40 => ?_) (fun s40 => ?_)
            ·
              show X (151, [some (.ref 65), some (.int (nI key))], [.int 1], h)
              refine go hX 5 (gs := [True, True, True, True, True]) (z' := (if (h.1 65 22) = 8 then 163 else 165, [some (.ref 65), some (.int (nI key))], [], h)) rfl ⟨trivial, trivial, trivial, trivial, trivial, trivial⟩ ?_
              refine br (fun b5 => ?_) (fun b5 => ?_)
              ·
                refine go hX 1 (gs := [True]) (z' := (164, [some (.ref 65), some (.int (nI key))], [.int 0], h)) rfl ⟨trivial, trivial⟩ ?_
                refine rt_ hX (G := isB 0) (r := some (.int 0)) rfl isB0 ?_
                exact absurd (s33.2.symm.trans s40.2) (by decide)
              ·
                refine go hX 7 (gs := [True, True, True, True, True, True, True]) (z' := (176, [some (.ref 65), some (.int (nI key))], [.ref 65], (hI h 65 22 ((h.1 65 22) + 1)))) rfl ⟨trivial, trivial, trivial, trivial, trivial, trivial, trivial, trivial⟩ ?_
                refine cl hX 211 1 [.ref 65] [] rfl rfl rfl rfl ?_
                have ob8 : b.ob < 8 := Nat.lt_of_le_of_ne R.b1 (fun q => b5 (by rw [R.ob, q]; rfl))
                obtain ⟨m', rfl⟩ : ∃ m', m = m' + 1 := ⟨m - 1, by have := R.b2; omega⟩
                refine (R.w (b' := ⟨b.i, b.ob + 1, b.nt, b.pr, b.out⟩) (by decide) (hI_eq.trans (by rw [R.ob, tx_1]; rfl)) ((hI_j (by decide)).trans R.nt) ((hI_j (by decide)).trans R.pr) rfl rfl (by dsimp only [Tok.ty_mk, Tok.st_mk, Tok.nx_mk, Tok.val_mk, PA.i_mk, PA.due_mk, PA.S_mk, PA.ob_mk, PA.on_mk, PA.pr_mk, PA.out_mk, PB.i_mk, PB.ob_mk, PB.nt_mk, PB.pr_mk, PB.out_mk]; omega) R.b2).next by_ (fun z => absurd (s40.1.symm.trans z) (by decide)) (fun q => absurd (s40.1.symm.trans q) (by decide)) (fun h1 r1 => ?_)
                show X (179, [some (.ref 65), some (.int (nI key))], [], h1)
                refine go hX 2 (gs := [True, True]) (z' := (181, [some (.ref 65), some (.int (nI key))], [.int (nI key), .ref 65], h1)) rfl ⟨trivial, trivial, trivial⟩ ?_
                refine cl hX 218 2 [.ref 65, .int (nI key)] [] rfl rfl rfl rfl ?_
                refine SubB.two (S1 m' rfl) r1 (by have := R.ln; show b.out.length + 1 ≤ b.i + 1; omega) (by simp only [Tok.ty_mk, Tok.st_mk, Tok.nx_mk, Tok.val_mk, PA.i_mk, PA.due_mk, PA.S_mk, PA.ob_mk, PA.on_mk, PA.pr_mk, PA.out_mk, PB.i_mk, PB.ob_mk, PB.nt_mk, PB.pr_mk, PB.out_mk, PB.nx]; omega) (fun b1 h2 p1 r2 => ?_) (fun i1 h2 p1 e1 => ?_)
                ·
                  show X (184, [some (.ref 65), some (.int (nI key))], [.int 1], h2)
                  refine go hX 3 (gs := [True, True, True]) (z' := (190, [some (.ref 65), some (.int (nI key))], [.int 41, .ref 65], h2)) rfl ⟨trivial, trivial, trivial, trivial⟩ ?_
                  refine cl hX 212 2 [.ref 65, .int 41] [] rfl rfl rfl rfl ?_
                  refine r2.sign 41 (fun s41 => ?_) (fun s41 => ?_)
                  ·
                    show X (193, [some (.ref 65), some (.int (nI key))], [.int 1], h2)
                    refine go hX 8 (gs := [True, True, True, True, True, True, True, True]) (z' := (209, [some (.ref 65), some (.int (nI key))], [.ref 65], (hI h2 65 22 ((h2.1 65 22) - 1)))) rfl ⟨trivial, trivial, trivial, trivial, trivial, trivial, trivial, trivial, trivial⟩ ?_
                    refine cl hX 211 1 [.ref 65] [] rfl rfl rfl rfl ?_
                    have on := prs_on p1 _ rfl
                    simp only [Tok.ty_mk, Tok.st_mk, Tok.nx_mk, Tok.val_mk, PA.i_mk, PA.due_mk, PA.S_mk, PA.ob_mk, PA.on_mk, PA.pr_mk, PA.out_mk, PB.i_mk, PB.ob_mk, PB.nt_mk, PB.pr_mk, PB.out_mk, PB.nx] at on
                    refine (r2.w (b' := ⟨b1.i, b1.ob - 1, b1.nt, b1.pr, b1.out⟩) (by decide) (hI_eq.trans (by rw [r2.ob, show b1.ob = (b1.ob - 1) + 1 by omega]; exact nI_m1)) ((hI_j (by decide)).trans r2.nt) ((hI_j (by decide)).trans r2.pr) rfl rfl (by have := r2.b1; dsimp only [Tok.ty_mk, Tok.st_mk, Tok.nx_mk, Tok.val_mk, PA.i_mk, PA.due_mk, PA.S_mk, PA.ob_mk, PA.on_mk, PA.pr_mk, PA.out_mk, PB.i_mk, PB.ob_mk, PB.nt_mk, PB.pr_mk, PB.out_mk]; omega) r2.b2).next by_ (fun z => absurd (s41.1.symm.trans z) (by decide)) (fun q => absurd (s41.1.symm.trans q) (by decide)) (fun h3 r3 => ?_)
                    show X (212, [some (.ref 65), some (.int (nI key))], [], h3)
                    refine go hX 1 (gs := [True]) (z' := (213, [some (.ref 65), some (.int (nI key))], [.int 1], h3)) rfl ⟨trivial, trivial⟩ ?_
                    refine rt_ hX (G := isB 1) (r := some (.int 1)) rfl isB1 ?_
                    exact absurd (s33.2.symm.trans s40.2) (by decide)
                  ·
                    show X (193, [some (.ref 65), some (.int (nI key))], [.int 0], h2)
                    refine go hX 2 (gs := [True, True]) (z' := (197, [some (.ref 65), some (.int (nI key))], [.int 0], h2)) rfl ⟨trivial, trivial, trivial⟩ ?_
                    refine rt_ hX (G := isB 0) (r := some (.int 0)) rfl isB0 ?_
                    exact absurd (s33.2.symm.trans s40.2) (by decide)
                ·
                  show X (184, [some (.ref 65), some (.int (nI key))], [.int 0], h2)
                  refine go hX 2 (gs := [True, True]) (z' := (197, [some (.ref 65), some (.int (nI key))], [.int 0], h2)) rfl ⟨trivial, trivial, trivial⟩ ?_
                  refine rt_ hX (G := isB 0) (r := some (.int 0)) rfl isB0 ?_
                  exact absurd (s33.2.symm.trans s40.2) (by decide)
            ·
              show X (151, [some (.ref 65), some (.int (nI key))], [.int 0], h)
              refine go hX 2 (gs := [True, True]) (z' := (164, [some (.ref 65), some (.int (nI key))], [.int 0], h)) rfl ⟨trivial, trivial, trivial⟩ ?_
              refine rt_ hX (G := isB 0) (r := some (.int 0)) rfl isB0 ?_
              exact K (.inr b.i) h (.bang8 (cat_bangI.mpr s33) ((tx_le (a := 8) (by decide) (by have := R.b2; omega)).mp (by rw [← R.nt]; exact b4))) ⟨R.tk.b17, R.fr⟩
          ·
            refine go hX 7 (gs := [True, True, True, True, True, True, True]) (z' := (113, [some (.ref 65), some (.int (nI key))], [.ref 65], (hI h 65 23 ((h.1 65 23) + 1)))) rfl ⟨trivial, trivial, trivial, trivial, trivial, trivial, trivial, trivial⟩ ?_
            refine cl hX 211 1 [.ref 65] [] rfl rfl rfl rfl ?_
            have nt8 : b.nt < 8 := Decidable.not_not.mp (fun q => b4 (by rw [R.nt]; exact (tx_le (a := 8) (by decide) (by have := R.b2; omega)).mpr (by omega)))
            obtain ⟨m', rfl⟩ : ∃ m', m = m' + 1 := ⟨m - 1, by have := R.b1; omega⟩
            refine (R.w (b' := ⟨b.i, b.ob, b.nt + 1, b.pr, b.out⟩) (by decide) ((hI_j (by decide)).trans R.ob) (hI_eq.trans (by rw [R.nt, tx_1]; rfl)) ((hI_j (by decide)).trans R.pr) rfl rfl R.b1 (by dsimp only [Tok.ty_mk, Tok.st_mk, Tok.nx_mk, Tok.val_mk, PA.i_mk, PA.due_mk, PA.S_mk, PA.ob_mk, PA.on_mk, PA.pr_mk, PA.out_mk, PB.i_mk, PB.ob_mk, PB.nt_mk, PB.pr_mk, PB.out_mk]; omega)).next by_ (fun z => absurd (s33.1.symm.trans z) (by decide)) (fun q => absurd (s33.1.symm.trans q) (by decide)) (fun h1 r1 => ?_)
            show X (116, [some (.ref 65), some (.int (nI key))], [], h1)
            refine go hX 2 (gs := [True, True]) (z' := (118, [some (.ref 65), some (.int (nI key))], [.int (nI key), .ref 65], h1)) rfl ⟨trivial, trivial, trivial⟩ ?_
            refine cl hX 223 2 [.ref 65, .int (nI key)] [] rfl rfl rfl rfl ?_
            refine SubB.two (S6 m' rfl) r1 (by have := R.ln; show b.out.length + 1 ≤ b.i + 1; omega) (by simp only [Tok.ty_mk, Tok.st_mk, Tok.nx_mk, Tok.val_mk, PA.i_mk, PA.due_mk, PA.S_mk, PA.ob_mk, PA.on_mk, PA.pr_mk, PA.out_mk, PB.i_mk, PB.ob_mk, PB.nt_mk, PB.pr_mk, PB.out_mk, PB.nx]; omega) (fun b1 h2 p1 r2 => ?_) (fun i1 h2 p1 e1 => ?_)
            ·
              show X (121, [some (.ref 65), some (.int (nI key))], [.int 1], h2)
              refine go hX 10 (gs := [True, True, True, True, True, True, True, True, True, True]) (z' := (140, [some (.ref 65), some (.int (nI key))], [.int 33, .int 2, .ref 65], (hI h2 65 23 ((h2.1 65 23) - 1)))) rfl ⟨trivial, trivial, trivial, trivial, trivial, trivial, trivial, trivial, trivial, trivial, trivial⟩ ?_
              refine cl hX 217 3 [.ref 65, .int 2, .int 33] [] rfl rfl rfl rfl ?_
              have on := prs_on p1 _ rfl
              have le := prs_len p1 _ rfl
              simp only [Tok.ty_mk, Tok.st_mk, Tok.nx_mk, Tok.val_mk, PA.i_mk, PA.due_mk, PA.S_mk, PA.ob_mk, PA.on_mk, PA.pr_mk, PA.out_mk, PB.i_mk, PB.ob_mk, PB.nt_mk, PB.pr_mk, PB.out_mk, PB.nx] at on le
              have lb := r2.len by_
              refine (r2.w (b' := ⟨b1.i, b1.ob, b1.nt - 1, b1.pr, b1.out⟩) (by decide) ((hI_j (by decide)).trans r2.ob) (hI_eq.trans (by rw [r2.nt, show b1.nt = (b1.nt - 1) + 1 by omega]; exact nI_m1)) ((hI_j (by decide)).trans r2.pr) rfl rfl r2.b1 (by have := r2.b2; dsimp only [Tok.ty_mk, Tok.st_mk, Tok.nx_mk, Tok.val_mk, PA.i_mk, PA.due_mk, PA.S_mk, PA.ob_mk, PA.on_mk, PA.pr_mk, PA.out_mk, PB.i_mk, PB.ob_mk, PB.nt_mk, PB.pr_mk, PB.out_mk]; omega)).step by_ (stR_sg (v := 33) (by decide)) (by dsimp only [Tok.ty_mk, Tok.st_mk, Tok.nx_mk, Tok.val_mk, PA.i_mk, PA.due_mk, PA.S_mk, PA.ob_mk, PA.on_mk, PA.pr_mk, PA.out_mk, PB.i_mk, PB.ob_mk, PB.nt_mk, PB.pr_mk, PB.out_mk]; omega) (by dsimp only [Tok.ty_mk, Tok.st_mk, Tok.nx_mk, Tok.val_mk, PA.i_mk, PA.due_mk, PA.S_mk, PA.ob_mk, PA.on_mk, PA.pr_mk, PA.out_mk, PB.i_mk, PB.ob_mk, PB.nt_mk, PB.pr_mk, PB.out_mk]; omega) (fun h3 _ r3 => ?_)
              show X (143, [some (.ref 65), some (.int (nI key))], [], h3)
              refine go hX 1 (gs := [True]) (z' := (144, [some (.ref 65), some (.int (nI key))], [.int 1], h3)) rfl ⟨trivial, trivial⟩ ?_
              refine rt_ hX (G := isB 1) (r := some (.int 1)) rfl isB1 ?_
              exact K (.inl _) h3 (.bang (cat_bangI.mpr s33) nt8 p1) r3
            ·
              show X (121, [some (.ref 65), some (.int (nI key))], [.int 0], h2)
              refine go hX 2 (gs := [True, True]) (z' := (125, [some (.ref 65), some (.int (nI key))], [.int 0], h2)) rfl ⟨trivial, trivial, trivial⟩ ?_
              refine rt_ hX (G := isB 0) (r := some (.int 0)) rfl isB0 ?_
              exact K (.inr i1) h2 (.bangF (cat_bangI.mpr s33) nt8 p1) e1
        ·
          show X (90, [some (.ref 65), some (.int (nI key))], [.int 0], h)
          refine go hX 3 (gs := [True, True, True]) (z' := (148, [some (.ref 65), some (.int (nI key))], [.int 40, .ref 65], h)) rfl ⟨trivial, trivial, trivial, trivial⟩ ?_
          refine cl hX 212 2 [.ref 65, .int 40] [] rfl rfl rfl rfl ?_
          refine R.sign 40 (fun s40 => ?_) (fun s40 => ?_)
          ·
            show X (151, [some (.ref 65), some (.int (nI key))], [.int 1], h)
            refine go hX 5 (gs := [True, True, True, True, True]) (z' := (if (h.1 65 22) = 8 then 163 else 165, [some (.ref 65), some (.int (nI key))], [], h)) rfl ⟨trivial, trivial, trivial, trivial, trivial, trivial⟩ ?_
            refine br (fun b6 => ?_) (fun b6 => ?_)
            ·
              refine go hX 1 (gs := [True]) (z' := (164, [some (.ref 65), some (.int (nI key))], [.int 0], h)) rfl ⟨trivial, trivial⟩ ?_
              refine rt_ hX (G := isB 0) (r := some (.int 0)) rfl isB0 ?_
              exact K (.inr b.i) h (.opn8 (cat_opnI.mpr s40) (Nat.le_of_eq ((nIle_eq (a := 8) (by decide) (by have := R.b1; omega)).mp (b6.symm.trans R.ob)))) ⟨R.tk.b17, R.fr⟩
            ·
              refine go hX 7 (gs := [True, True, True, True, True, True, True]) (z' := (176, [some (.ref 65), some (.int (nI key))], [.ref 65], (hI h 65 22 ((h.1 65 22) + 1)))) rfl ⟨trivial, trivial, trivial, trivial, trivial, trivial, trivial, trivial⟩ ?_
              refine cl hX 211 1 [.ref 65] [] rfl rfl rfl rfl ?_
              have ob8 : b.ob < 8 := Nat.lt_of_le_of_ne R.b1 (fun q => b6 (by rw [R.ob, q]; rfl))
              obtain ⟨m', rfl⟩ : ∃ m', m = m' + 1 := ⟨m - 1, by have := R.b2; omega⟩
              refine (R.w (b' := ⟨b.i, b.ob + 1, b.nt, b.pr, b.out⟩) (by decide) (hI_eq.trans (by rw [R.ob, tx_1]; rfl)) ((hI_j (by decide)).trans R.nt) ((hI_j (by decide)).trans R.pr) rfl rfl (by dsimp only [Tok.ty_mk, Tok.st_mk, Tok.nx_mk, Tok.val_mk, PA.i_mk, PA.due_mk, PA.S_mk, PA.ob_mk, PA.on_mk, PA.pr_mk, PA.out_mk, PB.i_mk, PB.ob_mk, PB.nt_mk, PB.pr_mk, PB.out_mk]; omega) R.b2).next by_ (fun z => absurd (s40.1.symm.trans z) (by decide)) (fun q => absurd (s40.1.symm.trans q) (by decide)) (fun h1 r1 => ?_)
              show X (179, [some (.ref 65), some (.int (nI key))], [], h1)
              refine go hX 2 (gs := [True, True]) (z' := (181, [some (.ref 65), some (.int (nI key))], [.int (nI key), .ref 65], h1)) rfl ⟨trivial, trivial, trivial⟩ ?_
              refine cl hX 218 2 [.ref 65, .int (nI key)] [] rfl rfl rfl rfl ?_
              refine SubB.two (S1 m' rfl) r1 (by have := R.ln; show b.out.length + 1 ≤ b.i + 1; omega) (by simp only [Tok.ty_mk, Tok.st_mk, Tok.nx_mk, Tok.val_mk, PA.i_mk, PA.due_mk, PA.S_mk, PA.ob_mk, PA.on_mk, PA.pr_mk, PA.out_mk, PB.i_mk, PB.ob_mk, PB.nt_mk, PB.pr_mk, PB.out_mk, PB.nx]; omega) (fun b1 h2 p1 r2 => ?_) (fun i1 h2 p1 e1 => ?_)
              ·
                show X (184, [some (.ref 65), some (.int (nI key))], [.int 1], h2)
                refine go hX 3 (gs := [True, True, True]) (z' := (190, [some (.ref 65), some (.int (nI key))], [.int 41, .ref 65], h2)) rfl ⟨trivial, trivial, trivial, trivial⟩ ?_
                refine cl hX 212 2 [.ref 65, .int 41] [] rfl rfl rfl rfl ?_
                refine r2.sign 41 (fun s41 => ?_) (fun s41 => ?_)
                ·
                  show X (193, [some (.ref 65), some (.int (nI key))], [.int 1], h2)
                  refine go hX 8 (gs := [True, True, True, True, True, True, True, True]) (z' := (209, [some (.ref 65), some (.int (nI key))], [.ref 65], (hI h2 65 22 ((h2.1 65 22) - 1)))) rfl ⟨trivial, trivial, trivial, trivial, trivial, trivial, trivial, trivial, trivial⟩ ?_
                  refine cl hX 211 1 [.ref 65] [] rfl rfl rfl rfl ?_
                  have on := prs_on p1 _ rfl
                  simp only [Tok.ty_mk, Tok.st_mk, Tok.nx_mk, Tok.val_mk, PA.i_mk, PA.due_mk, PA.S_mk, PA.ob_mk, PA.on_mk, PA.pr_mk, PA.out_mk, PB.i_mk, PB.ob_mk, PB.nt_mk, PB.pr_mk, PB.out_mk, PB.nx] at on
                  refine (r2.w (b' := ⟨b1.i, b1.ob - 1, b1.nt, b1.pr, b1.out⟩) (by decide) (hI_eq.trans (by rw [r2.ob, show b1.ob = (b1.ob - 1) + 1 by omega]; exact nI_m1)) ((hI_j (by decide)).trans r2.nt) ((hI_j (by decide)).trans r2.pr) rfl rfl (by have := r2.b1; dsimp only [Tok.ty_mk, Tok.st_mk, Tok.nx_mk, Tok.val_mk, PA.i_mk, PA.due_mk, PA.S_mk, PA.ob_mk, PA.on_mk, PA.pr_mk, PA.out_mk, PB.i_mk, PB.ob_mk, PB.nt_mk, PB.pr_mk, PB.out_mk]; omega) r2.b2).next by_ (fun z => absurd (s41.1.symm.trans z) (by decide)) (fun q => absurd (s41.1.symm.trans q) (by decide)) (fun h3 r3 => ?_)
                  show X (212, [some (.ref 65), some (.int (nI key))], [], h3)
                  refine go hX 1 (gs := [True]) (z' := (213, [some (.ref 65), some (.int (nI key))], [.int 1], h3)) rfl ⟨trivial, trivial⟩ ?_
                  refine rt_ hX (G := isB 1) (r := some (.int 1)) rfl isB1 ?_
                  exact K (.inl _) h3 (.opn (cat_opnI.mpr s40) ob8 p1 (cat_clsI.mpr s41)) r3
                ·
                  show X (193, [some (.ref 65), some (.int (nI key))], [.int 0], h2)
                  refine go hX 2 (gs := [True, True]) (z' := (197, [some (.ref 65), some (.int (nI key))], [.int 0], h2)) rfl ⟨trivial, trivial, trivial⟩ ?_
                  refine rt_ hX (G := isB 0) (r := some (.int 0)) rfl isB0 ?_
                  exact K (.inr b1.i) h2 (.opnX (cat_opnI.mpr s40) ob8 p1 (fun e0 => s41 (cat_clsI.mp e0))) ⟨r2.tk.b17, r2.fr⟩
              ·
                show X (184, [some (.ref 65), some (.int (nI key))], [.int 0], h2)
                refine go hX 2 (gs := [True, True]) (z' := (197, [some (.ref 65), some (.int (nI key))], [.int 0], h2)) rfl ⟨trivial, trivial, trivial⟩ ?_
                refine rt_ hX (G := isB 0) (r := some (.int 0)) rfl isB0 ?_
                exact K (.inr i1) h2 (.opnF (cat_opnI.mpr s40) ob8 p1) e1
          ·
            show X (151, [some (.ref 65), some (.int (nI key))], [.int 0], h)
            refine go hX 2 (gs := [True, True]) (z' := (164, [some (.ref 65), some (.int (nI key))], [.int 0], h)) rfl ⟨trivial, trivial, trivial⟩ ?_
            refine rt_ hX (G := isB 0) (r := some (.int 0)) rfl isB0 ?_
            have n1 : ∀ s, cat f key (tks f n b.i) ≠ .part s := fun s e0 => by
              rcases cat_partE e0 with q | q
              · exact b1 (R.tk.b19.trans (tyB_2.mpr q))
              · have e21 : h.1 65 21 = f (nI (tks f n b.i).st) := ((R.tk.bw q.1).trans (if_pos q.2.1)).trans (by rw [R.ef])
                have l97 := tks_let1 b.i q.1
                rw [← e21, b3] at l97
                exact absurd l97 (by decide)
            exact K (.inr b.i) h (.no n1 (fun e0 => s33 (cat_bangI.mp e0)) (fun e0 => s40 (cat_opnI.mp e0))) ⟨R.tk.b17, R.fr⟩
      ·
        refine go hX 3 (gs := [True, True, True]) (z' := (53, [some (.ref 65), some (.int (nI key))], [.int (h.1 65 21), .int (nI key)], h)) rfl ⟨trivial, trivial, trivial, trivial⟩ ?_
        refine cl hX 216 2 [.int (nI key), .int (h.1 65 21)] [] rfl rfl rfl rfl ?_
        refine c_isNm hkey (fun nq => ?_) (fun nq => ?_)
        ·
          show X (56, [some (.ref 65), some (.int (nI key))], [.int 1], h)
          refine go hX 5 (gs := [True, True, True, True, True]) (z' := (65, [some (.ref 65), some (.int (nI key))], [.int (h.1 65 21), .int 1, .ref 65], h)) rfl ⟨trivial, trivial, trivial, trivial, trivial, trivial⟩ ?_
          refine cl hX 217 3 [.ref 65, .int 1, .int (h.1 65 21)] [] rfl rfl rfl rfl ?_
          have t1 := tyB_1.mp (R.tk.b19.symm.trans b2)
          have l1 : (tks f n b.i).nx - (tks f n b.i).st = 1 := Decidable.not_not.mp (fun nl => b3 ((R.tk.bw t1).trans (if_neg nl)))
          have e21 : h.1 65 21 = f (nI (tks f n b.i).st) := ((R.tk.bw t1).trans (if_pos l1)).trans (by rw [R.ef])
          rw [e21] at nq
          obtain ⟨j, hj, ej, OP⟩ := nmI_cat t1 l1 nq
          have t0 : (tks f n b.i).ty ≠ 0 := by rw [t1]; decide
          have hl : (tks f n b.i).ty = 2 → (tks f n b.i).nx - (tks f n b.i).st ≤ 4 := fun p => by rw [t1] at p; exact absurd p (by decide)
          refine R.step by_ (s := 10000 + (j : Int)) (Or.inr (Or.inl ⟨rfl, j, hj, rfl, e21.trans ej⟩)) tl (R.r95 by_ t0 tl) (fun h1 _ r1 => ?_)
          show X (68, [some (.ref 65), some (.int (nI key))], [], h1)
          refine go hX 7 (gs := [True, True, True, True, True, True, True]) (z' := (79, [some (.ref 65), some (.int (nI key))], [.ref 65], (hI h1 65 26 ((h1.1 65 26) + 1)))) rfl ⟨trivial, trivial, trivial, trivial, trivial, trivial, trivial, trivial⟩ ?_
          refine cl hX 211 1 [.ref 65] [] rfl rfl rfl rfl ?_
          refine (r1.w (b' := ⟨b.i, b.ob, b.nt, b.pr + 1, _⟩) (by decide) ((hI_j (by decide)).trans r1.ob) ((hI_j (by decide)).trans r1.nt) (hI_eq.trans (by rw [r1.pr, tx_1]; rfl)) rfl rfl r1.b1 r1.b2).next by_ t0 hl (fun h2 r2 => ?_)
          show X (82, [some (.ref 65), some (.int (nI key))], [], h2)
          refine go hX 1 (gs := [True]) (z' := (83, [some (.ref 65), some (.int (nI key))], [.int 1], h2)) rfl ⟨trivial, trivial⟩ ?_
          refine rt_ hX (G := isB 1) (r := some (.int 1)) rfl isB1 ?_
          exact K (.inl _) h2 (.part OP) r2
        ·
          show X (56, [some (.ref 65), some (.int (nI key))], [.int 0], h)
          refine go hX 3 (gs := [True, True, True]) (z' := (87, [some (.ref 65), some (.int (nI key))], [.int 33, .ref 65], h)) rfl ⟨trivial, trivial, trivial, trivial⟩ ?_
          refine cl hX 212 2 [.ref 65, .int 33] [] rfl rfl rfl rfl ?_
          refine R.sign 33 (fun s33 => ?_) (fun s33 => ?_)
          ·
            show X (90, [some (.ref 65), some (.int (nI key))], [.int 1], h)
            refine go hX 5 (gs := [True, True, True, True, True]) (z' := (if 8 ≤ (h.1 65 23) then 145 else 102, [some (.ref 65), some (.int (nI key))], [], h)) rfl ⟨trivial, trivial, trivial, trivial, trivial, trivial⟩ ?_
            refine br (fun b7 => ?_) (fun b7 => ?_)
            ·
              refine go hX 2 (gs := [True, True]) (z' := (148, [some (.ref 65), some (.int (nI key))], [.int 40, .ref 65], h)) rfl ⟨trivial, trivial, trivial⟩ ?_
              refine cl hX 212 2 [.ref 65, .int 40] [] rfl rfl rfl rfl ?_
              refine R.sign 40 (fun s40 => ?_) (fun s40 => ?_)
              ·
                show X (151, [some (.ref 65), some (.int (nI key))], [.int 1], h)
                refine go hX 5 (gs := [True, True, True, True, True]) (z' := (if (h.1 65 22) = 8 then 163 else 165, [some (.ref 65), some (.int (nI key))], [], h)) rfl ⟨trivial, trivial, trivial, trivial, trivial, trivial⟩ ?_
                refine br (fun b8 => ?_) (fun b8 => ?_)
                ·
                  refine go hX 1 (gs := [True]) (z' := (164, [some (.ref 65), some (.int (nI key))], [.int 0], h)) rfl ⟨trivial, trivial⟩ ?_
                  refine rt_ hX (G := isB 0) (r := some (.int 0)) rfl isB0 ?_
                  exact absurd (s33.2.symm.trans s40.2) (by decide)
                ·
                  refine go hX 7 (gs := [True, True, True, True, True, True, True]) (z' := (176, [some (.ref 65), some (.int (nI key))], [.ref 65], (hI h 65 22 ((h.1 65 22) + 1)))) rfl ⟨trivial, trivial, trivial, trivial, trivial, trivial, trivial, trivial⟩ ?_
                  refine cl hX 211 1 [.ref 65] [] rfl rfl rfl rfl ?_
                  have ob8 : b.ob < 8 := Nat.lt_of_le_of_ne R.b1 (fun q => b8 (by rw [R.ob, q]; rfl))
                  obtain ⟨m', rfl⟩ : ∃ m', m = m' + 1 := ⟨m - 1, by have := R.b2; omega⟩
                  refine (R.w (b' := ⟨b.i, b.ob + 1, b.nt, b.pr, b.out⟩) (by decide) (hI_eq.trans (by rw [R.ob, tx_1]; rfl)) ((hI_j (by decide)).trans R.nt) ((hI_j (by decide)).trans R.pr) rfl rfl (by dsimp only [Tok.ty_mk, Tok.st_mk, Tok.nx_mk, Tok.val_mk, PA.i_mk, PA.due_mk, PA.S_mk, PA.ob_mk, PA.on_mk, PA.pr_mk, PA.out_mk, PB.i_mk, PB.ob_mk, PB.nt_mk, PB.pr_mk, PB.out_mk]; omega) R.b2).next by_ (fun z => absurd (s40.1.symm.trans z) (by decide)) (fun q => absurd (s40.1.symm.trans q) (by decide)) (fun h1 r1 => ?_)
                  show X (179, [some (.ref 65), some (.int (nI key))], [], h1)
                  refine go hX 2 (gs := [True, True]) (z' := (181, [some (.ref 65), some (.int (nI key))], [.int (nI key), .ref 65], h1)) rfl ⟨trivial, trivial, trivial⟩ ?_
                  refine cl hX 218 2 [.ref 65, .int (nI key)] [] rfl rfl rfl rfl ?_
                  refine SubB.two (S1 m' rfl) r1 (by have := R.ln; show b.out.length + 1 ≤ b.i + 1; omega) (by simp only [Tok.ty_mk, Tok.st_mk, Tok.nx_mk, Tok.val_mk, PA.i_mk, PA.due_mk, PA.S_mk, PA.ob_mk, PA.on_mk, PA.pr_mk, PA.out_mk, PB.i_mk, PB.ob_mk, PB.nt_mk, PB.pr_mk, PB.out_mk, PB.nx]; omega) (fun b1 h2 p1 r2 => ?_) (fun i1 h2 p1 e1 => ?_)
                  ·
                    show X (184, [some (.ref 65), some (.int (nI key))], [.int 1], h2)
                    refine go hX 3 (gs := [True, True, True]) (z' := (190, [some (.ref 65), some (.int (nI key))], [.int 41, .ref 65], h2)) rfl ⟨trivial, trivial, trivial, trivial⟩ ?_
                    refine cl hX 212 2 [.ref 65, .int 41] [] rfl rfl rfl rfl ?_
                    refine r2.sign 41 (fun s41 => ?_) (fun s41 => ?_)
                    ·
                      show X (193, [some (.ref 65), some (.int (nI key))], [.int 1], h2)
                      refine go hX 8 (gs := [True, True, True, True, True, True, True, True]) (z' := (209, [some (.ref 65), some (.int (nI key))], [.ref 65], (hI h2 65 22 ((h2.1 65 22) - 1)))) rfl ⟨trivial, trivial, trivial, trivial, trivial, trivial, trivial, trivial, trivial⟩ ?_
                      refine cl hX 211 1 [.ref 65] [] rfl rfl rfl rfl ?_
                      have on := prs_on p1 _ rfl
                      simp only [Tok.ty_mk, Tok.st_mk, Tok.nx_mk, Tok.val_mk, PA.i_mk, PA.due_mk, PA.S_mk, PA.ob_mk, PA.on_mk, PA.pr_mk, PA.out_mk, PB.i_mk, PB.ob_mk, PB.nt_mk, PB.pr_mk, PB.out_mk, PB.nx] at on
                      refine (r2.w (b' := ⟨b1.i, b1.ob - 1, b1.nt, b1.pr, b1.out⟩) (by decide) (hI_eq.trans (by rw [r2.ob, show b1.ob = (b1.ob - 1) + 1 by omega]; exact nI_m1)) ((hI_j (by decide)).trans r2.nt) ((hI_j (by decide)).trans r2.pr) rfl rfl (by have := r2.b1; dsimp only [Tok.ty_mk, Tok.st_mk, Tok.nx_mk, Tok.val_mk, PA.i_mk, PA.due_mk, PA.S_mk, PA.ob_mk, PA.on_mk, PA.pr_mk, PA.out_mk, PB.i_mk, PB.ob_mk, PB.nt_mk, PB.pr_mk, PB.out_mk]; omega) r2.b2).next by_ (fun z => absurd (s41.1.symm.trans z) (by decide)) (fun q => absurd (s41.1.symm.trans q) (by decide)) (fun h3 r3 => ?_)
                      show X (212, [some (.ref 65), some (.int (nI key))], [], h3)
                      refine go hX 1 (gs := [True]) (z' := (213, [some (.ref 65), some (.int (nI key))], [.int 1], h3)) rfl ⟨trivial, trivial⟩ ?_
                      refine rt_ hX (G := isB 1) (r := some (.int 1)) rfl isB1 ?_
                      exact absurd (s33.2.symm.trans s40.2) (by decide)
                    ·
                      show X (193, [some (.ref 65), some (.int (nI key))], [.int 0], h2)
                      refine go hX 2 (gs := [True, True]) (z' := (197, [some (.ref 65), some (.int (nI key))], [.int 0], h2)) rfl ⟨trivial, trivial, trivial⟩ ?_
                      refine rt_ hX (G := isB 0) (r := some (.int 0)) rfl isB0 ?_
                      exact absurd (s33.2.symm.trans s40.2) (by decide)
                  ·
                    show X (184, [some (.ref 65), some (.int (nI key))], [.int 0], h2)
                    refine go hX 2 (gs := [True, True]) (z' := (197, [some (.ref 65), some (.int (nI key))], [.int 0], h2)) rfl ⟨trivial, trivial, trivial⟩ ?_
                    refine rt_ hX (G := isB 0) (r := some (.int 0)) rfl isB0 ?_
                    exact absurd (s33.2.symm.trans s40.2) (by decide)
              ·
                show X (151, [some (.ref 65), some (.int (nI key))], [.int 0], h)
                refine go hX 2 (gs := [True, True]) (z' := (164, [some (.ref 65), some (.int (nI key))], [.int 0], h)) rfl ⟨trivial, trivial, trivial⟩ ?_
                refine rt_ hX (G := isB 0) (r := some (.int 0)) rfl isB0 ?_
                exact K (.inr b.i) h (.bang8 (cat_bangI.mpr s33) ((tx_le (a := 8) (by decide) (by have := R.b2; omega)).mp (by rw [← R.nt]; exact b7))) ⟨R.tk.b17, R.fr⟩
            ·
              refine go hX 7 (gs := [True, True, True, True, True, True, True]) (z' := (113, [some (.ref 65), some (.int (nI key))], [.ref 65], (hI h 65 23 ((h.1 65 23) + 1)))) rfl ⟨trivial, trivial, trivial, trivial, trivial, trivial, trivial, trivial⟩ ?_
              refine cl hX 211 1 [.ref 65] [] rfl rfl rfl rfl ?_
              have nt8 : b.nt < 8 := Decidable.not_not.mp (fun q => b7 (by rw [R.nt]; exact (tx_le (a := 8) (by decide) (by have := R.b2; omega)).mpr (by omega)))
              obtain ⟨m', rfl⟩ : ∃ m', m = m' + 1 := ⟨m - 1, by have := R.b1; omega⟩
              refine (R.w (b' := ⟨b.i, b.ob, b.nt + 1, b.pr, b.out⟩) (by decide) ((hI_j (by decide)).trans R.ob) (hI_eq.trans (by rw [R.nt, tx_1]; rfl)) ((hI_j (by decide)).trans R.pr) rfl rfl R.b1 (by dsimp only [Tok.ty_mk, Tok.st_mk, Tok.nx_mk, Tok.val_mk, PA.i_mk, PA.due_mk, PA.S_mk, PA.ob_mk, PA.on_mk, PA.pr_mk, PA.out_mk, PB.i_mk, PB.ob_mk, PB.nt_mk, PB.pr_mk, PB.out_mk]; omega)).next by_ (fun z => absurd (s33.1.symm.trans z) (by decide)) (fun q => absurd (s33.1.symm.trans q) (by decide)) (fun h1 r1 => ?_)
              show X (116, [some (.ref 65), some (.int (nI key))], [], h1)
              refine go hX 2 (gs := [True, True]) (z' := (118, [some (.ref 65), some (.int (nI key))], [.int (nI key), .ref 65], h1)) rfl ⟨trivial, trivial, trivial⟩ ?_
              refine cl hX 223 2 [.ref 65, .int (nI key)] [] rfl rfl rfl rfl ?_
              refine SubB.two (S6 m' rfl) r1 (by have := R.ln; show b.out.length + 1 ≤ b.i + 1; omega) (by simp only [Tok.ty_mk, Tok.st_mk, Tok.nx_mk, Tok.val_mk, PA.i_mk, PA.due_mk, PA.S_mk, PA.ob_mk, PA.on_mk, PA.pr_mk, PA.out_mk, PB.i_mk, PB.ob_mk, PB.nt_mk, PB.pr_mk, PB.out_mk, PB.nx]; omega) (fun b1 h2 p1 r2 => ?_) (fun i1 h2 p1 e1 => ?_)
              ·
                show X (121, [some (.ref 65), some (.int (nI key))], [.int 1], h2)
                refine go hX 10 (gs := [True, True, True, True, True, True, True, True, True, True]) (z' := (140, [some (.ref 65), some (.int (nI key))], [.int 33, .int 2, .ref 65], (hI h2 65 23 ((h2.1 65 23) - 1)))) rfl ⟨trivial, trivial, trivial, trivial, trivial, trivial, trivial, trivial, trivial, trivial, trivial⟩ ?_
                refine cl hX 217 3 [.ref 65, .int 2, .int 33] [] rfl rfl rfl rfl ?_
                have on := prs_on p1 _ rfl
                have le := prs_len p1 _ rfl
                simp only [Tok.ty_mk, Tok.st_mk, Tok.nx_mk, Tok.val_mk, PA.i_mk, PA.due_mk, PA.S_mk, PA.ob_mk, PA.on_mk, PA.pr_mk, PA.out_mk, PB.i_mk, PB.ob_mk, PB.nt_mk, PB.pr_mk, PB.out_mk, PB.nx] at on le
                have lb := r2.len by_
                refine (r2.w (b' := ⟨b1.i, b1.ob, b1.nt - 1, b1.pr, b1.out⟩) (by decide) ((hI_j (by decide)).trans r2.ob) (hI_eq.trans (by rw [r2.nt, show b1.nt = (b1.nt - 1) + 1 by omega]; exact nI_m1)) ((hI_j (by decide)).trans r2.pr) rfl rfl r2.b1 (by have := r2.b2; dsimp only [Tok.ty_mk, Tok.st_mk, Tok.nx_mk, Tok.val_mk, PA.i_mk, PA.due_mk, PA.S_mk, PA.ob_mk, PA.on_mk, PA.pr_mk, PA.out_mk, PB.i_mk, PB.ob_mk, PB.nt_mk, PB.pr_mk, PB.out_mk]; omega)).step by_ (stR_sg (v := 33) (by decide)) (by dsimp only [Tok.ty_mk, Tok.st_mk, Tok.nx_mk, Tok.val_mk, PA.i_mk, PA.due_mk, PA.S_mk, PA.ob_mk, PA.on_mk, PA.pr_mk, PA.out_mk, PB.i_mk, PB.ob_mk, PB.nt_mk, PB.pr_mk, PB.out_mk]; omega) (by dsimp only [Tok.ty_mk, Tok.st_mk, Tok.nx_mk, Tok.val_mk, PA.i_mk, PA.due_mk, PA.S_mk, PA.ob_mk, PA.on_mk, PA.pr_mk, PA.out_mk, PB.i_mk, PB.ob_mk, PB.nt_mk, PB.pr_mk, PB.out_mk]; omega) (fun h3 _ r3 => ?_)
                show X (143, [some (.ref 65), some (.int (nI key))], [], h3)
                refine go hX 1 (gs := [True]) (z' := (144, [some (.ref 65), some (.int (nI key))], [.int 1], h3)) rfl ⟨trivial, trivial⟩ ?_
                refine rt_ hX (G := isB 1) (r := some (.int 1)) rfl isB1 ?_
                exact K (.inl _) h3 (.bang (cat_bangI.mpr s33) nt8 p1) r3
              ·
                show X (121, [some (.ref 65), some (.int (nI key))], [.int 0], h2)
                refine go hX 2 (gs := [True, True]) (z' := (125, [some (.ref 65), some (.int (nI key))], [.int 0], h2)) rfl ⟨trivial, trivial, trivial⟩ ?_
                refine rt_ hX (G := isB 0) (r := some (.int 0)) rfl isB0 ?_
                exact K (.inr i1) h2 (.bangF (cat_bangI.mpr s33) nt8 p1) e1
          ·
            show X (90, [some (.ref 65), some (.int (nI key))], [.int 0], h)
            refine go hX 3 (gs := [True, True, True]) (z' := (148, [some (.ref 65), some (.int (nI key))], [.int 40, .ref 65], h)) rfl ⟨trivial, trivial, trivial, trivial⟩ ?_
            refine cl hX 212 2 [.ref 65, .int 40] [] rfl rfl rfl rfl ?_
            refine R.sign 40 (fun s40 => ?_) (fun s40 => ?_)
            ·
              show X (151, [some (.ref 65), some (.int (nI key))], [.int 1], h)
              refine go hX 5 (gs := [True, True, True, True, True]) (z' := (if (h.1 65 22) = 8 then 163 else 165, [some (.ref 65), some (.int (nI key))], [], h)) rfl ⟨trivial, trivial, trivial, trivial, trivial, trivial⟩ ?_
              refine br (fun b9 => ?_) (fun b9 => ?_)
              ·
                refine go hX 1 (gs := [True]) (z' := (164, [some (.ref 65), some (.int (nI key))], [.int 0], h)) rfl ⟨trivial, trivial⟩ ?_
                refine rt_ hX (G := isB 0) (r := some (.int 0)) rfl isB0 ?_
                exact K (.inr b.i) h (.opn8 (cat_opnI.mpr s40) (Nat.le_of_eq ((nIle_eq (a := 8) (by decide) (by have := R.b1; omega)).mp (b9.symm.trans R.ob)))) ⟨R.tk.b17, R.fr⟩
              ·
                refine go hX 7 (gs := [True, True, True, True, True, True, True]) (z' := (176, [some (.ref 65), some (.int (nI key))], [.ref 65], (hI h 65 22 ((h.1 65 22) + 1)))) rfl ⟨trivial, trivial, trivial, trivial, trivial, trivial, trivial, trivial⟩ ?_
                refine cl hX 211 1 [.ref 65] [] rfl rfl rfl rfl ?_
                have ob8 : b.ob < 8 := Nat.lt_of_le_of_ne R.b1 (fun q => b9 (by rw [R.ob, q]; rfl))
                obtain ⟨m', rfl⟩ : ∃ m', m = m' + 1 := ⟨m - 1, by have := R.b2; omega⟩
                refine (R.w (b' := ⟨b.i, b.ob + 1, b.nt, b.pr, b.out⟩) (by decide) (hI_eq.trans (by rw [R.ob, tx_1]; rfl)) ((hI_j (by decide)).trans R.nt) ((hI_j (by decide)).trans R.pr) rfl rfl (by dsimp only [Tok.ty_mk, Tok.st_mk, Tok.nx_mk, Tok.val_mk, PA.i_mk, PA.due_mk, PA.S_mk, PA.ob_mk, PA.on_mk, PA.pr_mk, PA.out_mk, PB.i_mk, PB.ob_mk, PB.nt_mk, PB.pr_mk, PB.out_mk]; omega) R.b2).next by_ (fun z => absurd (s40.1.symm.trans z) (by decide)) (fun q => absurd (s40.1.symm.trans q) (by decide)) (fun h1 r1 => ?_)
                show X (179, [some (.ref 65), some (.int (nI key))], [], h1)
                refine go hX 2 (gs := [True, True]) (z' := (181, [some (.ref 65), some (.int (nI key))], [.int (nI key), .ref 65], h1)) rfl ⟨trivial, trivial, trivial⟩ ?_
                refine cl hX 218 2 [.ref 65, .int (nI key)] [] rfl rfl rfl rfl ?_
                refine SubB.two (S1 m' rfl) r1 (by have := R.ln; show b.out.length + 1 ≤ b.i + 1; omega) (by simp only [Tok.ty_mk, Tok.st_mk, Tok.nx_mk, Tok.val_mk, PA.i_mk, PA.due_mk, PA.S_mk, PA.ob_mk, PA.on_mk, PA.pr_mk, PA.out_mk, PB.i_mk, PB.ob_mk, PB.nt_mk, PB.pr_mk, PB.out_mk, PB.nx]; omega) (fun b1 h2 p1 r2 => ?_) (fun i1 h2 p1 e1 => ?_)
                ·
                  show X (184, [some (.ref 65), some (.int (nI key))], [.int 1], h2)
                  refine go hX 3 (gs := [True, True, True]) (z' := (190, [some (.ref 65), some (.int (nI key))], [.int 41, .ref 65], h2)) rfl ⟨trivial, trivial, trivial, trivial⟩ ?_
                  refine cl hX 212 2 [.ref 65, .int 41] [] rfl rfl rfl rfl ?_
                  refine r2.sign 41 (fun s41 => ?_) (fun s41 => ?_)
                  ·
                    show X (193, [some (.ref 65), some (.int (nI key))], [.int 1], h2)
                    refine go hX 8 (gs := [True, True, True, True, True, True, True, True]) (z' := (209, [some (.ref 65), some (.int (nI key))], [.ref 65], (hI h2 65 22 ((h2.1 65 22) - 1)))) rfl ⟨trivial, trivial, trivial, trivial, trivial, trivial, trivial, trivial, trivial⟩ ?_
                    refine cl hX 211 1 [.ref 65] [] rfl rfl rfl rfl ?_
                    have on := prs_on p1 _ rfl
                    simp only [Tok.ty_mk, Tok.st_mk, Tok.nx_mk, Tok.val_mk, PA.i_mk, PA.due_mk, PA.S_mk, PA.ob_mk, PA.on_mk, PA.pr_mk, PA.out_mk, PB.i_mk, PB.ob_mk, PB.nt_mk, PB.pr_mk, PB.out_mk, PB.nx] at on
                    refine (r2.w (b' := ⟨b1.i, b1.ob - 1, b1.nt, b1.pr, b1.out⟩) (by decide) (hI_eq.trans (by rw [r2.ob, show b1.ob = (b1.ob - 1) + 1 by omega]; exact nI_m1)) ((hI_j (by decide)).trans r2.nt) ((hI_j (by decide)).trans r2.pr) rfl rfl (by have := r2.b1; dsimp only [Tok.ty_mk, Tok.st_mk, Tok.nx_mk, Tok.val_mk, PA.i_mk, PA.due_mk, PA.S_mk, PA.ob_mk, PA.on_mk, PA.pr_mk, PA.out_mk, PB.i_mk, PB.ob_mk, PB.nt_mk, PB.pr_mk, PB.out_mk]; omega) r2.b2).next by_ (fun z => absurd (s41.1.symm.trans z) (by decide)) (fun q => absurd (s41.1.symm.trans q) (by decide)) (fun h3 r3 => ?_)
                    show X (212, [some (.ref 65), some (.int (nI key))], [], h3)
                    refine go hX 1 (gs := [True]) (z' := (213, [some (.ref 65), some (.int (nI key))], [.int 1], h3)) rfl ⟨trivial, trivial⟩ ?_
                    refine rt_ hX (G := isB 1) (r := some (.int 1)) rfl isB1 ?_
                    exact K (.inl _) h3 (.opn (cat_opnI.mpr s40) ob8 p1 (cat_clsI.mpr s41)) r3
                  ·
                    show X (193, [some (.ref 65), some (.int (nI key))], [.int 0], h2)
                    refine go hX 2 (gs := [True, True]) (z' := (197, [some (.ref 65), some (.int (nI key))], [.int 0], h2)) rfl ⟨trivial, trivial, trivial⟩ ?_
                    refine rt_ hX (G := isB 0) (r := some (.int 0)) rfl isB0 ?_
                    exact K (.inr b1.i) h2 (.opnX (cat_opnI.mpr s40) ob8 p1 (fun e0 => s41 (cat_clsI.mp e0))) ⟨r2.tk.b17, r2.fr⟩
                ·
                  show X (184, [some (.ref 65), some (.int (nI key))], [.int 0], h2)
                  refine go hX 2 (gs := [True, True]) (z' := (197, [some (.ref 65), some (.int (nI key))], [.int 0], h2)) rfl ⟨trivial, trivial, trivial⟩ ?_
                  refine rt_ hX (G := isB 0) (r := some (.int 0)) rfl isB0 ?_
                  exact K (.inr i1) h2 (.opnF (cat_opnI.mpr s40) ob8 p1) e1
            ·
              show X (151, [some (.ref 65), some (.int (nI key))], [.int 0], h)
              refine go hX 2 (gs := [True, True]) (z' := (164, [some (.ref 65), some (.int (nI key))], [.int 0], h)) rfl ⟨trivial, trivial, trivial⟩ ?_
              refine rt_ hX (G := isB 0) (r := some (.int 0)) rfl isB0 ?_
              have n1 : ∀ s, cat f key (tks f n b.i) ≠ .part s := fun s e0 => by
                rcases cat_partE e0 with q | q
                · exact b1 (R.tk.b19.trans (tyB_2.mpr q))
                · have e21 : h.1 65 21 = f (nI (tks f n b.i).st) := ((R.tk.bw q.1).trans (if_pos q.2.1)).trans (by rw [R.ef])
                  rw [e21] at nq
                  rw [nq] at q
                  exact absurd q.2.2 (by decide)
              exact K (.inr b.i) h (.no n1 (fun e0 => s33 (cat_bangI.mp e0)) (fun e0 => s40 (cat_opnI.mp e0))) ⟨R.tk.b17, R.fr⟩
    ·
      refine go hX 2 (gs := [True, True]) (z' := (87, [some (.ref 65), some (.int (nI key))], [.int 33, .ref 65], h)) rfl ⟨trivial, trivial, trivial⟩ ?_
      refine cl hX 212 2 [.ref 65, .int 33] [] rfl rfl rfl rfl ?_
      refine R.sign 33 (fun s33 => ?_) (fun s33 => ?_)
      ·
        show X (90, [some (.ref 65), some (.int (nI key))], [.int 1], h)
        refine go hX 5 (gs := [True, True, True, True, True]) (z' := (if 8 ≤ (h.1 65 23) then 145 else 102, [some (.ref 65), some (.int (nI key))], [], h)) rfl ⟨trivial, trivial, trivial, trivial, trivial, trivial⟩ ?_
        refine br (fun b10 => ?_) (fun b10 => ?_)
        ·
          refine go hX 2 (gs := [True, True]) (z' := (148, [some (.ref 65), some (.int (nI key))], [.int 40, .ref 65], h)) rfl ⟨trivial, trivial, trivial⟩ ?_
          refine cl hX 212 2 [.ref 65, .int 40] [] rfl rfl rfl rfl ?_
          refine R.sign 40 (fun s40 => ?_) (fun s40 => ?_)
          ·
            show X (151, [some (.ref 65), some (.int (nI key))], [.int 1], h)
            refine go hX 5 (gs := [True, True, True, True, True]) (z' := (if (h.1 65 22) = 8 then 163 else 165, [some (.ref 65), some (.int (nI key))], [], h)) rfl ⟨trivial, trivial, trivial, trivial, trivial, trivial⟩ ?_
            refine br (fun b11 => ?_) (fun b11 => ?_)
            ·
              refine go hX 1 (gs := [True]) (z' := (164, [some (.ref 65), some (.int (nI key))], [.int 0], h)) rfl ⟨trivial, trivial⟩ ?_
              refine rt_ hX (G := isB 0) (r := some (.int 0)) rfl isB0 ?_
              exact absurd (s33.2.symm.trans s40.2) (by decide)
            ·
              refine go hX 7 (gs := [True, True, True, True, True, True, True]) (z' := (176, [some (.ref 65), some (.int (nI key))], [.ref 65], (hI h 65 22 ((h.1 65 22) + 1)))) rfl ⟨trivial, trivial, trivial, trivial, trivial, trivial, trivial, trivial⟩ ?_
              refine cl hX 211 1 [.ref 65] [] rfl rfl rfl rfl ?_
              have ob8 : b.ob < 8 := Nat.lt_of_le_of_ne R.b1 (fun q => b11 (by rw [R.ob, q]; rfl))
              obtain ⟨m', rfl⟩ : ∃ m', m = m' + 1 := ⟨m - 1, by have := R.b2; omega⟩
              refine (R.w (b' := ⟨b.i, b.ob + 1, b.nt, b.pr, b.out⟩) (by decide) (hI_eq.trans (by rw [R.ob, tx_1]; rfl)) ((hI_j (by decide)).trans R.nt) ((hI_j (by decide)).trans R.pr) rfl rfl (by dsimp only [Tok.ty_mk, Tok.st_mk, Tok.nx_mk, Tok.val_mk, PA.i_mk, PA.due_mk, PA.S_mk, PA.ob_mk, PA.on_mk, PA.pr_mk, PA.out_mk, PB.i_mk, PB.ob_mk, PB.nt_mk, PB.pr_mk, PB.out_mk]; omega) R.b2).next by_ (fun z => absurd (s40.1.symm.trans z) (by decide)) (fun q => absurd (s40.1.symm.trans q) (by decide)) (fun h1 r1 => ?_)
              show X (179, [some (.ref 65), some (.int (nI key))], [], h1)
              refine go hX 2 (gs := [True, True]) (z' := (181, [some (.ref 65), some (.int (nI key))], [.int (nI key), .ref 65], h1)) rfl ⟨trivial, trivial, trivial⟩ ?_
              refine cl hX 218 2 [.ref 65, .int (nI key)] [] rfl rfl rfl rfl ?_
              refine SubB.two (S1 m' rfl) r1 (by have := R.ln; show b.out.length + 1 ≤ b.i + 1; omega) (by simp only [Tok.ty_mk, Tok.st_mk, Tok.nx_mk, Tok.val_mk, PA.i_mk, PA.due_mk, PA.S_mk, PA.ob_mk, PA.on_mk, PA.pr_mk, PA.out_mk, PB.i_mk, PB.ob_mk, PB.nt_mk, PB.pr_mk, PB.out_mk, PB.nx]; omega) (fun b1 h2 p1 r2 => ?_) (fun i1 h2 p1 e1 => ?_)
              ·
                show X (184, [some (.ref 65), some (.int (nI key))], [.int 1], h2)
                refine go hX 3 (gs := [True, True, True]) (z' := (190, [some (.ref 65), some (.int (nI key))], [.int 41, .ref 65], h2)) rfl ⟨trivial, trivial, trivial, trivial⟩ ?_
                refine cl hX 212 2 [.ref 65, .int 41] [] rfl rfl rfl rfl ?_
                refine r2.sign 41 (fun s41 => ?_) (fun s41 => ?_)
                ·
                  show X (193, [some (.ref 65), some (.int (nI key))], [.int 1], h2)
                  refine go hX 8 (gs := [True, True, True, True, True, True, True, True]) (z' := (209, [some (.ref 65), some (.int (nI key))], [.ref 65], (hI h2 65 22 ((h2.1 65 22) - 1)))) rfl ⟨trivial, trivial, trivial, trivial, trivial, trivial, trivial, trivial, trivial⟩ ?_
                  refine cl hX 211 1 [.ref 65] [] rfl rfl rfl rfl ?_
                  have on := prs_on p1 _ rfl
                  simp only [Tok.ty_mk, Tok.st_mk, Tok.nx_mk, Tok.val_mk, PA.i_mk, PA.due_mk, PA.S_mk, PA.ob_mk, PA.on_mk, PA.pr_mk, PA.out_mk, PB.i_mk, PB.ob_mk, PB.nt_mk, PB.pr_mk, PB.out_mk, PB.nx] at on
                  refine (r2.w (b' := ⟨b1.i, b1.ob - 1, b1.nt, b1.pr, b1.out⟩) (by decide) (hI_eq.trans (by rw [r2.ob, show b1.ob = (b1.ob - 1) + 1 by omega]; exact nI_m1)) ((hI_j (by decide)).trans r2.nt) ((hI_j (by decide)).trans r2.pr) rfl rfl (by have := r2.b1; dsimp only [Tok.ty_mk, Tok.st_mk, Tok.nx_mk, Tok.val_mk, PA.i_mk, PA.due_mk, PA.S_mk, PA.ob_mk, PA.on_mk, PA.pr_mk, PA.out_mk, PB.i_mk, PB.ob_mk, PB.nt_mk, PB.pr_mk, PB.out_mk]; omega) r2.b2).next by_ (fun z => absurd (s41.1.symm.trans z) (by decide)) (fun q => absurd (s41.1.symm.trans q) (by decide)) (fun h3 r3 => ?_)
                  show X (212, [some (.ref 65), some (.int (nI key))], [], h3)
                  refine go hX 1 (gs := [True]) (z' := (213, [some (.ref 65), some (.int (nI key))], [.int 1], h3)) rfl ⟨trivial, trivial⟩ ?_
                  refine rt_ hX (G := isB 1) (r := some (.int 1)) rfl isB1 ?_
                  exact absurd (s33.2.symm.trans s40.2) (by decide)
                ·
                  show X (193, [some (.ref 65), some (.int (nI key))], [.int 0], h2)
                  refine go hX 2 (gs := [True, True]) (z' := (197, [some (.ref 65), some (.int (nI key))], [.int 0], h2)) rfl ⟨trivial, trivial, trivial⟩ ?_
                  refine rt_ hX (G := isB 0) (r := some (.int 0)) rfl isB0 ?_
                  exact absurd (s33.2.symm.trans s40.2) (by decide)
              ·
                show X (184, [some (.ref 65), some (.int (nI key))], [.int 0], h2)
                refine go hX 2 (gs := [True, True]) (z' := (197, [some (.ref 65), some (.int (nI key))], [.int 0], h2)) rfl ⟨trivial, trivial, trivial⟩ ?_
                refine rt_ hX (G := isB 0) (r := some (.int 0)) rfl isB0 ?_
                exact absurd (s33.2.symm.trans s40.2) (by decide)
          ·
            show X (151, [some (.ref 65), some (.int (nI key))], [.int 0], h)
            refine go hX 2 (gs := [True, True]) (z' := (164, [some (.ref 65), some (.int (nI key))], [.int 0], h)) rfl ⟨trivial, trivial, trivial⟩ ?_
            refine rt_ hX (G := isB 0) (r := some (.int 0)) rfl isB0 ?_
            exact K (.inr b.i) h (.bang8 (cat_bangI.mpr s33) ((tx_le (a := 8) (by decide) (by have := R.b2; omega)).mp (by rw [← R.nt]; exact b10))) ⟨R.tk.b17, R.fr⟩
        ·
          refine go hX 7 (gs := [True, True, True, True, True, True, True]) (z' := (113, [some (.ref 65), some (.int (nI key))], [.ref 65], (hI h 65 23 ((h.1 65 23) + 1)))) rfl ⟨trivial, trivial, trivial, trivial, trivial, trivial, trivial, trivial⟩ ?_
          refine cl hX 211 1 [.ref 65] [] rfl rfl rfl rfl ?_
          have nt8 : b.nt < 8 := Decidable.not_not.mp (fun q => b10 (by rw [R.nt]; exact (tx_le (a := 8) (by decide) (by have := R.b2; omega)).mpr (by omega)))
          obtain ⟨m', rfl⟩ : ∃ m', m = m' + 1 := ⟨m - 1, by have := R.b1; omega⟩
          refine (R.w (b' := ⟨b.i, b.ob, b.nt + 1, b.pr, b.out⟩) (by decide) ((hI_j (by decide)).trans R.ob) (hI_eq.trans (by rw [R.nt, tx_1]; rfl)) ((hI_j (by decide)).trans R.pr) rfl rfl R.b1 (by dsimp only [Tok.ty_mk, Tok.st_mk, Tok.nx_mk, Tok.val_mk, PA.i_mk, PA.due_mk, PA.S_mk, PA.ob_mk, PA.on_mk, PA.pr_mk, PA.out_mk, PB.i_mk, PB.ob_mk, PB.nt_mk, PB.pr_mk, PB.out_mk]; omega)).next by_ (fun z => absurd (s33.1.symm.trans z) (by decide)) (fun q => absurd (s33.1.symm.trans q) (by decide)) (fun h1 r1 => ?_)
          show X (116, [some (.ref 65), some (.int (nI key))], [], h1)
          refine go hX 2 (gs := [True, True]) (z' := (118, [some (.ref 65), some (.int (nI key))], [.int (nI key), .ref 65], h1)) rfl ⟨trivial, trivial, trivial⟩ ?_
          refine cl hX 223 2 [.ref 65, .int (nI key)] [] rfl rfl rfl rfl ?_
          refine SubB.two (S6 m' rfl) r1 (by have := R.ln; show b.out.length + 1 ≤ b.i + 1; omega) (by simp only [Tok.ty_mk, Tok.st_mk, Tok.nx_mk, Tok.val_mk, PA.i_mk, PA.due_mk, PA.S_mk, PA.ob_mk, PA.on_mk, PA.pr_mk, PA.out_mk, PB.i_mk, PB.ob_mk, PB.nt_mk, PB.pr_mk, PB.out_mk, PB.nx]; omega) (fun b1 h2 p1 r2 => ?_) (fun i1 h2 p1 e1 => ?_)
          ·
            show X (121, [some (.ref 65), some (.int (nI key))], [.int 1], h2)
            refine go hX 10 (gs := [True, True, True, True, True, True, True, True, True, True]) (z' := (140, [some (.ref 65), some (.int (nI key))], [.int 33, .int 2, .ref 65], (hI h2 65 23 ((h2.1 65 23) - 1)))) rfl ⟨trivial, trivial, trivial, trivial, trivial, trivial, trivial, trivial, trivial, trivial, trivial⟩ ?_
            refine cl hX 217 3 [.ref 65, .int 2, .int 33] [] rfl rfl rfl rfl ?_
            have on := prs_on p1 _ rfl
            have le := prs_len p1 _ rfl
            simp only [Tok.ty_mk, Tok.st_mk, Tok.nx_mk, Tok.val_mk, PA.i_mk, PA.due_mk, PA.S_mk, PA.ob_mk, PA.on_mk, PA.pr_mk, PA.out_mk, PB.i_mk, PB.ob_mk, PB.nt_mk, PB.pr_mk, PB.out_mk, PB.nx] at on le
            have lb := r2.len by_
            refine (r2.w (b' := ⟨b1.i, b1.ob, b1.nt - 1, b1.pr, b1.out⟩) (by decide) ((hI_j (by decide)).trans r2.ob) (hI_eq.trans (by rw [r2.nt, show b1.nt = (b1.nt - 1) + 1 by omega]; exact nI_m1)) ((hI_j (by decide)).trans r2.pr) rfl rfl r2.b1 (by have := r2.b2; dsimp only [Tok.ty_mk, Tok.st_mk, Tok.nx_mk, Tok.val_mk, PA.i_mk, PA.due_mk, PA.S_mk, PA.ob_mk, PA.on_mk, PA.pr_mk, PA.out_mk, PB.i_mk, PB.ob_mk, PB.nt_mk, PB.pr_mk, PB.out_mk]; omega)).step by_ (stR_sg (v := 33) (by decide)) (by dsimp only [Tok.ty_mk, Tok.st_mk, Tok.nx_mk, Tok.val_mk, PA.i_mk, PA.due_mk, PA.S_mk, PA.ob_mk, PA.on_mk, PA.pr_mk, PA.out_mk, PB.i_mk, PB.ob_mk, PB.nt_mk, PB.pr_mk, PB.out_mk]; omega) (by dsimp only [Tok.ty_mk, Tok.st_mk, Tok.nx_mk, Tok.val_mk, PA.i_mk, PA.due_mk, PA.S_mk, PA.ob_mk, PA.on_mk, PA.pr_mk, PA.out_mk, PB.i_mk, PB.ob_mk, PB.nt_mk, PB.pr_mk, PB.out_mk]; omega) (fun h3 _ r3 => ?_)
            show X (143, [some (.ref 65), some (.int (nI key))], [], h3)
            refine go hX 1 (gs := [True]) (z' := (144, [some (.ref 65), some (.int (nI key))], [.int 1], h3)) rfl ⟨trivial, trivial⟩ ?_
            refine rt_ hX (G := isB 1) (r := some (.int 1)) rfl isB1 ?_
            exact K (.inl _) h3 (.bang (cat_bangI.mpr s33) nt8 p1) r3
          ·
            show X (121, [some (.ref 65), some (.int (nI key))], [.int 0], h2)
            refine go hX 2 (gs := [True, True]) (z' := (125, [some (.ref 65), some (.int (nI key))], [.int 0], h2)) rfl ⟨trivial, trivial, trivial⟩ ?_
            refine rt_ hX (G := isB 0) (r := some (.int 0)) rfl isB0 ?_
            exact K (.inr i1) h2 (.bangF (cat_bangI.mpr s33) nt8 p1) e1
      ·
        show X (90, [some (.ref 65), some (.int (nI key))], [.int 0], h)
        refine go hX 3 (gs := [True, True, True]) (z' := (148, [some (.ref 65), some (.int (nI key))], [.int 40, .ref 65], h)) rfl ⟨trivial, trivial, trivial, trivial⟩ ?_
        refine cl hX 212 2 [.ref 65, .int 40] [] rfl rfl rfl rfl ?_
        refine R.sign 40 (fun s40 => ?_) (fun s40 => ?_)
        ·
          show X (151, [some (.ref 65), some (.int (nI key))], [.int 1], h)
          refine go hX 5 (gs := [True, True, True, True, True]) (z' := (if (h.1 65 22) = 8 then 163 else 165, [some (.ref 65), some (.int (nI key))], [], h)) rfl ⟨trivial, trivial, trivial, trivial, trivial, trivial⟩ ?_
          refine br (fun b12 => ?_) (fun b12 => ?_)
          ·
            refine go hX 1 (gs := [True]) (z' := (164, [some (.ref 65), some (.int (nI key))], [.int 0], h)) rfl ⟨trivial, trivial⟩ ?_
            refine rt_ hX (G := isB 0) (r := some (.int 0)) rfl isB0 ?_
            exact K (.inr b.i) h (.opn8 (cat_opnI.mpr s40) (Nat.le_of_eq ((nIle_eq (a := 8) (by decide) (by have := R.b1; omega)).mp (b12.symm.trans R.ob)))) ⟨R.tk.b17, R.fr⟩
          ·
            refine go hX 7 (gs := [True, True, True, True, True, True, True]) (z' := (176, [some (.ref 65), some (.int (nI key))], [.ref 65], (hI h 65 22 ((h.1 65 22) + 1)))) rfl ⟨trivial, trivial, trivial, trivial, trivial, trivial, trivial, trivial⟩ ?_
            refine cl hX 211 1 [.ref 65] [] rfl rfl rfl rfl ?_
            have ob8 : b.ob < 8 := Nat.lt_of_le_of_ne R.b1 (fun q => b12 (by rw [R.ob, q]; rfl))
            obtain ⟨m', rfl⟩ : ∃ m', m = m' + 1 := ⟨m - 1, by have := R.b2; omega⟩
            refine (R.w (b' := ⟨b.i, b.ob + 1, b.nt, b.pr, b.out⟩) (by decide) (hI_eq.trans (by rw [R.ob, tx_1]; rfl)) ((hI_j (by decide)).trans R.nt) ((hI_j (by decide)).trans R.pr) rfl rfl (by dsimp only [Tok.ty_mk, Tok.st_mk, Tok.nx_mk, Tok.val_mk, PA.i_mk, PA.due_mk, PA.S_mk, PA.ob_mk, PA.on_mk, PA.pr_mk, PA.out_mk, PB.i_mk, PB.ob_mk, PB.nt_mk, PB.pr_mk, PB.out_mk]; omega) R.b2).next by_ (fun z => absurd (s40.1.symm.trans z) (by decide)) (fun q => absurd (s40.1.symm.trans q) (by decide)) (fun h1 r1 => ?_)
            show X (179, [some (.ref 65), some (.int (nI key))], [], h1)
            refine go hX 2 (gs := [True, True]) (z' := (181, [some (.ref 65), some (.int (nI key))], [.int (nI key), .ref 65], h1)) rfl ⟨trivial, trivial, trivial⟩ ?_
            refine cl hX 218 2 [.ref 65, .int (nI key)] [] rfl rfl rfl rfl ?_
            refine SubB.two (S1 m' rfl) r1 (by have := R.ln; show b.out.length + 1 ≤ b.i + 1; omega) (by simp only [Tok.ty_mk, Tok.st_mk, Tok.nx_mk, Tok.val_mk, PA.i_mk, PA.due_mk, PA.S_mk, PA.ob_mk, PA.on_mk, PA.pr_mk, PA.out_mk, PB.i_mk, PB.ob_mk, PB.nt_mk, PB.pr_mk, PB.out_mk, PB.nx]; omega) (fun b1 h2 p1 r2 => ?_) (fun i1 h2 p1 e1 => ?_)
            ·
              show X (184, [some (.ref 65), some (.int (nI key))], [.int 1], h2)
              refine go hX 3 (gs := [True, True, True]) (z' := (190, [some (.ref 65), some (.int (nI key))], [.int 41, .ref 65], h2)) rfl ⟨trivial, trivial, trivial, trivial⟩ ?_
              refine cl hX 212 2 [.ref 65, .int 41] [] rfl rfl rfl rfl ?_
              refine r2.sign 41 (fun s41 => ?_) (fun s41 => ?_)
              ·
                show X (193, [some (.ref 65), some (.int (nI key))], [.int 1], h2)
                refine go hX 8 (gs := [True, True, True, True, True, True, True, True]) (z' := (209, [some (.ref 65), some (.int (nI key))], [.ref 65], (hI h2 65 22 ((h2.1 65 22) - 1)))) rfl ⟨trivial, trivial, trivial, trivial, trivial, trivial, trivial, trivial, trivial⟩ ?_
                refine cl hX 211 1 [.ref 65] [] rfl rfl rfl rfl ?_
                have on := prs_on p1 _ rfl
                simp only [Tok.ty_mk, Tok.st_mk, Tok.nx_mk, Tok.val_mk, PA.i_mk, PA.due_mk, PA.S_mk, PA.ob_mk, PA.on_mk, PA.pr_mk, PA.out_mk, PB.i_mk, PB.ob_mk, PB.nt_mk, PB.pr_mk, PB.out_mk, PB.nx] at on
                refine (r2.w (b' := ⟨b1.i, b1.ob - 1, b1.nt, b1.pr, b1.out⟩) (by decide) (hI_eq.trans (by rw [r2.ob, show b1.ob = (b1.ob - 1) + 1 by omega]; exact nI_m1)) ((hI_j (by decide)).trans r2.nt) ((hI_j (by decide)).trans r2.pr) rfl rfl (by have := r2.b1; dsimp only [Tok.ty_mk, Tok.st_mk, Tok.nx_mk, Tok.val_mk, PA.i_mk, PA.due_mk, PA.S_mk, PA.ob_mk, PA.on_mk, PA.pr_mk, PA.out_mk, PB.i_mk, PB.ob_mk, PB.nt_mk, PB.pr_mk, PB.out_mk]; omega) r2.b2).next by_ (fun z => absurd (s41.1.symm.trans z) (by decide)) (fun q => absurd (s41.1.symm.trans q) (by decide)) (fun h3 r3 => ?_)
                show X (212, [some (.ref 65), some (.int (nI key))], [], h3)
                refine go hX 1 (gs := [True]) (z' := (213, [some (.ref 65), some (.int (nI key))], [.int 1], h3)) rfl ⟨trivial, trivial⟩ ?_
                refine rt_ hX (G := isB 1) (r := some (.int 1)) rfl isB1 ?_
                exact K (.inl _) h3 (.opn (cat_opnI.mpr s40) ob8 p1 (cat_clsI.mpr s41)) r3
              ·
                show X (193, [some (.ref 65), some (.int (nI key))], [.int 0], h2)
                refine go hX 2 (gs := [True, True]) (z' := (197, [some (.ref 65), some (.int (nI key))], [.int 0], h2)) rfl ⟨trivial, trivial, trivial⟩ ?_
                refine rt_ hX (G := isB 0) (r := some (.int 0)) rfl isB0 ?_
                exact K (.inr b1.i) h2 (.opnX (cat_opnI.mpr s40) ob8 p1 (fun e0 => s41 (cat_clsI.mp e0))) ⟨r2.tk.b17, r2.fr⟩
            ·
              show X (184, [some (.ref 65), some (.int (nI key))], [.int 0], h2)
              refine go hX 2 (gs := [True, True]) (z' := (197, [some (.ref 65), some (.int (nI key))], [.int 0], h2)) rfl ⟨trivial, trivial, trivial⟩ ?_
              refine rt_ hX (G := isB 0) (r := some (.int 0)) rfl isB0 ?_
              exact K (.inr i1) h2 (.opnF (cat_opnI.mpr s40) ob8 p1) e1
        ·
          show X (151, [some (.ref 65), some (.int (nI key))], [.int 0], h)
          refine go hX 2 (gs := [True, True]) (z' := (164, [some (.ref 65), some (.int (nI key))], [.int 0], h)) rfl ⟨trivial, trivial, trivial⟩ ?_
          refine rt_ hX (G := isB 0) (r := some (.int 0)) rfl isB0 ?_
          have n1 : ∀ s, cat f key (tks f n b.i) ≠ .part s := fun s e0 => by
            rcases cat_partE e0 with q | q
            · exact b1 (R.tk.b19.trans (tyB_2.mpr q))
            · exact b2 (R.tk.b19.trans (tyB_1.mpr q.1))
          exact K (.inr b.i) h (.no n1 (fun e0 => s33 (cat_bangI.mp e0)) (fun e0 => s40 (cat_opnI.mp e0))) ⟨R.tk.b17, R.fr⟩
theorem call_le {d d' mid : Nat} {as : List Value} {h : Hp} {Q : Option Value → Hp → Prop} (hd : d ≤ d') (c : Call d mid as h Q) : Call d' mid as h Q := by
  induction hd with
  | refl => exact c
  | step _ ih => exact ih.up
theorem SubB.dp {d d' mid l : Nat} {f : Int32 → Int32} {n key A0 m : Nat} (S : SubB d mid l f n key A0 m) (h : d ≤ d') : SubB d' mid l f n key A0 m := fun R tl hm K => call_le h (S R tl hm K)
theorem lv_all {f : Int32 → Int32} {n key A0 : Nat} (by_ : BY f n) (hkey : key ≤ 5) : ∀ m, SubB (6 * m + 4) 223 6 f n key A0 m ∧ SubB (6 * m + 9) 218 1 f n key A0 m
  | 0 => by
    have S6 : SubB 4 223 6 f n key A0 0 := lv_part0 (e := 0) by_ hkey (fun m' q => by omega) (fun m' q => by omega)
    exact ⟨S6, lv_either (e := 5) by_ (lv_both (e := 4) by_ (lv_test (e := 3) by_ (lv_sum (e := 2) by_ (lv_term (e := 1) by_ S6))))⟩
  | m + 1 => by
    obtain ⟨P6, P1⟩ := lv_all by_ hkey m
    have S6 : SubB (6 * (m + 1) + 4) 223 6 f n key A0 (m + 1) := lv_part0 (e := 6 * (m + 1)) by_ hkey (fun m' q => by cases q; exact P6.dp (by omega)) (fun m' q => by cases q; exact P1.dp (by omega))
    exact ⟨S6, lv_either (e := 6 * (m + 1) + 5) by_ (lv_both (e := 6 * (m + 1) + 4) by_ (lv_test (e := 6 * (m + 1) + 3) by_ (lv_sum (e := 6 * (m + 1) + 2) by_ (lv_term (e := 6 * (m + 1) + 1) by_ S6))))⟩
theorem blen {h : Hp} {t : Tok} {n : Nat} {f : Int32 → Int32} (w : TkW f n t) (hn : n ≤ 96) (hk : TkB h t) {k : Nat} (hk4 : k ≤ 4000) : h.1 65 18 - h.1 65 17 = nI k ↔ t.nx - t.st = k := by
  have := w.w1
  have := w.w2
  rw [hk.b17, hk.b18, nI_sb w.w1 (by omega)]
  exact nIle_eq (by omega) hk4
theorem bch {h : Hp} {t : Tok} (hk : TkB h t) (c j : Nat) : h.1 78 (h.1 65 17 + nI j) = nI c ↔ h.1 78 (nI (t.st + j)) = nI c := by
  rw [hk.b17, nI_add]
theorem bch0 {h : Hp} {t : Tok} (hk : TkB h t) (c : Nat) : h.1 78 (h.1 65 17) = nI c ↔ h.1 78 (nI t.st) = nI c := by
  rw [hk.b17]
theorem bty {h : Hp} {t : Tok} (hk : TkB h t) : h.1 65 19 = 1 ↔ t.ty = 1 := by
  rw [hk.b19]
  exact tyB_1
theorem bw0_eq {h : Hp} {t : Tok} {n : Nat} (w : TkW (h.1 78) n t) (hn : n ≤ 96) (hk : TkB h t) : bw0 h ↔ t.ty = 1 ∧ kwB 0 (h.1 78) t = true := by
  rw [kw_3 (i := 0) rfl]
  exact and_congr (bty hk) (and_congr (blen w hn hk (k := 3) (by decide)) (and_congr (bch0 hk 112) (and_congr (bch hk 97 1) (bch hk 121 2))))
theorem bw1_eq {h : Hp} {t : Tok} {n : Nat} (w : TkW (h.1 78) n t) (hn : n ≤ 96) (hk : TkB h t) : bw1 h ↔ t.ty = 1 ∧ kwB 1 (h.1 78) t = true := by
  rw [kw_4 (i := 1) rfl]
  exact and_congr (bty hk) (and_congr (blen w hn hk (k := 4) (by decide)) (and_congr (bch0 hk 108) (and_congr (bch hk 111 1) (and_congr (bch hk 115 2) (bch hk 116 3)))))
theorem bw2_eq {h : Hp} {t : Tok} {n : Nat} (w : TkW (h.1 78) n t) (hn : n ≤ 96) (hk : TkB h t) : bw2 h ↔ t.ty = 1 ∧ kwB 2 (h.1 78) t = true := by
  rw [kw_6 (i := 2) rfl]
  exact and_congr (bty hk) (and_congr (blen w hn hk (k := 6) (by decide)) (and_congr (bch0 hk 118) (and_congr (bch hk 105 1) (and_congr (bch hk 99 2) (and_congr (bch hk 116 3) (and_congr (bch hk 105 4) (bch hk 109 5)))))))
theorem bw3_eq {h : Hp} {t : Tok} {n : Nat} (w : TkW (h.1 78) n t) (hn : n ≤ 96) (hk : TkB h t) : bw3 h ↔ t.ty = 1 ∧ kwB 3 (h.1 78) t = true := by
  rw [kw_4 (i := 3) rfl]
  exact and_congr (bty hk) (and_congr (blen w hn hk (k := 4) (by decide)) (and_congr (bch0 hk 115) (and_congr (bch hk 97 1) (and_congr (bch hk 118 2) (bch hk 101 3)))))
theorem bw4_eq {h : Hp} {t : Tok} {n : Nat} (w : TkW (h.1 78) n t) (hn : n ≤ 96) (hk : TkB h t) : bw4 h ↔ t.ty = 1 ∧ kwB 4 (h.1 78) t = true := by
  rw [kw_5 (i := 4) rfl]
  exact and_congr (bty hk) (and_congr (blen w hn hk (k := 5) (by decide)) (and_congr (bch0 hk 108) (and_congr (bch hk 101 1) (and_congr (bch hk 97 2) (and_congr (bch hk 115 3) (bch hk 116 4))))))
theorem bw5_eq {h : Hp} {t : Tok} {n : Nat} (w : TkW (h.1 78) n t) (hn : n ≤ 96) (hk : TkB h t) : bw5 h ↔ t.ty = 1 ∧ kwB 5 (h.1 78) t = true := by
  rw [kw_4 (i := 5) rfl]
  exact and_congr (bty hk) (and_congr (blen w hn hk (k := 4) (by decide)) (and_congr (bch0 hk 100) (and_congr (bch hk 97 1) (and_congr (bch hk 121 2) (bch hk 115 3)))))
theorem kw_len {f : Int32 → Int32} {t : Tok} {i : Nat} (h : kwB i f t = true) : t.nx - t.st = (stT'.getD i []).length := by
  unfold kwB at h
  rw [Bool.and_eq_true, decide_eq_true_eq] at h
  exact h.1
theorem kw_c0 {f : Int32 → Int32} {t : Tok} {i c : Nat} {r : List Nat} (h : kwB i f t = true) (e : stT'.getD i [] = c :: r) : f (nI t.st) = nI c := by
  unfold kwB at h
  rw [e, Bool.and_eq_true] at h
  have h := h.2
  unfold kcB at h
  rw [Bool.and_eq_true, decide_eq_true_eq] at h
  exact h.1
theorem kw_ex {f : Int32 → Int32} {t : Tok} {i j : Nat} (hi : i < 6) (hj : j < 6) (h1 : kwB i f t = true) (h2 : kwB j f t = true) : i = j := by
  have l1 := kw_len h1
  have l2 := kw_len h2
  have key : ∀ i j : Fin 6, (stT'.getD i []).length = (stT'.getD j []).length → i = j ∨ (stT'.getD i []).headD 0 ≠ (stT'.getD j []).headD 0 ∧ (stT'.getD i []).headD 0 < 200 ∧ (stT'.getD j []).headD 0 < 200 ∧ stT'.getD i [] ≠ [] ∧ stT'.getD j [] ≠ [] := by decide
  rcases key ⟨i, hi⟩ ⟨j, hj⟩ (l1.symm.trans l2) with e | ⟨e, e1, e2, e3, e4⟩
  · exact congrArg Fin.val e
  · exfalso
    obtain ⟨c, r, hc⟩ := List.exists_cons_of_ne_nil e3
    obtain ⟨c', r', hc'⟩ := List.exists_cons_of_ne_nil e4
    have q1 := kw_c0 h1 hc
    have q2 := kw_c0 h2 hc'
    rw [hc, hc'] at e
    rw [hc] at e1
    rw [hc'] at e2
    replace e : c ≠ c' := e
    replace e1 : c < 200 := e1
    replace e2 : c' < 200 := e2
    exact e ((nIle_eq (a := c) (b := c') (by omega) (by omega)).mp (q1.symm.trans q2))
theorem keyB_eq {h : Hp} {t : Tok} {n : Nat} (w : TkW (h.1 78) n t) (hn : n ≤ 96) (hk : TkB h t) : keyB h = if keyN (h.1 78) t = -1000000005 then -1 else keyN (h.1 78) t := by
  unfold keyB
  simp only [Tok.ty_mk, Tok.st_mk, Tok.nx_mk, Tok.val_mk, PA.i_mk, PA.due_mk, PA.S_mk, PA.ob_mk, PA.on_mk, PA.pr_mk, PA.out_mk, PB.i_mk, PB.ob_mk, PB.nt_mk, PB.pr_mk, PB.out_mk, bw0_eq w hn hk, bw1_eq w hn hk, bw2_eq w hn hk, bw3_eq w hn hk, bw4_eq w hn hk, bw5_eq w hn hk]
  unfold keyN
  by_cases ty : t.ty = 1
  · have ex : ∀ i j, i < 6 → j < 6 → i ≠ j → kwB i (h.1 78) t = true → ¬ kwB j (h.1 78) t = true := fun i j hi hj ne h1 h2 => ne (kw_ex hi hj h1 h2)
    by_cases k0 : kwB 0 (h.1 78) t = true
    · simp [Tok.ty_mk, Tok.st_mk, Tok.nx_mk, Tok.val_mk, PA.i_mk, PA.due_mk, PA.S_mk, PA.ob_mk, PA.on_mk, PA.pr_mk, PA.out_mk, PB.i_mk, PB.ob_mk, PB.nt_mk, PB.pr_mk, PB.out_mk, ty, k0, ex 0 2 (by decide) (by decide) (by decide) k0, ex 0 4 (by decide) (by decide) (by decide) k0]
    · by_cases k1 : kwB 1 (h.1 78) t = true
      · simp [Tok.ty_mk, Tok.st_mk, Tok.nx_mk, Tok.val_mk, PA.i_mk, PA.due_mk, PA.S_mk, PA.ob_mk, PA.on_mk, PA.pr_mk, PA.out_mk, PB.i_mk, PB.ob_mk, PB.nt_mk, PB.pr_mk, PB.out_mk, ty, k0, k1, ex 1 2 (by decide) (by decide) (by decide) k1, ex 1 4 (by decide) (by decide) (by decide) k1]
      · by_cases k2 : kwB 2 (h.1 78) t = true
        · simp [Tok.ty_mk, Tok.st_mk, Tok.nx_mk, Tok.val_mk, PA.i_mk, PA.due_mk, PA.S_mk, PA.ob_mk, PA.on_mk, PA.pr_mk, PA.out_mk, PB.i_mk, PB.ob_mk, PB.nt_mk, PB.pr_mk, PB.out_mk, ty, k0, k1, k2]
        · by_cases k3 : kwB 3 (h.1 78) t = true
          · simp [Tok.ty_mk, Tok.st_mk, Tok.nx_mk, Tok.val_mk, PA.i_mk, PA.due_mk, PA.S_mk, PA.ob_mk, PA.on_mk, PA.pr_mk, PA.out_mk, PB.i_mk, PB.ob_mk, PB.nt_mk, PB.pr_mk, PB.out_mk, ty, k0, k1, k2, k3, ex 3 4 (by decide) (by decide) (by decide) k3]
          · by_cases k4 : kwB 4 (h.1 78) t = true
            · simp [Tok.ty_mk, Tok.st_mk, Tok.nx_mk, Tok.val_mk, PA.i_mk, PA.due_mk, PA.S_mk, PA.ob_mk, PA.on_mk, PA.pr_mk, PA.out_mk, PB.i_mk, PB.ob_mk, PB.nt_mk, PB.pr_mk, PB.out_mk, ty, k0, k1, k2, k3, k4]
            · by_cases k5 : kwB 5 (h.1 78) t = true
              · simp [Tok.ty_mk, Tok.st_mk, Tok.nx_mk, Tok.val_mk, PA.i_mk, PA.due_mk, PA.S_mk, PA.ob_mk, PA.on_mk, PA.pr_mk, PA.out_mk, PB.i_mk, PB.ob_mk, PB.nt_mk, PB.pr_mk, PB.out_mk, ty, k0, k1, k2, k3, k4, k5]
              · simp [Tok.ty_mk, Tok.st_mk, Tok.nx_mk, Tok.val_mk, PA.i_mk, PA.due_mk, PA.S_mk, PA.ob_mk, PA.on_mk, PA.pr_mk, PA.out_mk, PB.i_mk, PB.ob_mk, PB.nt_mk, PB.pr_mk, PB.out_mk, ty, k0, k1, k2, k3, k4, k5]
  · simp [Tok.ty_mk, Tok.st_mk, Tok.nx_mk, Tok.val_mk, PA.i_mk, PA.due_mk, PA.S_mk, PA.ob_mk, PA.on_mk, PA.pr_mk, PA.out_mk, PB.i_mk, PB.ob_mk, PB.nt_mk, PB.pr_mk, PB.out_mk, ty]
/-- bytes that are the same make the same words and signs -/
theorem skF_cg {c : Int32 → Bool} {f g : Int32 → Int32} {n : Nat} (e : ∀ p, p < n → f (nI p) = g (nI p)) : ∀ {k p : Nat}, skF c f n k p = skF c g n k p
  | 0, _ => rfl
  | k + 1, p => by
    show (if _ then skF c f n k (p + 1) else p) = (if _ then skF c g n k (p + 1) else p)
    by_cases h : p < n
    · rw [e p h, skF_cg e]
    · rw [if_neg (fun q => h q.1), if_neg (fun q => h q.1)]
theorem dvF_cg {G : Nat → Int32 → Int32 → Int32} {f g : Int32 → Int32} {n : Nat} (e : ∀ p, p < n → f (nI p) = g (nI p)) : ∀ {k p : Nat} {v : Int32}, dvF G f n k p v = dvF G g n k p v
  | 0, _, _ => rfl
  | k + 1, p, v => by
    show (if _ then dvF G f n k (p + 1) (G p v (f (nI p))) else v) = (if _ then dvF G g n k (p + 1) (G p v (g (nI p))) else v)
    by_cases h : p < n
    · rw [e p h, dvF_cg e]
    · rw [if_neg (fun q => h q.1), if_neg (fun q => h q.1)]
theorem tokS_cg {f g : Int32 → Int32} {n p s : Nat} {beh : Prop} [Decidable beh] (e : ∀ p, p < n → f (nI p) = g (nI p)) : tokS f n beh p s = tokS g n beh p s := by
  unfold tokS
  by_cases h : s < n
  · rw [if_pos h, if_pos h, e s h]
    unfold sk dv
    rw [skF_cg e, skF_cg (c := cD) e, dvF_cg e]
  · rw [if_neg h, if_neg h]
theorem tokN_cg {f g : Int32 → Int32} {n : Nat} {t : Tok} (e : ∀ p, p < n → f (nI p) = g (nI p)) : tokN f n t = tokN g n t := by
  unfold tokN
  rw [show sk cB f n t.nx = sk cB g n t.nx from skF_cg e]
  exact tokS_cg e
theorem tks_cg {f g : Int32 → Int32} {n : Nat} (e : ∀ p, p < n → f (nI p) = g (nI p)) : ∀ i, tks f n i = tks g n i
  | 0 => tokN_cg e
  | i + 1 => by
    show tokN f n (tks f n i) = tokN g n (tks g n i)
    rw [tks_cg e i]
    exact tokN_cg e
/-- but for the reader's cells and the steps laid all is as it was -/
noncomputable def frPB (A0 : Nat) (h h' : Hp) : Prop := (∀ o (j : Int32), ¬ (o = 65 ∧ (j = 16 ∨ j = 17 ∨ j = 18 ∨ j = 19 ∨ j = 20 ∨ j = 21 ∨ j = 22 ∨ j = 23 ∨ j = 24 ∨ j = 25 ∨ j = 26) ∨ o = 66 ∧ ∃ k : Nat, k < 192 ∧ j = nI (A0 + k)) → h'.1 o j = h.1 o j) ∧ h'.2 = h.2
section FPB
variable {A0 : Nat} {h h1 h2 : Hp}
theorem frPB_rf : frPB A0 h h := ⟨fun _ _ _ => rfl, rfl⟩
theorem frPB.tr (a : frPB A0 h h1) (b : frPB A0 h1 h2) : frPB A0 h h2 := ⟨fun o j q => (b.1 o j q).trans (a.1 o j q), b.2.trans a.2⟩
theorem frPB.st (f : frPB A0 h h1) {j v : Int32} (hj : j = 16 ∨ j = 17 ∨ j = 18 ∨ j = 19 ∨ j = 20 ∨ j = 21 ∨ j = 22 ∨ j = 23 ∨ j = 24 ∨ j = 25 ∨ j = 26) : frPB A0 h (hI h1 65 j v) := by
  refine ⟨fun o k q => ?_, f.2⟩
  show (if o = 65 ∧ k = j then v else h1.1 o k) = _
  rw [if_neg (fun (e : o = 65 ∧ k = j) => q (Or.inl ⟨e.1, by rw [e.2]; exact hj⟩))]
  exact f.1 o k q
theorem frBB.p (f : frBB A0 h h1) : frPB A0 h h1 := ⟨fun o j q => f.1 o j (fun r => q (by
  rcases r with ⟨r1, r⟩ | r
  · refine Or.inl ⟨r1, ?_⟩
    rcases r with r | r | r | r | r | r | r | r | r
    · exact Or.inr (Or.inl r)
    · exact Or.inr (Or.inr (Or.inl r))
    · exact Or.inr (Or.inr (Or.inr (Or.inl r)))
    · exact Or.inr (Or.inr (Or.inr (Or.inr (Or.inl r))))
    · exact Or.inr (Or.inr (Or.inr (Or.inr (Or.inr (Or.inl r)))))
    · exact Or.inr (Or.inr (Or.inr (Or.inr (Or.inr (Or.inr (Or.inl r))))))
    · exact Or.inr (Or.inr (Or.inr (Or.inr (Or.inr (Or.inr (Or.inr (Or.inl r)))))))
    · exact Or.inr (Or.inr (Or.inr (Or.inr (Or.inr (Or.inr (Or.inr (Or.inr (Or.inl r))))))))
    · exact Or.inr (Or.inr (Or.inr (Or.inr (Or.inr (Or.inr (Or.inr (Or.inr (Or.inr (Or.inr r)))))))))
  · exact Or.inr r)), f.2⟩
end FPB
/-- where the steps of the next TEXT lie -/
noncomputable def adB (tx : Nat) : Nat := if tx < 12 then 604 + 200 * tx else 3200
theorem adB_b {tx : Nat} : 604 ≤ adB tx ∧ adB tx ≤ 3200 := by
  unfold adB
  split <;> omega
/-- how the reference's reading ends: its answer, and what lies there then -/
noncomputable abbrev EnB (h h' : Hp) (A0 : Nat) : Prop := (frPB A0 h h') ∧ (h'.1 65 16 = 0) ∧ (h'.1 65 25 = nI A0)
theorem EnB.fr {h h' : Hp} {A0 : Nat} (self_ : EnB h h' A0) : frPB A0 h h' := self_.1
theorem EnB.e16 {h h' : Hp} {A0 : Nat} (self_ : EnB h h' A0) : h'.1 65 16 = 0 := self_.2.1
theorem EnB.e25 {h h' : Hp} {A0 : Nat} (self_ : EnB h h' A0) : h'.1 65 25 = nI A0 := self_.2.2
theorem cat_finB {f : Int32 → Int32} {key : Nat} {t : Tok} {h : Hp} (k : TkB h t) : h.1 65 19 = 0 ↔ cat f key t = .fin := by
  rw [k.b19]
  constructor
  · intro e
    have := ty2 e (by decide)
    exact cat_0 this
  · intro e
    have t0 := tks_f e
    unfold tyB
    rw [if_neg (fun q => by rw [t0] at q; exact absurd q.1 (by decide)), t0]
noncomputable abbrev St0 (h H : Hp) (A0 n : Nat) : Prop := (TPB H n) ∧ (H.1 65 18 = nI 0) ∧ (H.1 65 19 = tyB ⟨3, 0, 0, 0⟩) ∧ (H.1 65 22 = nI 0) ∧ (H.1 65 23 = nI 0) ∧ (H.1 65 24 = nI 0) ∧ (H.1 65 26 = nI 0) ∧ (H.1 65 25 = nI A0) ∧ (H.1 78 = h.1 78) ∧ (frPB A0 h H)
theorem St0.tp {h H : Hp} {A0 n : Nat} (self_ : St0 h H A0 n) : TPB H n := self_.1
theorem St0.e18 {h H : Hp} {A0 n : Nat} (self_ : St0 h H A0 n) : H.1 65 18 = nI 0 := self_.2.1
theorem St0.e19 {h H : Hp} {A0 n : Nat} (self_ : St0 h H A0 n) : H.1 65 19 = tyB ⟨3, 0, 0, 0⟩ := self_.2.2.1
theorem St0.e22 {h H : Hp} {A0 n : Nat} (self_ : St0 h H A0 n) : H.1 65 22 = nI 0 := self_.2.2.2.1
theorem St0.e23 {h H : Hp} {A0 n : Nat} (self_ : St0 h H A0 n) : H.1 65 23 = nI 0 := self_.2.2.2.2.1
theorem St0.e24 {h H : Hp} {A0 n : Nat} (self_ : St0 h H A0 n) : H.1 65 24 = nI 0 := self_.2.2.2.2.2.1
theorem St0.e26 {h H : Hp} {A0 n : Nat} (self_ : St0 h H A0 n) : H.1 65 26 = nI 0 := self_.2.2.2.2.2.2.1
theorem St0.e25 {h H : Hp} {A0 n : Nat} (self_ : St0 h H A0 n) : H.1 65 25 = nI A0 := self_.2.2.2.2.2.2.2.1
theorem St0.e78 {h H : Hp} {A0 n : Nat} (self_ : St0 h H A0 n) : H.1 78 = h.1 78 := self_.2.2.2.2.2.2.2.2.1
theorem St0.fr {h H : Hp} {A0 n : Nat} (self_ : St0 h H A0 n) : frPB A0 h H := self_.2.2.2.2.2.2.2.2.2
theorem st0 {h : Hp} {n tx : Nat} {v : Int32} (tp : TPB h n) (ex : h.1 66 4 = nI tx) (hx : tx ≤ 12) (c : 12 ≤ h.1 66 4 ∧ v = 3200 ∨ ¬ 12 ≤ h.1 66 4 ∧ v = (600 + (200 * h.1 66 4)) + 4) : St0 h (hI (hI (hI (hI (hI (hI (hI h 65 18 0) 65 19 3) 65 22 0) 65 23 0) 65 24 0) 65 26 0) 65 25 v) (adB tx) n := by
  have ev : v = nI (adB tx) := by
    unfold adB
    rcases c with ⟨c, rfl⟩ | ⟨c, rfl⟩
    · rw [ex] at c
      have := (tx_le (a := 12) (by decide) (by omega)).mp c
      rw [if_neg (by omega)]
      rfl
    · rw [ex] at c ⊢
      have c : tx < 12 := by
        have := (not_congr (tx_le (a := 12) (by decide) (by omega))).mp c
        omega
      rw [if_pos c]
      apply Int32.toInt_inj.mp
      have c1 : (200 : Int32).toInt = 200 := rfl
      have c2 : (600 : Int32).toInt = 600 := rfl
      have c3 : (4 : Int32).toInt = 4 := rfl
      have e1 : (200 * nI tx).toInt = 200 * tx := by rw [Int32.toInt_mul, c1, nI_i (by omega), b32 (by omega) (by omega)]
      have e2 : (600 + 200 * nI tx).toInt = 600 + 200 * tx := by rw [Int32.toInt_add, c2, e1, b32 (by omega) (by omega)]
      rw [Int32.toInt_add, c3, e2, b32 (by omega) (by omega), nI_i (by omega)]
      omega
  refine ⟨?_, by simp [Tok.ty_mk, Tok.st_mk, Tok.nx_mk, Tok.val_mk, PA.i_mk, PA.due_mk, PA.S_mk, PA.ob_mk, PA.on_mk, PA.pr_mk, PA.out_mk, PB.i_mk, PB.ob_mk, PB.nt_mk, PB.pr_mk, PB.out_mk, hI]; rfl, by simp [Tok.ty_mk, Tok.st_mk, Tok.nx_mk, Tok.val_mk, PA.i_mk, PA.due_mk, PA.S_mk, PA.ob_mk, PA.on_mk, PA.pr_mk, PA.out_mk, PB.i_mk, PB.ob_mk, PB.nt_mk, PB.pr_mk, PB.out_mk, hI]; rfl, by simp [Tok.ty_mk, Tok.st_mk, Tok.nx_mk, Tok.val_mk, PA.i_mk, PA.due_mk, PA.S_mk, PA.ob_mk, PA.on_mk, PA.pr_mk, PA.out_mk, PB.i_mk, PB.ob_mk, PB.nt_mk, PB.pr_mk, PB.out_mk, hI]; rfl, by simp [Tok.ty_mk, Tok.st_mk, Tok.nx_mk, Tok.val_mk, PA.i_mk, PA.due_mk, PA.S_mk, PA.ob_mk, PA.on_mk, PA.pr_mk, PA.out_mk, PB.i_mk, PB.ob_mk, PB.nt_mk, PB.pr_mk, PB.out_mk, hI]; rfl, by simp [Tok.ty_mk, Tok.st_mk, Tok.nx_mk, Tok.val_mk, PA.i_mk, PA.due_mk, PA.S_mk, PA.ob_mk, PA.on_mk, PA.pr_mk, PA.out_mk, PB.i_mk, PB.ob_mk, PB.nt_mk, PB.pr_mk, PB.out_mk, hI]; rfl, by simp [Tok.ty_mk, Tok.st_mk, Tok.nx_mk, Tok.val_mk, PA.i_mk, PA.due_mk, PA.S_mk, PA.ob_mk, PA.on_mk, PA.pr_mk, PA.out_mk, PB.i_mk, PB.ob_mk, PB.nt_mk, PB.pr_mk, PB.out_mk, hI]; rfl, by rw [hI_eq, ev], ?_, ?_⟩
  · exact ((((((tp.w (by decide)).w (by decide)).w (by decide)).w (by decide)).w (by decide)).w (by decide)).w (by decide)
  · funext j
    rw [hI_ne (by decide), hI_ne (by decide), hI_ne (by decide), hI_ne (by decide), hI_ne (by decide), hI_ne (by decide), hI_ne (by decide)]
  · exact ((((((frPB_rf.st (by decide)).st (by decide)).st (by decide)).st (by decide)).st (by decide)).st (by decide)).st (by decide)
/-- what the reference's reading answers, by how it went -/
noncomputable def EnR (f : Int32 → Int32) (n key A0 : Nat) (h : Hp) (Q : Option Value → Hp → Prop) : PR → Prop
  | .inr i => ∀ h', EnB h h' A0 → h'.1 65 17 = nI (tks f n i).st → Q (some (.int (-1))) h'
  | .inl b => (cat f key (tks f n b.i) = .fin → ∀ h', EnB h h' A0 → h'.1 65 26 = nI b.pr → h'.1 65 24 = nI b.out.length → SBs (h'.1 66) key A0 b.out → Q (some (.int (nI key))) h') ∧ (cat f key (tks f n b.i) ≠ .fin → ∀ h', EnB h h' A0 → h'.1 65 17 = nI (tks f n b.i).st → Q (some (.int (-1))) h')
theorem keyN_ty {f : Int32 → Int32} {t : Tok} {k : Nat} (h : keyN f t = nI k) (hk : k ≤ 5) : t.ty = 1 := by
  apply Decidable.not_not.mp
  intro n
  unfold keyN at h
  rw [if_neg n] at h
  have := congrArg Int32.toInt h
  rw [nI_i (by omega)] at this
  have c : (-1000000005 : Int32).toInt = -1000000005 := rfl
  rw [c] at this
  omega
theorem frB.p {A0 : Nat} {h h1 : Hp} (f : frB h h1) : frPB A0 h h1 := (f.bb (A0 := A0)).p
theorem pa_no {h H h2 : Hp} {n A0 : Nat} {kv : Int32} {t : Tok} {f : Int32 → Int32} {Q : Option Value → Hp → Prop} (KN : keyN f t = -1000000005 → ∀ h', EnB h h' A0 → h'.1 65 17 = nI t.st → Q (some (.int (-1))) h') (hkv : (if keyN f t = -1000000005 then -1 else keyN f t) = kv) (b : kv < 0) (s : St0 h H A0 n) (f2 : frB H h2) (k2 : TkB h2 t) : Q (some (.int (-1))) (hI h2 65 16 0) := by
  rcases keyN_r (f := f) (t := t) with q | ⟨k, hk, q⟩
  · exact KN q _ ⟨(s.fr.tr f2.p).st (by decide), hI_eq, (hI_j (by decide)).trans ((f2.1 65 25 (by decide)).trans s.e25)⟩ ((hI_j (by decide)).trans k2.b17)
  · exfalso
    have c : (-1000000005 : Int32).toInt = -1000000005 := rfl
    rw [q, if_neg (fun e => by have := congrArg Int32.toInt e; rw [nI_i (by omega), c] at this; omega)] at hkv
    rw [← hkv, Int32.lt_iff_toInt_lt, nI_i (by omega)] at b
    have c0 : (0 : Int32).toInt = 0 := rfl
    omega

theorem c_textAtB {d : Nat} {Q : Option Value → Hp → Prop} {h : Hp} {x : Int32} (k : Q (some (.int (600 + (200 * x)))) h) : Call (d + 1) 166 [.ref 65, .int x] h Q := by
  refine call_of (rfl : psM[166]? = some _) rfl rfl (rcvV rfl) (fun X hX => ?_)
  show X (0, [some (.ref 65), some (.int x)], [], h)
  refine go hX 5 (gs := [True, True, True, True, True]) (z' := (9, [some (.ref 65), some (.int x)], [.int (600 + (200 * x))], h)) rfl ⟨trivial, trivial, trivial, trivial, trivial, trivial⟩ ?_
  refine rt_ hX (G := True) (r := some (.int (600 + (200 * x)))) rfl trivial ?_
  exact k
theorem pa_r {h H h2 h3 : Hp} {n A0 key : Nat} (by_ : BY (h.1 78) n) (a0 : 604 ≤ A0 ∧ A0 ≤ 3200) (s : St0 h H A0 n) (f2 : frB H h2) (f3 : frB h2 h3) (k3 : TkB h3 (tokN (h.1 78) n (tks (h.1 78) n 0))) (tp : TPB h n) : RdB h3 h3 (h.1 78) n key A0 ⟨1, 0, 0, 0, []⟩ := by
  have e : ∀ j : Int32, ¬ (j = 17 ∨ j = 18 ∨ j = 19 ∨ j = 20 ∨ j = 21) → h3.1 65 j = H.1 65 j := fun j hj => (f3.1 65 j (fun q => hj q.2)).trans (f2.1 65 j (fun q => hj q.2))
  have w := tks_nx by_ 0
  refine ⟨(e 22 (by decide)).trans s.e22, (e 23 (by decide)).trans s.e23, (e 26 (by decide)).trans s.e26, (e 24 (by decide)).trans s.e24, trivial, k3, ⟨tp.hn, (e 16 (by decide)).trans s.tp.en⟩, ?_, (e 25 (by decide)).trans s.e25, a0, Nat.zero_le _, Nat.zero_le _, Nat.le_refl _, by decide, by dsimp only [Tok.ty_mk, Tok.st_mk, Tok.nx_mk, Tok.val_mk, PA.i_mk, PA.due_mk, PA.S_mk, PA.ob_mk, PA.on_mk, PA.pr_mk, PA.out_mk, PB.i_mk, PB.ob_mk, PB.nt_mk, PB.pr_mk, PB.out_mk]; omega, frBB_rf⟩
  exact (funext fun j => (f3.1 78 j (by simp [Tok.ty_mk, Tok.st_mk, Tok.nx_mk, Tok.val_mk, PA.i_mk, PA.due_mk, PA.S_mk, PA.ob_mk, PA.on_mk, PA.pr_mk, PA.out_mk, PB.i_mk, PB.ob_mk, PB.nt_mk, PB.pr_mk, PB.out_mk])).trans (f2.1 78 j (by simp [Tok.ty_mk, Tok.st_mk, Tok.nx_mk, Tok.val_mk, PA.i_mk, PA.due_mk, PA.S_mk, PA.ob_mk, PA.on_mk, PA.pr_mk, PA.out_mk, PB.i_mk, PB.ob_mk, PB.nt_mk, PB.pr_mk, PB.out_mk]))).trans s.e78
theorem pa_key0 {d : Nat} {Q : Option Value → Hp → Prop} {X : Cf → Prop} (hX : Clo (Call (d + 105)) cd224 (some .int) Q X) {h H h2 : Hp} {n A0 key : Nat} (by_ : BY (h.1 78) n) (tp : TPB h n) (a0 : 604 ≤ A0 ∧ A0 ≤ 3200) (hkey : key ≤ 5) (hq : keyN (h.1 78) (tks (h.1 78) n 0) = nI key) (s : St0 h H A0 n) (f2 : frB H h2) (k2 : TkB h2 (tks (h.1 78) n 0)) (e78 : h2.1 78 = h.1 78) (KK : ∀ key, key ≤ 5 → keyN (h.1 78) (tks (h.1 78) n 0) = nI key → ∀ r, prs (fun i => cat (h.1 78) key (tks (h.1 78) n i)) false 1 ⟨1, 0, 0, 0, []⟩ r → EnR (h.1 78) n key A0 h Q r) : X (86, [some (.ref 65), some (.int (nI key)), some (.int 1)], [], h2) := by
  have w0 := tks_w by_ 0
  have ty1 := keyN_ty hq hkey
  have tp2 : TPB h2 n := ⟨tp.hn, (f2.1 65 16 (by decide)).trans s.tp.en⟩
  refine go hX 1 (gs := [True]) (z' := (87, [some (.ref 65), some (.int (nI key)), some (.int 1)], [.ref 65], h2)) rfl ⟨trivial, trivial⟩ ?_
  refine cl hX 211 1 [.ref 65] [] rfl rfl rfl rfl ?_
  refine c_next (k := tks (h.1 78) n 0) tp2 k2.b18 k2.b19 w0.w2 (fun q => by rw [ty1] at q; exact absurd q (by decide)) (fun _ => by have := w0.w6 (by rw [ty1]; decide); omega) (fun h3 f3 k3 => ?_)
  rw [e78] at k3
  have R0 : RdB h3 h3 (h.1 78) n key A0 ⟨1, 0, 0, 0, []⟩ := pa_r by_ a0 s f2 f3 k3 tp
  show X (90, [some (.ref 65), some (.int (nI key)), some (.int 1)], [], h3)
  refine go hX 2 (gs := [True, True]) (z' := (92, [some (.ref 65), some (.int (nI key)), some (.int 1)], [.int (nI key), .ref 65], h3)) rfl ⟨trivial, trivial, trivial⟩ ?_
  refine cl hX 218 2 [.ref 65, .int (nI key)] [] rfl rfl rfl rfl ?_
  refine SubB.two (SubB.dp (lv_all (A0 := A0) by_ hkey 16).2 (by omega)) R0 (by decide) (by decide) (fun bb h4 p1 r1 => ?_) (fun i1 h4 p1 e1 => ?_)
  ·
    show X (95, [some (.ref 65), some (.int (nI key)), some (.int 1)], [.int 1], h4)
    refine go hX 4 (gs := [True, True, True, True]) (z' := (if (h4.1 65 19) = 0 then 105 else 109, [some (.ref 65), some (.int (nI key)), some (.int 1)], [], h4)) rfl ⟨trivial, trivial, trivial, trivial, trivial⟩ ?_
    refine br (fun b1 => ?_) (fun b1 => ?_)
    ·
      refine go hX 10 (gs := [True, True, True, True, True, True, True, True, True, True]) (z' := (125, [some (.ref 65), some (.int (nI key)), some (.int 1)], [.int (nI key)], (hI h4 65 16 0))) rfl ⟨trivial, trivial, trivial, trivial, trivial, trivial, trivial, trivial, trivial, trivial, trivial⟩ ?_
      refine rt_ hX (G := True) (r := some (.int (nI key))) rfl trivial ?_
      have fi := (cat_finB (f := h.1 78) (key := key) r1.tk).mp b1
      exact (KK key hkey hq (.inl bb) p1).1 fi _ ⟨(((s.fr.tr f2.p).tr f3.p).tr r1.fr.p).st (by decide), hI_eq, (hI_j (by decide)).trans r1.ba⟩ ((hI_j (by decide)).trans r1.pr) ((hI_j (by decide)).trans r1.so) (r1.sb.cg (fun _ _ => hI_ne (by decide)))
    ·
      refine go hX 8 (gs := [True, True, True, True, True, True, True, True]) (z' := (125, [some (.ref 65), some (.int (nI key)), some (.int 0)], [.int (-1)], (hI h4 65 16 0))) rfl ⟨trivial, trivial, trivial, trivial, trivial, trivial, trivial, trivial, trivial⟩ ?_
      refine rt_ hX (G := True) (r := some (.int (-1))) rfl trivial ?_
      have fi := (not_congr (cat_finB (f := h.1 78) (key := key) r1.tk)).mp b1
      exact (KK key hkey hq (.inl bb) p1).2 fi _ ⟨(((s.fr.tr f2.p).tr f3.p).tr r1.fr.p).st (by decide), hI_eq, (hI_j (by decide)).trans r1.ba⟩ ((hI_j (by decide)).trans r1.tk.b17)
  ·
    show X (95, [some (.ref 65), some (.int (nI key)), some (.int 1)], [.int 0], h4)
    refine go hX 9 (gs := [True, True, True, True, True, True, True, True, True]) (z' := (125, [some (.ref 65), some (.int (nI key)), some (.int 0)], [.int (-1)], (hI h4 65 16 0))) rfl ⟨trivial, trivial, trivial, trivial, trivial, trivial, trivial, trivial, trivial, trivial⟩ ?_
    refine rt_ hX (G := True) (r := some (.int (-1))) rfl trivial ?_
    exact (KK key hkey hq (.inr i1) p1) _ ⟨(((s.fr.tr f2.p).tr f3.p).tr e1.2.p).st (by decide), hI_eq, (hI_j (by decide)).trans ((e1.2.1 65 25 (by simp [Tok.ty_mk, Tok.st_mk, Tok.nx_mk, Tok.val_mk, PA.i_mk, PA.due_mk, PA.S_mk, PA.ob_mk, PA.on_mk, PA.pr_mk, PA.out_mk, PB.i_mk, PB.ob_mk, PB.nt_mk, PB.pr_mk, PB.out_mk])).trans R0.ba)⟩ ((hI_j (by decide)).trans e1.1)
theorem pa_key {d : Nat} {Q : Option Value → Hp → Prop} {X : Cf → Prop} (hX : Clo (Call (d + 105)) cd224 (some .int) Q X) {h H h2 : Hp} {n tx : Nat} {kv : Int32} (by_ : BY (h.1 78) n) (tp : TPB h n) (hkv : (if keyN (h.1 78) (tks (h.1 78) n 0) = -1000000005 then -1 else keyN (h.1 78) (tks (h.1 78) n 0)) = kv) (b : ¬ kv < 0) (s : St0 h H (adB tx) n) (f2 : frB H h2) (k2 : TkB h2 (tks (h.1 78) n 0)) (e78 : h2.1 78 = h.1 78) (KK : ∀ key, key ≤ 5 → keyN (h.1 78) (tks (h.1 78) n 0) = nI key → ∀ r, prs (fun i => cat (h.1 78) key (tks (h.1 78) n i)) false 1 ⟨1, 0, 0, 0, []⟩ r → EnR (h.1 78) n key (adB tx) h Q r) : X (86, [some (.ref 65), some (.int kv), some (.int 1)], [], h2) := by
  rcases keyN_r (f := h.1 78) (t := tks (h.1 78) n 0) with q | ⟨key, hkey, q⟩
  · rw [if_pos q] at hkv
    exact absurd (by rw [← hkv]; decide) b
  · have c : (-1000000005 : Int32).toInt = -1000000005 := rfl
    rw [if_neg (fun e => by rw [q] at e; have := congrArg Int32.toInt e; rw [nI_i (by omega), c] at this; omega), q] at hkv
    rw [← hkv]
    exact pa_key0 hX by_ tp adB_b hkey q s f2 k2 e78 KK
theorem c_parse {d : Nat} {Q : Option Value → Hp → Prop} {h : Hp} {n tx : Nat} (tp : TPB h n) (by_ : BY (h.1 78) n) (ex : h.1 66 4 = nI tx) (hx : tx ≤ 12) (KN : keyN (h.1 78) (tks (h.1 78) n 0) = -1000000005 → ∀ h', EnB h h' (adB tx) → h'.1 65 17 = nI (tks (h.1 78) n 0).st → Q (some (.int (-1))) h') (KK : ∀ key, key ≤ 5 → keyN (h.1 78) (tks (h.1 78) n 0) = nI key → ∀ r, prs (fun i => cat (h.1 78) key (tks (h.1 78) n i)) false 1 ⟨1, 0, 0, 0, []⟩ r → EnR (h.1 78) n key (adB tx) h Q r) : Call (d + 106) 224 [.ref 65] h Q := by
  refine call_of (rfl : psM[224]? = some _) rfl rfl (rcvV rfl) (fun X hX => ?_)
  show X (0, [some (.ref 65), none, none], [], h)
  refine go hX 25 (gs := [True, True, ibd 4 3400, True, True, True, True, True, True, True, True, True, True, True, True, True, True, True, True, True, True, True, True, True, True]) (z' := (if 12 ≤ (h.1 66 4) then 57 else 42, [some (.ref 65), none, none], [.ref 65], (hI (hI (hI (hI (hI (hI h 65 18 0) 65 19 3) 65 22 0) 65 23 0) 65 24 0) 65 26 0))) rfl ⟨trivial, trivial, ?_, trivial, trivial, trivial, trivial, trivial, trivial, trivial, trivial, trivial, trivial, trivial, trivial, trivial, trivial, trivial, trivial, trivial, trivial, trivial, trivial, trivial, trivial, trivial⟩ ?_
  · exact ibd_of (B := 3400) rfl (by decide) (by decide)
  refine br (fun b1 => ?_) (fun b1 => ?_)
  ·
    refine go hX 3 (gs := [True, True, True]) (z' := (64, [some (.ref 65), none, none], [.ref 65], (hI (hI (hI (hI (hI (hI (hI h 65 18 0) 65 19 3) 65 22 0) 65 23 0) 65 24 0) 65 26 0) 65 25 3200))) rfl ⟨trivial, trivial, trivial, trivial⟩ ?_
    refine cl hX 211 1 [.ref 65] [] rfl rfl rfl rfl ?_
    generalize hH : (hI (hI (hI (hI (hI (hI (hI h 65 18 0) 65 19 3) 65 22 0) 65 23 0) 65 24 0) 65 26 0) 65 25 3200) = H
    have s : St0 h H (adB tx) n := by rw [← hH]; exact st0 tp ex hx (Or.inl ⟨b1, rfl⟩)
    clear hH
    refine c_next (k := ⟨3, 0, 0, 0⟩) s.tp s.e18 s.e19 (Nat.zero_le _) (fun q => absurd q (by decide)) (fun q => by rcases q with q | q <;> exact absurd q (by decide)) (fun h2 f2 k2 => ?_)
    show X (67, [some (.ref 65), none, none], [], h2)
    refine go hX 1 (gs := [True]) (z' := (68, [some (.ref 65), none, none], [.ref 65], h2)) rfl ⟨trivial, trivial⟩ ?_
    refine cl hX 215 1 [.ref 65] [] rfl rfl rfl rfl ?_
    rw [s.e78] at k2
    have w0 := tks_w by_ 0
    have e78 : h2.1 78 = h.1 78 := (funext fun j => f2.1 78 j (by simp [Tok.ty_mk, Tok.st_mk, Tok.nx_mk, Tok.val_mk, PA.i_mk, PA.due_mk, PA.S_mk, PA.ob_mk, PA.on_mk, PA.pr_mk, PA.out_mk, PB.i_mk, PB.ob_mk, PB.nt_mk, PB.pr_mk, PB.out_mk])).trans s.e78
    have w0' : TkW (h2.1 78) n (tks (h.1 78) n 0) := by rw [e78]; exact w0
    have tp2 : TPB h2 n := ⟨tp.hn, (f2.1 65 16 (by decide)).trans s.tp.en⟩
    refine c_keyB tp2 k2.b17 k2.b18 w0.w1 w0.w2 ?_
    rw [keyB_eq w0' tp.hn k2, e78]
    generalize hkv : (if keyN (h.1 78) (tks (h.1 78) n 0) = -1000000005 then -1 else keyN (h.1 78) (tks (h.1 78) n 0)) = kv
    show X (71, [some (.ref 65), none, none], [.int kv], h2)
    refine go hX 3 (gs := [True, True, True]) (z' := (if kv < 0 then 80 else 76, [some (.ref 65), some (.int kv), none], [], h2)) rfl ⟨trivial, trivial, trivial, trivial⟩ ?_
    refine br (fun b2 => ?_) (fun b2 => ?_)
    ·
      refine go hX 10 (gs := [True, True, True, True, True, True, True, True, True, True]) (z' := (125, [some (.ref 65), some (.int kv), some (.int 0)], [.int (-1)], (hI h2 65 16 0))) rfl ⟨trivial, trivial, trivial, trivial, trivial, trivial, trivial, trivial, trivial, trivial, trivial⟩ ?_
      refine rt_ hX (G := True) (r := some (.int (-1))) rfl trivial ?_
      exact pa_no KN hkv b2 s f2 k2
    ·
      refine go hX 5 (gs := [True, True, True, True, True]) (z' := (86, [some (.ref 65), some (.int kv), some (.int 1)], [], h2)) rfl ⟨trivial, trivial, trivial, trivial, trivial, trivial⟩ ?_
      exact pa_key hX by_ tp hkv b2 s f2 k2 e78 KK
  ·
    refine go hX 5 (gs := [ibd 4 3400, True, True, True, True]) (z' := (49, [some (.ref 65), none, none], [.int (h.1 66 4), .ref 65, .ref 65], (hI (hI (hI (hI (hI (hI h 65 18 0) 65 19 3) 65 22 0) 65 23 0) 65 24 0) 65 26 0))) rfl ⟨?_, trivial, trivial, trivial, trivial, trivial⟩ ?_
    · exact ibd_of (B := 3400) rfl (by decide) (by decide)
    refine cl hX 166 2 [.ref 65, .int (h.1 66 4)] [.ref 65] rfl rfl rfl rfl ?_
    refine c_textAtB ?_
    show X (52, [some (.ref 65), none, none], [.int (600 + (200 * (h.1 66 4))), .ref 65], (hI (hI (hI (hI (hI (hI h 65 18 0) 65 19 3) 65 22 0) 65 23 0) 65 24 0) 65 26 0))
    refine go hX 5 (gs := [True, True, True, True, True]) (z' := (64, [some (.ref 65), none, none], [.ref 65], (hI (hI (hI (hI (hI (hI (hI h 65 18 0) 65 19 3) 65 22 0) 65 23 0) 65 24 0) 65 26 0) 65 25 ((600 + (200 * (h.1 66 4))) + 4)))) rfl ⟨trivial, trivial, trivial, trivial, trivial, trivial⟩ ?_
    refine cl hX 211 1 [.ref 65] [] rfl rfl rfl rfl ?_
    generalize hH : (hI (hI (hI (hI (hI (hI (hI h 65 18 0) 65 19 3) 65 22 0) 65 23 0) 65 24 0) 65 26 0) 65 25 ((600 + (200 * (h.1 66 4))) + 4)) = H
    have s : St0 h H (adB tx) n := by rw [← hH]; exact st0 tp ex hx (Or.inr ⟨b1, rfl⟩)
    clear hH
    refine c_next (k := ⟨3, 0, 0, 0⟩) s.tp s.e18 s.e19 (Nat.zero_le _) (fun q => absurd q (by decide)) (fun q => by rcases q with q | q <;> exact absurd q (by decide)) (fun h2 f2 k2 => ?_)
    show X (67, [some (.ref 65), none, none], [], h2)
    refine go hX 1 (gs := [True]) (z' := (68, [some (.ref 65), none, none], [.ref 65], h2)) rfl ⟨trivial, trivial⟩ ?_
    refine cl hX 215 1 [.ref 65] [] rfl rfl rfl rfl ?_
    rw [s.e78] at k2
    have w0 := tks_w by_ 0
    have e78 : h2.1 78 = h.1 78 := (funext fun j => f2.1 78 j (by simp [Tok.ty_mk, Tok.st_mk, Tok.nx_mk, Tok.val_mk, PA.i_mk, PA.due_mk, PA.S_mk, PA.ob_mk, PA.on_mk, PA.pr_mk, PA.out_mk, PB.i_mk, PB.ob_mk, PB.nt_mk, PB.pr_mk, PB.out_mk])).trans s.e78
    have w0' : TkW (h2.1 78) n (tks (h.1 78) n 0) := by rw [e78]; exact w0
    have tp2 : TPB h2 n := ⟨tp.hn, (f2.1 65 16 (by decide)).trans s.tp.en⟩
    refine c_keyB tp2 k2.b17 k2.b18 w0.w1 w0.w2 ?_
    rw [keyB_eq w0' tp.hn k2, e78]
    generalize hkv : (if keyN (h.1 78) (tks (h.1 78) n 0) = -1000000005 then -1 else keyN (h.1 78) (tks (h.1 78) n 0)) = kv
    show X (71, [some (.ref 65), none, none], [.int kv], h2)
    refine go hX 3 (gs := [True, True, True]) (z' := (if kv < 0 then 80 else 76, [some (.ref 65), some (.int kv), none], [], h2)) rfl ⟨trivial, trivial, trivial, trivial⟩ ?_
    refine br (fun b3 => ?_) (fun b3 => ?_)
    ·
      refine go hX 10 (gs := [True, True, True, True, True, True, True, True, True, True]) (z' := (125, [some (.ref 65), some (.int kv), some (.int 0)], [.int (-1)], (hI h2 65 16 0))) rfl ⟨trivial, trivial, trivial, trivial, trivial, trivial, trivial, trivial, trivial, trivial, trivial⟩ ?_
      refine rt_ hX (G := True) (r := some (.int (-1))) rfl trivial ?_
      exact pa_no KN hkv b3 s f2 k2
    ·
      refine go hX 5 (gs := [True, True, True, True, True]) (z' := (86, [some (.ref 65), some (.int kv), some (.int 1)], [], h2)) rfl ⟨trivial, trivial, trivial, trivial, trivial, trivial⟩ ?_
      exact pa_key hX by_ tp hkv b3 s f2 k2 e78 KK
