/-- NAMES of a KEY -/
noncomputable def nmT (key : Nat) : List Nat := stT'.getD (6 + key) []
/-- what a word or sign is to a reader of a KEY's E -/
noncomputable def cat (f : Int32 → Int32) (key : Nat) (t : Tok) : Tk :=
  if t.ty = 0 then .fin
  else if t.ty = 2 then (if t.nx - t.st ≤ 4 then .part t.val.toInt else .bad)
  else if t.ty = 1 then (if t.nx - t.st = 1 ∧ 0 ≤ sIx (nmT key) (f (nI t.st)) 0 then .part (10000 + sIx (nmT key) (f (nI t.st)) 0).toInt else .bad)
  else if t.ty = 3 then (if t.val = 33 then .bang else if t.val = 40 then .opn else if t.val = 41 then .cls else if 1 ≤ bnd t.val.toInt then .op t.val.toInt else .bad)
  else .bad
/-- what is sure of a word or sign -/
noncomputable abbrev TkW (f : Int32 → Int32) (n : Nat) (t : Tok) : Prop := (t.st ≤ t.nx) ∧ (t.nx ≤ n) ∧ (t.ty = 0 ∨ t.ty = 1 ∨ t.ty = 2 ∨ t.ty = 3 ∨ t.ty = 4) ∧ (t.ty = 1 → 0 ≤ f (nI t.st) ∧ f (nI t.st) ≤ 255) ∧ (t.ty = 3 → 0 ≤ t.val.toInt ∧ t.val.toInt ≤ 255) ∧ (t.ty ≠ 0 → t.st < t.nx)
theorem TkW.w1 {f : Int32 → Int32} {n : Nat} {t : Tok} (self_ : TkW f n t) : t.st ≤ t.nx := self_.1
theorem TkW.w2 {f : Int32 → Int32} {n : Nat} {t : Tok} (self_ : TkW f n t) : t.nx ≤ n := self_.2.1
theorem TkW.w3 {f : Int32 → Int32} {n : Nat} {t : Tok} (self_ : TkW f n t) : t.ty = 0 ∨ t.ty = 1 ∨ t.ty = 2 ∨ t.ty = 3 ∨ t.ty = 4 := self_.2.2.1
theorem TkW.w4 {f : Int32 → Int32} {n : Nat} {t : Tok} (self_ : TkW f n t) : t.ty = 1 → 0 ≤ f (nI t.st) ∧ f (nI t.st) ≤ 255 := self_.2.2.2.1
theorem TkW.w5 {f : Int32 → Int32} {n : Nat} {t : Tok} (self_ : TkW f n t) : t.ty = 3 → 0 ≤ t.val.toInt ∧ t.val.toInt ≤ 255 := self_.2.2.2.2.1
theorem TkW.w6 {f : Int32 → Int32} {n : Nat} {t : Tok} (self_ : TkW f n t) : t.ty ≠ 0 → t.st < t.nx := self_.2.2.2.2.2
theorem tx_le4 {t : Tok} {n : Nat} {f : Int32 → Int32} {h : Hp} (w : TkW f n t) (hn : n ≤ 96) (hk : TkA h t) {k : Nat} (hk4 : k ≤ 4000) : (h.1 55 6 - h.1 55 5 ≤ nI k ↔ t.nx - t.st ≤ k) ∧ (h.1 55 6 - h.1 55 5 = nI k ↔ t.nx - t.st = k) := by
  have := w.w1
  have := w.w2
  rw [hk.1, hk.2.1, nI_sb w.w1 (by omega)]
  exact ⟨tx_le (by omega) hk4, nIle_eq (by omega) hk4⟩
theorem RdA.w {h h' : Hp} {J : List Int32} {a : PA} (r : RdA h a) (g : SG h' a.S a.out) (f : frRd J h h') (j4 : ¬ (4 : Int32) ∈ J) (j9 : ¬ (9 : Int32) ∈ J) (j10 : ¬ (10 : Int32) ∈ J) (j11 : ¬ (11 : Int32) ∈ J) : RdA h' a := ⟨g, r.sb, (f.at55 j9).trans r.du, (f.at55 j10).trans r.ob, (f.at55 j11).trans r.on, (f.at55 j4).trans r.pr, r.b1, r.b2, r.b3⟩
theorem endN_sb {S : List Int} : ∀ {o : Nat} {out : List Int}, SB S → SB (endN o S out).2.1 := by
  induction S with
  | nil => intro o out h; rw [endN_st (by decide)]; exact h
  | cons b T ih =>
    intro o out h
    by_cases hb : b = 33
    · subst hb
      cases o with
      | zero => rw [endN_0 rfl]; exact h
      | succ o => exact ih (o := o) (out := sg 33 :: out) (fun x hx => h x (List.mem_cons_of_mem _ hx))
    · rw [endN_st (S := b :: T) hb]; exact h
theorem endN_le {S : List Int} : ∀ {o : Nat} {out : List Int}, (endN o S out).1 ≤ o := by
  induction S with
  | nil => intro o out; rw [endN_st (by decide)]; exact Nat.le_refl _
  | cons b T ih =>
    intro o out
    by_cases hb : b = 33
    · subst hb
      cases o with
      | zero => rw [endN_0 rfl]; exact Nat.le_refl _
      | succ o => exact Nat.le_succ_of_le (ih (o := o) (out := sg 33 :: out))
    · rw [endN_st (S := b :: T) hb]; exact Nat.le_refl _
theorem settle_sb {L : Nat} {S : List Int} : ∀ {out : List Int}, SB S → SB (settle L S out).1 := by
  induction S with
  | nil => intro out h; exact h
  | cons b T ih =>
    intro out h
    show SB (if L ≤ bnd b then settle L T (sg b :: out) else (b :: T, out)).1
    split
    · exact ih (fun x hx => h x (List.mem_cons_of_mem _ hx))
    · exact h
theorem RdA.tp {h h' : Hp} {a : PA} {s : Int} (r : RdA h a) (f : frRd [4, 9, 11] h h') (g : SG h' (endN a.on a.S (s :: a.out)).2.1 (endN a.on a.S (s :: a.out)).2.2) (e11 : h'.1 55 11 = nI (endN a.on a.S (s :: a.out)).1) (e9 : h'.1 55 9 = 0) (e4 : h'.1 55 4 = nI (a.pr + 1)) (hp : a.pr < 4000) (i : Nat) : RdA h' ⟨i, false, (endN a.on a.S (s :: a.out)).2.1, a.ob, (endN a.on a.S (s :: a.out)).1, a.pr + 1, (endN a.on a.S (s :: a.out)).2.2⟩ := ⟨g, endN_sb r.sb, e9, (f.at55 (by decide)).trans r.ob, e11, e4, r.b1, Nat.le_trans endN_le r.b2, hp⟩
theorem mo4911 : ∀ j : Int32, j ∈ ([4, 9, 11] : List Int32) → j ∈ ([4, 9, 10, 11] : List Int32) := fun j hj => by
  rcases List.mem_cons.mp hj with rfl | hj
  · decide
  · rcases List.mem_cons.mp hj with rfl | hj
    · decide
    · rcases List.mem_cons.mp hj with rfl | hj
      · decide
      · cases hj
theorem i2c_b {b : Int32} (h0 : 0 ≤ b) (h1 : b ≤ 255) : ((Int32.toUInt32 b) % 65536).toInt32 = b := by
  rw [Int32.le_iff_toInt_le] at h0 h1
  have c0 : (0 : Int32).toInt = 0 := rfl
  have c255 : (255 : Int32).toInt = 255 := rfl
  apply Int32.toInt_inj.mp
  have e : (Int32.toUInt32 b).toNat = b.toInt.toNat := by
    have q : b.toInt = b.toBitVec.toInt := rfl
    have e1 : (Int32.toUInt32 b).toNat = b.toBitVec.toNat := rfl
    rw [BitVec.toInt_eq_toNat_cond] at q
    rw [e1]
    split at q <;> omega
  show ((Int32.toUInt32 b) % 65536).toBitVec.toInt = _
  have e2 : ((Int32.toUInt32 b) % 65536).toBitVec.toNat = b.toInt.toNat := by
    show ((Int32.toUInt32 b) % 65536).toNat = _
    rw [UInt32.toNat_mod, e]
    show b.toInt.toNat % 65536 = _
    omega
  rw [BitVec.toInt_eq_toNat_cond, e2, if_pos (by omega)]
  omega
theorem c_idxc {d i : Nat} {l : List Nat} {b : Int32} {Q : Option Value → Hp → Prop} {h : Hp} (hl : stT'[i]? = some l) (b0 : 0 ≤ b) (b1 : b ≤ 255) (k : Q (some (.int (sIx l b 0))) h) : Call (d + 1) 902 [.ref (1000 + i), .int ((Int32.toUInt32 b) % 65536).toInt32] h Q := by
  rw [i2c_b b0 b1]
  refine c_idx hl b0 ?_ k
  rw [Int32.le_iff_toInt_le] at b1 ⊢
  have c1 : (255 : Int32).toInt = 255 := rfl
  have c2 : (65535 : Int32).toInt = 65535 := rfl
  omega
theorem mo911 : ∀ j : Int32, j ∈ ([9, 11] : List Int32) → j ∈ ([4, 9, 11] : List Int32) := fun j hj => by
  rcases List.mem_cons.mp hj with rfl | hj
  · decide
  · rcases List.mem_cons.mp hj with rfl | hj
    · decide
    · cases hj
theorem c_takePart {d : Nat} {Q : Option Value → Hp → Prop} {S out : List Int} {h : Hp} {o p : Nat} {v : Int32} (g : SG h S out) (l : S.length + out.length < 96) (eo : h.1 55 11 = nI o) (hn : o ≤ 4000) (ep : h.1 55 4 = nI p) (kk : ∀ h', frRd [4, 9, 11] h h' → SG h' (endN o S (v.toInt :: out)).2.1 (endN o S (v.toInt :: out)).2.2 → h'.1 55 11 = nI (endN o S (v.toInt :: out)).1 → h'.1 55 9 = 0 → h'.1 55 4 = nI (p + 1) → Q (some (.int 1)) h') : Call (d + 3) 41 [.ref 55, .int v] h Q := by
  refine call_of (rfl : psM[41]? = some _) rfl rfl (rcvV rfl) (fun X hX => ?_)
  show X (0, [some (.ref 55), some (.int v)], [], h)
  refine go hX 3 (gs := [True, True, True]) (z' := (5, [some (.ref 55), some (.int v)], [.int v, .ref 56], h)) rfl ⟨trivial, trivial, trivial, trivial⟩ ?_
  refine cl hX 23 2 [.ref 56, .int v] [] rfl rfl rfl rfl ?_
  refine g.psh56 l (fun h1 f1 g1 => ?_)
  show X (8, [some (.ref 55), some (.int v)], [], h1)
  refine go hX 7 (gs := [True, True, True, True, True, True, True]) (z' := (19, [some (.ref 55), some (.int v)], [.ref 55], (hI h1 55 4 ((h1.1 55 4) + 1)))) rfl ⟨trivial, trivial, trivial, trivial, trivial, trivial, trivial, trivial⟩ ?_
  refine cl hX 45 1 [.ref 55] [] rfl rfl rfl rfl ?_
  refine c_endP (o := o) g1.w55 (by rw [hI_j (by decide), f1.at55]; exact eo) hn (fun h2 f2 g2 e2 e9 => ?_)
  show X (22, [some (.ref 55), some (.int v)], [], h2)
  refine go hX 1 (gs := [True]) (z' := (23, [some (.ref 55), some (.int v)], [.int 1], h2)) rfl ⟨trivial, trivial⟩ ?_
  refine rt_ hX (G := isB 1) (r := some (.int 1)) rfl isB1 ?_
  exact kk h2 (((f1.x).st (by decide)).tr (f2.mo mo911)) g2 e2 e9 (by rw [f2.at55 (by decide), hI_eq, f1.at55, ep, tx_1])
theorem SB_cons {S : List Int} {b : Int} (h0 : 0 ≤ b) (h1 : b ≤ 255) (s : SB S) : SB (b :: S) := fun x hx => by
  rcases List.mem_cons.mp hx with rfl | hx
  · exact ⟨h0, h1⟩
  · exact s x hx
theorem c_takeOpening {d : Nat} {Q : Option Value → Hp → Prop} {h : Hp} {a : PA} (r : RdA h a) (hd : a.due = true) (l : a.S.length + a.out.length < 96) (k33 : h.1 55 8 = 33 → a.on < 8 → ∀ h', frRd [4, 9, 10, 11] h h' → RdA h' ⟨a.i + 1, true, 33 :: a.S, a.ob, a.on + 1, a.pr, a.out⟩ → Q (some (.int 1)) h') (k40 : h.1 55 8 = 40 → a.ob < 8 → ∀ h', frRd [4, 9, 10, 11] h h' → RdA h' ⟨a.i + 1, true, 40 :: a.S, a.ob + 1, a.on, a.pr, a.out⟩ → Q (some (.int 1)) h') (k0 : (h.1 55 8 = 33 → a.on < 8 → False) → (h.1 55 8 = 40 → a.ob < 8 → False) → Q (some (.int 0)) h) : Call (d + 2) 42 [.ref 55] h Q := by
  refine call_of (rfl : psM[42]? = some _) rfl rfl (rcvV rfl) (fun X hX => ?_)
  show X (0, [some (.ref 55)], [], h)
  refine go hX 4 (gs := [True, True, True, True]) (z' := (if (h.1 55 8) = 33 then 9 else 31, [some (.ref 55)], [], h)) rfl ⟨trivial, trivial, trivial, trivial, trivial⟩ ?_
  refine br (fun b1 => ?_) (fun b1 => ?_)
  ·
    refine go hX 4 (gs := [True, True, True, True]) (z' := (if 8 ≤ (h.1 55 11) then 31 else 18, [some (.ref 55)], [], h)) rfl ⟨trivial, trivial, trivial, trivial, trivial⟩ ?_
    refine br (fun b2 => ?_) (fun b2 => ?_)
    ·
      refine go hX 4 (gs := [True, True, True, True]) (z' := (if (h.1 55 8) = 40 then 40 else 62, [some (.ref 55)], [], h)) rfl ⟨trivial, trivial, trivial, trivial, trivial⟩ ?_
      refine br (fun b3 => ?_) (fun b3 => ?_)
      ·
        refine go hX 4 (gs := [True, True, True, True]) (z' := (if 8 ≤ (h.1 55 10) then 62 else 49, [some (.ref 55)], [], h)) rfl ⟨trivial, trivial, trivial, trivial, trivial⟩ ?_
        refine br (fun b4 => ?_) (fun b4 => ?_)
        ·
          refine go hX 1 (gs := [True]) (z' := (63, [some (.ref 55)], [.int 0], h)) rfl ⟨trivial, trivial⟩ ?_
          refine rt_ hX (G := isB 0) (r := some (.int 0)) rfl isB0 ?_
          exact absurd (b1.symm.trans b3) (by decide)
        ·
          refine go hX 11 (gs := [True, True, True, True, True, True, True, True, True, True, True]) (z' := (72, [some (.ref 55)], [.int (h.1 55 8), .ref 58], (hI h 55 10 ((h.1 55 10) + 1)))) rfl ⟨trivial, trivial, trivial, trivial, trivial, trivial, trivial, trivial, trivial, trivial, trivial, trivial⟩ ?_
          refine cl hX 23 2 [.ref 58, .int (h.1 55 8)] [] rfl rfl rfl rfl ?_
          refine (r.g.w55).psh58 l (fun h1 f1 g1 => ?_)
          show X (75, [some (.ref 55)], [], h1)
          refine go hX 1 (gs := [True]) (z' := (76, [some (.ref 55)], [.int 1], h1)) rfl ⟨trivial, trivial⟩ ?_
          refine rt_ hX (G := isB 1) (r := some (.int 1)) rfl isB1 ?_
          exact absurd (b1.symm.trans b3) (by decide)
      ·
        refine go hX 1 (gs := [True]) (z' := (63, [some (.ref 55)], [.int 0], h)) rfl ⟨trivial, trivial⟩ ?_
        refine rt_ hX (G := isB 0) (r := some (.int 0)) rfl isB0 ?_
        exact k0 (fun _ q => absurd ((tx_le (a := 8) (b := a.on) (by decide) (by have := r.b2; omega)).mp (by rw [← r.on]; exact b2)) (by omega)) (fun q _ => b3 q)
    ·
      refine go hX 11 (gs := [True, True, True, True, True, True, True, True, True, True, True]) (z' := (72, [some (.ref 55)], [.int (h.1 55 8), .ref 58], (hI h 55 11 ((h.1 55 11) + 1)))) rfl ⟨trivial, trivial, trivial, trivial, trivial, trivial, trivial, trivial, trivial, trivial, trivial, trivial⟩ ?_
      refine cl hX 23 2 [.ref 58, .int (h.1 55 8)] [] rfl rfl rfl rfl ?_
      refine (r.g.w55).psh58 l (fun h1 f1 g1 => ?_)
      show X (75, [some (.ref 55)], [], h1)
      refine go hX 1 (gs := [True]) (z' := (76, [some (.ref 55)], [.int 1], h1)) rfl ⟨trivial, trivial⟩ ?_
      refine rt_ hX (G := isB 1) (r := some (.int 1)) rfl isB1 ?_
      have q : ¬ 8 ≤ a.on := (not_congr (tx_le (a := 8) (by decide) (by have := r.b2; omega))).mp (by rw [← r.on]; exact b2)
      refine k33 b1 (by omega) h1 ((frRd_rf.st (by decide)).tr f1.x) ⟨by rw [b1] at g1; exact g1, SB_cons (by decide) (by decide) r.sb, ?_, ?_, ?_, ?_, r.b1, by dsimp only [Tok.ty_mk, Tok.st_mk, Tok.nx_mk, Tok.val_mk, PA.i_mk, PA.due_mk, PA.S_mk, PA.ob_mk, PA.on_mk, PA.pr_mk, PA.out_mk, PB.i_mk, PB.ob_mk, PB.nt_mk, PB.pr_mk, PB.out_mk]; omega, r.b3⟩
      · rw [f1.at55, hI_j (by decide)]; exact r.du.trans (by rw [hd]; rfl)
      · rw [f1.at55, hI_j (by decide)]; exact r.ob
      · rw [f1.at55, hI_eq, r.on]; exact tx_1 _
      · rw [f1.at55, hI_j (by decide)]; exact r.pr
  ·
    refine go hX 4 (gs := [True, True, True, True]) (z' := (if (h.1 55 8) = 40 then 40 else 62, [some (.ref 55)], [], h)) rfl ⟨trivial, trivial, trivial, trivial, trivial⟩ ?_
    refine br (fun b5 => ?_) (fun b5 => ?_)
    ·
      refine go hX 4 (gs := [True, True, True, True]) (z' := (if 8 ≤ (h.1 55 10) then 62 else 49, [some (.ref 55)], [], h)) rfl ⟨trivial, trivial, trivial, trivial, trivial⟩ ?_
      refine br (fun b6 => ?_) (fun b6 => ?_)
      ·
        refine go hX 1 (gs := [True]) (z' := (63, [some (.ref 55)], [.int 0], h)) rfl ⟨trivial, trivial⟩ ?_
        refine rt_ hX (G := isB 0) (r := some (.int 0)) rfl isB0 ?_
        exact k0 (fun q _ => b1 q) (fun _ q => absurd ((tx_le (a := 8) (b := a.ob) (by decide) (by have := r.b1; omega)).mp (by rw [← r.ob]; exact b6)) (by omega))
      ·
        refine go hX 11 (gs := [True, True, True, True, True, True, True, True, True, True, True]) (z' := (72, [some (.ref 55)], [.int (h.1 55 8), .ref 58], (hI h 55 10 ((h.1 55 10) + 1)))) rfl ⟨trivial, trivial, trivial, trivial, trivial, trivial, trivial, trivial, trivial, trivial, trivial, trivial⟩ ?_
        refine cl hX 23 2 [.ref 58, .int (h.1 55 8)] [] rfl rfl rfl rfl ?_
        refine (r.g.w55).psh58 l (fun h1 f1 g1 => ?_)
        show X (75, [some (.ref 55)], [], h1)
        refine go hX 1 (gs := [True]) (z' := (76, [some (.ref 55)], [.int 1], h1)) rfl ⟨trivial, trivial⟩ ?_
        refine rt_ hX (G := isB 1) (r := some (.int 1)) rfl isB1 ?_
        have q : ¬ 8 ≤ a.ob := (not_congr (tx_le (a := 8) (by decide) (by have := r.b1; omega))).mp (by rw [← r.ob]; exact b6)
        refine k40 b5 (by omega) h1 ((frRd_rf.st (by decide)).tr f1.x) ⟨by rw [b5] at g1; exact g1, SB_cons (by decide) (by decide) r.sb, ?_, ?_, ?_, ?_, by dsimp only [Tok.ty_mk, Tok.st_mk, Tok.nx_mk, Tok.val_mk, PA.i_mk, PA.due_mk, PA.S_mk, PA.ob_mk, PA.on_mk, PA.pr_mk, PA.out_mk, PB.i_mk, PB.ob_mk, PB.nt_mk, PB.pr_mk, PB.out_mk]; omega, r.b2, r.b3⟩
        · rw [f1.at55, hI_j (by decide)]; exact r.du.trans (by rw [hd]; rfl)
        · rw [f1.at55, hI_eq, r.ob]; exact tx_1 _
        · rw [f1.at55, hI_j (by decide)]; exact r.on
        · rw [f1.at55, hI_j (by decide)]; exact r.pr
    ·
      refine go hX 1 (gs := [True]) (z' := (63, [some (.ref 55)], [.int 0], h)) rfl ⟨trivial, trivial⟩ ?_
      refine rt_ hX (G := isB 0) (r := some (.int 0)) rfl isB0 ?_
      exact k0 (fun q _ => b1 q) (fun q _ => b5 q)
theorem c_names0 {d : Nat} {Q : Option Value → Hp → Prop} {h : Hp} {x : Int32} (e : x = 0) (k : Q (some (.ref 1006)) h) : Call (d + 1) 38 [.int x] h Q := by
  refine call_of (rfl : psM[38]? = some _) rfl rfl (rcvS rfl) (fun X hX => ?_)
  show X (0, [some (.int x)], [], h)
  refine go hX 2 (gs := [True, True]) (z' := (if x = 0 then 36 else if x = 1 then 39 else if x = 2 then 42 else if x = 3 then 45 else if x = 4 then 48 else 51, [some (.int x)], [], h)) rfl ⟨trivial, trivial, trivial⟩ ?_
  refine br (fun b1 => ?_) (fun b1 => ?_)
  ·
    refine go hX 1 (gs := [True]) (z' := (38, [some (.int x)], [.ref 1006], h)) rfl ⟨trivial, trivial⟩ ?_
    refine rt_ hX (G := True) (r := some (.ref 1006)) rfl trivial ?_
    exact k
  ·
    refine br (fun b2 => ?_) (fun b2 => ?_)
    ·
      refine go hX 1 (gs := [True]) (z' := (41, [some (.int x)], [.ref 1007], h)) rfl ⟨trivial, trivial⟩ ?_
      refine rt_ hX (G := True) (r := some (.ref 1007)) rfl trivial ?_
      exfalso; grind
    ·
      refine br (fun b3 => ?_) (fun b3 => ?_)
      ·
        refine go hX 1 (gs := [True]) (z' := (44, [some (.int x)], [.ref 1008], h)) rfl ⟨trivial, trivial⟩ ?_
        refine rt_ hX (G := True) (r := some (.ref 1008)) rfl trivial ?_
        exfalso; grind
      ·
        refine br (fun b4 => ?_) (fun b4 => ?_)
        ·
          refine go hX 1 (gs := [True]) (z' := (47, [some (.int x)], [.ref 1009], h)) rfl ⟨trivial, trivial⟩ ?_
          refine rt_ hX (G := True) (r := some (.ref 1009)) rfl trivial ?_
          exfalso; grind
        ·
          refine br (fun b5 => ?_) (fun b5 => ?_)
          ·
            refine go hX 1 (gs := [True]) (z' := (50, [some (.int x)], [.ref 1010], h)) rfl ⟨trivial, trivial⟩ ?_
            refine rt_ hX (G := True) (r := some (.ref 1010)) rfl trivial ?_
            exfalso; grind
          ·
            refine go hX 1 (gs := [True]) (z' := (53, [some (.int x)], [.ref 1011], h)) rfl ⟨trivial, trivial⟩ ?_
            refine rt_ hX (G := True) (r := some (.ref 1011)) rfl trivial ?_
            exfalso; grind
theorem c_takeName0 {d : Nat} {Q : Option Value → Hp → Prop} {S out : List Int} {h : Hp} {o p n : Nat} (t : TP h n) (e3 : h.1 55 3 = 0) (pin : 0 ≤ h.1 55 5 ∧ h.1 55 5 < h.1 53 1) (bw : 0 ≤ h.1 54 (h.1 55 5) ∧ h.1 54 (h.1 55 5) ≤ 255) (g : SG h S out) (l : S.length + out.length < 96) (eo : h.1 55 11 = nI o) (hn : o ≤ 4000) (ep : h.1 55 4 = nI p) (kk : h.1 55 6 - h.1 55 5 = 1 → 0 ≤ sIx (nmT 0) (h.1 54 (h.1 55 5)) 0 → ∀ h', frRd [4, 9, 11] h h' → SG h' (endN o S ((10000 + sIx (nmT 0) (h.1 54 (h.1 55 5)) 0).toInt :: out)).2.1 (endN o S ((10000 + sIx (nmT 0) (h.1 54 (h.1 55 5)) 0).toInt :: out)).2.2 → h'.1 55 11 = nI (endN o S ((10000 + sIx (nmT 0) (h.1 54 (h.1 55 5)) 0).toInt :: out)).1 → h'.1 55 9 = 0 → h'.1 55 4 = nI (p + 1) → Q (some (.int 1)) h') (k0 : (h.1 55 6 - h.1 55 5 = 1 → 0 ≤ sIx (nmT 0) (h.1 54 (h.1 55 5)) 0 → False) → Q (some (.int 0)) h) : Call (d + 4) 40 [.ref 55] h Q := by
  refine call_of (rfl : psM[40]? = some _) rfl rfl (rcvV rfl) (fun X hX => ?_)
  show X (0, [some (.ref 55), none], [], h)
  refine go hX 7 (gs := [True, True, True, True, True, True, True]) (z' := (if ((h.1 55 6) - (h.1 55 5)) = 1 then 13 else 38, [some (.ref 55), none], [], h)) rfl ⟨trivial, trivial, trivial, trivial, trivial, trivial, trivial, trivial⟩ ?_
  refine br (fun b1 => ?_) (fun b1 => ?_)
  ·
    refine go hX 2 (gs := [True, True]) (z' := (17, [some (.ref 55), none], [.int (h.1 55 3)], h)) rfl ⟨trivial, trivial, trivial⟩ ?_
    refine cl hX 38 1 [.int (h.1 55 3)] [] rfl rfl rfl rfl ?_
    refine c_names0 e3 ?_
    show X (20, [some (.ref 55), none], [.ref 1006], h)
    refine go hX 4 (gs := [True, True, True, True]) (z' := (28, [some (.ref 55), none], [.int (h.1 55 5), .ref 53, .ref 1006], h)) rfl ⟨trivial, trivial, trivial, trivial, trivial⟩ ?_
    refine cl hX 104 2 [.ref 53, .int (h.1 55 5)] [.ref 1006] rfl rfl rfl rfl ?_
    refine c_atI t.sm pin ?_
    show X (31, [some (.ref 55), none], [.int (h.1 54 (h.1 55 5)), .ref 1006], h)
    refine go hX 1 (gs := [True]) (z' := (32, [some (.ref 55), none], [.int ((Int32.toUInt32 (h.1 54 (h.1 55 5))) % 65536).toInt32, .ref 1006], h)) rfl ⟨trivial, trivial⟩ ?_
    refine cl hX 902 2 [.ref 1006, .int ((Int32.toUInt32 (h.1 54 (h.1 55 5))) % 65536).toInt32] [] rfl rfl rfl rfl ?_
    refine c_idxc (i := 6) rfl bw.1 bw.2 ?_
    show X (35, [some (.ref 55), none], [.int (sIx (nmT 0) (h.1 54 (h.1 55 5)) 0)], h)
    refine go hX 4 (gs := [True, True, True, True]) (z' := (if (sIx (nmT 0) (h.1 54 (h.1 55 5)) 0) < 0 then 60 else 44, [some (.ref 55), some (.int (sIx (nmT 0) (h.1 54 (h.1 55 5)) 0))], [], h)) rfl ⟨trivial, trivial, trivial, trivial, trivial⟩ ?_
    refine br (fun b2 => ?_) (fun b2 => ?_)
    ·
      refine go hX 1 (gs := [True]) (z' := (61, [some (.ref 55), some (.int (sIx (nmT 0) (h.1 54 (h.1 55 5)) 0))], [.int 0], h)) rfl ⟨trivial, trivial⟩ ?_
      refine rt_ hX (G := isB 0) (r := some (.int 0)) rfl isB0 ?_
      exact k0 (fun _ q => absurd b2 (Int32.not_lt.mpr q))
    ·
      refine go hX 4 (gs := [True, True, True, True]) (z' := (50, [some (.ref 55), some (.int (sIx (nmT 0) (h.1 54 (h.1 55 5)) 0))], [.int (10000 + (sIx (nmT 0) (h.1 54 (h.1 55 5)) 0)), .ref 55], h)) rfl ⟨trivial, trivial, trivial, trivial, trivial⟩ ?_
      refine cl hX 41 2 [.ref 55, .int (10000 + (sIx (nmT 0) (h.1 54 (h.1 55 5)) 0))] [] rfl rfl rfl rfl ?_
      refine c_takePart g l eo hn ep (fun h1 f1 g1 e11 e9 e4 => ?_)
      show X (53, [some (.ref 55), some (.int (sIx (nmT 0) (h.1 54 (h.1 55 5)) 0))], [.int 1], h1)
      refine go hX 3 (gs := [True, True, True]) (z' := (61, [some (.ref 55), some (.int (sIx (nmT 0) (h.1 54 (h.1 55 5)) 0))], [.int 1], h1)) rfl ⟨trivial, trivial, trivial, trivial⟩ ?_
      refine rt_ hX (G := isB 1) (r := some (.int 1)) rfl isB1 ?_
      exact kk b1 (Int32.not_lt.mp b2) h1 f1 g1 e11 e9 e4
  ·
    refine go hX 5 (gs := [True, True, True, True, True]) (z' := (61, [some (.ref 55), some (.int (-1))], [.int 0], h)) rfl ⟨trivial, trivial, trivial, trivial, trivial, trivial⟩ ?_
    refine rt_ hX (G := isB 0) (r := some (.int 0)) rfl isB0 ?_
    exact k0 (fun q _ => b1 q)
theorem c_names1 {d : Nat} {Q : Option Value → Hp → Prop} {h : Hp} {x : Int32} (e : x = 1) (k : Q (some (.ref 1007)) h) : Call (d + 1) 38 [.int x] h Q := by
  refine call_of (rfl : psM[38]? = some _) rfl rfl (rcvS rfl) (fun X hX => ?_)
  show X (0, [some (.int x)], [], h)
  refine go hX 2 (gs := [True, True]) (z' := (if x = 0 then 36 else if x = 1 then 39 else if x = 2 then 42 else if x = 3 then 45 else if x = 4 then 48 else 51, [some (.int x)], [], h)) rfl ⟨trivial, trivial, trivial⟩ ?_
  refine br (fun b1 => ?_) (fun b1 => ?_)
  ·
    refine go hX 1 (gs := [True]) (z' := (38, [some (.int x)], [.ref 1006], h)) rfl ⟨trivial, trivial⟩ ?_
    refine rt_ hX (G := True) (r := some (.ref 1006)) rfl trivial ?_
    exfalso; grind
  ·
    refine br (fun b2 => ?_) (fun b2 => ?_)
    ·
      refine go hX 1 (gs := [True]) (z' := (41, [some (.int x)], [.ref 1007], h)) rfl ⟨trivial, trivial⟩ ?_
      refine rt_ hX (G := True) (r := some (.ref 1007)) rfl trivial ?_
      exact k
    ·
      refine br (fun b3 => ?_) (fun b3 => ?_)
      ·
        refine go hX 1 (gs := [True]) (z' := (44, [some (.int x)], [.ref 1008], h)) rfl ⟨trivial, trivial⟩ ?_
        refine rt_ hX (G := True) (r := some (.ref 1008)) rfl trivial ?_
        exfalso; grind
      ·
        refine br (fun b4 => ?_) (fun b4 => ?_)
        ·
          refine go hX 1 (gs := [True]) (z' := (47, [some (.int x)], [.ref 1009], h)) rfl ⟨trivial, trivial⟩ ?_
          refine rt_ hX (G := True) (r := some (.ref 1009)) rfl trivial ?_
          exfalso; grind
        ·
          refine br (fun b5 => ?_) (fun b5 => ?_)
          ·
            refine go hX 1 (gs := [True]) (z' := (50, [some (.int x)], [.ref 1010], h)) rfl ⟨trivial, trivial⟩ ?_
            refine rt_ hX (G := True) (r := some (.ref 1010)) rfl trivial ?_
            exfalso; grind
          ·
            refine go hX 1 (gs := [True]) (z' := (53, [some (.int x)], [.ref 1011], h)) rfl ⟨trivial, trivial⟩ ?_
            refine rt_ hX (G := True) (r := some (.ref 1011)) rfl trivial ?_
            exfalso; grind
theorem c_takeName1 {d : Nat} {Q : Option Value → Hp → Prop} {S out : List Int} {h : Hp} {o p n : Nat} (t : TP h n) (e3 : h.1 55 3 = 1) (pin : 0 ≤ h.1 55 5 ∧ h.1 55 5 < h.1 53 1) (bw : 0 ≤ h.1 54 (h.1 55 5) ∧ h.1 54 (h.1 55 5) ≤ 255) (g : SG h S out) (l : S.length + out.length < 96) (eo : h.1 55 11 = nI o) (hn : o ≤ 4000) (ep : h.1 55 4 = nI p) (kk : h.1 55 6 - h.1 55 5 = 1 → 0 ≤ sIx (nmT 1) (h.1 54 (h.1 55 5)) 0 → ∀ h', frRd [4, 9, 11] h h' → SG h' (endN o S ((10000 + sIx (nmT 1) (h.1 54 (h.1 55 5)) 0).toInt :: out)).2.1 (endN o S ((10000 + sIx (nmT 1) (h.1 54 (h.1 55 5)) 0).toInt :: out)).2.2 → h'.1 55 11 = nI (endN o S ((10000 + sIx (nmT 1) (h.1 54 (h.1 55 5)) 0).toInt :: out)).1 → h'.1 55 9 = 0 → h'.1 55 4 = nI (p + 1) → Q (some (.int 1)) h') (k0 : (h.1 55 6 - h.1 55 5 = 1 → 0 ≤ sIx (nmT 1) (h.1 54 (h.1 55 5)) 0 → False) → Q (some (.int 0)) h) : Call (d + 4) 40 [.ref 55] h Q := by
  refine call_of (rfl : psM[40]? = some _) rfl rfl (rcvV rfl) (fun X hX => ?_)
  show X (0, [some (.ref 55), none], [], h)
  refine go hX 7 (gs := [True, True, True, True, True, True, True]) (z' := (if ((h.1 55 6) - (h.1 55 5)) = 1 then 13 else 38, [some (.ref 55), none], [], h)) rfl ⟨trivial, trivial, trivial, trivial, trivial, trivial, trivial, trivial⟩ ?_
  refine br (fun b1 => ?_) (fun b1 => ?_)
  ·
    refine go hX 2 (gs := [True, True]) (z' := (17, [some (.ref 55), none], [.int (h.1 55 3)], h)) rfl ⟨trivial, trivial, trivial⟩ ?_
    refine cl hX 38 1 [.int (h.1 55 3)] [] rfl rfl rfl rfl ?_
    refine c_names1 e3 ?_
    show X (20, [some (.ref 55), none], [.ref 1007], h)
    refine go hX 4 (gs := [True, True, True, True]) (z' := (28, [some (.ref 55), none], [.int (h.1 55 5), .ref 53, .ref 1007], h)) rfl ⟨trivial, trivial, trivial, trivial, trivial⟩ ?_
    refine cl hX 104 2 [.ref 53, .int (h.1 55 5)] [.ref 1007] rfl rfl rfl rfl ?_
    refine c_atI t.sm pin ?_
    show X (31, [some (.ref 55), none], [.int (h.1 54 (h.1 55 5)), .ref 1007], h)
    refine go hX 1 (gs := [True]) (z' := (32, [some (.ref 55), none], [.int ((Int32.toUInt32 (h.1 54 (h.1 55 5))) % 65536).toInt32, .ref 1007], h)) rfl ⟨trivial, trivial⟩ ?_
    refine cl hX 902 2 [.ref 1007, .int ((Int32.toUInt32 (h.1 54 (h.1 55 5))) % 65536).toInt32] [] rfl rfl rfl rfl ?_
    refine c_idxc (i := 7) rfl bw.1 bw.2 ?_
    show X (35, [some (.ref 55), none], [.int (sIx (nmT 1) (h.1 54 (h.1 55 5)) 0)], h)
    refine go hX 4 (gs := [True, True, True, True]) (z' := (if (sIx (nmT 1) (h.1 54 (h.1 55 5)) 0) < 0 then 60 else 44, [some (.ref 55), some (.int (sIx (nmT 1) (h.1 54 (h.1 55 5)) 0))], [], h)) rfl ⟨trivial, trivial, trivial, trivial, trivial⟩ ?_
    refine br (fun b2 => ?_) (fun b2 => ?_)
    ·
      refine go hX 1 (gs := [True]) (z' := (61, [some (.ref 55), some (.int (sIx (nmT 1) (h.1 54 (h.1 55 5)) 0))], [.int 0], h)) rfl ⟨trivial, trivial⟩ ?_
      refine rt_ hX (G := isB 0) (r := some (.int 0)) rfl isB0 ?_
      exact k0 (fun _ q => absurd b2 (Int32.not_lt.mpr q))
    ·
      refine go hX 4 (gs := [True, True, True, True]) (z' := (50, [some (.ref 55), some (.int (sIx (nmT 1) (h.1 54 (h.1 55 5)) 0))], [.int (10000 + (sIx (nmT 1) (h.1 54 (h.1 55 5)) 0)), .ref 55], h)) rfl ⟨trivial, trivial, trivial, trivial, trivial⟩ ?_
      refine cl hX 41 2 [.ref 55, .int (10000 + (sIx (nmT 1) (h.1 54 (h.1 55 5)) 0))] [] rfl rfl rfl rfl ?_
      refine c_takePart g l eo hn ep (fun h1 f1 g1 e11 e9 e4 => ?_)
      show X (53, [some (.ref 55), some (.int (sIx (nmT 1) (h.1 54 (h.1 55 5)) 0))], [.int 1], h1)
      refine go hX 3 (gs := [True, True, True]) (z' := (61, [some (.ref 55), some (.int (sIx (nmT 1) (h.1 54 (h.1 55 5)) 0))], [.int 1], h1)) rfl ⟨trivial, trivial, trivial, trivial⟩ ?_
      refine rt_ hX (G := isB 1) (r := some (.int 1)) rfl isB1 ?_
      exact kk b1 (Int32.not_lt.mp b2) h1 f1 g1 e11 e9 e4
  ·
    refine go hX 5 (gs := [True, True, True, True, True]) (z' := (61, [some (.ref 55), some (.int (-1))], [.int 0], h)) rfl ⟨trivial, trivial, trivial, trivial, trivial, trivial⟩ ?_
    refine rt_ hX (G := isB 0) (r := some (.int 0)) rfl isB0 ?_
    exact k0 (fun q _ => b1 q)
theorem c_names2 {d : Nat} {Q : Option Value → Hp → Prop} {h : Hp} {x : Int32} (e : x = 2) (k : Q (some (.ref 1008)) h) : Call (d + 1) 38 [.int x] h Q := by
  refine call_of (rfl : psM[38]? = some _) rfl rfl (rcvS rfl) (fun X hX => ?_)
  show X (0, [some (.int x)], [], h)
  refine go hX 2 (gs := [True, True]) (z' := (if x = 0 then 36 else if x = 1 then 39 else if x = 2 then 42 else if x = 3 then 45 else if x = 4 then 48 else 51, [some (.int x)], [], h)) rfl ⟨trivial, trivial, trivial⟩ ?_
  refine br (fun b1 => ?_) (fun b1 => ?_)
  ·
    refine go hX 1 (gs := [True]) (z' := (38, [some (.int x)], [.ref 1006], h)) rfl ⟨trivial, trivial⟩ ?_
    refine rt_ hX (G := True) (r := some (.ref 1006)) rfl trivial ?_
    exfalso; grind
  ·
    refine br (fun b2 => ?_) (fun b2 => ?_)
    ·
      refine go hX 1 (gs := [True]) (z' := (41, [some (.int x)], [.ref 1007], h)) rfl ⟨trivial, trivial⟩ ?_
      refine rt_ hX (G := True) (r := some (.ref 1007)) rfl trivial ?_
      exfalso; grind
    ·
      refine br (fun b3 => ?_) (fun b3 => ?_)
      ·
        refine go hX 1 (gs := [True]) (z' := (44, [some (.int x)], [.ref 1008], h)) rfl ⟨trivial, trivial⟩ ?_
        refine rt_ hX (G := True) (r := some (.ref 1008)) rfl trivial ?_
        exact k
      ·
        refine br (fun b4 => ?_) (fun b4 => ?_)
        ·
          refine go hX 1 (gs := [True]) (z' := (47, [some (.int x)], [.ref 1009], h)) rfl ⟨trivial, trivial⟩ ?_
          refine rt_ hX (G := True) (r := some (.ref 1009)) rfl trivial ?_
          exfalso; grind
        ·
          refine br (fun b5 => ?_) (fun b5 => ?_)
          ·
            refine go hX 1 (gs := [True]) (z' := (50, [some (.int x)], [.ref 1010], h)) rfl ⟨trivial, trivial⟩ ?_
            refine rt_ hX (G := True) (r := some (.ref 1010)) rfl trivial ?_
            exfalso; grind
          ·
            refine go hX 1 (gs := [True]) (z' := (53, [some (.int x)], [.ref 1011], h)) rfl ⟨trivial, trivial⟩ ?_
            refine rt_ hX (G := True) (r := some (.ref 1011)) rfl trivial ?_
            exfalso; grind
theorem c_takeName2 {d : Nat} {Q : Option Value → Hp → Prop} {S out : List Int} {h : Hp} {o p n : Nat} (t : TP h n) (e3 : h.1 55 3 = 2) (pin : 0 ≤ h.1 55 5 ∧ h.1 55 5 < h.1 53 1) (bw : 0 ≤ h.1 54 (h.1 55 5) ∧ h.1 54 (h.1 55 5) ≤ 255) (g : SG h S out) (l : S.length + out.length < 96) (eo : h.1 55 11 = nI o) (hn : o ≤ 4000) (ep : h.1 55 4 = nI p) (kk : h.1 55 6 - h.1 55 5 = 1 → 0 ≤ sIx (nmT 2) (h.1 54 (h.1 55 5)) 0 → ∀ h', frRd [4, 9, 11] h h' → SG h' (endN o S ((10000 + sIx (nmT 2) (h.1 54 (h.1 55 5)) 0).toInt :: out)).2.1 (endN o S ((10000 + sIx (nmT 2) (h.1 54 (h.1 55 5)) 0).toInt :: out)).2.2 → h'.1 55 11 = nI (endN o S ((10000 + sIx (nmT 2) (h.1 54 (h.1 55 5)) 0).toInt :: out)).1 → h'.1 55 9 = 0 → h'.1 55 4 = nI (p + 1) → Q (some (.int 1)) h') (k0 : (h.1 55 6 - h.1 55 5 = 1 → 0 ≤ sIx (nmT 2) (h.1 54 (h.1 55 5)) 0 → False) → Q (some (.int 0)) h) : Call (d + 4) 40 [.ref 55] h Q := by
  refine call_of (rfl : psM[40]? = some _) rfl rfl (rcvV rfl) (fun X hX => ?_)
  show X (0, [some (.ref 55), none], [], h)
  refine go hX 7 (gs := [True, True, True, True, True, True, True]) (z' := (if ((h.1 55 6) - (h.1 55 5)) = 1 then 13 else 38, [some (.ref 55), none], [], h)) rfl ⟨trivial, trivial, trivial, trivial, trivial, trivial, trivial, trivial⟩ ?_
  refine br (fun b1 => ?_) (fun b1 => ?_)
  ·
    refine go hX 2 (gs := [True, True]) (z' := (17, [some (.ref 55), none], [.int (h.1 55 3)], h)) rfl ⟨trivial, trivial, trivial⟩ ?_
    refine cl hX 38 1 [.int (h.1 55 3)] [] rfl rfl rfl rfl ?_
    refine c_names2 e3 ?_
    show X (20, [some (.ref 55), none], [.ref 1008], h)
    refine go hX 4 (gs := [True, True, True, True]) (z' := (28, [some (.ref 55), none], [.int (h.1 55 5), .ref 53, .ref 1008], h)) rfl ⟨trivial, trivial, trivial, trivial, trivial⟩ ?_
    refine cl hX 104 2 [.ref 53, .int (h.1 55 5)] [.ref 1008] rfl rfl rfl rfl ?_
    refine c_atI t.sm pin ?_
    show X (31, [some (.ref 55), none], [.int (h.1 54 (h.1 55 5)), .ref 1008], h)
    refine go hX 1 (gs := [True]) (z' := (32, [some (.ref 55), none], [.int ((Int32.toUInt32 (h.1 54 (h.1 55 5))) % 65536).toInt32, .ref 1008], h)) rfl ⟨trivial, trivial⟩ ?_
    refine cl hX 902 2 [.ref 1008, .int ((Int32.toUInt32 (h.1 54 (h.1 55 5))) % 65536).toInt32] [] rfl rfl rfl rfl ?_
    refine c_idxc (i := 8) rfl bw.1 bw.2 ?_
    show X (35, [some (.ref 55), none], [.int (sIx (nmT 2) (h.1 54 (h.1 55 5)) 0)], h)
    refine go hX 4 (gs := [True, True, True, True]) (z' := (if (sIx (nmT 2) (h.1 54 (h.1 55 5)) 0) < 0 then 60 else 44, [some (.ref 55), some (.int (sIx (nmT 2) (h.1 54 (h.1 55 5)) 0))], [], h)) rfl ⟨trivial, trivial, trivial, trivial, trivial⟩ ?_
    refine br (fun b2 => ?_) (fun b2 => ?_)
    ·
      refine go hX 1 (gs := [True]) (z' := (61, [some (.ref 55), some (.int (sIx (nmT 2) (h.1 54 (h.1 55 5)) 0))], [.int 0], h)) rfl ⟨trivial, trivial⟩ ?_
      refine rt_ hX (G := isB 0) (r := some (.int 0)) rfl isB0 ?_
      exact k0 (fun _ q => absurd b2 (Int32.not_lt.mpr q))
    ·
      refine go hX 4 (gs := [True, True, True, True]) (z' := (50, [some (.ref 55), some (.int (sIx (nmT 2) (h.1 54 (h.1 55 5)) 0))], [.int (10000 + (sIx (nmT 2) (h.1 54 (h.1 55 5)) 0)), .ref 55], h)) rfl ⟨trivial, trivial, trivial, trivial, trivial⟩ ?_
      refine cl hX 41 2 [.ref 55, .int (10000 + (sIx (nmT 2) (h.1 54 (h.1 55 5)) 0))] [] rfl rfl rfl rfl ?_
      refine c_takePart g l eo hn ep (fun h1 f1 g1 e11 e9 e4 => ?_)
      show X (53, [some (.ref 55), some (.int (sIx (nmT 2) (h.1 54 (h.1 55 5)) 0))], [.int 1], h1)
      refine go hX 3 (gs := [True, True, True]) (z' := (61, [some (.ref 55), some (.int (sIx (nmT 2) (h.1 54 (h.1 55 5)) 0))], [.int 1], h1)) rfl ⟨trivial, trivial, trivial, trivial⟩ ?_
      refine rt_ hX (G := isB 1) (r := some (.int 1)) rfl isB1 ?_
      exact kk b1 (Int32.not_lt.mp b2) h1 f1 g1 e11 e9 e4
  ·
    refine go hX 5 (gs := [True, True, True, True, True]) (z' := (61, [some (.ref 55), some (.int (-1))], [.int 0], h)) rfl ⟨trivial, trivial, trivial, trivial, trivial, trivial⟩ ?_
    refine rt_ hX (G := isB 0) (r := some (.int 0)) rfl isB0 ?_
    exact k0 (fun q _ => b1 q)
theorem c_names3 {d : Nat} {Q : Option Value → Hp → Prop} {h : Hp} {x : Int32} (e : x = 3) (k : Q (some (.ref 1009)) h) : Call (d + 1) 38 [.int x] h Q := by
  refine call_of (rfl : psM[38]? = some _) rfl rfl (rcvS rfl) (fun X hX => ?_)
  show X (0, [some (.int x)], [], h)
  refine go hX 2 (gs := [True, True]) (z' := (if x = 0 then 36 else if x = 1 then 39 else if x = 2 then 42 else if x = 3 then 45 else if x = 4 then 48 else 51, [some (.int x)], [], h)) rfl ⟨trivial, trivial, trivial⟩ ?_
  refine br (fun b1 => ?_) (fun b1 => ?_)
  ·
    refine go hX 1 (gs := [True]) (z' := (38, [some (.int x)], [.ref 1006], h)) rfl ⟨trivial, trivial⟩ ?_
    refine rt_ hX (G := True) (r := some (.ref 1006)) rfl trivial ?_
    exfalso; grind
  ·
    refine br (fun b2 => ?_) (fun b2 => ?_)
    ·
      refine go hX 1 (gs := [True]) (z' := (41, [some (.int x)], [.ref 1007], h)) rfl ⟨trivial, trivial⟩ ?_
      refine rt_ hX (G := True) (r := some (.ref 1007)) rfl trivial ?_
      exfalso; grind
    ·
      refine br (fun b3 => ?_) (fun b3 => ?_)
      ·
        refine go hX 1 (gs := [True]) (z' := (44, [some (.int x)], [.ref 1008], h)) rfl ⟨trivial, trivial⟩ ?_
        refine rt_ hX (G := True) (r := some (.ref 1008)) rfl trivial ?_
        exfalso; grind
      ·
        refine br (fun b4 => ?_) (fun b4 => ?_)
        ·
          refine go hX 1 (gs := [True]) (z' := (47, [some (.int x)], [.ref 1009], h)) rfl ⟨trivial, trivial⟩ ?_
          refine rt_ hX (G := True) (r := some (.ref 1009)) rfl trivial ?_
          exact k
        ·
          refine br (fun b5 => ?_) (fun b5 => ?_)
          ·
            refine go hX 1 (gs := [True]) (z' := (50, [some (.int x)], [.ref 1010], h)) rfl ⟨trivial, trivial⟩ ?_
            refine rt_ hX (G := True) (r := some (.ref 1010)) rfl trivial ?_
            exfalso; grind
          ·
            refine go hX 1 (gs := [True]) (z' := (53, [some (.int x)], [.ref 1011], h)) rfl ⟨trivial, trivial⟩ ?_
            refine rt_ hX (G := True) (r := some (.ref 1011)) rfl trivial ?_
            exfalso; grind
theorem c_takeName3 {d : Nat} {Q : Option Value → Hp → Prop} {S out : List Int} {h : Hp} {o p n : Nat} (t : TP h n) (e3 : h.1 55 3 = 3) (pin : 0 ≤ h.1 55 5 ∧ h.1 55 5 < h.1 53 1) (bw : 0 ≤ h.1 54 (h.1 55 5) ∧ h.1 54 (h.1 55 5) ≤ 255) (g : SG h S out) (l : S.length + out.length < 96) (eo : h.1 55 11 = nI o) (hn : o ≤ 4000) (ep : h.1 55 4 = nI p) (kk : h.1 55 6 - h.1 55 5 = 1 → 0 ≤ sIx (nmT 3) (h.1 54 (h.1 55 5)) 0 → ∀ h', frRd [4, 9, 11] h h' → SG h' (endN o S ((10000 + sIx (nmT 3) (h.1 54 (h.1 55 5)) 0).toInt :: out)).2.1 (endN o S ((10000 + sIx (nmT 3) (h.1 54 (h.1 55 5)) 0).toInt :: out)).2.2 → h'.1 55 11 = nI (endN o S ((10000 + sIx (nmT 3) (h.1 54 (h.1 55 5)) 0).toInt :: out)).1 → h'.1 55 9 = 0 → h'.1 55 4 = nI (p + 1) → Q (some (.int 1)) h') (k0 : (h.1 55 6 - h.1 55 5 = 1 → 0 ≤ sIx (nmT 3) (h.1 54 (h.1 55 5)) 0 → False) → Q (some (.int 0)) h) : Call (d + 4) 40 [.ref 55] h Q := by
  refine call_of (rfl : psM[40]? = some _) rfl rfl (rcvV rfl) (fun X hX => ?_)
  show X (0, [some (.ref 55), none], [], h)
  refine go hX 7 (gs := [True, True, True, True, True, True, True]) (z' := (if ((h.1 55 6) - (h.1 55 5)) = 1 then 13 else 38, [some (.ref 55), none], [], h)) rfl ⟨trivial, trivial, trivial, trivial, trivial, trivial, trivial, trivial⟩ ?_
  refine br (fun b1 => ?_) (fun b1 => ?_)
  ·
    refine go hX 2 (gs := [True, True]) (z' := (17, [some (.ref 55), none], [.int (h.1 55 3)], h)) rfl ⟨trivial, trivial, trivial⟩ ?_
    refine cl hX 38 1 [.int (h.1 55 3)] [] rfl rfl rfl rfl ?_
    refine c_names3 e3 ?_
    show X (20, [some (.ref 55), none], [.ref 1009], h)
    refine go hX 4 (gs := [True, True, True, True]) (z' := (28, [some (.ref 55), none], [.int (h.1 55 5), .ref 53, .ref 1009], h)) rfl ⟨trivial, trivial, trivial, trivial, trivial⟩ ?_
    refine cl hX 104 2 [.ref 53, .int (h.1 55 5)] [.ref 1009] rfl rfl rfl rfl ?_
    refine c_atI t.sm pin ?_
    show X (31, [some (.ref 55), none], [.int (h.1 54 (h.1 55 5)), .ref 1009], h)
    refine go hX 1 (gs := [True]) (z' := (32, [some (.ref 55), none], [.int ((Int32.toUInt32 (h.1 54 (h.1 55 5))) % 65536).toInt32, .ref 1009], h)) rfl ⟨trivial, trivial⟩ ?_
    refine cl hX 902 2 [.ref 1009, .int ((Int32.toUInt32 (h.1 54 (h.1 55 5))) % 65536).toInt32] [] rfl rfl rfl rfl ?_
    refine c_idxc (i := 9) rfl bw.1 bw.2 ?_
    show X (35, [some (.ref 55), none], [.int (sIx (nmT 3) (h.1 54 (h.1 55 5)) 0)], h)
    refine go hX 4 (gs := [True, True, True, True]) (z' := (if (sIx (nmT 3) (h.1 54 (h.1 55 5)) 0) < 0 then 60 else 44, [some (.ref 55), some (.int (sIx (nmT 3) (h.1 54 (h.1 55 5)) 0))], [], h)) rfl ⟨trivial, trivial, trivial, trivial, trivial⟩ ?_
    refine br (fun b2 => ?_) (fun b2 => ?_)
    ·
      refine go hX 1 (gs := [True]) (z' := (61, [some (.ref 55), some (.int (sIx (nmT 3) (h.1 54 (h.1 55 5)) 0))], [.int 0], h)) rfl ⟨trivial, trivial⟩ ?_
      refine rt_ hX (G := isB 0) (r := some (.int 0)) rfl isB0 ?_
      exact k0 (fun _ q => absurd b2 (Int32.not_lt.mpr q))
    ·
      refine go hX 4 (gs := [True, True, True, True]) (z' := (50, [some (.ref 55), some (.int (sIx (nmT 3) (h.1 54 (h.1 55 5)) 0))], [.int (10000 + (sIx (nmT 3) (h.1 54 (h.1 55 5)) 0)), .ref 55], h)) rfl ⟨trivial, trivial, trivial, trivial, trivial⟩ ?_
      refine cl hX 41 2 [.ref 55, .int (10000 + (sIx (nmT 3) (h.1 54 (h.1 55 5)) 0))] [] rfl rfl rfl rfl ?_
      refine c_takePart g l eo hn ep (fun h1 f1 g1 e11 e9 e4 => ?_)
      show X (53, [some (.ref 55), some (.int (sIx (nmT 3) (h.1 54 (h.1 55 5)) 0))], [.int 1], h1)
      refine go hX 3 (gs := [True, True, True]) (z' := (61, [some (.ref 55), some (.int (sIx (nmT 3) (h.1 54 (h.1 55 5)) 0))], [.int 1], h1)) rfl ⟨trivial, trivial, trivial, trivial⟩ ?_
      refine rt_ hX (G := isB 1) (r := some (.int 1)) rfl isB1 ?_
      exact kk b1 (Int32.not_lt.mp b2) h1 f1 g1 e11 e9 e4
  ·
    refine go hX 5 (gs := [True, True, True, True, True]) (z' := (61, [some (.ref 55), some (.int (-1))], [.int 0], h)) rfl ⟨trivial, trivial, trivial, trivial, trivial, trivial⟩ ?_
    refine rt_ hX (G := isB 0) (r := some (.int 0)) rfl isB0 ?_
    exact k0 (fun q _ => b1 q)
theorem c_names4 {d : Nat} {Q : Option Value → Hp → Prop} {h : Hp} {x : Int32} (e : x = 4) (k : Q (some (.ref 1010)) h) : Call (d + 1) 38 [.int x] h Q := by
  refine call_of (rfl : psM[38]? = some _) rfl rfl (rcvS rfl) (fun X hX => ?_)
  show X (0, [some (.int x)], [], h)
  refine go hX 2 (gs := [True, True]) (z' := (if x = 0 then 36 else if x = 1 then 39 else if x = 2 then 42 else if x = 3 then 45 else if x = 4 then 48 else 51, [some (.int x)], [], h)) rfl ⟨trivial, trivial, trivial⟩ ?_
  refine br (fun b1 => ?_) (fun b1 => ?_)
  ·
    refine go hX 1 (gs := [True]) (z' := (38, [some (.int x)], [.ref 1006], h)) rfl ⟨trivial, trivial⟩ ?_
    refine rt_ hX (G := True) (r := some (.ref 1006)) rfl trivial ?_
    exfalso; grind
  ·
    refine br (fun b2 => ?_) (fun b2 => ?_)
    ·
      refine go hX 1 (gs := [True]) (z' := (41, [some (.int x)], [.ref 1007], h)) rfl ⟨trivial, trivial⟩ ?_
      refine rt_ hX (G := True) (r := some (.ref 1007)) rfl trivial ?_
      exfalso; grind
    ·
      refine br (fun b3 => ?_) (fun b3 => ?_)
      ·
        refine go hX 1 (gs := [True]) (z' := (44, [some (.int x)], [.ref 1008], h)) rfl ⟨trivial, trivial⟩ ?_
        refine rt_ hX (G := True) (r := some (.ref 1008)) rfl trivial ?_
        exfalso; grind
      ·
        refine br (fun b4 => ?_) (fun b4 => ?_)
        ·
          refine go hX 1 (gs := [True]) (z' := (47, [some (.int x)], [.ref 1009], h)) rfl ⟨trivial, trivial⟩ ?_
          refine rt_ hX (G := True) (r := some (.ref 1009)) rfl trivial ?_
          exfalso; grind
        ·
          refine br (fun b5 => ?_) (fun b5 => ?_)
          ·
            refine go hX 1 (gs := [True]) (z' := (50, [some (.int x)], [.ref 1010], h)) rfl ⟨trivial, trivial⟩ ?_
            refine rt_ hX (G := True) (r := some (.ref 1010)) rfl trivial ?_
            exact k
          ·
            refine go hX 1 (gs := [True]) (z' := (53, [some (.int x)], [.ref 1011], h)) rfl ⟨trivial, trivial⟩ ?_
            refine rt_ hX (G := True) (r := some (.ref 1011)) rfl trivial ?_
            exfalso; grind
theorem c_takeName4 {d : Nat} {Q : Option Value → Hp → Prop} {S out : List Int} {h : Hp} {o p n : Nat} (t : TP h n) (e3 : h.1 55 3 = 4) (pin : 0 ≤ h.1 55 5 ∧ h.1 55 5 < h.1 53 1) (bw : 0 ≤ h.1 54 (h.1 55 5) ∧ h.1 54 (h.1 55 5) ≤ 255) (g : SG h S out) (l : S.length + out.length < 96) (eo : h.1 55 11 = nI o) (hn : o ≤ 4000) (ep : h.1 55 4 = nI p) (kk : h.1 55 6 - h.1 55 5 = 1 → 0 ≤ sIx (nmT 4) (h.1 54 (h.1 55 5)) 0 → ∀ h', frRd [4, 9, 11] h h' → SG h' (endN o S ((10000 + sIx (nmT 4) (h.1 54 (h.1 55 5)) 0).toInt :: out)).2.1 (endN o S ((10000 + sIx (nmT 4) (h.1 54 (h.1 55 5)) 0).toInt :: out)).2.2 → h'.1 55 11 = nI (endN o S ((10000 + sIx (nmT 4) (h.1 54 (h.1 55 5)) 0).toInt :: out)).1 → h'.1 55 9 = 0 → h'.1 55 4 = nI (p + 1) → Q (some (.int 1)) h') (k0 : (h.1 55 6 - h.1 55 5 = 1 → 0 ≤ sIx (nmT 4) (h.1 54 (h.1 55 5)) 0 → False) → Q (some (.int 0)) h) : Call (d + 4) 40 [.ref 55] h Q := by
  refine call_of (rfl : psM[40]? = some _) rfl rfl (rcvV rfl) (fun X hX => ?_)
  show X (0, [some (.ref 55), none], [], h)
  refine go hX 7 (gs := [True, True, True, True, True, True, True]) (z' := (if ((h.1 55 6) - (h.1 55 5)) = 1 then 13 else 38, [some (.ref 55), none], [], h)) rfl ⟨trivial, trivial, trivial, trivial, trivial, trivial, trivial, trivial⟩ ?_
  refine br (fun b1 => ?_) (fun b1 => ?_)
  ·
    refine go hX 2 (gs := [True, True]) (z' := (17, [some (.ref 55), none], [.int (h.1 55 3)], h)) rfl ⟨trivial, trivial, trivial⟩ ?_
    refine cl hX 38 1 [.int (h.1 55 3)] [] rfl rfl rfl rfl ?_
    refine c_names4 e3 ?_
    show X (20, [some (.ref 55), none], [.ref 1010], h)
    refine go hX 4 (gs := [True, True, True, True]) (z' := (28, [some (.ref 55), none], [.int (h.1 55 5), .ref 53, .ref 1010], h)) rfl ⟨trivial, trivial, trivial, trivial, trivial⟩ ?_
    refine cl hX 104 2 [.ref 53, .int (h.1 55 5)] [.ref 1010] rfl rfl rfl rfl ?_
    refine c_atI t.sm pin ?_
    show X (31, [some (.ref 55), none], [.int (h.1 54 (h.1 55 5)), .ref 1010], h)
    refine go hX 1 (gs := [True]) (z' := (32, [some (.ref 55), none], [.int ((Int32.toUInt32 (h.1 54 (h.1 55 5))) % 65536).toInt32, .ref 1010], h)) rfl ⟨trivial, trivial⟩ ?_
    refine cl hX 902 2 [.ref 1010, .int ((Int32.toUInt32 (h.1 54 (h.1 55 5))) % 65536).toInt32] [] rfl rfl rfl rfl ?_
    refine c_idxc (i := 10) rfl bw.1 bw.2 ?_
    show X (35, [some (.ref 55), none], [.int (sIx (nmT 4) (h.1 54 (h.1 55 5)) 0)], h)
    refine go hX 4 (gs := [True, True, True, True]) (z' := (if (sIx (nmT 4) (h.1 54 (h.1 55 5)) 0) < 0 then 60 else 44, [some (.ref 55), some (.int (sIx (nmT 4) (h.1 54 (h.1 55 5)) 0))], [], h)) rfl ⟨trivial, trivial, trivial, trivial, trivial⟩ ?_
    refine br (fun b2 => ?_) (fun b2 => ?_)
    ·
      refine go hX 1 (gs := [True]) (z' := (61, [some (.ref 55), some (.int (sIx (nmT 4) (h.1 54 (h.1 55 5)) 0))], [.int 0], h)) rfl ⟨trivial, trivial⟩ ?_
      refine rt_ hX (G := isB 0) (r := some (.int 0)) rfl isB0 ?_
      exact k0 (fun _ q => absurd b2 (Int32.not_lt.mpr q))
    ·
      refine go hX 4 (gs := [True, True, True, True]) (z' := (50, [some (.ref 55), some (.int (sIx (nmT 4) (h.1 54 (h.1 55 5)) 0))], [.int (10000 + (sIx (nmT 4) (h.1 54 (h.1 55 5)) 0)), .ref 55], h)) rfl ⟨trivial, trivial, trivial, trivial, trivial⟩ ?_
      refine cl hX 41 2 [.ref 55, .int (10000 + (sIx (nmT 4) (h.1 54 (h.1 55 5)) 0))] [] rfl rfl rfl rfl ?_
      refine c_takePart g l eo hn ep (fun h1 f1 g1 e11 e9 e4 => ?_)
      show X (53, [some (.ref 55), some (.int (sIx (nmT 4) (h.1 54 (h.1 55 5)) 0))], [.int 1], h1)
      refine go hX 3 (gs := [True, True, True]) (z' := (61, [some (.ref 55), some (.int (sIx (nmT 4) (h.1 54 (h.1 55 5)) 0))], [.int 1], h1)) rfl ⟨trivial, trivial, trivial, trivial⟩ ?_
      refine rt_ hX (G := isB 1) (r := some (.int 1)) rfl isB1 ?_
      exact kk b1 (Int32.not_lt.mp b2) h1 f1 g1 e11 e9 e4
  ·
    refine go hX 5 (gs := [True, True, True, True, True]) (z' := (61, [some (.ref 55), some (.int (-1))], [.int 0], h)) rfl ⟨trivial, trivial, trivial, trivial, trivial, trivial⟩ ?_
    refine rt_ hX (G := isB 0) (r := some (.int 0)) rfl isB0 ?_
    exact k0 (fun q _ => b1 q)
theorem c_names5 {d : Nat} {Q : Option Value → Hp → Prop} {h : Hp} {x : Int32} (e : x = 5) (k : Q (some (.ref 1011)) h) : Call (d + 1) 38 [.int x] h Q := by
  refine call_of (rfl : psM[38]? = some _) rfl rfl (rcvS rfl) (fun X hX => ?_)
  show X (0, [some (.int x)], [], h)
  refine go hX 2 (gs := [True, True]) (z' := (if x = 0 then 36 else if x = 1 then 39 else if x = 2 then 42 else if x = 3 then 45 else if x = 4 then 48 else 51, [some (.int x)], [], h)) rfl ⟨trivial, trivial, trivial⟩ ?_
  refine br (fun b1 => ?_) (fun b1 => ?_)
  ·
    refine go hX 1 (gs := [True]) (z' := (38, [some (.int x)], [.ref 1006], h)) rfl ⟨trivial, trivial⟩ ?_
    refine rt_ hX (G := True) (r := some (.ref 1006)) rfl trivial ?_
    exfalso; grind
  ·
    refine br (fun b2 => ?_) (fun b2 => ?_)
    ·
      refine go hX 1 (gs := [True]) (z' := (41, [some (.int x)], [.ref 1007], h)) rfl ⟨trivial, trivial⟩ ?_
      refine rt_ hX (G := True) (r := some (.ref 1007)) rfl trivial ?_
      exfalso; grind
    ·
      refine br (fun b3 => ?_) (fun b3 => ?_)
      ·
        refine go hX 1 (gs := [True]) (z' := (44, [some (.int x)], [.ref 1008], h)) rfl ⟨trivial, trivial⟩ ?_
        refine rt_ hX (G := True) (r := some (.ref 1008)) rfl trivial ?_
        exfalso; grind
      ·
        refine br (fun b4 => ?_) (fun b4 => ?_)
        ·
          refine go hX 1 (gs := [True]) (z' := (47, [some (.int x)], [.ref 1009], h)) rfl ⟨trivial, trivial⟩ ?_
          refine rt_ hX (G := True) (r := some (.ref 1009)) rfl trivial ?_
          exfalso; grind
        ·
          refine br (fun b5 => ?_) (fun b5 => ?_)
          ·
            refine go hX 1 (gs := [True]) (z' := (50, [some (.int x)], [.ref 1010], h)) rfl ⟨trivial, trivial⟩ ?_
            refine rt_ hX (G := True) (r := some (.ref 1010)) rfl trivial ?_
            exfalso; grind
          ·
            refine go hX 1 (gs := [True]) (z' := (53, [some (.int x)], [.ref 1011], h)) rfl ⟨trivial, trivial⟩ ?_
            refine rt_ hX (G := True) (r := some (.ref 1011)) rfl trivial ?_
            exact k
theorem c_takeName5 {d : Nat} {Q : Option Value → Hp → Prop} {S out : List Int} {h : Hp} {o p n : Nat} (t : TP h n) (e3 : h.1 55 3 = 5) (pin : 0 ≤ h.1 55 5 ∧ h.1 55 5 < h.1 53 1) (bw : 0 ≤ h.1 54 (h.1 55 5) ∧ h.1 54 (h.1 55 5) ≤ 255) (g : SG h S out) (l : S.length + out.length < 96) (eo : h.1 55 11 = nI o) (hn : o ≤ 4000) (ep : h.1 55 4 = nI p) (kk : h.1 55 6 - h.1 55 5 = 1 → 0 ≤ sIx (nmT 5) (h.1 54 (h.1 55 5)) 0 → ∀ h', frRd [4, 9, 11] h h' → SG h' (endN o S ((10000 + sIx (nmT 5) (h.1 54 (h.1 55 5)) 0).toInt :: out)).2.1 (endN o S ((10000 + sIx (nmT 5) (h.1 54 (h.1 55 5)) 0).toInt :: out)).2.2 → h'.1 55 11 = nI (endN o S ((10000 + sIx (nmT 5) (h.1 54 (h.1 55 5)) 0).toInt :: out)).1 → h'.1 55 9 = 0 → h'.1 55 4 = nI (p + 1) → Q (some (.int 1)) h') (k0 : (h.1 55 6 - h.1 55 5 = 1 → 0 ≤ sIx (nmT 5) (h.1 54 (h.1 55 5)) 0 → False) → Q (some (.int 0)) h) : Call (d + 4) 40 [.ref 55] h Q := by
  refine call_of (rfl : psM[40]? = some _) rfl rfl (rcvV rfl) (fun X hX => ?_)
  show X (0, [some (.ref 55), none], [], h)
  refine go hX 7 (gs := [True, True, True, True, True, True, True]) (z' := (if ((h.1 55 6) - (h.1 55 5)) = 1 then 13 else 38, [some (.ref 55), none], [], h)) rfl ⟨trivial, trivial, trivial, trivial, trivial, trivial, trivial, trivial⟩ ?_
  refine br (fun b1 => ?_) (fun b1 => ?_)
  ·
    refine go hX 2 (gs := [True, True]) (z' := (17, [some (.ref 55), none], [.int (h.1 55 3)], h)) rfl ⟨trivial, trivial, trivial⟩ ?_
    refine cl hX 38 1 [.int (h.1 55 3)] [] rfl rfl rfl rfl ?_
    refine c_names5 e3 ?_
    show X (20, [some (.ref 55), none], [.ref 1011], h)
    refine go hX 4 (gs := [True, True, True, True]) (z' := (28, [some (.ref 55), none], [.int (h.1 55 5), .ref 53, .ref 1011], h)) rfl ⟨trivial, trivial, trivial, trivial, trivial⟩ ?_
    refine cl hX 104 2 [.ref 53, .int (h.1 55 5)] [.ref 1011] rfl rfl rfl rfl ?_
    refine c_atI t.sm pin ?_
    show X (31, [some (.ref 55), none], [.int (h.1 54 (h.1 55 5)), .ref 1011], h)
    refine go hX 1 (gs := [True]) (z' := (32, [some (.ref 55), none], [.int ((Int32.toUInt32 (h.1 54 (h.1 55 5))) % 65536).toInt32, .ref 1011], h)) rfl ⟨trivial, trivial⟩ ?_
    refine cl hX 902 2 [.ref 1011, .int ((Int32.toUInt32 (h.1 54 (h.1 55 5))) % 65536).toInt32] [] rfl rfl rfl rfl ?_
    refine c_idxc (i := 11) rfl bw.1 bw.2 ?_
    show X (35, [some (.ref 55), none], [.int (sIx (nmT 5) (h.1 54 (h.1 55 5)) 0)], h)
    refine go hX 4 (gs := [True, True, True, True]) (z' := (if (sIx (nmT 5) (h.1 54 (h.1 55 5)) 0) < 0 then 60 else 44, [some (.ref 55), some (.int (sIx (nmT 5) (h.1 54 (h.1 55 5)) 0))], [], h)) rfl ⟨trivial, trivial, trivial, trivial, trivial⟩ ?_
    refine br (fun b2 => ?_) (fun b2 => ?_)
    ·
      refine go hX 1 (gs := [True]) (z' := (61, [some (.ref 55), some (.int (sIx (nmT 5) (h.1 54 (h.1 55 5)) 0))], [.int 0], h)) rfl ⟨trivial, trivial⟩ ?_
      refine rt_ hX (G := isB 0) (r := some (.int 0)) rfl isB0 ?_
      exact k0 (fun _ q => absurd b2 (Int32.not_lt.mpr q))
    ·
      refine go hX 4 (gs := [True, True, True, True]) (z' := (50, [some (.ref 55), some (.int (sIx (nmT 5) (h.1 54 (h.1 55 5)) 0))], [.int (10000 + (sIx (nmT 5) (h.1 54 (h.1 55 5)) 0)), .ref 55], h)) rfl ⟨trivial, trivial, trivial, trivial, trivial⟩ ?_
      refine cl hX 41 2 [.ref 55, .int (10000 + (sIx (nmT 5) (h.1 54 (h.1 55 5)) 0))] [] rfl rfl rfl rfl ?_
      refine c_takePart g l eo hn ep (fun h1 f1 g1 e11 e9 e4 => ?_)
      show X (53, [some (.ref 55), some (.int (sIx (nmT 5) (h.1 54 (h.1 55 5)) 0))], [.int 1], h1)
      refine go hX 3 (gs := [True, True, True]) (z' := (61, [some (.ref 55), some (.int (sIx (nmT 5) (h.1 54 (h.1 55 5)) 0))], [.int 1], h1)) rfl ⟨trivial, trivial, trivial, trivial⟩ ?_
      refine rt_ hX (G := isB 1) (r := some (.int 1)) rfl isB1 ?_
      exact kk b1 (Int32.not_lt.mp b2) h1 f1 g1 e11 e9 e4
  ·
    refine go hX 5 (gs := [True, True, True, True, True]) (z' := (61, [some (.ref 55), some (.int (-1))], [.int 0], h)) rfl ⟨trivial, trivial, trivial, trivial, trivial, trivial⟩ ?_
    refine rt_ hX (G := isB 0) (r := some (.int 0)) rfl isB0 ?_
    exact k0 (fun q _ => b1 q)
theorem c_takeName {d : Nat} {Q : Option Value → Hp → Prop} {h : Hp} {a : PA} {t : Tok} {key n : Nat} (tp : TP h n) (r : RdA h a) (hk : TkA h t) (w : TkW (h.1 54) n t) (ty : t.ty = 1) (ek : h.1 55 3 = nI key) (hkey : key ≤ 5) (l : a.S.length + a.out.length < 96) (hp : a.pr < 4000) (kk : t.nx - t.st = 1 → 0 ≤ sIx (nmT key) (h.1 54 (nI t.st)) 0 → ∀ h', frRd [4, 9, 11] h h' → RdA h' ⟨a.i + 1, false, (endN a.on a.S ((10000 + sIx (nmT key) (h.1 54 (nI t.st)) 0).toInt :: a.out)).2.1, a.ob, (endN a.on a.S ((10000 + sIx (nmT key) (h.1 54 (nI t.st)) 0).toInt :: a.out)).1, a.pr + 1, (endN a.on a.S ((10000 + sIx (nmT key) (h.1 54 (nI t.st)) 0).toInt :: a.out)).2.2⟩ → Q (some (.int 1)) h') (k0 : (t.nx - t.st = 1 → 0 ≤ sIx (nmT key) (h.1 54 (nI t.st)) 0 → False) → Q (some (.int 0)) h) : Call (d + 4) 40 [.ref 55] h Q := by
  have hn := tp.hn
  have lt := w.w6 (by rw [ty]; decide)
  have w2 := w.w2
  have pin : 0 ≤ h.1 55 5 ∧ h.1 55 5 < h.1 53 1 := by rw [hk.1]; exact tp.ins (by omega)
  have bw : 0 ≤ h.1 54 (h.1 55 5) ∧ h.1 54 (h.1 55 5) ≤ 255 := by rw [hk.1]; exact w.w4 ty
  have l1 := (tx_le4 w hn hk (k := 1) (by omega)).2
  rcases (show key = 0 ∨ key = 1 ∨ key = 2 ∨ key = 3 ∨ key = 4 ∨ key = 5 by omega) with rfl | rfl | rfl | rfl | rfl | rfl
  · refine c_takeName0 tp ek pin bw r.g l r.on (by have := r.b2; omega) r.pr (fun q1 q2 h' f g e11 e9 e4 => ?_) (fun q => k0 (fun q1 q2 => q (l1.mpr q1) (by rw [hk.1]; exact q2)))
    rw [hk.1] at q2 g e11
    exact kk (l1.mp q1) q2 h' f (r.tp f g e11 e9 e4 hp _)
  · refine c_takeName1 tp ek pin bw r.g l r.on (by have := r.b2; omega) r.pr (fun q1 q2 h' f g e11 e9 e4 => ?_) (fun q => k0 (fun q1 q2 => q (l1.mpr q1) (by rw [hk.1]; exact q2)))
    rw [hk.1] at q2 g e11
    exact kk (l1.mp q1) q2 h' f (r.tp f g e11 e9 e4 hp _)
  · refine c_takeName2 tp ek pin bw r.g l r.on (by have := r.b2; omega) r.pr (fun q1 q2 h' f g e11 e9 e4 => ?_) (fun q => k0 (fun q1 q2 => q (l1.mpr q1) (by rw [hk.1]; exact q2)))
    rw [hk.1] at q2 g e11
    exact kk (l1.mp q1) q2 h' f (r.tp f g e11 e9 e4 hp _)
  · refine c_takeName3 tp ek pin bw r.g l r.on (by have := r.b2; omega) r.pr (fun q1 q2 h' f g e11 e9 e4 => ?_) (fun q => k0 (fun q1 q2 => q (l1.mpr q1) (by rw [hk.1]; exact q2)))
    rw [hk.1] at q2 g e11
    exact kk (l1.mp q1) q2 h' f (r.tp f g e11 e9 e4 hp _)
  · refine c_takeName4 tp ek pin bw r.g l r.on (by have := r.b2; omega) r.pr (fun q1 q2 h' f g e11 e9 e4 => ?_) (fun q => k0 (fun q1 q2 => q (l1.mpr q1) (by rw [hk.1]; exact q2)))
    rw [hk.1] at q2 g e11
    exact kk (l1.mp q1) q2 h' f (r.tp f g e11 e9 e4 hp _)
  · refine c_takeName5 tp ek pin bw r.g l r.on (by have := r.b2; omega) r.pr (fun q1 q2 h' f g e11 e9 e4 => ?_) (fun q => k0 (fun q1 q2 => q (l1.mpr q1) (by rw [hk.1]; exact q2)))
    rw [hk.1] at q2 g e11
    exact kk (l1.mp q1) q2 h' f (r.tp f g e11 e9 e4 hp _)
/-- one step of the class's reader, at such a word or sign -/
noncomputable def stA (tk : Tk) (a : PA) : Option PA := stepA (fun _ => tk) a
theorem stA_eq {ts : Nat → Tk} {a : PA} : stepA ts a = stA (ts a.i) a := rfl
section STA
variable {a : PA} {tk : Tk}
theorem stA_part (hd : a.due = true) {s : Int} (h : tk = .part s) : stA tk a = some ⟨a.i + 1, false, (endN a.on a.S (s :: a.out)).2.1, a.ob, (endN a.on a.S (s :: a.out)).1, a.pr + 1, (endN a.on a.S (s :: a.out)).2.2⟩ := by
  subst h
  unfold stA stepA
  rw [hd]
theorem stA_bang (hd : a.due = true) (h : tk = .bang) (h8 : a.on < 8) : stA tk a = some ⟨a.i + 1, true, 33 :: a.S, a.ob, a.on + 1, a.pr, a.out⟩ := by
  subst h
  unfold stA stepA
  rw [hd]
  exact if_pos h8
theorem stA_opn (hd : a.due = true) (h : tk = .opn) (h8 : a.ob < 8) : stA tk a = some ⟨a.i + 1, true, 40 :: a.S, a.ob + 1, a.on, a.pr, a.out⟩ := by
  subst h
  unfold stA stepA
  rw [hd]
  exact if_pos h8
theorem stA_no (hd : a.due = true) (n1 : ∀ s, tk ≠ .part s) (n2 : tk = .bang → a.on < 8 → False) (n3 : tk = .opn → a.ob < 8 → False) : stA tk a = none := by
  unfold stA stepA
  rw [hd]
  rcases tk with s | _ | _ | _ | _ | _ | _
  · exact absurd rfl (n1 s)
  · rfl
  · exact if_neg (n2 rfl)
  · exact if_neg (n3 rfl)
  · rfl
  · rfl
  · rfl
theorem stA_cls (hd : a.due = false) (h : tk = .cls) (h0 : a.ob ≠ 0) : stA tk a = some ⟨a.i + 1, false, (endN a.on (settle 1 a.S a.out).1.tail (settle 1 a.S a.out).2).2.1, a.ob - 1, (endN a.on (settle 1 a.S a.out).1.tail (settle 1 a.S a.out).2).1, a.pr, (endN a.on (settle 1 a.S a.out).1.tail (settle 1 a.S a.out).2).2.2⟩ := by
  subst h
  unfold stA stepA
  rw [hd]
  exact if_neg h0
theorem stA_cls0 (hd : a.due = false) (h : tk = .cls) (h0 : a.ob = 0) : stA tk a = none := by
  subst h
  unfold stA stepA
  rw [hd]
  exact if_pos h0
theorem stA_op (hd : a.due = false) {b : Int} (h : tk = .op b) (hn : ¬ (bnd b = 3 ∧ topB (settle (if bnd b = 3 then 4 else bnd b) a.S a.out).1 = 3)) : stA tk a = some ⟨a.i + 1, true, b :: (settle (if bnd b = 3 then 4 else bnd b) a.S a.out).1, a.ob, a.on, a.pr, (settle (if bnd b = 3 then 4 else bnd b) a.S a.out).2⟩ := by
  subst h
  unfold stA stepA
  rw [hd]
  exact if_neg hn
theorem stA_op3 (hd : a.due = false) {b : Int} (h : tk = .op b) (hn : bnd b = 3 ∧ topB (settle 4 a.S a.out).1 = 3) : stA tk a = none := by
  subst h
  unfold stA stepA
  rw [hd]
  dsimp only [Tok.ty_mk, Tok.st_mk, Tok.nx_mk, Tok.val_mk, PA.i_mk, PA.due_mk, PA.S_mk, PA.ob_mk, PA.on_mk, PA.pr_mk, PA.out_mk, PB.i_mk, PB.ob_mk, PB.nt_mk, PB.pr_mk, PB.out_mk]
  rw [if_pos hn.1]
  exact if_pos hn
theorem stA_noS (hd : a.due = false) (n1 : tk ≠ .cls) (n2 : ∀ b, tk ≠ .op b) : stA tk a = none := by
  unfold stA stepA
  rw [hd]
  rcases tk with _ | b | _ | _ | _ | _ | _
  · rfl
  · exact absurd rfl (n2 b)
  · rfl
  · rfl
  · exact absurd rfl n1
  · rfl
  · rfl
end STA
section CAT
variable {f : Int32 → Int32} {key : Nat} {t : Tok}
theorem cat_1 (h : t.ty = 1) : cat f key t = if t.nx - t.st = 1 ∧ 0 ≤ sIx (nmT key) (f (nI t.st)) 0 then .part (10000 + sIx (nmT key) (f (nI t.st)) 0).toInt else .bad := by
  unfold cat
  rw [if_neg (by rw [h]; decide), if_neg (by rw [h]; decide), if_pos h]
theorem cat_2 (h : t.ty = 2) : cat f key t = if t.nx - t.st ≤ 4 then .part t.val.toInt else .bad := by
  unfold cat
  rw [if_neg (by rw [h]; decide), if_pos h]
theorem cat_3 (h : t.ty = 3) : cat f key t = if t.val = 33 then .bang else if t.val = 40 then .opn else if t.val = 41 then .cls else if 1 ≤ bnd t.val.toInt then .op t.val.toInt else .bad := by
  unfold cat
  rw [if_neg (by rw [h]; decide), if_neg (by rw [h]; decide), if_neg (by rw [h]; decide), if_pos h]
theorem cat_0 (h : t.ty = 0) : cat f key t = .fin := if_pos h
theorem cat_4 (h0 : t.ty ≠ 0) (h1 : t.ty ≠ 1) (h2 : t.ty ≠ 2) (h3 : t.ty ≠ 3) : cat f key t = .bad := by
  unfold cat
  rw [if_neg h0, if_neg h2, if_neg h1, if_neg h3]
end CAT
theorem c_readPart {d : Nat} {Q : Option Value → Hp → Prop} {h : Hp} {a : PA} {t : Tok} {key n : Nat} (tp : TP h n) (r : RdA h a) (hd : a.due = true) (hk : TkA h t) (w : TkW (h.1 54) n t) (l : a.S.length + a.out.length < 96) (ek : h.1 55 3 = nI key) (hkey : key ≤ 5) (hp : a.pr < 4000) (k1 : ∀ a' h', stA (cat (h.1 54) key t) a = some a' → frRd [4, 9, 10, 11] h h' → RdA h' a' → Q (some (.int 1)) h') (k0 : stA (cat (h.1 54) key t) a = none → Q (some (.int 0)) h) : Call (d + 5) 39 [.ref 55] h Q := by
  refine call_of (rfl : psM[39]? = some _) rfl rfl (rcvV rfl) (fun X hX => ?_)
  show X (0, [some (.ref 55)], [], h)
  refine go hX 3 (gs := [True, True, True]) (z' := (if (h.1 55 7) = 1 then 62 else if (h.1 55 7) = 2 then 32 else if (h.1 55 7) = 3 then 67 else 72, [some (.ref 55)], [], h)) rfl ⟨trivial, trivial, trivial, trivial⟩ ?_
  refine br (fun b1 => ?_) (fun b1 => ?_)
  ·
    refine go hX 1 (gs := [True]) (z' := (63, [some (.ref 55)], [.ref 55], h)) rfl ⟨trivial, trivial⟩ ?_
    refine cl hX 40 1 [.ref 55] [] rfl rfl rfl rfl ?_
    refine c_takeName tp r hk w (hk.2.2.1.symm.trans b1) ek hkey l hp (fun q1 q2 h1 f1 r1 => ?_) (fun q => ?_)
    ·
      show X (66, [some (.ref 55)], [.int 1], h1)
      refine rt_ hX (G := isB 1) (r := some (.int 1)) rfl isB1 ?_
      exact k1 _ h1 (stA_part hd ((cat_1 (hk.2.2.1.symm.trans b1)).trans (if_pos ⟨q1, q2⟩))) (f1.mo mo4911) r1
    ·
      show X (66, [some (.ref 55)], [.int 0], h)
      refine rt_ hX (G := isB 0) (r := some (.int 0)) rfl isB0 ?_
      have e : cat (h.1 54) key t = .bad := (cat_1 (hk.2.2.1.symm.trans b1)).trans (if_neg (fun p => q p.1 p.2))
      exact k0 (stA_no hd (fun s p => by rw [e] at p; cases p) (fun p _ => by rw [e] at p; cases p) (fun p _ => by rw [e] at p; cases p))
  ·
    refine br (fun b2 => ?_) (fun b2 => ?_)
    ·
      refine go hX 7 (gs := [True, True, True, True, True, True, True]) (z' := (if 4 < ((h.1 55 6) - (h.1 55 5)) then 60 else 45, [some (.ref 55)], [], h)) rfl ⟨trivial, trivial, trivial, trivial, trivial, trivial, trivial, trivial⟩ ?_
      refine br (fun b3 => ?_) (fun b3 => ?_)
      ·
        refine go hX 1 (gs := [True]) (z' := (61, [some (.ref 55)], [.int 0], h)) rfl ⟨trivial, trivial⟩ ?_
        refine rt_ hX (G := isB 0) (r := some (.int 0)) rfl isB0 ?_
        have e : cat (h.1 54) key t = .bad := (cat_2 (hk.2.2.1.symm.trans b2)).trans (if_neg (fun p => absurd b3 (Int32.not_lt.mpr ((tx_le4 w tp.hn hk (k := 4) (by omega)).1.mpr p))))
        exact k0 (stA_no hd (fun s p => by rw [e] at p; cases p) (fun p _ => by rw [e] at p; cases p) (fun p _ => by rw [e] at p; cases p))
      ·
        refine go hX 3 (gs := [True, True, True]) (z' := (50, [some (.ref 55)], [.int (h.1 55 8), .ref 55], h)) rfl ⟨trivial, trivial, trivial, trivial⟩ ?_
        refine cl hX 41 2 [.ref 55, .int (h.1 55 8)] [] rfl rfl rfl rfl ?_
        refine c_takePart r.g l r.on (by have := r.b2; omega) r.pr (fun h1 f1 g1 e11 e9 e4 => ?_)
        show X (53, [some (.ref 55)], [.int 1], h1)
        refine go hX 3 (gs := [True, True, True]) (z' := (61, [some (.ref 55)], [.int 1], h1)) rfl ⟨trivial, trivial, trivial, trivial⟩ ?_
        refine rt_ hX (G := isB 1) (r := some (.int 1)) rfl isB1 ?_
        have v := hk.2.2.2 (Or.inl (hk.2.2.1.symm.trans b2))
        rw [v] at g1 e11
        exact k1 _ h1 (stA_part hd ((cat_2 (hk.2.2.1.symm.trans b2)).trans (if_pos ((tx_le4 w tp.hn hk (k := 4) (by omega)).1.mp (Int32.not_lt.mp b3))))) (f1.mo mo4911) (r.tp f1 g1 e11 e9 e4 hp _)
    ·
      refine br (fun b4 => ?_) (fun b4 => ?_)
      ·
        refine go hX 1 (gs := [True]) (z' := (68, [some (.ref 55)], [.ref 55], h)) rfl ⟨trivial, trivial⟩ ?_
        refine cl hX 42 1 [.ref 55] [] rfl rfl rfl rfl ?_
        refine c_takeOpening r hd l (fun q1 q2 h1 f1 r1 => ?_) (fun q1 q2 h1 f1 r1 => ?_) (fun q1 q2 => ?_)
        ·
          show X (71, [some (.ref 55)], [.int 1], h1)
          refine rt_ hX (G := isB 1) (r := some (.int 1)) rfl isB1 ?_
          exact k1 _ h1 (stA_bang hd ((cat_3 (hk.2.2.1.symm.trans b4)).trans (if_pos ((hk.2.2.2 (Or.inr (hk.2.2.1.symm.trans b4))).symm.trans q1))) q2) f1 r1
        ·
          show X (71, [some (.ref 55)], [.int 1], h1)
          refine rt_ hX (G := isB 1) (r := some (.int 1)) rfl isB1 ?_
          have v : t.val = 40 := (hk.2.2.2 (Or.inr (hk.2.2.1.symm.trans b4))).symm.trans q1
          exact k1 _ h1 (stA_opn hd ((cat_3 (hk.2.2.1.symm.trans b4)).trans ((if_neg (by rw [v]; decide)).trans (if_pos v))) q2) f1 r1
        ·
          show X (71, [some (.ref 55)], [.int 0], h)
          refine rt_ hX (G := isB 0) (r := some (.int 0)) rfl isB0 ?_
          have v := (hk.2.2.2 (Or.inr (hk.2.2.1.symm.trans b4)))
          refine k0 (stA_no hd (fun s p => ?_) (fun p r0 => ?_) (fun p r0 => ?_))
          · rw [cat_3 (hk.2.2.1.symm.trans b4)] at p; split at p <;> (try cases p) <;> split at p <;> (try cases p) <;> split at p <;> (try cases p) <;> split at p <;> cases p
          · refine q1 (v.trans (Decidable.not_not.mp (fun n3 => ?_))) r0; rw [cat_3 (hk.2.2.1.symm.trans b4), if_neg n3] at p; split at p <;> (try cases p) <;> split at p <;> (try cases p) <;> split at p <;> cases p
          · by_cases n3 : t.val = 33
            · rw [cat_3 (hk.2.2.1.symm.trans b4), if_pos n3] at p; cases p
            · refine q2 (v.trans (Decidable.not_not.mp (fun n4 => ?_))) r0; rw [cat_3 (hk.2.2.1.symm.trans b4), if_neg n3, if_neg n4] at p; split at p <;> (try cases p) <;> split at p <;> cases p
      ·
        refine go hX 1 (gs := [True]) (z' := (73, [some (.ref 55)], [.int 0], h)) rfl ⟨trivial, trivial⟩ ?_
        refine rt_ hX (G := isB 0) (r := some (.int 0)) rfl isB0 ?_
        by_cases t0 : t.ty = 0
        · have e : cat (h.1 54) key t = .fin := cat_0 t0
          exact k0 (stA_no hd (fun s p => by rw [e] at p; cases p) (fun p _ => by rw [e] at p; cases p) (fun p _ => by rw [e] at p; cases p))
        have e : cat (h.1 54) key t = .bad := cat_4 t0 (fun q => b1 (hk.2.2.1.trans q)) (fun q => b2 (hk.2.2.1.trans q)) (fun q => b4 (hk.2.2.1.trans q))
        exact k0 (stA_no hd (fun s p => by rw [e] at p; cases p) (fun p _ => by rw [e] at p; cases p) (fun p _ => by rw [e] at p; cases p))
theorem c_pop0 {d : Nat} {Q : Option Value → Hp → Prop} {h : Hp} (a0 : h.1 58 1 ≤ 0) (k : Q (some (.int 0)) h) : Call (d + 1) 26 [.ref 58] h Q := by
  have e96 : nI 96 = 96 := rfl
  refine call_of (rfl : psM[26]? = some _) rfl rfl (rcvV rfl) (fun X hX => ?_)
  show X (0, [some (.ref 58)], [], h)
  refine go hX 3 (gs := [True, True, True]) (z' := (if (h.1 58 1) ≤ 0 then 19 else 7, [some (.ref 58)], [], h)) rfl ⟨trivial, trivial, trivial, trivial⟩ ?_
  refine br (fun b1 => ?_) (fun b1 => ?_)
  ·
    refine go hX 1 (gs := [True]) (z' := (20, [some (.ref 58)], [.int 0], h)) rfl ⟨trivial, trivial⟩ ?_
    refine rt_ hX (G := True) (r := some (.int 0)) rfl trivial ?_
    exact k
  ·
    refine go hX 6 (gs := [True, True, True, True, True, True]) (z' := (if (h.1 58 1) ≤ (nI 96) then 21 else 19, [some (.ref 58)], [], h)) rfl ⟨trivial, trivial, trivial, trivial, trivial, trivial, trivial⟩ ?_
    refine br (fun b2 => ?_) (fun b2 => ?_)
    ·
      refine go hX 11 (gs := [ibd ((h.1 58 1) - 1) 96, True, True, True, True, True, True, True, True, True, True]) (z' := (40, [some (.ref 58)], [.int (h.1 59 ((h.1 58 1) - 1))], (hI h 58 1 ((h.1 58 1) - 1)))) rfl ⟨?_, trivial, trivial, trivial, trivial, trivial, trivial, trivial, trivial, trivial, trivial, trivial⟩ ?_
      · exfalso; grind
      refine rt_ hX (G := True) (r := some (.int (h.1 59 ((h.1 58 1) - 1)))) rfl trivial ?_
      exfalso; grind
    ·
      refine go hX 1 (gs := [True]) (z' := (20, [some (.ref 58)], [.int 0], h)) rfl ⟨trivial, trivial⟩ ?_
      refine rt_ hX (G := True) (r := some (.int 0)) rfl trivial ?_
      exfalso; grind
theorem settle_len {L : Nat} {S : List Int} : ∀ {out : List Int}, (settle L S out).1.length + (settle L S out).2.length = S.length + out.length := by
  induction S with
  | nil => intro out; rfl
  | cons b T ih =>
    intro out
    show (if L ≤ bnd b then settle L T (sg b :: out) else (b :: T, out)).1.length + (if L ≤ bnd b then settle L T (sg b :: out) else (b :: T, out)).2.length = _
    split
    · rw [ih]
      simp only [Tok.ty_mk, Tok.st_mk, Tok.nx_mk, Tok.val_mk, PA.i_mk, PA.due_mk, PA.S_mk, PA.ob_mk, PA.on_mk, PA.pr_mk, PA.out_mk, PB.i_mk, PB.ob_mk, PB.nt_mk, PB.pr_mk, PB.out_mk, List.length_cons]
      omega
    · rfl
theorem SG.popT {d : Nat} {Q : Option Value → Hp → Prop} {h : Hp} {S out : List Int} (g : SG h S out) (k : ∀ (w : Int32) (h1 : Hp), frG h h1 → SG h1 S.tail out → Q (some (.int w)) h1) : Call (d + 1) 26 [.ref 58] h Q := by
  cases S with
  | nil => exact c_pop0 (by rw [g.s1]; exact Int32.le_refl _) (k 0 h frG_rf g)
  | cons b T => exact g.pop (fun w h1 _ f1 g1 _ => k w h1 f1 g1)
section CATS
variable {f : Int32 → Int32} {key : Nat} {t : Tok}
theorem cat_n3 (h : t.ty ≠ 3) : cat f key t ≠ .cls ∧ ∀ b, cat f key t ≠ .op b := by
  unfold cat
  split
  · exact ⟨fun p => by (cases p), fun b p => by (cases p)⟩
  · split
    · split
      · exact ⟨fun p => by (cases p), fun b p => by (cases p)⟩
      · exact ⟨fun p => by (cases p), fun b p => by (cases p)⟩
    · split
      · split
        · exact ⟨fun p => by (cases p), fun b p => by (cases p)⟩
        · exact ⟨fun p => by (cases p), fun b p => by (cases p)⟩
      · exact ⟨fun p => by (cases p), fun b p => by (cases p)⟩
theorem cat_b0 (h : t.ty = 3) (h4 : t.val ≠ 41) (hb : bnd t.val.toInt = 0) : cat f key t ≠ .cls ∧ ∀ b, cat f key t ≠ .op b := by
  rw [cat_3 h]
  split
  · exact ⟨fun p => by (cases p), fun b p => by (cases p)⟩
  · split
    · exact ⟨fun p => by (cases p), fun b p => by (cases p)⟩
    · rw [if_neg (by omega)]
      exact ⟨fun p => by (cases p), fun b p => by (cases p)⟩
theorem cat_cl (h : t.ty = 3) (h4 : t.val = 41) : cat f key t = .cls := by
  rw [cat_3 h, if_neg (by rw [h4]; decide), if_neg (by rw [h4]; decide), if_pos h4]
theorem cat_op (h : t.ty = 3) (hb : 1 ≤ bnd t.val.toInt) : cat f key t = .op t.val.toInt := by
  have n1 : t.val ≠ 33 := fun q => by rw [q] at hb; exact absurd hb (by decide)
  have n2 : t.val ≠ 40 := fun q => by rw [q] at hb; exact absurd hb (by decide)
  have n3 : t.val ≠ 41 := fun q => by rw [q] at hb; exact absurd hb (by decide)
  rw [cat_3 h, if_neg n1, if_neg n2, if_neg n3, if_pos hb]
end CATS
theorem tx_max {a : Nat} (h : a ≤ 5) : (if nI a < 1 then (1 : Int32) else nI a) = nI (max a 1) := by
  rcases (show a = 0 ∨ 1 ≤ a by omega) with rfl | q
  · rfl
  · rw [if_neg (fun p => by have := (tx_lt (b := 1) (by omega) (by omega)).mp p; omega), show max a 1 = a by omega]
theorem tops {S : List Int} {v : Int32} (h : v.toInt = S.headD 0) : bnd v.toInt = topB S := by
  rw [h]
  cases S <;> rfl
theorem mo910 : ∀ j : Int32, j ∈ ([9, 11] : List Int32) → j ∈ ([4, 9, 10, 11] : List Int32) := fun j hj => mo4911 j (mo911 j hj)
theorem c_takeClosing {d : Nat} {Q : Option Value → Hp → Prop} {h : Hp} {a : PA} (r : RdA h a) (k1 : a.ob ≠ 0 → ∀ h', frRd [4, 9, 10, 11] h h' → RdA h' ⟨a.i + 1, false, (endN a.on (settle 1 a.S a.out).1.tail (settle 1 a.S a.out).2).2.1, a.ob - 1, (endN a.on (settle 1 a.S a.out).1.tail (settle 1 a.S a.out).2).1, a.pr, (endN a.on (settle 1 a.S a.out).1.tail (settle 1 a.S a.out).2).2.2⟩ → Q (some (.int 1)) h') (k0 : a.ob = 0 → Q (some (.int 0)) h) : Call (d + 3) 44 [.ref 55] h Q := by
  refine call_of (rfl : psM[44]? = some _) rfl rfl (rcvV rfl) (fun X hX => ?_)
  show X (0, [some (.ref 55)], [], h)
  refine go hX 3 (gs := [True, True, True]) (z' := (if (h.1 55 10) = 0 then 7 else 9, [some (.ref 55)], [], h)) rfl ⟨trivial, trivial, trivial, trivial⟩ ?_
  refine br (fun b1 => ?_) (fun b1 => ?_)
  ·
    refine go hX 1 (gs := [True]) (z' := (8, [some (.ref 55)], [.int 0], h)) rfl ⟨trivial, trivial⟩ ?_
    refine rt_ hX (G := isB 0) (r := some (.int 0)) rfl isB0 ?_
    have e0 : a.ob = 0 := (nIle_eq (b := 0) (by have := r.b1; omega) (by decide)).mp (r.ob.symm.trans b1)
    exact k0 e0
  ·
    refine go hX 2 (gs := [True, True]) (z' := (11, [some (.ref 55)], [.int 1, .ref 55], h)) rfl ⟨trivial, trivial, trivial⟩ ?_
    refine cl hX 46 2 [.ref 55, .int 1] [] rfl rfl rfl rfl ?_
    refine c_settle (L := 1) (by decide) (by decide) r.g r.sb (fun h1 f1 g1 => ?_)
    show X (14, [some (.ref 55)], [], h1)
    refine go hX 2 (gs := [True, True]) (z' := (18, [some (.ref 55)], [.ref 58], h1)) rfl ⟨trivial, trivial, trivial⟩ ?_
    refine cl hX 26 1 [.ref 58] [] rfl rfl rfl rfl ?_
    refine g1.popT (fun w2 h2 f2 g2 => ?_)
    show X (21, [some (.ref 55)], [.int w2], h2)
    refine go hX 8 (gs := [True, True, True, True, True, True, True, True]) (z' := (33, [some (.ref 55)], [.ref 55], (hI h2 55 10 ((h2.1 55 10) - 1)))) rfl ⟨trivial, trivial, trivial, trivial, trivial, trivial, trivial, trivial, trivial⟩ ?_
    refine cl hX 45 1 [.ref 55] [] rfl rfl rfl rfl ?_
    have f12 := f1.tr f2; refine c_endP (o := a.on) g2.w55 (by rw [hI_j (by decide), f12.at55]; exact r.on) (by have := r.b2; omega) (fun h3 f3 g3 e11 e9 => ?_)
    show X (36, [some (.ref 55)], [], h3)
    refine go hX 1 (gs := [True]) (z' := (37, [some (.ref 55)], [.int 1], h3)) rfl ⟨trivial, trivial⟩ ?_
    refine rt_ hX (G := isB 1) (r := some (.int 1)) rfl isB1 ?_
    have n0 : a.ob ≠ 0 := fun q => b1 (by rw [r.ob, q]; rfl)
    refine k1 n0 h3 (((f12.x).st (by decide)).tr (f3.mo mo910)) ⟨g3, endN_sb (fun x hx => settle_sb r.sb x (List.mem_of_mem_tail hx)), e9, ?_, e11, ?_, by have := r.b1; dsimp only [Tok.ty_mk, Tok.st_mk, Tok.nx_mk, Tok.val_mk, PA.i_mk, PA.due_mk, PA.S_mk, PA.ob_mk, PA.on_mk, PA.pr_mk, PA.out_mk, PB.i_mk, PB.ob_mk, PB.nt_mk, PB.pr_mk, PB.out_mk]; omega, Nat.le_trans endN_le r.b2, r.b3⟩
    · rw [f3.at55 (by decide), hI_eq, f12.at55, r.ob]; obtain ⟨m, e⟩ : ∃ m, a.ob = m + 1 := ⟨a.ob - 1, by omega⟩; dsimp only [Tok.ty_mk, Tok.st_mk, Tok.nx_mk, Tok.val_mk, PA.i_mk, PA.due_mk, PA.S_mk, PA.ob_mk, PA.on_mk, PA.pr_mk, PA.out_mk, PB.i_mk, PB.ob_mk, PB.nt_mk, PB.pr_mk, PB.out_mk]; rw [e]; exact nI_m1
    · rw [f3.at55 (by decide), hI_j (by decide), f12.at55]; exact r.pr
theorem c_readSign {d : Nat} {Q : Option Value → Hp → Prop} {h : Hp} {a : PA} {t : Tok} {key n : Nat} (tp : TP h n) (r : RdA h a) (hd : a.due = false) (hk : TkA h t) (w : TkW (h.1 54) n t) (l : a.S.length + a.out.length < 96) (k1 : ∀ a' h', stA (cat (h.1 54) key t) a = some a' → frRd [4, 9, 10, 11] h h' → RdA h' a' → Q (some (.int 1)) h') (k0 : stA (cat (h.1 54) key t) a = none → ∀ h', frRd [4, 9, 10, 11] h h' → Q (some (.int 0)) h') : Call (d + 4) 43 [.ref 55] h Q := by
  refine call_of (rfl : psM[43]? = some _) rfl rfl (rcvV rfl) (fun X hX => ?_)
  show X (0, [some (.ref 55), none], [], h)
  refine go hX 4 (gs := [True, True, True, True]) (z' := (if (h.1 55 7) = 3 then 10 else 8, [some (.ref 55), none], [], h)) rfl ⟨trivial, trivial, trivial, trivial, trivial⟩ ?_
  refine br (fun b1 => ?_) (fun b1 => ?_)
  ·
    refine go hX 4 (gs := [True, True, True, True]) (z' := (if (h.1 55 8) = 41 then 19 else 24, [some (.ref 55), none], [], h)) rfl ⟨trivial, trivial, trivial, trivial, trivial⟩ ?_
    refine br (fun b2 => ?_) (fun b2 => ?_)
    ·
      refine go hX 1 (gs := [True]) (z' := (20, [some (.ref 55), none], [.ref 55], h)) rfl ⟨trivial, trivial⟩ ?_
      refine cl hX 44 1 [.ref 55] [] rfl rfl rfl rfl ?_
      refine c_takeClosing r (fun q1 h1 f1 r1 => ?_) (fun q1 => ?_)
      ·
        show X (23, [some (.ref 55), none], [.int 1], h1)
        refine rt_ hX (G := isB 1) (r := some (.int 1)) rfl isB1 ?_
        exact k1 _ h1 (stA_cls hd (cat_cl (hk.2.2.1.symm.trans b1) ((hk.2.2.2 (Or.inr (hk.2.2.1.symm.trans b1))).symm.trans b2)) q1) f1 r1
      ·
        show X (23, [some (.ref 55), none], [.int 0], h)
        refine rt_ hX (G := isB 0) (r := some (.int 0)) rfl isB0 ?_
        exact k0 (stA_cls0 hd (cat_cl (hk.2.2.1.symm.trans b1) ((hk.2.2.2 (Or.inr (hk.2.2.1.symm.trans b1))).symm.trans b2)) q1) h frRd_rf
    ·
      refine go hX 2 (gs := [True, True]) (z' := (28, [some (.ref 55), none], [.int (h.1 55 8)], h)) rfl ⟨trivial, trivial, trivial⟩ ?_
      refine cl hX 47 1 [.int (h.1 55 8)] [] rfl rfl rfl rfl ?_
      refine c_binds ?_
      show X (31, [some (.ref 55), none], [.int (nI (bnd ((h.1 55 8)).toInt))], h)
      refine go hX 5 (gs := [True, True, True, True, True]) (z' := (if (nI (bnd ((h.1 55 8)).toInt)) = 3 then 38 else 44, [some (.ref 55), some (.int (nI (bnd ((h.1 55 8)).toInt)))], [.ref 55], h)) rfl ⟨trivial, trivial, trivial, trivial, trivial, trivial⟩ ?_
      refine br (fun b3 => ?_) (fun b3 => ?_)
      ·
        refine go hX 4 (gs := [True, True, True, True]) (z' := (49, [some (.ref 55), some (.int (nI (bnd ((h.1 55 8)).toInt)))], [.int ((nI (bnd ((h.1 55 8)).toInt)) + 1), .ref 55], h)) rfl ⟨trivial, trivial, trivial, trivial, trivial⟩ ?_
        refine cl hX 46 2 [.ref 55, .int ((nI (bnd ((h.1 55 8)).toInt)) + 1)] [] rfl rfl rfl rfl ?_
        have m3 : bnd (h.1 55 8).toInt = 3 := (nIle_eq (b := 3) (by have := bnd_le (h.1 55 8).toInt; omega) (by decide)).mp b3; have e : ((nI (bnd ((h.1 55 8)).toInt)) + 1) = nI 4 := by rw [m3]; rfl
        rw [e]
        refine c_settle (L := 4) (by decide) (by decide) r.g r.sb (fun h1 f1 g1 => ?_)
        show X (52, [some (.ref 55), some (.int (nI (bnd ((h.1 55 8)).toInt)))], [], h1)
        refine go hX 2 (gs := [True, True]) (z' := (if (nI (bnd ((h.1 55 8)).toInt)) = 0 then 75 else 56, [some (.ref 55), some (.int (nI (bnd ((h.1 55 8)).toInt)))], [], h1)) rfl ⟨trivial, trivial, trivial⟩ ?_
        refine br (fun b4 => ?_) (fun b4 => ?_)
        ·
          refine go hX 1 (gs := [True]) (z' := (76, [some (.ref 55), some (.int (nI (bnd ((h.1 55 8)).toInt)))], [.int 0], h1)) rfl ⟨trivial, trivial⟩ ?_
          refine rt_ hX (G := isB 0) (r := some (.int 0)) rfl isB0 ?_
          have v := (hk.2.2.2 (Or.inr (hk.2.2.1.symm.trans b1)))
          have b0 : bnd t.val.toInt = 0 := by rw [← v]; exact (nIle_eq (b := 0) (by have := bnd_le (h.1 55 8).toInt; omega) (by decide)).mp b4
          have q := cat_b0 (f := h.1 54) (key := key) (hk.2.2.1.symm.trans b1) (fun q => b2 ((hk.2.2.2 (Or.inr (hk.2.2.1.symm.trans b1))).trans q)) b0
          exact k0 (stA_noS hd q.1 q.2) h1 f1.x
        ·
          refine go hX 3 (gs := [True, True, True]) (z' := (if (nI (bnd ((h.1 55 8)).toInt)) = 3 then 61 else 77, [some (.ref 55), some (.int (nI (bnd ((h.1 55 8)).toInt)))], [], h1)) rfl ⟨trivial, trivial, trivial, trivial⟩ ?_
          refine br (fun b5 => ?_) (fun b5 => ?_)
          ·
            refine go hX 2 (gs := [True, True]) (z' := (65, [some (.ref 55), some (.int (nI (bnd ((h.1 55 8)).toInt)))], [.ref 58], h1)) rfl ⟨trivial, trivial, trivial⟩ ?_
            refine cl hX 25 1 [.ref 58] [] rfl rfl rfl rfl ?_
            refine g1.top (fun v2 hv2 => ?_)
            show X (68, [some (.ref 55), some (.int (nI (bnd ((h.1 55 8)).toInt)))], [.int v2], h1)
            refine cl hX 47 1 [.int v2] [] rfl rfl rfl rfl ?_
            refine c_binds ?_
            show X (71, [some (.ref 55), some (.int (nI (bnd ((h.1 55 8)).toInt)))], [.int (nI (bnd (v2).toInt))], h1)
            refine go hX 2 (gs := [True, True]) (z' := (if (nI (bnd (v2).toInt)) = 3 then 75 else 77, [some (.ref 55), some (.int (nI (bnd ((h.1 55 8)).toInt)))], [], h1)) rfl ⟨trivial, trivial, trivial⟩ ?_
            refine br (fun b6 => ?_) (fun b6 => ?_)
            ·
              refine go hX 1 (gs := [True]) (z' := (76, [some (.ref 55), some (.int (nI (bnd ((h.1 55 8)).toInt)))], [.int 0], h1)) rfl ⟨trivial, trivial⟩ ?_
              refine rt_ hX (G := isB 0) (r := some (.int 0)) rfl isB0 ?_
              have v := (hk.2.2.2 (Or.inr (hk.2.2.1.symm.trans b1)))
              have nb : 1 ≤ bnd t.val.toInt := by rw [← v]; exact Nat.pos_of_ne_zero (fun q => b4 (by rw [q]; rfl))
              rw [v] at m3
              exact k0 (stA_op3 hd (cat_op (hk.2.2.1.symm.trans b1) nb) ⟨m3, by rw [← tops hv2]; exact (nIle_eq (b := 3) (by have := bnd_le v2.toInt; omega) (by decide)).mp b6⟩) h1 f1.x
            ·
              refine go hX 4 (gs := [True, True, True, True]) (z' := (85, [some (.ref 55), some (.int (nI (bnd ((h.1 55 8)).toInt)))], [.int (h1.1 55 8), .ref 58], h1)) rfl ⟨trivial, trivial, trivial, trivial, trivial⟩ ?_
              refine cl hX 23 2 [.ref 58, .int (h1.1 55 8)] [] rfl rfl rfl rfl ?_
              refine g1.psh58 (by rw [settle_len]; exact l) (fun h2 f2 g2 => ?_)
              show X (88, [some (.ref 55), some (.int (nI (bnd ((h.1 55 8)).toInt)))], [], h2)
              refine go hX 4 (gs := [True, isB 1, True, True]) (z' := (94, [some (.ref 55), some (.int (nI (bnd ((h.1 55 8)).toInt)))], [.int 1], (hI h2 55 9 1))) rfl ⟨trivial, ?_, trivial, trivial, trivial⟩ ?_
              · exact isB1
              refine rt_ hX (G := isB 1) (r := some (.int 1)) rfl isB1 ?_
              have v := (hk.2.2.2 (Or.inr (hk.2.2.1.symm.trans b1)))
              have nb : 1 ≤ bnd t.val.toInt := by rw [← v]; exact Nat.pos_of_ne_zero (fun q => b4 (by rw [q]; rfl))
              rw [v] at m3
              have eL : (if bnd t.val.toInt = 3 then 4 else bnd t.val.toInt) = 4 := if_pos m3
              have nt : ¬ (bnd t.val.toInt = 3 ∧ topB (settle (if bnd t.val.toInt = 3 then 4 else bnd t.val.toInt) a.S a.out).1 = 3) := fun q => b6 (by rw [tops hv2]; have q := q.2; rw [eL] at q; rw [q]; rfl)
              rw [f1.at55, v] at g2
              refine k1 _ _ (stA_op hd (cat_op (hk.2.2.1.symm.trans b1) nb) nt) ((((f1.tr f2).x).st (by decide))) ?_
              rw [eL]
              refine ⟨g2.w55, SB_cons (w.w5 (hk.2.2.1.symm.trans b1)).1 (w.w5 (hk.2.2.1.symm.trans b1)).2 (settle_sb r.sb), hI_eq, ?_, ?_, ?_, r.b1, r.b2, r.b3⟩
              · rw [hI_j (by decide), (f1.tr f2).at55]; exact r.ob
              · rw [hI_j (by decide), (f1.tr f2).at55]; exact r.on
              · rw [hI_j (by decide), (f1.tr f2).at55]; exact r.pr
          ·
            refine go hX 4 (gs := [True, True, True, True]) (z' := (85, [some (.ref 55), some (.int (nI (bnd ((h.1 55 8)).toInt)))], [.int (h1.1 55 8), .ref 58], h1)) rfl ⟨trivial, trivial, trivial, trivial, trivial⟩ ?_
            refine cl hX 23 2 [.ref 58, .int (h1.1 55 8)] [] rfl rfl rfl rfl ?_
            refine g1.psh58 (by rw [settle_len]; exact l) (fun h2 f2 g2 => ?_)
            show X (88, [some (.ref 55), some (.int (nI (bnd ((h.1 55 8)).toInt)))], [], h2)
            refine go hX 4 (gs := [True, isB 1, True, True]) (z' := (94, [some (.ref 55), some (.int (nI (bnd ((h.1 55 8)).toInt)))], [.int 1], (hI h2 55 9 1))) rfl ⟨trivial, ?_, trivial, trivial, trivial⟩ ?_
            · exact isB1
            refine rt_ hX (G := isB 1) (r := some (.int 1)) rfl isB1 ?_
            exact absurd b3 b5
      ·
        refine go hX 3 (gs := [True, True, True]) (z' := (49, [some (.ref 55), some (.int (nI (bnd ((h.1 55 8)).toInt)))], [.int (if (nI (bnd ((h.1 55 8)).toInt)) < 1 then 1 else (nI (bnd ((h.1 55 8)).toInt))), .ref 55], h)) rfl ⟨trivial, trivial, trivial, trivial⟩ ?_
        refine cl hX 46 2 [.ref 55, .int (if (nI (bnd ((h.1 55 8)).toInt)) < 1 then 1 else (nI (bnd ((h.1 55 8)).toInt)))] [] rfl rfl rfl rfl ?_
        have m3 : bnd (h.1 55 8).toInt ≠ 3 := fun q => b3 (by rw [q]; rfl); rw [tx_max (bnd_le _)]
        refine c_settle (by omega) (by have := bnd_le (h.1 55 8).toInt; omega) r.g r.sb (fun h1 f1 g1 => ?_)
        show X (52, [some (.ref 55), some (.int (nI (bnd ((h.1 55 8)).toInt)))], [], h1)
        refine go hX 2 (gs := [True, True]) (z' := (if (nI (bnd ((h.1 55 8)).toInt)) = 0 then 75 else 56, [some (.ref 55), some (.int (nI (bnd ((h.1 55 8)).toInt)))], [], h1)) rfl ⟨trivial, trivial, trivial⟩ ?_
        refine br (fun b7 => ?_) (fun b7 => ?_)
        ·
          refine go hX 1 (gs := [True]) (z' := (76, [some (.ref 55), some (.int (nI (bnd ((h.1 55 8)).toInt)))], [.int 0], h1)) rfl ⟨trivial, trivial⟩ ?_
          refine rt_ hX (G := isB 0) (r := some (.int 0)) rfl isB0 ?_
          have v := (hk.2.2.2 (Or.inr (hk.2.2.1.symm.trans b1)))
          have b0 : bnd t.val.toInt = 0 := by rw [← v]; exact (nIle_eq (b := 0) (by have := bnd_le (h.1 55 8).toInt; omega) (by decide)).mp b7
          have q := cat_b0 (f := h.1 54) (key := key) (hk.2.2.1.symm.trans b1) (fun q => b2 ((hk.2.2.2 (Or.inr (hk.2.2.1.symm.trans b1))).trans q)) b0
          exact k0 (stA_noS hd q.1 q.2) h1 f1.x
        ·
          refine go hX 3 (gs := [True, True, True]) (z' := (if (nI (bnd ((h.1 55 8)).toInt)) = 3 then 61 else 77, [some (.ref 55), some (.int (nI (bnd ((h.1 55 8)).toInt)))], [], h1)) rfl ⟨trivial, trivial, trivial, trivial⟩ ?_
          refine br (fun b8 => ?_) (fun b8 => ?_)
          ·
            refine go hX 2 (gs := [True, True]) (z' := (65, [some (.ref 55), some (.int (nI (bnd ((h.1 55 8)).toInt)))], [.ref 58], h1)) rfl ⟨trivial, trivial, trivial⟩ ?_
            refine cl hX 25 1 [.ref 58] [] rfl rfl rfl rfl ?_
            refine g1.top (fun v2 hv2 => ?_)
            show X (68, [some (.ref 55), some (.int (nI (bnd ((h.1 55 8)).toInt)))], [.int v2], h1)
            refine cl hX 47 1 [.int v2] [] rfl rfl rfl rfl ?_
            refine c_binds ?_
            show X (71, [some (.ref 55), some (.int (nI (bnd ((h.1 55 8)).toInt)))], [.int (nI (bnd (v2).toInt))], h1)
            refine go hX 2 (gs := [True, True]) (z' := (if (nI (bnd (v2).toInt)) = 3 then 75 else 77, [some (.ref 55), some (.int (nI (bnd ((h.1 55 8)).toInt)))], [], h1)) rfl ⟨trivial, trivial, trivial⟩ ?_
            refine br (fun b9 => ?_) (fun b9 => ?_)
            ·
              refine go hX 1 (gs := [True]) (z' := (76, [some (.ref 55), some (.int (nI (bnd ((h.1 55 8)).toInt)))], [.int 0], h1)) rfl ⟨trivial, trivial⟩ ?_
              refine rt_ hX (G := isB 0) (r := some (.int 0)) rfl isB0 ?_
              exact absurd b8 b3
            ·
              refine go hX 4 (gs := [True, True, True, True]) (z' := (85, [some (.ref 55), some (.int (nI (bnd ((h.1 55 8)).toInt)))], [.int (h1.1 55 8), .ref 58], h1)) rfl ⟨trivial, trivial, trivial, trivial, trivial⟩ ?_
              refine cl hX 23 2 [.ref 58, .int (h1.1 55 8)] [] rfl rfl rfl rfl ?_
              refine g1.psh58 (by rw [settle_len]; exact l) (fun h2 f2 g2 => ?_)
              show X (88, [some (.ref 55), some (.int (nI (bnd ((h.1 55 8)).toInt)))], [], h2)
              refine go hX 4 (gs := [True, isB 1, True, True]) (z' := (94, [some (.ref 55), some (.int (nI (bnd ((h.1 55 8)).toInt)))], [.int 1], (hI h2 55 9 1))) rfl ⟨trivial, ?_, trivial, trivial, trivial⟩ ?_
              · exact isB1
              refine rt_ hX (G := isB 1) (r := some (.int 1)) rfl isB1 ?_
              exact absurd b8 b3
          ·
            refine go hX 4 (gs := [True, True, True, True]) (z' := (85, [some (.ref 55), some (.int (nI (bnd ((h.1 55 8)).toInt)))], [.int (h1.1 55 8), .ref 58], h1)) rfl ⟨trivial, trivial, trivial, trivial, trivial⟩ ?_
            refine cl hX 23 2 [.ref 58, .int (h1.1 55 8)] [] rfl rfl rfl rfl ?_
            refine g1.psh58 (by rw [settle_len]; exact l) (fun h2 f2 g2 => ?_)
            show X (88, [some (.ref 55), some (.int (nI (bnd ((h.1 55 8)).toInt)))], [], h2)
            refine go hX 4 (gs := [True, isB 1, True, True]) (z' := (94, [some (.ref 55), some (.int (nI (bnd ((h.1 55 8)).toInt)))], [.int 1], (hI h2 55 9 1))) rfl ⟨trivial, ?_, trivial, trivial, trivial⟩ ?_
            · exact isB1
            refine rt_ hX (G := isB 1) (r := some (.int 1)) rfl isB1 ?_
            have v := (hk.2.2.2 (Or.inr (hk.2.2.1.symm.trans b1)))
            have nb : 1 ≤ bnd t.val.toInt := by rw [← v]; exact Nat.pos_of_ne_zero (fun q => b7 (by rw [q]; rfl))
            rw [v] at m3 g1
            have eL : (if bnd t.val.toInt = 3 then 4 else bnd t.val.toInt) = max (bnd t.val.toInt) 1 := by rw [if_neg m3]; omega
            have nt : ¬ (bnd t.val.toInt = 3 ∧ topB (settle (if bnd t.val.toInt = 3 then 4 else bnd t.val.toInt) a.S a.out).1 = 3) := fun q => m3 q.1
            rw [f1.at55, v] at g2
            refine k1 _ _ (stA_op hd (cat_op (hk.2.2.1.symm.trans b1) nb) nt) ((((f1.tr f2).x).st (by decide))) ?_
            rw [eL]
            refine ⟨g2.w55, SB_cons (w.w5 (hk.2.2.1.symm.trans b1)).1 (w.w5 (hk.2.2.1.symm.trans b1)).2 (settle_sb r.sb), hI_eq, ?_, ?_, ?_, r.b1, r.b2, r.b3⟩
            · rw [hI_j (by decide), (f1.tr f2).at55]; exact r.ob
            · rw [hI_j (by decide), (f1.tr f2).at55]; exact r.on
            · rw [hI_j (by decide), (f1.tr f2).at55]; exact r.pr
  ·
    refine go hX 1 (gs := [True]) (z' := (9, [some (.ref 55), none], [.int 0], h)) rfl ⟨trivial, trivial⟩ ?_
    refine rt_ hX (G := isB 0) (r := some (.int 0)) rfl isB0 ?_
    have q := cat_n3 (f := h.1 54) (key := key) (t := t) (fun q => b1 (hk.2.2.1.trans q))
    exact k0 (stA_noS hd q.1 q.2) h frRd_rf
