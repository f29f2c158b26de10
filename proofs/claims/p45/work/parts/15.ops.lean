/-! Arithmetic of what is known. -/
def RS (rg : List Rg) (ws : List Wr) (h0 h : Hp) (ρ : Nat → Int) (S : Sx) (R : Sx × LE) (x : Int) : Prop := ∃ ρ', Ag ρ ρ' S.1 ∧ S.1 ≤ R.1.1 ∧ Mo rg ws h0 ρ' R.1 h ∧ GG ρ' R.1.1 R.2 x
def inR32 (D : Db) (e : LE) : Bool := en D (leK e 2147483648) && en D (leK (leSc (-1) e) 2147483647)
def inR64 (D : Db) (e : LE) : Bool := en D (leK e 9223372036854775808) && en D (leK (leSc (-1) e) 9223372036854775807)
def topI (S : Sx) (l u : Int) : Sx × LE := (nwS S l u, leX S.1)
def exa (S : Sx) (e : LE) : Sx × LE := if inR32 S.2.1 e = true then (S, e) else topI S I32lo I32hi
def exl (S : Sx) (e : LE) : Sx × LE := if inR64 S.2.1 e = true then (S, e) else topI S I64lo I64hi
theorem inR32_sp {ρ : Nat → Int} {n : Nat} {D : Db} (F : Fa ρ n D) {e : LE} (g : inR32 D e = true) : -2147483648 ≤ leV ρ e ∧ leV ρ e ≤ 2147483647 := by
  simp only [inR32, Bool.and_eq_true] at g
  have g1 := en_sp F g.1
  have g2 := en_sp F g.2
  rw [leV_K] at g1
  rw [leV_K, leV_sc] at g2
  omega
theorem inR64_sp {ρ : Nat → Int} {n : Nat} {D : Db} (F : Fa ρ n D) {e : LE} (g : inR64 D e = true) : -9223372036854775808 ≤ leV ρ e ∧ leV ρ e ≤ 9223372036854775807 := by
  simp only [inR64, Bool.and_eq_true] at g
  have g1 := en_sp F g.1
  have g2 := en_sp F g.2
  rw [leV_K] at g1
  rw [leV_K, leV_sc] at g2
  omega
section OPS
variable {rg : List Rg} {ws : List Wr} {h0 h : Hp} {ρ : Nat → Int} {S : Sx}
theorem topI_sp (M : Mo rg ws h0 ρ S h) {x l u : Int} (hl : l ≤ x) (hu : x ≤ u) : RS rg ws h0 h ρ S (topI S l u) x := ⟨_, upd_ag, Nat.le_succ _, M.nw hl hu, upd_at⟩
theorem RS.rf (M : Mo rg ws h0 ρ S h) {e : LE} {x : Int} (g : GG ρ S.1 e x) : RS rg ws h0 h ρ S (S, e) x := ⟨ρ, Ag.rf, Nat.le_refl _, M, g⟩
theorem exa_sp (M : Mo rg ws h0 ρ S h) {e : LE} {v : Int32} (hs : leS S.1 e) (hv : -2147483648 ≤ leV ρ e → leV ρ e ≤ 2147483647 → v.toInt = leV ρ e) : RS rg ws h0 h ρ S (exa S e) v.toInt := by
  unfold exa
  split
  · rename_i g
    have := inR32_sp M.1 g
    exact RS.rf M ⟨hs, (hv this.1 this.2).symm⟩
  · exact topI_sp M (i32b v).1 (i32b v).2
theorem exl_sp (M : Mo rg ws h0 ρ S h) {e : LE} {v : Int64} (hs : leS S.1 e) (hv : -9223372036854775808 ≤ leV ρ e → leV ρ e ≤ 9223372036854775807 → v.toInt = leV ρ e) : RS rg ws h0 h ρ S (exl S e) v.toInt := by
  unfold exl
  split
  · rename_i g
    have := inR64_sp M.1 g
    exact RS.rf M ⟨hs, (hv this.1 this.2).symm⟩
  · exact topI_sp M (i64b v).1 (i64b v).2
theorem b32 {x : Int} (h1 : -2147483648 ≤ x) (h2 : x ≤ 2147483647) : x.bmod (2 ^ 32) = x := by
  rw [Int.bmod_eq_of_le] <;> omega
theorem b64 {x : Int} (h1 : -9223372036854775808 ≤ x) (h2 : x ≤ 9223372036854775807) : x.bmod (2 ^ 64) = x := by
  rw [Int.bmod_eq_of_le] <;> omega
/-- two ints make one -/
def bo (i : Instr) (S : Sx) (e1 e2 : LE) : Option (Sx × LE) := match i with
  | .iadd => some (exa S (leA e1 e2))
  | .isub => some (exa S (leSub e1 e2))
  | .imul => (match e2.2 with
    | [] => some (exa S (leSc e2.1 e1))
    | _ => match e1.2 with
      | [] => some (exa S (leSc e1.1 e2))
      | _ => some (topI S I32lo I32hi))
  | .iand => (match e2.2, ile 0 e2.1 with
    | [], true => some (topI S 0 e2.1)
    | _, _ => match e1.2, ile 0 e1.1 with
      | [], true => some (topI S 0 e1.1)
      | _, _ => some (topI S I32lo I32hi))
  | .ior => some (topI S I32lo I32hi)
  | .ixor => some (topI S I32lo I32hi)
  | .ishl => some (topI S I32lo I32hi)
  | .ishr => some (topI S I32lo I32hi)
  | .iushr => some (topI S I32lo I32hi)
  | .idiv => if (en S.2.1 (leK e2 (-1)) || en S.2.1 (leK (leSc (-1) e2) (-1))) = true then some (topI S I32lo I32hi) else none
  | .irem => if en S.2.1 (leK e2 (-1)) = true then (if en S.2.1 e1 = true then (let T := nwS S 0 I32hi; match adG T.2.1 (leK (leSub e2 (leX S.1)) (-1)) with
      | some D => some ((T.1, D, T.2.2), leX S.1)
      | none => none) else some (topI S I32lo I32hi)) else none
  | _ => none
theorem and_b {x m : Int32} (hm : 0 ≤ m.toInt) : 0 ≤ (x &&& m).toInt ∧ (x &&& m).toInt ≤ m.toInt := by
  have e : (x &&& m).toInt = ((x.toBitVec &&& m.toBitVec).toInt : Int) := rfl
  have em : m.toInt = m.toBitVec.toInt := rfl
  have hlt : m.toBitVec.toNat < 2 ^ 31 := by
    have := m.toBitVec.isLt
    rw [em, BitVec.toInt_eq_toNat_cond] at hm
    split at hm <;> omega
  have hle : (x.toBitVec &&& m.toBitVec).toNat ≤ m.toBitVec.toNat := by rw [BitVec.toNat_and]; exact Nat.and_le_right
  rw [e, em, BitVec.toInt_eq_toNat_cond, BitVec.toInt_eq_toNat_cond, if_pos (by omega), if_pos (by omega)]
  omega
theorem and_b' {x m : Int32} (hm : 0 ≤ m.toInt) : 0 ≤ (m &&& x).toInt ∧ (m &&& x).toInt ≤ m.toInt := by
  have e : (m &&& x).toInt = ((m.toBitVec &&& x.toBitVec).toInt : Int) := rfl
  have em : m.toInt = m.toBitVec.toInt := rfl
  have hlt : m.toBitVec.toNat < 2 ^ 31 := by
    have := m.toBitVec.isLt
    rw [em, BitVec.toInt_eq_toNat_cond] at hm
    split at hm <;> omega
  have hle : (m.toBitVec &&& x.toBitVec).toNat ≤ m.toBitVec.toNat := by rw [BitVec.toNat_and]; exact Nat.and_le_left
  rw [e, em, BitVec.toInt_eq_toNat_cond, BitVec.toInt_eq_toNat_cond, if_pos (by omega), if_pos (by omega)]
  omega
theorem rem_b {x y : Int32} (hx : 0 ≤ x.toInt) (hy : 1 ≤ y.toInt) : 0 ≤ (x - x / y * y).toInt ∧ (x - x / y * y).toInt < y.toInt := by
  have hb := i32b x
  have hd : (x / y).toInt = x.toInt / y.toInt := by
    rw [Int32.toInt_div_of_ne_right x y (fun e => by rw [e] at hy; exact absurd hy (by decide)), Int.tdiv_eq_ediv_of_nonneg hx]
  have h1 : x.toInt / y.toInt * y.toInt ≤ x.toInt := Int.ediv_mul_le x.toInt (by omega)
  have h2 : 0 ≤ x.toInt / y.toInt * y.toInt := Int.mul_nonneg (Int.ediv_nonneg hx (by omega)) (by omega)
  have hm : (x / y * y).toInt = x.toInt / y.toInt * y.toInt := by
    rw [Int32.toInt_mul, hd, b32] <;> (simp only [I32lo, I32hi] at hb; omega)
  have hs : (x - x / y * y).toInt = x.toInt - x.toInt / y.toInt * y.toInt := by
    rw [Int32.toInt_sub, hm, b32] <;> (simp only [I32lo, I32hi] at hb; omega)
  have h3 := Int.emod_nonneg x.toInt (show y.toInt ≠ 0 by omega)
  have h4 := Int.emod_lt_of_pos x.toInt (show 0 < y.toInt by omega)
  have h5 : x.toInt % y.toInt = x.toInt - x.toInt / y.toInt * y.toInt := by rw [Int.emod_def, Int.mul_comm]
  rw [hs]
  omega
theorem bo_sp (M : Mo rg ws h0 ρ S h) {i : Instr} {e1 e2 : LE} {x y : Int32} (g1 : GG ρ S.1 e1 x.toInt) (g2 : GG ρ S.1 e2 y.toInt) {R : Sx × LE} (hb : bo i S e1 e2 = some R) : (i = .iadd → RS rg ws h0 h ρ S R (x + y).toInt) ∧ (i = .isub → RS rg ws h0 h ρ S R (x - y).toInt) ∧ (i = .imul → RS rg ws h0 h ρ S R (x * y).toInt) ∧ (i = .iand → RS rg ws h0 h ρ S R (x &&& y).toInt) ∧ (∀ v : Int32, (i = .ior ∨ i = .ixor ∨ i = .ishl ∨ i = .ishr ∨ i = .iushr ∨ i = .idiv) → RS rg ws h0 h ρ S R v.toInt) ∧ (i = .irem → RS rg ws h0 h ρ S R (x - x / y * y).toInt) ∧ (i = .idiv ∨ i = .irem → ¬ y = 0) := by
  have tp : ∀ v : Int32, RS rg ws h0 h ρ S (topI S I32lo I32hi) v.toInt := fun v => topI_sp M (i32b v).1 (i32b v).2
  have y0 : (en S.2.1 (leK e2 (-1)) = true ∨ en S.2.1 (leK (leSc (-1) e2) (-1)) = true) → ¬ y = 0 := by
    rintro (q | q) rfl
    · have := en_sp M.1 q
      rw [leV_K, g2.2, Int32.toInt_zero] at this
      omega
    · have := en_sp M.1 q
      rw [leV_K, leV_sc, g2.2, Int32.toInt_zero] at this
      omega
  unfold bo at hb
  split at hb
  · cases hb
    refine ⟨fun _ => exa_sp M (leS_add g1.1 g2.1) (fun a b => ?_), by simp, by simp, by simp, by simp, by simp, by simp⟩
    rw [leV_add, g1.2, g2.2] at a b ⊢
    rw [Int32.toInt_add, b32 a b]
  · cases hb
    refine ⟨by simp, fun _ => exa_sp M (leS_sub g1.1 g2.1) (fun a b => ?_), by simp, by simp, by simp, by simp, by simp⟩
    rw [leV_sub, g1.2, g2.2] at a b ⊢
    rw [Int32.toInt_sub, b32 a b]
  · refine ⟨by simp, by simp, fun _ => ?_, by simp, by simp, by simp, by simp⟩
    split at hb
    · rename_i hc
      cases hb
      refine exa_sp M (leS_sc g1.1) (fun a b => ?_)
      have : y.toInt = e2.1 := by rw [← g2.2]; simp [leV, hc, leT]
      rw [leV_sc, g1.2, ← this, Int.mul_comm] at a b ⊢
      rw [Int32.toInt_mul, b32 a b]
    · split at hb
      · rename_i hc
        cases hb
        refine exa_sp M (leS_sc g2.1) (fun a b => ?_)
        have : x.toInt = e1.1 := by rw [← g1.2]; simp [leV, hc, leT]
        rw [leV_sc, g2.2, ← this] at a b ⊢
        rw [Int32.toInt_mul, b32 a b]
      · cases hb
        exact tp _
  · refine ⟨by simp, by simp, by simp, fun _ => ?_, by simp, by simp, by simp⟩
    split at hb
    · rename_i hc hl
      cases hb
      have : y.toInt = e2.1 := by rw [← g2.2]; simp [leV, hc, leT]
      have hl := ile_le hl
      rw [← this] at hl ⊢
      exact topI_sp M (and_b hl).1 (and_b hl).2
    · split at hb
      · rename_i hc hl
        cases hb
        have : x.toInt = e1.1 := by rw [← g1.2]; simp [leV, hc, leT]
        have hl := ile_le hl
        rw [← this] at hl ⊢
        exact topI_sp M (and_b' hl).1 (and_b' hl).2
      · cases hb
        exact tp _
  · cases hb
    exact ⟨by simp, by simp, by simp, by simp, fun v _ => tp v, by simp, by simp⟩
  · cases hb
    exact ⟨by simp, by simp, by simp, by simp, fun v _ => tp v, by simp, by simp⟩
  · cases hb
    exact ⟨by simp, by simp, by simp, by simp, fun v _ => tp v, by simp, by simp⟩
  · cases hb
    exact ⟨by simp, by simp, by simp, by simp, fun v _ => tp v, by simp, by simp⟩
  · cases hb
    exact ⟨by simp, by simp, by simp, by simp, fun v _ => tp v, by simp, by simp⟩
  · split at hb
    · rename_i hc
      cases hb
      exact ⟨by simp, by simp, by simp, by simp, fun v _ => tp v, by simp, fun _ => y0 (by simpa using hc)⟩
    · cases hb
  · split at hb
    · rename_i hc
      refine ⟨by simp, by simp, by simp, by simp, by simp, fun _ => ?_, fun _ => y0 (Or.inl hc)⟩
      split at hb
      · rename_i hx
        have hx := en_sp M.1 hx
        have hy := en_sp M.1 hc
        rw [g1.2] at hx
        rw [leV_K, g2.2] at hy
        have hr := rem_b (x := x) (y := y) hx (by omega)
        have hb32 := i32b (x - x / y * y)
        have M1 := M.nw hr.1 hb32.2
        obtain ⟨D, hD, FD⟩ := adG_sp M1.1 (e := leK (leSub e2 (leX S.1)) (-1)) (leS_K (leS_sub (leS_mono g2.1 (Nat.le_succ _)) (leS_X (Nat.lt_succ_self _)))) (by
          rw [leV_K, leV_sub, leV_ext g2.1 upd_ag, g2.2, upd_at.2]
          omega)
        dsimp only at hb
        rw [hD] at hb
        cases hb
        exact ⟨_, upd_ag, Nat.le_succ _, M1.db FD, upd_at⟩
      · cases hb
        exact tp _
    · cases hb
  · cases hb
end OPS
