/-! THE FILLING: all ways in their order; what may be left out. -/
noncomputable abbrev Bst : Type := Int × Int × (Nat → Nat)
noncomputable def Bst.c (self_ : Bst) : Int := self_.1
theorem Bst.c_mk (c_ : Int) (s_ : Int) (g_ : Nat → Nat) : Bst.c (c_, s_, g_) = c_ := rfl
noncomputable def Bst.s (self_ : Bst) : Int := self_.2.1
theorem Bst.s_mk (c_ : Int) (s_ : Int) (g_ : Nat → Nat) : Bst.s (c_, s_, g_) = s_ := rfl
noncomputable def Bst.g (self_ : Bst) : Nat → Nat := self_.2.2
theorem Bst.g_mk (c_ : Int) (s_ : Int) (g_ : Nat → Nat) : Bst.g (c_, s_, g_) = g_ := rfl
noncomputable def upg (g : Nat → Nat) (h k : Nat) : Nat → Nat := fun i => if i = h then k else g i
noncomputable abbrev bet (c s : Int) (b : Bst) : Prop := b.c < c ∨ (b.c = c ∧ s < b.s)
noncomputable def srch (T : Nat → Int) (ok : Nat → Nat → (Nat → Nat) → Bool) : Nat → Nat → (Nat → Nat) → Int → Int → Bst → Bst
  | 0, _, g, c, s, b => if bet c s b then ⟨c, s, g⟩ else b
  | r + 1, h, g, c, s, b =>
    let f := fun k b => if ok h k g = true then srch T ok r (h + 1) (upg g h k) (c + 1) (s + T h) b else b
    srch T ok r (h + 1) (upg g h 3) c s (f 2 (f 1 (f 0 b)))
theorem srch_no {T : Nat → Int} {ok : Nat → Nat → (Nat → Nat) → Bool} {b : Bst} {P : Nat → Nat → (Nat → Nat) → Int → Int → Prop} (h0 : ∀ h g c s, P 0 h g c s → ¬ bet c s b) (h1 : ∀ r h g c s, P (r + 1) h g c s → (∀ k, k < 3 → ok h k g = true → P r (h + 1) (upg g h k) (c + 1) (s + T h)) ∧ P r (h + 1) (upg g h 3) c s) : ∀ {r h : Nat} {g : Nat → Nat} {c s : Int}, P r h g c s → srch T ok r h g c s b = b
  | 0, h, g, c, s, p => by
    unfold srch
    rw [if_neg (h0 h g c s p)]
  | r + 1, h, g, c, s, p => by
    obtain ⟨p1, p2⟩ := h1 r h g c s p
    have f : ∀ k, k < 3 → (if ok h k g = true then srch T ok r (h + 1) (upg g h k) (c + 1) (s + T h) b else b) = b := fun k hk => by
      split
      · rename_i q
        exact srch_no h0 h1 (p1 k hk q)
      · rfl
    unfold srch
    dsimp only [Bst.c_mk, Bst.s_mk, Bst.g_mk]
    rw [f 0 (by decide), f 1 (by decide), f 2 (by decide)]
    exact srch_no h0 h1 p2
/-- the reference's bound -/
theorem srch_B {T : Nat → Int} {ok : Nat → Nat → (Nat → Nat) → Bool} {b : Bst} (hT : ∀ i, 0 ≤ T i) {r h : Nat} {g : Nat → Nat} {c s : Int} (q : c + r < b.c ∨ (c + r = b.c ∧ b.s ≤ s)) : srch T ok r h g c s b = b := by
  refine srch_no (P := fun r h g c s => c + r < b.c ∨ (c + r = b.c ∧ b.s ≤ s)) (fun h g c s p => ?_) (fun r h g c s p => ⟨fun k hk ho => ?_, ?_⟩) q
  · unfold bet
    omega
  · have := hT h
    omega
  · omega
/-- how many of the first so many have this -/
noncomputable def cntK (g : Nat → Nat) (k : Nat) : Nat → Nat
  | 0 => 0
  | h + 1 => cntK g k h + (if g h = k then 1 else 0)
theorem cntK_cg {g g' : Nat → Nat} {k : Nat} : ∀ {h : Nat}, (∀ i, i < h → g' i = g i) → cntK g' k h = cntK g k h
  | 0, _ => rfl
  | h + 1, e => by
    unfold cntK
    rw [cntK_cg (fun i hi => e i (Nat.lt_succ_of_lt hi)), e h (Nat.lt_succ_self h)]
theorem upg_lt {g : Nat → Nat} {h k i : Nat} (hi : i < h) : upg g h k i = g i := if_neg (Nat.ne_of_lt hi)
theorem upg_at {g : Nat → Nat} {h k : Nat} : upg g h k h = k := if_pos rfl
theorem cntK_up {g : Nat → Nat} {h k j : Nat} : cntK (upg g h k) j (h + 1) = cntK g j h + (if k = j then 1 else 0) := by
  show cntK (upg g h k) j h + (if upg g h k h = j then 1 else 0) = _
  rw [cntK_cg (fun i hi => upg_lt hi), upg_at]
/-- the room that is left -/
noncomputable def rmK (C : Nat → Int) (g : Nat → Nat) (h : Nat) (k : Nat) : Int := C k - cntK g k h
/-- what the class reckons ahead: who is able, the least sums -/
noncomputable abbrev LTO (n : Nat) (T : Nat → Int) (ch : Nat → Prop) (ab : Nat → Nat) (ls : Nat → Nat → Int) : Prop := (ab n = 0) ∧ (∀ h, h < n → ch h → ab h = ab (h + 1) + 1) ∧ (∀ h, h < n → ¬ ch h → ab h = ab (h + 1)) ∧ (ls n 0 = 0) ∧ (∀ h, h < n → ch h → ∀ m, m ≤ ab (h + 1) → ls h (m + 1) ≤ T h + ls (h + 1) m) ∧ (∀ h, h < n → ∀ m, m ≤ ab (h + 1) → ls h m ≤ ls (h + 1) m)
theorem LTO.a0 {n : Nat} {T : Nat → Int} {ch : Nat → Prop} {ab : Nat → Nat} {ls : Nat → Nat → Int} (self_ : LTO n T ch ab ls) : ab n = 0 := self_.1
theorem LTO.a1 {n : Nat} {T : Nat → Int} {ch : Nat → Prop} {ab : Nat → Nat} {ls : Nat → Nat → Int} (self_ : LTO n T ch ab ls) : ∀ h, h < n → ch h → ab h = ab (h + 1) + 1 := self_.2.1
theorem LTO.a2 {n : Nat} {T : Nat → Int} {ch : Nat → Prop} {ab : Nat → Nat} {ls : Nat → Nat → Int} (self_ : LTO n T ch ab ls) : ∀ h, h < n → ¬ ch h → ab h = ab (h + 1) := self_.2.2.1
theorem LTO.l0 {n : Nat} {T : Nat → Int} {ch : Nat → Prop} {ab : Nat → Nat} {ls : Nat → Nat → Int} (self_ : LTO n T ch ab ls) : ls n 0 = 0 := self_.2.2.2.1
theorem LTO.l1 {n : Nat} {T : Nat → Int} {ch : Nat → Prop} {ab : Nat → Nat} {ls : Nat → Nat → Int} (self_ : LTO n T ch ab ls) : ∀ h, h < n → ch h → ∀ m, m ≤ ab (h + 1) → ls h (m + 1) ≤ T h + ls (h + 1) m := self_.2.2.2.2.1
theorem LTO.l2 {n : Nat} {T : Nat → Int} {ch : Nat → Prop} {ab : Nat → Nat} {ls : Nat → Nat → Int} (self_ : LTO n T ch ab ls) : ∀ h, h < n → ∀ m, m ≤ ab (h + 1) → ls h m ≤ ls (h + 1) m := self_.2.2.2.2.2
noncomputable def rm3 (C : Nat → Int) (g : Nat → Nat) (h : Nat) : Int := rmK C g h 0 + rmK C g h 1 + rmK C g h 2
noncomputable def mst (ab : Nat → Nat) (C : Nat → Int) (g : Nat → Nat) (h : Nat) (c : Int) : Int := c + min (ab h : Int) (rm3 C g h)
theorem rmK_up {C : Nat → Int} {g : Nat → Nat} {h k j : Nat} : rmK C (upg g h k) (h + 1) j = rmK C g h j - (if k = j then 1 else 0) := by
  unfold rmK
  rw [cntK_up]
  split <;> omega
theorem srch_A {n : Nat} {T : Nat → Int} {C : Nat → Int} {ok : Nat → Nat → (Nat → Nat) → Bool} {ch : Nat → Prop} {ab : Nat → Nat} {ls : Nat → Nat → Int} (L : LTO n T ch ab ls) (hok : ∀ h k g, k < 3 → ok h k g = true → ch h ∧ 1 ≤ rmK C g h k) {b : Bst} {r h : Nat} {g : Nat → Nat} {c s : Int} (hr : h + r = n) (hC : ∀ k, k < 3 → 0 ≤ rmK C g h k) (q : mst ab C g h c < b.c ∨ (mst ab C g h c = b.c ∧ b.s ≤ s + ls h (b.c - c).toNat)) : srch T ok r h g c s b = b := by
  refine srch_no (P := fun r h g c s => h + r = n ∧ (∀ k, k < 3 → 0 ≤ rmK C g h k) ∧ (mst ab C g h c < b.c ∨ (mst ab C g h c = b.c ∧ b.s ≤ s + ls h (b.c - c).toNat))) (fun h g c s p => ?_) (fun r h g c s p => ⟨fun k hk ho => ?_, ?_⟩) ⟨hr, hC, q⟩
  · obtain ⟨p0, p1, p2⟩ := p
    have p0 : h = n := p0
    subst p0
    have r0 := p1 0 (by decide)
    have r1 := p1 1 (by decide)
    have r2 := p1 2 (by decide)
    unfold mst rm3 at p2
    rw [L.a0] at p2
    unfold bet
    rcases p2 with p2 | ⟨p2, p3⟩
    · omega
    · have e : (b.c - c).toNat = 0 := by omega
      rw [e, L.l0] at p3
      omega
  · obtain ⟨p0, p1, p2⟩ := p
    obtain ⟨o1, o2⟩ := hok h k g hk ho
    have r0 := p1 0 (by decide)
    have r1 := p1 1 (by decide)
    have r2 := p1 2 (by decide)
    have a1 := L.a1 h (by omega) o1
    have R : rm3 C (upg g h k) (h + 1) = rm3 C g h - 1 ∧ 1 ≤ rm3 C g h := by
      unfold rm3
      rw [rmK_up, rmK_up, rmK_up]
      have : k = 0 ∨ k = 1 ∨ k = 2 := by omega
      rcases this with rfl | rfl | rfl <;> simp only [Bst.c_mk, Bst.s_mk, Bst.g_mk, reduceIte, show ¬ (0 = 1) by decide, show ¬ (0 = 2) by decide, show ¬ (1 = 0) by decide, show ¬ (1 = 2) by decide, show ¬ (2 = 0) by decide, show ¬ (2 = 1) by decide] <;> omega
    have mm : mst ab C (upg g h k) (h + 1) (c + 1) = mst ab C g h c := by
      unfold mst
      rw [R.1, a1]
      omega
    refine ⟨by omega, fun j hj => ?_, ?_⟩
    · rw [rmK_up]
      have := p1 j hj
      split
      · rename_i e
        subst e
        omega
      · omega
    · rw [mm]
      rcases p2 with p2 | ⟨p2, p3⟩
      · exact Or.inl p2
      · right
        refine ⟨p2, ?_⟩
        unfold mst at p2
        obtain ⟨m, em⟩ : ∃ m : Nat, (b.c - c).toNat = m + 1 := ⟨(b.c - c).toNat - 1, by omega⟩
        have e2 : (b.c - (c + 1)).toNat = m := by omega
        rw [em] at p3
        rw [e2]
        have := L.l1 h (by omega) o1 m (by omega)
        omega
  · obtain ⟨p0, p1, p2⟩ := p
    have r0 := p1 0 (by decide)
    have r1 := p1 1 (by decide)
    have r2 := p1 2 (by decide)
    have R : ∀ j, j < 3 → rmK C (upg g h 3) (h + 1) j = rmK C g h j := fun j hj => by
      rw [rmK_up, if_neg (by omega)]
      omega
    have R3 : rm3 C (upg g h 3) (h + 1) = rm3 C g h := by
      unfold rm3
      rw [R 0 (by decide), R 1 (by decide), R 2 (by decide)]
    have A : ab h = ab (h + 1) ∨ ab h = ab (h + 1) + 1 := by
      by_cases hc : ch h
      · exact Or.inr (L.a1 h (by omega) hc)
      · exact Or.inl (L.a2 h (by omega) hc)
    refine ⟨by omega, fun j hj => by rw [R j hj]; exact p1 j hj, ?_⟩
    have m1 : mst ab C (upg g h 3) (h + 1) c ≤ mst ab C g h c := by
      unfold mst
      rw [R3]
      omega
    rcases p2 with p2 | ⟨p2, p3⟩
    · exact Or.inl (by omega)
    · by_cases e : mst ab C (upg g h 3) (h + 1) c = b.c
      · right
        refine ⟨e, ?_⟩
        unfold mst at e
        have := L.l2 h (by omega) (b.c - c).toNat (by omega)
        omega
      · left
        omega
/-- a number comes to its place among others: sums of the first so many -/
noncomputable def pre (S : Nat → Int) : Nat → Int
  | 0 => 0
  | m + 1 => pre S m + S m
noncomputable def insP (S : Nat → Int) (p : Nat) (v : Int) : Nat → Int := fun i => if i < p then S i else if i = p then v else S (i - 1)
theorem pre_cg {S S' : Nat → Int} : ∀ {m : Nat}, (∀ i, i < m → S' i = S i) → pre S' m = pre S m
  | 0, _ => rfl
  | m + 1, e => by
    unfold pre
    rw [pre_cg (fun i hi => e i (Nat.lt_succ_of_lt hi)), e m (Nat.lt_succ_self m)]
theorem pre_ins {S : Nat → Int} {p : Nat} {v : Int} : ∀ {m : Nat}, pre (insP S p v) m = if m ≤ p then pre S m else pre S (m - 1) + v
  | 0 => by rw [if_pos (Nat.zero_le p)]; rfl
  | m + 1 => by
    show pre (insP S p v) m + insP S p v m = _
    rw [pre_ins (m := m)]
    unfold insP
    by_cases h1 : m + 1 ≤ p
    · rw [if_pos (by omega), if_pos (by omega), if_pos h1]
      rfl
    · rw [if_neg h1]
      by_cases h2 : m = p
      · subst h2
        rw [if_pos (Nat.le_refl m), if_neg (Nat.lt_irrefl m), if_pos rfl]
        rfl
      · rw [if_neg (by omega), if_neg (by omega), if_neg h2]
        obtain ⟨m', rfl⟩ : ∃ m', m = m' + 1 := ⟨m - 1, by omega⟩
        show pre S m' + v + S m' = pre S m' + S m' + v
        omega
/-- sorted, n of them; the new one's place -/
noncomputable abbrev InP (S : Nat → Int) (n p : Nat) (v : Int) : Prop := (p ≤ n) ∧ (∀ i, i < p → S i ≤ v) ∧ (∀ i, p ≤ i → i < n → v < S i)
theorem InP.pn {S : Nat → Int} {n p : Nat} {v : Int} (self_ : InP S n p v) : p ≤ n := self_.1
theorem InP.lo {S : Nat → Int} {n p : Nat} {v : Int} (self_ : InP S n p v) : ∀ i, i < p → S i ≤ v := self_.2.1
theorem InP.hi {S : Nat → Int} {n p : Nat} {v : Int} (self_ : InP S n p v) : ∀ i, p ≤ i → i < n → v < S i := self_.2.2
theorem insP_A {S : Nat → Int} {n p : Nat} {v : Int} (I : InP S n p v) {m : Nat} : pre (insP S p v) (m + 1) ≤ v + pre S m := by
  rw [pre_ins]
  split
  · have := I.lo m (by omega)
    show pre S m + S m ≤ _
    omega
  · show pre S m + v ≤ _
    omega
theorem insP_B {S : Nat → Int} {n p : Nat} {v : Int} (I : InP S n p v) {m : Nat} (hm : m ≤ n) : pre (insP S p v) m ≤ pre S m := by
  rw [pre_ins]
  split
  · omega
  · obtain ⟨m', rfl⟩ : ∃ m', m = m' + 1 := ⟨m - 1, by omega⟩
    have := I.hi m' (by omega) (by omega)
    show pre S m' + v ≤ pre S m' + S m'
    omega
theorem insP_srt {S : Nat → Int} {n p : Nat} {v : Int} (I : InP S n p v) (hs : ∀ i j, i < j → j < n → S i ≤ S j) : ∀ i j, i < j → j < n + 1 → insP S p v i ≤ insP S p v j := by
  intro i j hij hj
  have := I.pn
  unfold insP
  by_cases h1 : j < p
  · rw [if_pos (by omega), if_pos h1]
    exact hs i j hij (by omega)
  · rw [if_neg h1]
    by_cases h2 : j = p
    · rw [if_pos h2, if_pos (by omega)]
      exact I.lo i (by omega)
    · rw [if_neg h2]
      by_cases h3 : i < p
      · rw [if_pos h3]
        by_cases h4 : i = j - 1
        · omega
        · exact hs i (j - 1) (by omega) (by omega)
      · rw [if_neg h3]
        by_cases h4 : i = p
        · rw [if_pos h4]
          have := I.hi (j - 1) (by omega) (by omega)
          omega
        · rw [if_neg h4]
          exact hs (i - 1) (j - 1) (by omega) (by omega)
