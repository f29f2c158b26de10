/-! The reference's state: what stays so. -/
/-- the steps of a text stand so that they can be worked out: dp is the pile's height ahead of each -/
def WFT (f : Int32 → Int32) (b : Int32) : Prop := 0 ≤ f (b + 3) ∧ f (b + 3) ≤ 96 ∧ ∃ dp : Int32 → Int32, dp 0 = 0 ∧ ∀ k, 0 ≤ k → k < f (b + 3) → 0 ≤ dp k ∧ dp k ≤ 96 ∧ (f (b + 4 + 2 * k) ≠ 2 → dp (k + 1) = dp k + 1 ∧ dp k < 96 ∧ (f (b + 4 + 2 * k) ≠ 0 → 0 ≤ f (b + 4 + 2 * k + 1) ∧ f (b + 4 + 2 * k + 1) < 128)) ∧ (f (b + 4 + 2 * k) = 2 → (f (b + 4 + 2 * k + 1) = 33 → 1 ≤ dp k ∧ dp (k + 1) = dp k) ∧ (f (b + 4 + 2 * k + 1) ≠ 33 → 2 ≤ dp k ∧ dp (k + 1) = dp k - 1))
def ISa (f : Int32 → Int32) : Prop := (0 ≤ f 0 ∧ f 0 ≤ 999) ∧ (0 ≤ f 1 ∧ f 1 ≤ 3) ∧ (0 ≤ f 2 ∧ f 2 ≤ 10) ∧ (0 ≤ f 3 ∧ f 3 ≤ 30) ∧ (0 ≤ f 4 ∧ f 4 ≤ 12) ∧ (0 ≤ f 5 ∧ f 5 ≤ 40) ∧ (0 ≤ f 6 ∧ f 6 ≤ 65535)
def ISb (f : Int32 → Int32) : Prop := (∀ k, 0 ≤ k → k < 10 → -1 ≤ f (40 + 16 * k + 8) ∧ f (40 + 16 * k + 8) ≤ 2) ∧ (∀ k, 0 ≤ k → k < 30 → 0 ≤ f (300 + 9 * k + 1) ∧ f (300 + 9 * k + 1) ≤ 2) ∧ (∀ k, 0 ≤ k → k < 40 → 0 ≤ f (3000 + 4 * k) ∧ f (3000 + 4 * k) ≤ 9)
def ISc (f : Int32 → Int32) : Prop := ∀ k, 0 ≤ k → k < f 4 → WFT f (600 + 200 * k)
def IS (f : Int32 → Int32) : Prop := ISa f ∧ ISb f ∧ ISc f
/-- what the invariant speaks of, apart from the counts -/
def crit (j : Int32) : Prop := (∃ k, 0 ≤ k ∧ k < 10 ∧ j = 40 + 16 * k + 8) ∨ (∃ k, 0 ≤ k ∧ k < 30 ∧ j = 300 + 9 * k + 1) ∨ (∃ k, 0 ≤ k ∧ k < 40 ∧ j = 3000 + 4 * k) ∨ (600 ≤ j ∧ j < 3000)
theorem WFT_cong {f f' : Int32 → Int32} {k : Int32} (h0 : 0 ≤ k) (h1 : k < 12) (he : ∀ j, 600 ≤ j → j < 3000 → f' j = f j) (h : WFT f (600 + 200 * k)) : WFT f' (600 + 200 * k) := by
  obtain ⟨a, b, dp, c, g⟩ := h
  have e3 : f' (600 + 200 * k + 3) = f (600 + 200 * k + 3) := he _ (by grind) (by grind)
  refine ⟨by rw [e3]; exact a, by rw [e3]; exact b, dp, c, fun i i0 i1 => ?_⟩
  rw [e3] at i1
  have g0 := g i i0 i1
  rw [he (600 + 200 * k + 4 + 2 * i) (by grind) (by grind), he (600 + 200 * k + 4 + 2 * i + 1) (by grind) (by grind)]
  exact g0
/-- a heap that is the same at the places that count -/
theorem IS_cong {f f' : Int32 → Int32} (h : IS f) (h1 : ∀ j, 0 ≤ j → j < 7 → f' j = f j) (h2 : ∀ j, crit j → f' j = f j) : IS f' := by
  obtain ⟨⟨a0, a1, a2, a3, a4, a5, a6⟩, ⟨b1, b2, b3⟩, c⟩ := h
  have e : ∀ j, 0 ≤ j → j < 7 → f' j = f j := h1
  refine ⟨⟨?_, ?_, ?_, ?_, ?_, ?_, ?_⟩, ⟨fun k k0 k1 => ?_, fun k k0 k1 => ?_, fun k k0 k1 => ?_⟩, fun k k0 k1 => ?_⟩
  · rw [e 0 (by decide) (by decide)]; exact a0
  · rw [e 1 (by decide) (by decide)]; exact a1
  · rw [e 2 (by decide) (by decide)]; exact a2
  · rw [e 3 (by decide) (by decide)]; exact a3
  · rw [e 4 (by decide) (by decide)]; exact a4
  · rw [e 5 (by decide) (by decide)]; exact a5
  · rw [e 6 (by decide) (by decide)]; exact a6
  · rw [h2 _ (Or.inl ⟨k, k0, k1, rfl⟩)]; exact b1 k k0 k1
  · rw [h2 _ (Or.inr (Or.inl ⟨k, k0, k1, rfl⟩))]; exact b2 k k0 k1
  · rw [h2 _ (Or.inr (Or.inr (Or.inl ⟨k, k0, k1, rfl⟩)))]; exact b3 k k0 k1
  · rw [e 4 (by decide) (by decide)] at k1
    exact WFT_cong k0 (by grind) (fun j j0 j1 => h2 j (Or.inr (Or.inr (Or.inr ⟨j0, j1⟩)))) (c k k0 k1)
/-- a store at a place that does not count -/
theorem IS_st {h : Hp} {j v : Int32} (hi : IS (h.1 66)) (h1 : ¬ (0 ≤ j ∧ j < 7)) (h2 : ¬ crit j) : IS ((hI h 66 j v).1 66) := IS_cong hi (fun i i0 i1 => hI_j (fun e => h1 (e ▸ ⟨i0, i1⟩))) (fun i ic => hI_j (fun e => h2 (e ▸ ic)))
theorem crit_hand {k c : Int32} (k0 : 0 ≤ k) (k1 : k < 10) (c0 : 0 ≤ c) (c1 : c < 16) (c2 : c ≠ 8) : ¬ crit (40 + 16 * k + c) ∧ ¬ (0 ≤ 40 + 16 * k + c ∧ 40 + 16 * k + c < 7) := by
  refine ⟨?_, by grind⟩
  rintro (⟨m, m0, m1, e⟩ | ⟨m, m0, m1, e⟩ | ⟨m, m0, m1, e⟩ | e)
  · grind
  · grind
  · grind
  · grind
theorem crit_shop {k c : Int32} (k0 : 0 ≤ k) (k1 : k < 3) (c0 : 0 ≤ c) (c1 : c < 10) : ¬ crit (10 + 10 * k + c) ∧ ¬ (0 ≤ 10 + 10 * k + c ∧ 10 + 10 * k + c < 7) := by
  refine ⟨?_, by grind⟩
  rintro (⟨m, m0, m1, e⟩ | ⟨m, m0, m1, e⟩ | ⟨m, m0, m1, e⟩ | e)
  · grind
  · grind
  · grind
  · grind
theorem crit_thing {k c : Int32} (k0 : 0 ≤ k) (k1 : k < 30) (c0 : 0 ≤ c) (c1 : c < 9) (c2 : c ≠ 1) : ¬ crit (300 + 9 * k + c) ∧ ¬ (0 ≤ 300 + 9 * k + c ∧ 300 + 9 * k + c < 7) := by
  refine ⟨?_, by grind⟩
  rintro (⟨m, m0, m1, e⟩ | ⟨m, m0, m1, e⟩ | ⟨m, m0, m1, e⟩ | e)
  · grind
  · grind
  · grind
  · grind
theorem crit_event {k c : Int32} (k0 : 0 ≤ k) (k1 : k < 40) (c0 : 1 ≤ c) (c1 : c < 4) : ¬ crit (3000 + 4 * k + c) ∧ ¬ (0 ≤ 3000 + 4 * k + c ∧ 3000 + 4 * k + c < 7) := by
  refine ⟨?_, by grind⟩
  rintro (⟨m, m0, m1, e⟩ | ⟨m, m0, m1, e⟩ | ⟨m, m0, m1, e⟩ | e)
  · grind
  · grind
  · grind
  · grind
theorem crit_bar {j : Int32} (j0 : 200 ≤ j) (j1 : j < 300) : ¬ crit j ∧ ¬ (0 ≤ j ∧ j < 7) := by
  refine ⟨?_, by grind⟩
  rintro (⟨m, m0, m1, e⟩ | ⟨m, m0, m1, e⟩ | ⟨m, m0, m1, e⟩ | e)
  · grind
  · grind
  · grind
  · grind
