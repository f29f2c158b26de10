/-! What is known of a configuration, and what a heap's reading and writing make of it. -/
noncomputable abbrev AV : Type := Nat × LE
noncomputable abbrev Kc : Type := Nat × Nat × LE × LE
noncomputable abbrev Sx : Type := Nat × Db × List Kc
noncomputable abbrev Cc : Type := Sx × Nat × List (Option AV) × List AV
/-- a region: object, base, stride, how many; least, most -/
noncomputable abbrev Rg : Type := Nat × Int × Int × Int × Int × Int
/-- what may be written: kind, object, from, to -/
noncomputable abbrev Wr : Type := Nat × Nat × Int × Int
noncomputable def av (ρ : Nat → Int) (n : Nat) (a : AV) (v : Value) : Prop := match a.1 with
  | 0 => ∃ x : Int32, v = .int x ∧ GG ρ n a.2 x.toInt
  | 1 => ∃ x : Int64, v = .long x ∧ GG ρ n a.2 x.toInt
  | 2 => ∃ r : Nat, v = .ref r ∧ a.2 = (Int.ofNat r, [])
  | _ => ∃ x y : Int64, v = .int (lg_cmp x y) ∧ GG ρ n a.2 (x.toInt - y.toInt)
/-- the ints of an object, by whole numbers -/
noncomputable def Fz (h : Hp) (o : Nat) (i : Int) : Int := (h.1 o (Int32.ofInt i)).toInt
/-- l steps from a on can be worked out from an empty pile, and leave g there -/
noncomputable def WFP (F : Int → Int) (a l g : Int) : Prop := 0 ≤ l ∧ ∃ dp : Int → Int, dp 0 = 0 ∧ dp l = g ∧ ∀ k, 0 ≤ k → k < l → 0 ≤ dp k ∧ (F (a + 2 * k) ≠ 2 → dp (k + 1) = dp k + 1 ∧ (F (a + 2 * k) ≠ 0 → 0 ≤ F (a + 2 * k + 1) ∧ F (a + 2 * k + 1) < 128)) ∧ (F (a + 2 * k) = 2 → (F (a + 2 * k + 1) = 33 → 1 ≤ dp k ∧ dp (k + 1) = dp k) ∧ (F (a + 2 * k + 1) ≠ 33 → 2 ≤ dp k ∧ dp (k + 1) = dp k - 1))
/-- all texts of a state can be worked out -/
noncomputable def WFX (h : Hp) (o : Nat) : Prop := ∀ t : Int, 0 ≤ t → t < 12 → t < (h.1 o 4).toInt → Fz h o (603 + 200 * t) ≤ 96 ∧ WFP (Fz h o) (604 + 200 * t) (Fz h o (603 + 200 * t)) 1
/-- where the steps are laid -/
noncomputable def LAG (h : Hp) : Prop := 604 ≤ (h.1 65 25).toInt ∧ ((h.1 65 25).toInt ≤ 2804 ∨ (h.1 65 25).toInt = 3200)
/-- a place of an array of whole numbers: order k is open, and not yet taken as done -/
noncomputable def opB (h : Hp) (k : Nat) : Bool := decide (Fz h 66 (306 + 9 * (k : Int)) < 0) && decide (Fz h 75 (k : Int) = 0)
noncomputable def cntO (h : Hp) : Nat := (List.range 30).countP (opB h)
noncomputable def opn (h : Hp) (x : Int) : Prop := 0 ≤ x ∧ x < 30 ∧ opB h x.toNat = true
theorem opn_cnt {h : Hp} {x : Int} (w : opn h x) : 1 ≤ cntO h := by
  unfold cntO
  exact List.countP_pos_iff.mpr ⟨x.toNat, List.mem_range.mpr (by have := w.1; have := w.2.1; omega), w.2.2⟩
theorem countP_flip {p q : Nat → Bool} {m : Nat} : ∀ {n : Nat}, m < n → p m = true → q m = false → (∀ k, k < n → k ≠ m → q k = p k) → (List.range n).countP p = (List.range n).countP q + 1
  | 0, h, _, _, _ => by omega
  | n + 1, h, hp, hq, he => by
    rw [List.range_succ, List.countP_append, List.countP_append]
    by_cases hm : m = n
    · subst hm
      have e : (List.range m).countP p = (List.range m).countP q := List.countP_congr (fun k hk => by
        have hk := List.mem_range.mp hk
        rw [he k (by omega) (by omega)])
      rw [e]
      simp [List.countP_cons, hp, hq]
    · have ih := countP_flip (n := n) (by omega) hp hq (fun k hk hne => he k (by omega) hne)
      have e : q n = p n := he n (by omega) (fun hz => hm hz.symm)
      have e1 : [n].countP p = [n].countP q := List.countP_congr (fun k hk => by
        rw [List.mem_singleton.mp hk, e])
      rw [ih, e1]
      omega
/-- rows of cells of class and reference that go along, of a state: table; base, stride; base, stride; how many; 1: NONE here is -1 there -/
noncomputable def rlF : List (Nat × Int × Int × Int × Int × Int × Nat) := [(0, 0, 8, 10, 10, 3, 0), (0, 1, 8, 11, 10, 3, 0), (0, 2, 8, 12, 10, 3, 0), (0, 3, 8, 13, 10, 3, 0), (0, 4, 8, 14, 10, 3, 0), (0, 6, 8, 16, 10, 3, 0), (0, 7, 8, 17, 10, 3, 0), (1, 0, 14, 40, 16, 10, 0), (1, 1, 14, 41, 16, 10, 0), (1, 2, 14, 42, 16, 10, 0), (1, 3, 14, 43, 16, 10, 0), (1, 4, 14, 44, 16, 10, 0), (1, 5, 14, 45, 16, 10, 0), (1, 6, 14, 46, 16, 10, 0), (1, 7, 14, 47, 16, 10, 0), (1, 8, 14, 48, 16, 10, 1), (1, 9, 14, 49, 16, 10, 1), (1, 10, 14, 50, 16, 10, 0), (1, 11, 14, 51, 16, 10, 0), (1, 13, 14, 52, 16, 10, 0), (2, 0, 8, 300, 9, 30, 0), (2, 1, 8, 301, 9, 30, 0), (2, 2, 8, 302, 9, 30, 0), (2, 3, 8, 303, 9, 30, 0), (2, 4, 8, 304, 9, 30, 0), (2, 5, 8, 305, 9, 30, 1), (2, 6, 8, 306, 9, 30, 1), (2, 7, 8, 307, 9, 30, 0), (3, 0, 100, 600, 200, 12, 0), (3, 1, 100, 601, 200, 12, 0), (3, 2, 100, 602, 200, 12, 0), (3, 3, 100, 603, 200, 12, 0), (4, 0, 4, 3000, 4, 40, 0), (4, 1, 4, 3001, 4, 40, 0), (4, 2, 4, 3002, 4, 40, 0), (4, 3, 4, 3003, 4, 40, 1), (2, 0, 8, 304, 9, 30, 3), (2, 5, 8, 304, 9, 30, 4)]
/-- others: ints or longs; object, base, stride; object, base, stride; how many; 1 as above -/
noncomputable def rlM : List (Nat × Nat × Int × Int × Nat × Int × Int × Int × Nat) := [(0, 61, 0, 1, 69, 0, 1, 4, 0), (0, 62, 0, 1, 70, 0, 1, 4, 0), (1, 63, 0, 1, 71, 0, 1, 96, 0), (0, 54, 0, 1, 78, 0, 1, 96, 0), (0, 64, 0, 1, 82, 0, 1, 60, 0), (0, 75, 0, 1, 66, 570, 1, 30, 0), (0, 49, 0, 1, 73, 0, 1, 10, 2), (0, 75, 0, 1, 67, 570, 1, 30, 0), (0, 75, 0, 1, 68, 570, 1, 30, 0)]
noncomputable abbrev Rl : Type := Nat × (Nat × Int × Int) × (Nat × Int × Int) × Int × Nat
noncomputable def rlD (r : Nat) : Option Rl := if Nat.blt r 2000 = true then (match lk6 rlF (r / 16) with
  | some (t, b1, s1, b2, s2, n, cv) => some (0, (3 + 2 * t + 11 * (r % 16 / 4), b1, s1), (66 + r % 4, b2, s2), n, cv)
  | none => none) else (match rlM[r - 2000]? with
  | some (k, o1, b1, s1, o2, b2, s2, n, cv) => some (k, (o1, b1, s1), (o2, b2, s2), n, cv)
  | none => none)
theorem rlF_ok : ∀ q ∈ rlF, q.1 ≤ 4 ∧ 0 ≤ q.2.1 ∧ 0 < q.2.2.1 ∧ 0 ≤ q.2.2.2.1 ∧ 0 < q.2.2.2.2.1 ∧ q.2.1 + q.2.2.1 * q.2.2.2.2.2.1 ≤ 100000 ∧ q.2.2.2.1 + q.2.2.2.2.1 * q.2.2.2.2.2.1 ≤ 100000 := by decide +kernel
theorem rlM_ok : ∀ q ∈ rlM, q.2.1 ≠ q.2.2.2.2.1 ∧ 0 ≤ q.2.2.1 ∧ 0 < q.2.2.2.1 ∧ 0 ≤ q.2.2.2.2.2.1 ∧ 0 < q.2.2.2.2.2.2.1 ∧ q.2.2.1 + q.2.2.2.1 * q.2.2.2.2.2.2.2.1 ≤ 100000 ∧ q.2.2.2.2.2.1 + q.2.2.2.2.2.2.1 * q.2.2.2.2.2.2.2.1 ≤ 100000 := by decide +kernel
theorem rlD_ok {r k o1 o2 cv : Nat} {b1 s1 b2 s2 n : Int} (h : rlD r = some (k, (o1, b1, s1), (o2, b2, s2), n, cv)) : o1 ≠ o2 ∧ 0 ≤ b1 ∧ 0 < s1 ∧ 0 ≤ b2 ∧ 0 < s2 ∧ b1 + s1 * n ≤ 100000 ∧ b2 + s2 * n ≤ 100000 := by
  unfold rlD at h
  split at h
  · split at h
    · rename_i q hq
      rw [lk6_eq] at hq
      cases h
      have := rlF_ok _ (List.mem_of_getElem? hq)
      exact ⟨by omega, this.2⟩
    · cases h
  · split at h
    · rename_i q hq
      cases h
      exact rlM_ok _ (List.mem_of_getElem? hq)
    · cases h
theorem rlM_k : ∀ q ∈ rlM, q.1 = 0 ∨ q.1 = 1 := by decide +kernel
theorem rlF_c : ∀ q ∈ rlF, q.2.2.2.2.2.2 ≤ 4 := by decide +kernel
theorem rlM_c : ∀ q ∈ rlM, q.2.2.2.2.2.2.2.2 ≤ 4 := by decide +kernel
theorem rlD_cv {r k o1 o2 cv : Nat} {b1 s1 b2 s2 n : Int} (h : rlD r = some (k, (o1, b1, s1), (o2, b2, s2), n, cv)) : cv ≤ 4 := by
  unfold rlD at h
  split at h
  · split at h
    · rename_i q hq
      rw [lk6_eq] at hq
      cases h
      exact rlF_c _ (List.mem_of_getElem? hq)
    · cases h
  · split at h
    · rename_i q hq
      cases h
      exact rlM_c _ (List.mem_of_getElem? hq)
    · cases h
noncomputable def rlV (h : Hp) (k o : Nat) (a : Int) : Int := if k = 0 then (h.1 o (Int32.ofInt a)).toInt else (h.2.1 o (Int32.ofInt a)).toInt
/-- the same; with 1: NONE here is -1 there, else the same and not below 0; with 2: NONE here is 3 there, else the same, 0 to 2 -/
noncomputable def rlR (cv : Nat) (u w : Int) : Prop := if cv = 1 then (u = -1000000005 ∧ w = -1) ∨ (u = w ∧ 0 ≤ w) else if cv = 2 then (u = -1000000005 ∧ w = 3) ∨ (u = w ∧ 0 ≤ w ∧ w ≤ 2) else if cv = 3 then (w = 1 → 1 ≤ u ∧ u ≤ 3) else if cv = 4 then (w = 1 → 0 ≤ u) else u = w
theorem rlR0 {u w : Int} : rlR 0 u w ↔ u = w := by unfold rlR; rw [if_neg (by decide), if_neg (by decide), if_neg (by decide), if_neg (by decide)]
/-- the rows go along, but from place x to ahead of place y -/
noncomputable def RLO (h : Hp) (r : Nat) (x y : Int) : Prop := ∃ (k o1 : Nat) (b1 s1 : Int) (o2 : Nat) (b2 s2 n : Int) (cv : Nat), rlD r = some (k, (o1, b1, s1), (o2, b2, s2), n, cv) ∧ ∀ t : Int, 0 ≤ t → t < n → (t < x ∨ y ≤ t) → rlR cv (rlV h k o1 (b1 + s1 * t)) (rlV h k o2 (b2 + s2 * t))
/-- from row y on the cells of the class are 0 -/
noncomputable def ZRO (h : Hp) (r : Nat) (y : Int) : Prop := ∃ (o1 : Nat) (b1 s1 : Int) (o2 : Nat) (b2 s2 n : Int) (cv : Nat), rlD r = some (0, (o1, b1, s1), (o2, b2, s2), n, cv) ∧ ∀ t : Int, 0 ≤ t → y ≤ t → t < n → rlV h 0 o1 (b1 + s1 * t) = 0
/-- who is barred from whom: the bits of the class, the table of the reference; o: 4 times which state of the class, and which of the reference; none from place y on -/
noncomputable def bgC (o : Nat) : Nat := 5 + 11 * (o / 4)
noncomputable def bgR (o : Nat) : Nat := 66 + o % 4
noncomputable def bitZ (v b : Int) : Int := if v.toNat.testBit b.toNat = true then 1 else 0
noncomputable def BG (h : Hp) (o : Nat) (y : Int) : Prop := o < 12 ∧ ∀ a b : Int, 0 ≤ a → a < 10 → 0 ≤ b → b < 10 → 0 ≤ rlV h 0 (bgC o) (12 + 14 * a) ∧ rlV h 0 (bgC o) (12 + 14 * a) < 1024 ∧ rlV h 0 (bgR o) (200 + 10 * a + b) = bitZ (rlV h 0 (bgC o) (12 + 14 * a)) b ∧ (y ≤ a ∨ y ≤ b → bitZ (rlV h 0 (bgC o) (12 + 14 * a)) b = 0) ∧ rlV h 0 (bgR o) (200 + 10 * a + b) = rlV h 0 (bgR o) (200 + 10 * b + a)
theorem bg_ne {o p : Nat} (h : o < 12) : bgC o ≠ bgR p := by unfold bgC bgR; omega
/-- what is sure of a row's cells below a count: base, stride, how many, the count's cell, what (0 below the bound's cell; 1 not 0; 2 from 0 to what is told; 3 it is 3, or below the bound's cell), the bound's cell -/
noncomputable def ubL : List (Int × Int × Int × Int × Nat × Int) := [(48, 16, 10, 2, 0, 1), (301, 9, 30, 3, 0, 1), (3000, 4, 40, 5, 0, 2), (3001, 4, 40, 5, 1, 5), (46, 16, 10, 2, 2, 2), (0, 1, 10, 2, 3, 1)]
noncomputable def ubC (o : Nat) : Nat := 66 + o % 4
noncomputable def ubR (o : Nat) : Nat := if Nat.beq (o / 4) 5 = true then 73 else 66 + o % 4
theorem ubL_ok : ∀ q ∈ ubL, 0 ≤ q.1 ∧ 0 < q.2.1 ∧ 0 ≤ q.2.2.1 ∧ q.1 + q.2.1 * q.2.2.1 ≤ 100000 ∧ 0 ≤ q.2.2.2.1 ∧ q.2.2.2.1 < 10 ∧ 0 ≤ q.2.2.2.2.2 ∧ q.2.2.2.2.2 < 10 ∧ q.2.2.2.2.1 ≤ 3 := by decide +kernel
noncomputable def ubQ (w : Nat) (v N y : Int) : Prop := (w = 0 → v < N) ∧ (w = 1 → v ≠ 0) ∧ (w = 2 → 0 ≤ v ∧ v ≤ y) ∧ (w = 3 → v = 3 ∨ v < N)
noncomputable def UBO (h : Hp) (o : Nat) (y : Int) : Prop := ∃ (b s n c1 : Int) (w : Nat) (c2 : Int), ubL[o / 4]? = some (b, s, n, c1, w, c2) ∧ ∀ t : Int, 0 ≤ t → t < n → t < rlV h 0 (ubC o) c1 → ubQ w (rlV h 0 (ubR o) (b + s * t)) (rlV h 0 (ubC o) c2) y
/-- a step of a TEXT as the class and as the reference keep it -/
noncomputable def nmL (key : Int) : List Int := if key = 0 then [110, 107, 114] else if key = 1 then [107] else if key = 2 then [103, 111] else if key = 3 then [103, 116] else if key = 4 then [103] else [119, 107]
noncomputable def stW (key s x v : Int) : Prop := (x = 0 ∧ v = s ∧ 0 ≤ s ∧ s < 10000) ∨ (x = 1 ∧ ∃ k : Nat, k < (nmL key).length ∧ s = 10000 + (k : Int) ∧ v = (nmL key).getD k 0) ∨ (x = 2 ∧ s = 20000 + v ∧ (v = 33 ∨ v = 43 ∨ v = 45 ∨ v = 42 ∨ v = 47 ∨ v = 60 ∨ v = 61 ∨ v = 62 ∨ v = 38 ∨ v = 124))
/-- the same TEXTS, so many; o: as of who is barred -/
noncomputable def smC (o : Nat) : Nat := 9 + 11 * (o / 4)
noncomputable def SMO (h : Hp) (o : Nat) (y : Int) : Prop := ∀ t : Int, 0 ≤ t → t < y → t < 12 → 0 ≤ rlV h 0 (smC o) (100 * t) ∧ rlV h 0 (smC o) (100 * t) ≤ 5 ∧ 0 ≤ rlV h 0 (smC o) (100 * t + 3) ∧ rlV h 0 (smC o) (100 * t + 3) ≤ 96 ∧ rlV h 0 (bgR o) (603 + 200 * t) = rlV h 0 (smC o) (100 * t + 3) ∧ ∀ i : Int, 0 ≤ i → i < rlV h 0 (smC o) (100 * t + 3) → stW (rlV h 0 (smC o) (100 * t)) (rlV h 0 (smC o) (100 * t + 4 + i)) (rlV h 0 (bgR o) (604 + 200 * t + 2 * i)) (rlV h 0 (bgR o) (605 + 200 * t + 2 * i))
/-- no shop holds more hands than it has places -/
noncomputable def plB (h : Hp) (o : Nat) (k : Int) (i : Nat) : Bool := decide ((i : Int) < rlV h 0 (ubC o) 2) && decide (rlV h 0 (ubC o) (48 + 16 * (i : Int)) = k)
noncomputable def plN (h : Hp) (o : Nat) (k : Int) : Nat := (List.range 10).countP (plB h o k)
noncomputable def PLO (h : Hp) (o : Nat) : Prop := ∀ k : Int, 0 ≤ k → k < 3 → plN h o k = 0 ∨ (plN h o k : Int) ≤ rlV h 0 (ubC o) (10 + 10 * k)
/-- who is free is in no shop, but for x -/
noncomputable def FRO (h : Hp) (o : Nat) (x : Int) : Prop := ∀ t : Int, 0 ≤ t → t < 10 → t < rlV h 0 (ubC o) 2 → rlV h 0 (ubC o) (51 + 16 * t) = 1 → rlV h 0 (ubC o) (48 + 16 * t) < 0 ∨ t = x
/-- an operation of two ints by its number; both in one number -/
noncomputable def opI (q : Nat) (x y : Int32) : Int32 := match q with
  | 0 => x ||| y
  | 1 => x &&& y
  | 2 => x ^^^ y
  | 3 => x <<< (y &&& 31)
  | 4 => x >>> (y &&& 31)
  | 5 => (x.toUInt32 >>> (y.toUInt32 &&& Int32.toUInt32 31)).toInt32
  | 6 => x * y
  | 7 => x / y
  | _ => x - x / y * y
noncomputable def OPV (q : Nat) (x y : Int) : Prop := ∃ a b : Int32, x = a.toInt + 1099511627776 * b.toInt ∧ y = (opI q a b).toInt
/-- what a number wraps to: 8, 16, 32, 64 bits; shifted up by 56, 48 -/
noncomputable def PU (o : Nat) (x y : Int) : Prop := match o with
  | 0 => y = x.bmod 256
  | 1 => y = x.bmod 65536
  | 2 => y = x.bmod 4294967296
  | 3 => y = x.bmod 18446744073709551616
  | 4 => y = (x * 72057594037927936).bmod 18446744073709551616
  | 5 => y = (x * 281474976710656).bmod 18446744073709551616
  | _ => False
/-- what a known cell says: 0 an int, 1 a long, 2 the script's length, 3 an int of the script, 4 the steps that are being laid, 5 the texts, 6 the place of the steps, 7 how many orders are open, 8 an open order's number, or below 0; 9 rows that go along; 10 what a number wraps to -/
noncomputable def KC (h : Hp) (k o : Nat) (x y : Int) : Prop := match k with
  | 0 => ∃ j : Int32, x = j.toInt ∧ y = (h.1 o j).toInt
  | 1 => ∃ j : Int32, x = j.toInt ∧ y = (h.2.1 o j).toInt
  | 2 => y = (h.2.2.1 : Int)
  | 3 => ∃ j : Int32, x = j.toInt ∧ y = (h.2.2.2 j.toNatClampNeg).toInt
  | 4 => WFP (Fz h 66) (h.1 65 25).toInt (h.1 65 24).toInt y
  | 5 => y = 0 ∧ WFX h o
  | 6 => y = 0 ∧ LAG h
  | 7 => y = (cntO h : Int)
  | 8 => y = 0 ∧ (x < 0 ∨ opn h x)
  | 9 => RLO h o x y
  | 10 => PU o x y
  | 11 => ZRO h o y
  | 12 => BG h o y
  | 13 => OPV o x y
  | 14 => UBO h o y
  | 15 => SMO h o y
  | 16 => y = 0 ∧ PLO h o
  | 17 => FRO h o y
  | _ => False
noncomputable def kcO (ρ : Nat → Int) (n : Nat) (h : Hp) (c : Kc) : Prop := leS n c.2.2.1 ∧ leS n c.2.2.2 ∧ KC h c.1 c.2.1 (leV ρ c.2.2.1) (leV ρ c.2.2.2)
/-- what kinds 4 to 6 speak of -/
noncomputable def dep (k o : Nat) (o' : Nat) (j : Int) : Prop := match k with
  | 4 => o' = 66 ∨ o' = 65 ∧ (j = 24 ∨ j = 25)
  | 5 => o' = o ∧ (j = 4 ∨ 600 ≤ j ∧ j < 3000)
  | 6 => o' = 65 ∧ j = 25
  | 7 => o' = 75 ∨ o' = 66 ∧ 306 ≤ j ∧ j ≤ 567
  | 8 => o' = 75 ∨ o' = 66 ∧ 306 ≤ j ∧ j ≤ 567
  | 9 => ∃ d, rlD o = some d ∧ (o' = d.2.1.1 ∧ d.2.1.2.1 ≤ j ∧ j ≤ d.2.1.2.1 + d.2.1.2.2 * (d.2.2.2.1 - 1) ∨ o' = d.2.2.1.1 ∧ d.2.2.1.2.1 ≤ j ∧ j ≤ d.2.2.1.2.1 + d.2.2.1.2.2 * (d.2.2.2.1 - 1))
  | 11 => ∃ d, rlD o = some d ∧ (o' = d.2.1.1 ∧ d.2.1.2.1 ≤ j ∧ j ≤ d.2.1.2.1 + d.2.1.2.2 * (d.2.2.2.1 - 1))
  | 12 => o' = bgC o ∧ 12 ≤ j ∧ j ≤ 138 ∨ o' = bgR o ∧ 200 ≤ j ∧ j ≤ 299
  | 14 => ∃ q, ubL[o / 4]? = some q ∧ (o' = ubC o ∧ (j = q.2.2.2.1 ∨ q.2.2.2.2.1 ≠ 1 ∧ q.2.2.2.2.1 ≠ 2 ∧ j = q.2.2.2.2.2) ∨ o' = ubR o ∧ q.1 ≤ j ∧ j ≤ q.1 + q.2.1 * (q.2.2.1 - 1))
  | 15 => o' = smC o ∨ o' = bgR o ∧ 600 ≤ j ∧ j < 3000
  | 16 => o' = ubC o ∧ (j = 2 ∨ j = 10 ∨ j = 20 ∨ j = 30 ∨ 48 ≤ j ∧ j ≤ 192)
  | 17 => o' = ubC o ∧ (j = 2 ∨ 48 ≤ j ∧ j ≤ 195)
  | _ => False
theorem WFP_cong {F F' : Int → Int} {a l g : Int} (h : ∀ i, a ≤ i → i < a + 2 * l → F' i = F i) (w : WFP F a l g) : WFP F' a l g := by
  obtain ⟨w0, dp, d0, d1, d2⟩ := w
  refine ⟨w0, dp, d0, d1, fun k k0 k1 => ?_⟩
  rw [h (a + 2 * k) (by omega) (by omega), h (a + 2 * k + 1) (by omega) (by omega)]
  exact d2 k k0 k1
theorem i32of {x : Int} (h1 : -2147483648 ≤ x) (h2 : x ≤ 2147483647) : (Int32.ofInt x).toInt = x := Int32.toInt_ofInt_of_le (by omega) (by omega)
theorem opB_cong {h h' : Hp} (q : ∀ o' (j : Int32), (o' = 75 ∨ o' = 66 ∧ 306 ≤ j.toInt ∧ j.toInt ≤ 567) → h'.1 o' j = h.1 o' j) {k : Nat} (hk : k < 30) : opB h' k = opB h k := by
  unfold opB Fz
  rw [q 66 _ (Or.inr ⟨rfl, by rw [i32of (by omega) (by omega)]; omega, by rw [i32of (by omega) (by omega)]; omega⟩), q 75 _ (Or.inl rfl)]
theorem cntO_cong {h h' : Hp} (q : ∀ o' (j : Int32), (o' = 75 ∨ o' = 66 ∧ 306 ≤ j.toInt ∧ j.toInt ≤ 567) → h'.1 o' j = h.1 o' j) : cntO h' = cntO h := List.countP_congr (fun k hk => by rw [opB_cong q (List.mem_range.mp hk)])
theorem opn_cong {h h' : Hp} (q : ∀ o' (j : Int32), (o' = 75 ∨ o' = 66 ∧ 306 ≤ j.toInt ∧ j.toInt ≤ 567) → h'.1 o' j = h.1 o' j) {x : Int} (w : opn h x) : opn h' x := ⟨w.1, w.2.1, by rw [opB_cong q (by have := w.1; have := w.2.1; omega)]; exact w.2.2⟩
theorem i32of' {x : Int} (h1 : -2147483648 ≤ x) (h2 : x ≤ 2147483647) : (Int32.ofInt x).toInt = x := Int32.toInt_ofInt_of_le (by omega) (by omega)
theorem RLO_cong {h h' : Hp} {o : Nat} {x y : Int} (q : ∀ o' (j : Int32), dep 9 o o' j.toInt → h'.1 o' j = h.1 o' j) (q9 : ∀ o' (j : Int32), dep 9 o o' j.toInt → h'.2.1 o' j = h.2.1 o' j) (w : RLO h o x y) : RLO h' o x y := by
  obtain ⟨k, o1, b1, s1, o2, b2, s2, n, cv, hd, w⟩ := w
  refine ⟨k, o1, b1, s1, o2, b2, s2, n, cv, hd, fun t t0 t1 t2 => ?_⟩
  obtain ⟨-, d1, d2, d3, d4, d5, d6⟩ := rlD_ok hd
  have h1 := Int.mul_nonneg (Int.le_of_lt d2) t0
  have h2 := Int.mul_le_mul_of_nonneg_left (show t ≤ n - 1 by omega) (Int.le_of_lt d2)
  have h3 := Int.mul_nonneg (Int.le_of_lt d4) t0
  have h4 := Int.mul_le_mul_of_nonneg_left (show t ≤ n - 1 by omega) (Int.le_of_lt d4)
  have h5 : s1 * (n - 1) ≤ s1 * n := Int.mul_le_mul_of_nonneg_left (by omega) (Int.le_of_lt d2)
  have h6 : s2 * (n - 1) ≤ s2 * n := Int.mul_le_mul_of_nonneg_left (by omega) (Int.le_of_lt d4)
  have i1 : (Int32.ofInt (b1 + s1 * t)).toInt = b1 + s1 * t := i32of' (by omega) (by omega)
  have i2 : (Int32.ofInt (b2 + s2 * t)).toInt = b2 + s2 * t := i32of' (by omega) (by omega)
  have g1 : dep 9 o o1 (Int32.ofInt (b1 + s1 * t)).toInt := ⟨_, hd, Or.inl ⟨rfl, by rw [i1]; dsimp only; omega, by rw [i1]; dsimp only; omega⟩⟩
  have g2 : dep 9 o o2 (Int32.ofInt (b2 + s2 * t)).toInt := ⟨_, hd, Or.inr ⟨rfl, by rw [i2]; dsimp only; omega, by rw [i2]; dsimp only; omega⟩⟩
  have e1 : rlV h' k o1 (b1 + s1 * t) = rlV h k o1 (b1 + s1 * t) := by
    unfold rlV
    rw [q o1 _ g1, q9 o1 _ g1]
  have e2 : rlV h' k o2 (b2 + s2 * t) = rlV h k o2 (b2 + s2 * t) := by
    unfold rlV
    rw [q o2 _ g2, q9 o2 _ g2]
  rw [e1, e2]
  exact w t t0 t1 t2
theorem ZRO_cong {h h' : Hp} {o : Nat} {y : Int} (q : ∀ o' (j : Int32), dep 11 o o' j.toInt → h'.1 o' j = h.1 o' j) (w : ZRO h o y) : ZRO h' o y := by
  obtain ⟨o1, b1, s1, o2, b2, s2, n, cv, hd, w⟩ := w
  refine ⟨o1, b1, s1, o2, b2, s2, n, cv, hd, fun t t0 t1 t2 => ?_⟩
  obtain ⟨-, d1, d2, d3, d4, d5, d6⟩ := rlD_ok hd
  have h1 := Int.mul_nonneg (Int.le_of_lt d2) t0
  have h2 := Int.mul_le_mul_of_nonneg_left (show t ≤ n - 1 by omega) (Int.le_of_lt d2)
  have h5 : s1 * (n - 1) ≤ s1 * n := Int.mul_le_mul_of_nonneg_left (by omega) (Int.le_of_lt d2)
  have i1 : (Int32.ofInt (b1 + s1 * t)).toInt = b1 + s1 * t := i32of' (by omega) (by omega)
  have g1 : dep 11 o o1 (Int32.ofInt (b1 + s1 * t)).toInt := ⟨_, hd, rfl, by rw [i1]; dsimp only; omega, by rw [i1]; dsimp only; omega⟩
  have e1 : rlV h' 0 o1 (b1 + s1 * t) = rlV h 0 o1 (b1 + s1 * t) := by
    show (h'.1 o1 _).toInt = (h.1 o1 _).toInt
    rw [q o1 _ g1]
  rw [e1]
  exact w t t0 t1 t2
theorem ZRO.mono {h : Hp} {o : Nat} {y y' : Int} (w : ZRO h o y) (hy : y ≤ y') : ZRO h o y' := by
  obtain ⟨o1, b1, s1, o2, b2, s2, n, cv, hd, w⟩ := w
  exact ⟨o1, b1, s1, o2, b2, s2, n, cv, hd, fun t t0 t1 t2 => w t t0 (by omega) t2⟩
theorem BG_cong {h h' : Hp} {o : Nat} {y : Int} (q : ∀ o' (j : Int32), dep 12 o o' j.toInt → h'.1 o' j = h.1 o' j) (w : BG h o y) : BG h' o y := by
  refine ⟨w.1, fun a b a0 a1 b0 b1 => ?_⟩
  have e1 : rlV h' 0 (bgC o) (12 + 14 * a) = rlV h 0 (bgC o) (12 + 14 * a) := by
    show (h'.1 _ _).toInt = (h.1 _ _).toInt
    rw [q _ _ (Or.inl ⟨rfl, by rw [i32of' (by omega) (by omega)]; omega, by rw [i32of' (by omega) (by omega)]; omega⟩)]
  have e2 : ∀ a b : Int, 0 ≤ a → a < 10 → 0 ≤ b → b < 10 → rlV h' 0 (bgR o) (200 + 10 * a + b) = rlV h 0 (bgR o) (200 + 10 * a + b) := fun a b a0 a1 b0 b1 => by
    show (h'.1 _ _).toInt = (h.1 _ _).toInt
    rw [q _ _ (Or.inr ⟨rfl, by rw [i32of' (by omega) (by omega)]; omega, by rw [i32of' (by omega) (by omega)]; omega⟩)]
  rw [e1, e2 a b a0 a1 b0 b1, e2 b a b0 b1 a0 a1]
  exact w.2 a b a0 a1 b0 b1
theorem BG.mono {h : Hp} {o : Nat} {y y' : Int} (w : BG h o y) (hy : y ≤ y') : BG h o y' := ⟨w.1, fun a b a0 a1 b0 b1 => by
  obtain ⟨w1, w2, w3, w4, w5⟩ := w.2 a b a0 a1 b0 b1
  exact ⟨w1, w2, w3, fun q => w4 (by omega), w5⟩⟩
theorem UBO_cong {h h' : Hp} {o : Nat} {y : Int} (q : ∀ o' (j : Int32), dep 14 o o' j.toInt → h'.1 o' j = h.1 o' j) (w : UBO h o y) : UBO h' o y := by
  obtain ⟨b, s, n, c1, k, c2, hd, w⟩ := w
  have B := ubL_ok _ (List.mem_of_getElem? hd)
  dsimp only at B
  have e1 : rlV h' 0 (ubC o) c1 = rlV h 0 (ubC o) c1 := by
    show (h'.1 _ _).toInt = (h.1 _ _).toInt
    rw [q _ _ ⟨_, hd, Or.inl ⟨rfl, Or.inl (by rw [i32of' (by omega) (by omega)])⟩⟩]
  refine ⟨b, s, n, c1, k, c2, hd, fun t t0 t1 t2 => ?_⟩
  rw [e1] at t2
  have h1 := Int.mul_nonneg (Int.le_of_lt B.2.1) t0
  have h2 := Int.mul_le_mul_of_nonneg_left (show t ≤ n - 1 by omega) (Int.le_of_lt B.2.1)
  have h5 : s * (n - 1) ≤ s * n := Int.mul_le_mul_of_nonneg_left (by omega) (Int.le_of_lt B.2.1)
  have e2 : rlV h' 0 (ubR o) (b + s * t) = rlV h 0 (ubR o) (b + s * t) := by
    show (h'.1 _ _).toInt = (h.1 _ _).toInt
    rw [q _ _ ⟨_, hd, Or.inr ⟨rfl, by rw [i32of' (by omega) (by omega)]; dsimp only; omega, by rw [i32of' (by omega) (by omega)]; dsimp only; omega⟩⟩]
  have e3 : k ≠ 1 → k ≠ 2 → rlV h' 0 (ubC o) c2 = rlV h 0 (ubC o) c2 := fun k1 k2 => by
    show (h'.1 _ _).toInt = (h.1 _ _).toInt
    rw [q _ _ ⟨_, hd, Or.inl ⟨rfl, Or.inr ⟨k1, k2, by rw [i32of' (by omega) (by omega)]⟩⟩⟩]
  rw [e2]
  obtain ⟨w0, w1, w2, w3⟩ := w t t0 t1 t2
  exact ⟨fun z => by rw [e3 (by omega) (by omega)]; exact w0 z, w1, w2, fun z => by rw [e3 (by omega) (by omega)]; exact w3 z⟩
theorem UBO.mono {h : Hp} {o : Nat} {y y' : Int} (w : UBO h o y) (hy : y ≤ y') : UBO h o y' := by
  obtain ⟨b, s, n, c1, k, c2, hd, w⟩ := w
  exact ⟨b, s, n, c1, k, c2, hd, fun t t0 t1 t2 => by
    obtain ⟨w0, w1, w2, w3⟩ := w t t0 t1 t2
    exact ⟨w0, w1, fun z => ⟨(w2 z).1, Int.le_trans (w2 z).2 hy⟩, w3⟩⟩
theorem SMO_cong {h h' : Hp} {o : Nat} {y : Int} (q : ∀ o' (j : Int32), dep 15 o o' j.toInt → h'.1 o' j = h.1 o' j) (w : SMO h o y) : SMO h' o y := by
  intro t t0 t1 t2
  have ec : ∀ a : Int, rlV h' 0 (smC o) a = rlV h 0 (smC o) a := fun a => by
    show (h'.1 _ _).toInt = (h.1 _ _).toInt
    rw [q _ _ (Or.inl rfl)]
  have er : ∀ a : Int, 600 ≤ a → a < 3000 → rlV h' 0 (bgR o) a = rlV h 0 (bgR o) a := fun a a0 a1 => by
    show (h'.1 _ _).toInt = (h.1 _ _).toInt
    rw [q _ _ (Or.inr ⟨rfl, by rw [i32of' (by omega) (by omega)]; exact a0, by rw [i32of' (by omega) (by omega)]; exact a1⟩)]
  obtain ⟨w1, w2, w3, w4, w5, w6⟩ := w t t0 t1 t2
  rw [ec, ec, er _ (by omega) (by omega)]
  refine ⟨w1, w2, w3, w4, w5, fun i i0 i1 => ?_⟩
  rw [ec, er _ (by omega) (by omega), er _ (by omega) (by omega)]
  exact w6 i i0 i1
theorem SMO.mono {h : Hp} {o : Nat} {y y' : Int} (w : SMO h o y) (hy : y' ≤ y) : SMO h o y' := fun t t0 t1 t2 => w t t0 (by omega) t2
theorem plN_cong {h h' : Hp} {o : Nat} {k : Int} (q : ∀ o' (j : Int32), dep 16 o o' j.toInt → h'.1 o' j = h.1 o' j) : plN h' o k = plN h o k := List.countP_congr (fun i hi => by
  have hi := List.mem_range.mp hi
  have e1 : rlV h' 0 (ubC o) 2 = rlV h 0 (ubC o) 2 := by
    show (h'.1 _ _).toInt = (h.1 _ _).toInt
    rw [q _ _ ⟨rfl, Or.inl (by rw [i32of' (by omega) (by omega)])⟩]
  have e2 : rlV h' 0 (ubC o) (48 + 16 * (i : Int)) = rlV h 0 (ubC o) (48 + 16 * (i : Int)) := by
    show (h'.1 _ _).toInt = (h.1 _ _).toInt
    rw [q _ _ ⟨rfl, Or.inr (Or.inr (Or.inr (Or.inr (by rw [i32of' (by omega) (by omega)]; omega))))⟩]
  unfold plB
  rw [e1, e2])
theorem PLO_cong {h h' : Hp} {o : Nat} (q : ∀ o' (j : Int32), dep 16 o o' j.toInt → h'.1 o' j = h.1 o' j) (w : PLO h o) : PLO h' o := by
  intro k k0 k1
  have e : rlV h' 0 (ubC o) (10 + 10 * k) = rlV h 0 (ubC o) (10 + 10 * k) := by
    show (h'.1 _ _).toInt = (h.1 _ _).toInt
    rw [q _ _ ⟨rfl, by rw [i32of' (by omega) (by omega)]; omega⟩]
  rw [plN_cong q, e]
  exact w k k0 k1
theorem FRO_cong {h h' : Hp} {o : Nat} {x : Int} (q : ∀ o' (j : Int32), dep 17 o o' j.toInt → h'.1 o' j = h.1 o' j) (w : FRO h o x) : FRO h' o x := by
  intro t t0 t1
  have e : ∀ a : Int, a = 2 ∨ 48 ≤ a ∧ a ≤ 195 → rlV h' 0 (ubC o) a = rlV h 0 (ubC o) a := fun a ha => by
    show (h'.1 _ _).toInt = (h.1 _ _).toInt
    rw [q _ _ ⟨rfl, by rw [i32of' (by omega) (by omega)]; exact ha⟩]
  rw [e 2 (Or.inl rfl), e (51 + 16 * t) (by omega), e (48 + 16 * t) (by omega)]
  exact w t t0 t1
theorem KC_hi {h : Hp} {k o : Nat} {x y : Int} (hk : 18 ≤ k) (w : KC h k o x y) : False := by
  unfold KC at w
  split at w <;> first | omega | exact w
theorem dep_cong {h h' : Hp} {k o : Nat} {x y : Int} (hk : 4 ≤ k) (q : ∀ o' (j : Int32), dep k o o' j.toInt → h'.1 o' j = h.1 o' j) (q9 : k = 9 → ∀ o' (j : Int32), dep k o o' j.toInt → h'.2.1 o' j = h.2.1 o' j) (w : KC h k o x y) : KC h' k o x y := by
  have hcs : k = 4 ∨ k = 5 ∨ k = 6 ∨ k = 7 ∨ k = 8 ∨ k = 9 ∨ k = 10 ∨ k = 11 ∨ k = 12 ∨ k = 13 ∨ k = 14 ∨ k = 15 ∨ k = 16 ∨ k = 17 ∨ 18 ≤ k := by omega
  rcases hcs with rfl | rfl | rfl | rfl | rfl | rfl | rfl | rfl | rfl | rfl | rfl | rfl | rfl | rfl | hk9
  · have e1 : h'.1 65 25 = h.1 65 25 := q 65 25 (Or.inr ⟨rfl, Or.inr (by decide)⟩)
    have e2 : h'.1 65 24 = h.1 65 24 := q 65 24 (Or.inr ⟨rfl, Or.inl (by decide)⟩)
    show WFP (Fz h' 66) (h'.1 65 25).toInt (h'.1 65 24).toInt y
    rw [e1, e2]
    exact WFP_cong (fun i _ _ => by unfold Fz; rw [q 66 _ (Or.inl rfl)]) w
  · obtain ⟨w0, w⟩ := w
    have e4 : h'.1 o 4 = h.1 o 4 := q o 4 ⟨rfl, Or.inl (by decide)⟩
    have eF : ∀ i : Int, 600 ≤ i → i < 3000 → Fz h' o i = Fz h o i := fun i i0 i1 => by
      unfold Fz
      rw [q o _ ⟨rfl, Or.inr (by rw [i32of (by omega) (by omega)]; omega)⟩]
    refine ⟨w0, fun t t0 t1 t2 => ?_⟩
    rw [e4] at t2
    obtain ⟨w1, w2⟩ := w t t0 t1 t2
    rw [eF _ (by omega) (by omega)]
    exact ⟨w1, WFP_cong (fun i i0 i1 => eF i (by omega) (by omega)) w2⟩
  · have e1 : h'.1 65 25 = h.1 65 25 := q 65 25 ⟨rfl, by decide⟩
    obtain ⟨w0, w⟩ := w
    refine ⟨w0, ?_⟩
    unfold LAG
    rw [e1]
    exact w
  · show y = (cntO h' : Int)
    rw [cntO_cong q]
    exact w
  · exact ⟨w.1, w.2.imp id (fun w => opn_cong q w)⟩
  · exact RLO_cong q (q9 rfl) w
  · have w : PU o x y := w
    show PU o x y
    exact w
  · have w : ZRO h o y := w
    exact ZRO_cong q w
  · have w : BG h o y := w
    exact BG_cong q w
  · have w : OPV o x y := w
    show OPV o x y
    exact w
  · have w : UBO h o y := w
    exact UBO_cong q w
  · have w : SMO h o y := w
    exact SMO_cong q w
  · have w : y = 0 ∧ PLO h o := w
    exact ⟨w.1, PLO_cong q w.2⟩
  · have w : FRO h o y := w
    exact FRO_cong q w
  · exact (KC_hi hk9 w).elim
noncomputable def RgO (h : Hp) (q : Rg) : Prop := ∀ (j : Int32) (k : Int), 0 ≤ k → k < q.2.2.2.1 → j.toInt = q.2.1 + q.2.2.1 * k → q.2.2.2.2.1 ≤ (h.1 q.1 j).toInt ∧ (h.1 q.1 j).toInt ≤ q.2.2.2.2.2
noncomputable def inW (ws : List Wr) (k o : Nat) (j : Int32) : Prop := ∃ w ∈ ws, w.1 = k ∧ w.2.1 = o ∧ w.2.2.1 ≤ j.toInt ∧ j.toInt ≤ w.2.2.2
noncomputable def Frm (ws : List Wr) (h0 h : Hp) : Prop := (∀ o j, ¬ inW ws 0 o j → h.1 o j = h0.1 o j) ∧ (∀ o j, ¬ inW ws 1 o j → h.2.1 o j = h0.2.1 o j) ∧ h.2.2 = h0.2.2
noncomputable def Mo (rg : List Rg) (ws : List Wr) (h0 : Hp) (ρ : Nat → Int) (S : Sx) (h : Hp) : Prop := Fa ρ S.1 S.2.1 ∧ (∀ c ∈ S.2.2, kcO ρ S.1 h c) ∧ (∀ q ∈ rg, RgO h q) ∧ Frm ws h0 h
noncomputable def Ag (ρ ρ' : Nat → Int) (n : Nat) : Prop := ∀ k, k < n → ρ' k = ρ k
theorem Ag.rf {ρ : Nat → Int} {n : Nat} : Ag ρ ρ n := fun _ _ => rfl
theorem Ag.tr {ρ ρ' ρ'' : Nat → Int} {n m : Nat} (a : Ag ρ ρ' n) (b : Ag ρ' ρ'' m) (h : n ≤ m) : Ag ρ ρ'' n := fun k hk => (b k (Nat.lt_of_lt_of_le hk h)).trans (a k hk)
theorem av.ext {ρ ρ' : Nat → Int} {n m : Nat} {a : AV} {v : Value} (h : av ρ n a v) (g : Ag ρ ρ' n) (hm : n ≤ m) : av ρ' m a v := by
  unfold av at h ⊢
  split at h
  · obtain ⟨x, h1, h2⟩ := h; exact ⟨x, h1, h2.ext g hm⟩
  · obtain ⟨x, h1, h2⟩ := h; exact ⟨x, h1, h2.ext g hm⟩
  · exact h
  · obtain ⟨x, y, h1, h2⟩ := h; exact ⟨x, y, h1, h2.ext g hm⟩
theorem kcO.ext {ρ ρ' : Nat → Int} {n m : Nat} {h : Hp} {c : Kc} (k : kcO ρ n h c) (g : Ag ρ ρ' n) (hm : n ≤ m) : kcO ρ' m h c := ⟨leS_mono k.1 hm, leS_mono k.2.1 hm, by rw [leV_ext k.1 g, leV_ext k.2.1 g]; exact k.2.2⟩
theorem kcO.i {ρ : Nat → Int} {n : Nat} {h : Hp} {o : Nat} {i e : LE} {j : Int32} (hi : GG ρ n i j.toInt) (he : GG ρ n e (h.1 o j).toInt) : kcO ρ n h (0, o, i, e) := ⟨hi.1, he.1, j, hi.2, he.2⟩
theorem kcO.l {ρ : Nat → Int} {n : Nat} {h : Hp} {o : Nat} {i e : LE} {j : Int32} (hi : GG ρ n i j.toInt) (he : GG ρ n e (h.2.1 o j).toInt) : kcO ρ n h (1, o, i, e) := ⟨hi.1, he.1, j, hi.2, he.2⟩
theorem kcO.t {ρ : Nat → Int} {n : Nat} {h : Hp} {o : Nat} {i e : LE} {j : Int32} (hi : GG ρ n i j.toInt) (he : GG ρ n e (h.2.2.2 j.toNatClampNeg).toInt) : kcO ρ n h (3, o, i, e) := ⟨hi.1, he.1, j, hi.2, he.2⟩
theorem Fa.ext {ρ ρ' : Nat → Int} {n m : Nat} {D : Db} (F : Fa ρ n D) (g : Ag ρ ρ' n) (hm : n ≤ m) : Fa ρ' m D := by
  refine ⟨fun q hq => ?_, fun f hf => ?_⟩
  · obtain ⟨a, b, c⟩ := F.1 q hq
    rw [g _ a]
    exact ⟨Nat.lt_of_lt_of_le a hm, b, c⟩
  · obtain ⟨a, b⟩ := F.2 f hf
    exact ⟨leS_mono a hm, by rw [leV_ext a g]; exact b⟩
/-- locals, and the stack -/
noncomputable def isLv (v : Option (Option Value)) : Prop := isLong v = true
noncomputable def LR (ρ : Nat → Int) (n : Nat) (as : List (Option AV)) (ls : Lc) : Prop := as.length = ls.length ∧ ∀ k : Nat, (∀ a, as[k]? = some (some a) → ∃ v, ls[k]? = some (some v) ∧ av ρ n a v) ∧ (as[k]? = some none → isLong ls[k]? = false)
noncomputable def SR (ρ : Nat → Int) (n : Nat) : List AV → List Value → Prop
  | [], st => st = []
  | a :: as, st => ∃ v r, st = v :: r ∧ av ρ n a v ∧ SR ρ n as r
theorem LR.ext {ρ ρ' : Nat → Int} {n m : Nat} {as : List (Option AV)} {ls : Lc} (h : LR ρ n as ls) (g : Ag ρ ρ' n) (hm : n ≤ m) : LR ρ' m as ls := ⟨h.1, fun k => ⟨fun a ha => by
  obtain ⟨v, h1, h2⟩ := (h.2 k).1 a ha
  exact ⟨v, h1, h2.ext g hm⟩, (h.2 k).2⟩⟩
theorem SR.ext {ρ ρ' : Nat → Int} {n m : Nat} : ∀ {as : List AV} {st : List Value}, SR ρ n as st → Ag ρ ρ' n → n ≤ m → SR ρ' m as st
  | [], _, h, _, _ => h
  | _ :: _, _, h, g, hm => by
    obtain ⟨v, r, h1, h2, h3⟩ := h
    exact ⟨v, r, h1, h2.ext g hm, SR.ext h3 g hm⟩
/-- one more symbol -/
noncomputable def nwS (S : Sx) (l u : Int) : Sx := (S.1 + 1, ((S.1, l, u) :: S.2.1.1, S.2.1.2), S.2.2)
noncomputable def updS (ρ : Nat → Int) (n : Nat) (x : Int) : Nat → Int := fun k => if k = n then x else ρ k
theorem upd_ag {ρ : Nat → Int} {n : Nat} {x : Int} : Ag ρ (updS ρ n x) n := fun k hk => by unfold updS; rw [if_neg (by omega)]
theorem upd_at {ρ : Nat → Int} {n : Nat} {x : Int} : GG (updS ρ n x) (n + 1) (leX n) x := ⟨leS_X (Nat.lt_succ_self n), by rw [leV_X]; unfold updS; rw [if_pos rfl]⟩
section MO
variable {rg : List Rg} {ws : List Wr} {h0 h : Hp} {ρ : Nat → Int} {S : Sx}
theorem Mo.nw (M : Mo rg ws h0 ρ S h) {x l u : Int} (hl : l ≤ x) (hu : x ≤ u) : Mo rg ws h0 (updS ρ S.1 x) (nwS S l u) h := by
  obtain ⟨F, K, R, W⟩ := M
  refine ⟨⟨fun q hq => ?_, fun f hf => ?_⟩, fun c hc => (K c hc).ext upd_ag (Nat.le_succ _), R, W⟩
  · rcases List.mem_cons.mp hq with rfl | hq
    · exact ⟨Nat.lt_succ_self _, by show l ≤ updS ρ S.1 x S.1; unfold updS; rw [if_pos rfl]; exact hl, by show updS ρ S.1 x S.1 ≤ u; unfold updS; rw [if_pos rfl]; exact hu⟩
    · exact (F.ext upd_ag (Nat.le_succ _)).1 q hq
  · exact (F.ext (m := S.1 + 1) upd_ag (Nat.le_succ _)).2 f hf
theorem Mo.db (M : Mo rg ws h0 ρ S h) {D : Db} (F : Fa ρ S.1 D) : Mo rg ws h0 ρ (S.1, D, S.2.2) h := ⟨F, M.2⟩
theorem Mo.kc (M : Mo rg ws h0 ρ S h) {c : Kc} (F : kcO ρ S.1 h c) : Mo rg ws h0 ρ (S.1, S.2.1, c :: S.2.2) h := ⟨M.1, fun d hd => by
  rcases List.mem_cons.mp hd with rfl | hd
  · exact F
  · exact M.2.1 d hd, M.2.2⟩
noncomputable abbrev I32lo : Int := -2147483648
noncomputable abbrev I32hi : Int := 2147483647
noncomputable abbrev I64lo : Int := -9223372036854775808
noncomputable abbrev I64hi : Int := 9223372036854775807
theorem i32b (x : Int32) : I32lo ≤ x.toInt ∧ x.toInt ≤ I32hi := by
  have h1 := x.le_toInt
  have h2 := x.toInt_lt
  show -2147483648 ≤ x.toInt ∧ x.toInt ≤ 2147483647
  omega
theorem i64b (x : Int64) : I64lo ≤ x.toInt ∧ x.toInt ≤ I64hi := by
  have h1 := x.le_toInt
  have h2 := x.toInt_lt
  show -9223372036854775808 ≤ x.toInt ∧ x.toInt ≤ 9223372036854775807
  omega
/-- reading -/
noncomputable def kcF (l : List Kc) (k o : Nat) (i : LE) : Option LE := List.rec (motive := fun _ => Option LE) none (fun q _ ih => Bool.rec (motive := fun _ => Option LE) ih (some q.2.2.2) (Bool.rec (motive := fun _ => Bool) false (Bool.rec (motive := fun _ => Bool) false (leEq q.2.2.1 i) (Nat.beq q.1 k)) (Nat.beq q.2.1 o))) l
theorem kcF_cons {k' o' : Nat} {i' e : LE} {r : List Kc} {k o : Nat} {i : LE} : kcF ((k', o', i', e) :: r) k o i = (match Nat.beq o' o && Nat.beq k' k && leEq i' i with
    | true => some e
    | false => kcF r k o i) := by
  show Bool.rec (motive := fun _ => Option LE) (kcF r k o i) (some e) (Bool.rec (motive := fun _ => Bool) false (Bool.rec (motive := fun _ => Bool) false (leEq i' i) (Nat.beq k' k)) (Nat.beq o' o)) = _
  cases Nat.beq o' o
  · rfl
  · cases Nat.beq k' k
    · rfl
    · cases leEq i' i <;> rfl
theorem kcF_sp : ∀ {l : List Kc} {k o : Nat} {i e : LE}, kcF l k o i = some e → (k, o, i, e) ∈ l
  | [], _, _, _, _, h => by
    have h : (none : Option LE) = some _ := h
    cases h
  | (k', o', i', e') :: r, k, o, i, e, h => by
    rw [kcF_cons] at h
    split at h
    · rename_i g
      simp only [Bool.and_eq_true] at g
      cases h
      rw [← Nat.eq_of_beq_eq_true g.1.1, ← Nat.eq_of_beq_eq_true g.1.2, ← leEq_eq g.2]
      exact List.mem_cons_self
    · exact List.mem_cons_of_mem _ (kcF_sp h)
/-- the quotient of a form -/
noncomputable def leDv (s : Int) (e : LE) : LE := (e.1 / s, e.2.map fun p => (p.1, p.2 / s))
noncomputable def rgM (D : Db) (q : Rg) (o : Nat) (i : LE) : Bool := Nat.beq q.1 o && (let d := leK i (-q.2.1); let e := leDv q.2.2.1 d; leEq (leSc q.2.2.1 e) d && en D e && en D (leK (leSc (-1) e) (q.2.2.2.1 - 1)))
noncomputable def rgF : List Rg → Db → Nat → LE → Int × Int
  | [], _, _, _ => (I32lo, I32hi)
  | q :: r, D, o, i => if rgM D q o i = true then (q.2.2.2.2.1, q.2.2.2.2.2) else rgF r D o i
theorem rgF_sp {j : Int32} {o : Nat} {i : LE} {D : Db} {n : Nat} (F : Fa ρ n D) (hi : GG ρ n i j.toInt) : ∀ {rg : List Rg}, (∀ q ∈ rg, RgO h q) → (rgF rg D o i).1 ≤ (h.1 o j).toInt ∧ (h.1 o j).toInt ≤ (rgF rg D o i).2
  | [], _ => i32b _
  | q :: r, R => by
    unfold rgF
    split
    · rename_i g
      simp only [rgM, Bool.and_eq_true] at g
      obtain ⟨g1, ⟨g2, g3⟩, g4⟩ := g
      have e1 := Nat.eq_of_beq_eq_true g1
      have e2 := congrArg (leV ρ) (leEq_eq g2)
      have e3 := en_sp F g3
      have e4 := en_sp F g4
      rw [leV_sc, leV_K, hi.2] at e2
      rw [leV_K, leV_sc] at e4
      have := R q List.mem_cons_self j (leV ρ (leDv q.2.2.1 (leK i (-q.2.1)))) e3 (by omega) (by omega)
      rw [e1] at this
      exact this
    · exact rgF_sp F hi (fun q hq => R q (List.mem_cons_of_mem _ hq))
/-- a place of a row by its number -/
noncomputable def rlE (s b : Int) (i : LE) : Option LE := let d := leK i (-b); let e := leDv s d; if leEq (leSc s e) d = true then some e else none
theorem leDv_S {n : Nat} {s : Int} {e : LE} (h : leS n e) : leS n (leDv s e) := by
  intro p hp
  obtain ⟨q, hq, rfl⟩ := List.mem_map.mp hp
  exact h q hq
theorem rlE_sp {n : Nat} {s b : Int} {i e : LE} (h : rlE s b i = some e) (hs : leS n i) : leS n e ∧ leV ρ i = b + s * leV ρ e := by
  unfold rlE at h
  dsimp only at h
  split at h
  · rename_i g
    cases h
    have e2 := congrArg (leV ρ) (leEq_eq g)
    rw [leV_sc, leV_K] at e2
    exact ⟨leDv_S (leS_K hs), by omega⟩
  · cases h
/-- the place is one of the rows', where they go along -/
noncomputable def rlI (D : Db) (c : Kc) (n : Int) (e0 : LE) : Bool := en D e0 && en D (leK (leSc (-1) e0) (n - 1)) && (en D (leSub c.2.2.1 c.2.2.2) || en D (leK (leSub c.2.2.1 e0) (-1)) || en D (leSub e0 c.2.2.2))
theorem rlI_sp {n : Nat} {D : Db} {c : Kc} {m : Int} {e0 : LE} (F : Fa ρ n D) (g : rlI D c m e0 = true) : 0 ≤ leV ρ e0 ∧ leV ρ e0 < m ∧ (leV ρ e0 < leV ρ c.2.2.1 ∨ leV ρ c.2.2.2 ≤ leV ρ e0) := by
  simp only [rlI, Bool.and_eq_true, Bool.or_eq_true] at g
  obtain ⟨⟨g1, g2⟩, g3⟩ := g
  have g1 := en_sp F g1
  have g2 := en_sp F g2
  rw [leV_K, leV_sc] at g2
  refine ⟨g1, by omega, ?_⟩
  rcases g3 with (g3 | g3) | g3
  · have g3 := en_sp F g3
    rw [leV_sub] at g3
    omega
  · have g3 := en_sp F g3
    rw [leV_K, leV_sub] at g3
    omega
  · have g3 := en_sp F g3
    rw [leV_sub] at g3
    omega
noncomputable def rlP1 (D : Db) (w o : Nat) (i : LE) (c : Kc) : Option (Nat × LE) := if Nat.beq c.1 9 = true then (match rlD c.2.1 with
  | some (k, (o1, b1, s1), (o2, b2, s2), n, cv) => if (Nat.beq k w && Nat.beq cv 0) = true then (if Nat.beq o o1 = true then (match rlE s1 b1 i with
      | some e0 => if rlI D c n e0 = true then some (o2, leK (leSc s2 e0) b2) else none
      | none => none) else if Nat.beq o o2 = true then (match rlE s2 b2 i with
      | some e0 => if rlI D c n e0 = true then some (o1, leK (leSc s1 e0) b1) else none
      | none => none) else none) else none
  | none => none) else none
/-- the place that holds the same -/
noncomputable def rlP (D : Db) (w o : Nat) (i : LE) : List Kc → Option (Nat × LE)
  | [] => none
  | c :: r => match rlP1 D w o i c with
    | some q => some q
    | none => rlP D w o i r
theorem rlP1_sp {n : Nat} {D : Db} {w o : Nat} {i : LE} {c : Kc} {q : Nat × LE} (F : Fa ρ n D) (K : kcO ρ n h c) (hi : leS n i) (g : rlP1 D w o i c = some q) : leS n q.2 ∧ (∃ x : Int, 0 ≤ x ∧ x ≤ 100000 ∧ leV ρ q.2 = x) ∧ rlV h w o (leV ρ i) = rlV h w q.1 (leV ρ q.2) := by
  unfold rlP1 at g
  split at g
  · rename_i h9
    obtain ⟨ck, co, cx, cy⟩ := c
    have h9 : ck = 9 := Nat.eq_of_beq_eq_true h9
    subst h9
    obtain ⟨kx, ky, k, o1, b1, s1, o2, b2, s2, m, cv, hd, K⟩ := K
    dsimp only at g hd K
    rw [hd] at g
    obtain ⟨-, d1, d2, d3, d4, d5, d6⟩ := rlD_ok hd
    dsimp only at g
    split at g
    · rename_i hk
      rw [Bool.and_eq_true] at hk
      cases Nat.eq_of_beq_eq_true hk.1
      cases Nat.eq_of_beq_eq_true hk.2
      have bd : ∀ (s b x : Int), 0 ≤ b → 0 < s → b + s * m ≤ 100000 → 0 ≤ x → x < m → 0 ≤ b + s * x ∧ b + s * x ≤ 100000 := fun s b x a1 a2 a3 a4 a5 => by
        have h1 := Int.mul_nonneg (Int.le_of_lt a2) a4
        have h2 := Int.mul_le_mul_of_nonneg_left (show x ≤ m by omega) (Int.le_of_lt a2)
        omega
      split at g
      · rename_i ho
        cases Nat.eq_of_beq_eq_true ho
        split at g
        · rename_i e0 he
          obtain ⟨s0, v0⟩ := rlE_sp (ρ := ρ) he hi
          split at g
          · rename_i hI
            cases g
            obtain ⟨t0, t1, t2⟩ := rlI_sp F hI
            have := rlR0.mp (K _ t0 t1 t2)
            dsimp only
            rw [leV_K, leV_sc, v0]
            obtain ⟨z1, z2⟩ := bd s2 b2 _ d3 d4 d6 t0 t1
            exact ⟨leS_K (leS_sc s0), ⟨_, by omega, by omega, rfl⟩, by rw [this, Int.add_comm]⟩
          · cases g
        · cases g
      · split at g
        · rename_i ho
          cases Nat.eq_of_beq_eq_true ho
          split at g
          · rename_i e0 he
            obtain ⟨s0, v0⟩ := rlE_sp (ρ := ρ) he hi
            split at g
            · rename_i hI
              cases g
              obtain ⟨t0, t1, t2⟩ := rlI_sp F hI
              have := rlR0.mp (K _ t0 t1 t2)
              dsimp only
              rw [leV_K, leV_sc, v0]
              obtain ⟨z1, z2⟩ := bd s1 b1 _ d1 d2 d5 t0 t1
              exact ⟨leS_K (leS_sc s0), ⟨_, by omega, by omega, rfl⟩, by rw [← this, Int.add_comm]⟩
            · cases g
          · cases g
        · cases g
    · cases g
  · cases g
theorem rlP_sp {n : Nat} {D : Db} {w o : Nat} {i : LE} (F : Fa ρ n D) (hi : leS n i) : ∀ {l : List Kc} {q : Nat × LE}, (∀ c ∈ l, kcO ρ n h c) → rlP D w o i l = some q → leS n q.2 ∧ (∃ x : Int, 0 ≤ x ∧ x ≤ 100000 ∧ leV ρ q.2 = x) ∧ rlV h w o (leV ρ i) = rlV h w q.1 (leV ρ q.2)
  | [], _, _, g => by cases g
  | c :: r, q, K, g => by
    unfold rlP at g
    split at g
    · rename_i q' hq
      cases g
      exact rlP1_sp F (K c List.mem_cons_self) hi hq
    · exact rlP_sp F hi (fun c hc => K c (List.mem_cons_of_mem _ hc)) g
noncomputable def ztA1 (D : Db) (o : Nat) (i : LE) (c : Kc) : Bool := Nat.beq c.1 11 && (match rlD c.2.1 with
  | some (k, (o1, b1, s1), _, n, _) => Nat.beq k 0 && (Nat.beq o o1 && (match rlE s1 b1 i with
    | some e0 => en D (leSub e0 c.2.2.2) && (en D e0 && en D (leK (leSc (-1) e0) (n - 1)))
    | none => false))
  | none => false)
noncomputable def rlU (S : Sx) (w o : Nat) (i : LE) : Option LE := match kcF S.2.2 w o i with
  | some u => some u
  | none => if (Nat.beq w 0 && S.2.2.any (ztA1 S.2.1 o i)) = true then some (leC 0) else none
theorem rlU_sp (M : Mo rg ws h0 ρ S h) {w o : Nat} {i u : LE} (hw : w = 0 ∨ w = 1) (hi : leS S.1 i) (g : rlU S w o i = some u) : leV ρ u = rlV h w o (leV ρ i) := by
  unfold rlU at g
  split at g
  · rename_i u' hu
    cases g
    have K1 := (M.2.1 _ (kcF_sp hu)).2.2
    dsimp only at K1
    rcases hw with rfl | rfl
    · obtain ⟨j', j1, j2⟩ := K1
      rw [j2, j1]
      show _ = (h.1 o (Int32.ofInt j'.toInt)).toInt
      rw [Int32.ofInt_toInt]
    · obtain ⟨j', j1, j2⟩ := K1
      rw [j2, j1]
      show _ = (h.2.1 o (Int32.ofInt j'.toInt)).toInt
      rw [Int32.ofInt_toInt]
  · split at g
    · rename_i hz
      cases g
      rw [Bool.and_eq_true, List.any_eq_true] at hz
      obtain ⟨hw0, c, hc, hz⟩ := hz
      cases Nat.eq_of_beq_eq_true hw0
      obtain ⟨ck, co, cx, cy⟩ := c
      simp only [ztA1, Bool.and_eq_true] at hz
      obtain ⟨h11, hz⟩ := hz
      have h11 : ck = 11 := Nat.eq_of_beq_eq_true h11
      subst h11
      obtain ⟨-, -, o1, b1, s1, o2, b2, s2, n, cv, hd, K⟩ := M.2.1 _ hc
      dsimp only at hz hd K
      rw [hd] at hz
      simp only [Bool.and_eq_true] at hz
      obtain ⟨-, ho, hz⟩ := hz
      cases Nat.eq_of_beq_eq_true ho
      split at hz
      · rename_i e0 he
        obtain ⟨s0, v0⟩ := rlE_sp (ρ := ρ) he hi
        simp only [Bool.and_eq_true] at hz
        obtain ⟨z1, z2, z3⟩ := hz
        have z1 := en_sp M.1 z1
        have z2 := en_sp M.1 z2
        have z3 := en_sp M.1 z3
        rw [leV_sub] at z1
        rw [leV_K, leV_sc] at z3
        rw [v0, leV_C, K _ z2 (by omega) (by omega)]
      · cases hz
    · cases g
/-- what the first of the rows holds goes along with what the second does -/
theorem rlU_S (M : Mo rg ws h0 ρ S h) {w o : Nat} {i u : LE} (g : rlU S w o i = some u) : leS S.1 u := by
  unfold rlU at g
  split at g
  · rename_i u' hu
    cases g
    exact (M.2.1 _ (kcF_sp hu)).2.1
  · split at g
    · cases g
      exact leS_C
    · cases g
noncomputable def xmx (a b : Int) : Int := if ile a b = true then b else a
noncomputable def xmn (a b : Int) : Int := if ile a b = true then a else b
theorem xmx_le {a b x : Int} (h1 : a ≤ x) (h2 : b ≤ x) : xmx a b ≤ x := by unfold xmx; split <;> assumption
theorem le_xmn {a b x : Int} (h1 : x ≤ a) (h2 : x ≤ b) : x ≤ xmn a b := by unfold xmn; split <;> assumption
/-- lists by their recursor -/
noncomputable def flR {α : Type} (p : α → Bool) (l : List α) : List α := List.rec (motive := fun _ => List α) [] (fun c _ ih => Bool.rec (motive := fun _ => List α) ih (c :: ih) (p c)) l
theorem flR_eq {α : Type} {p : α → Bool} {l : List α} : flR p l = l.filter p := by
  induction l with
  | nil => rfl
  | cons c r ih =>
    rw [List.filter_cons]
    show Bool.rec (motive := fun _ => List α) (flR p r) (c :: flR p r) (p c) = _
    rw [ih]
    cases p c <;> rfl
noncomputable def alR {α : Type} (p : α → Bool) (l : List α) : Bool := List.rec (motive := fun _ => Bool) true (fun c _ ih => Bool.rec (motive := fun _ => Bool) false ih (p c)) l
theorem alR_eq {α : Type} {p : α → Bool} {l : List α} : alR p l = l.all p := by
  induction l with
  | nil => rfl
  | cons c r ih =>
    rw [List.all_cons]
    show Bool.rec (motive := fun _ => Bool) false (alR p r) (p c) = _
    rw [ih]
    cases p c <;> rfl
noncomputable def fmR {α : Type} (g : α → Bool) (f : α → Option α) (l : List α) : List α := List.rec (motive := fun _ => List α) [] (fun c _ ih => Bool.rec (motive := fun _ => List α) ih (Option.rec (motive := fun _ => List α) ih (fun x => x :: ih) (f c)) (g c)) l
theorem fmR_eq {α : Type} {g : α → Bool} {f : α → Option α} (hg : ∀ c, g c = false → f c = none) {l : List α} : fmR g f l = l.filterMap f := by
  induction l with
  | nil => rfl
  | cons c r ih =>
    rw [List.filterMap_cons]
    show Bool.rec (motive := fun _ => List α) (fmR g f r) (Option.rec (motive := fun _ => List α) (fmR g f r) (fun x => x :: fmR g f r) (f c)) (g c) = _
    rw [ih]
    cases hc : g c with
    | false =>
      have e := hg c hc
      revert e
      cases f c with
      | none => intro _; rfl
      | some x => intro e; cases e
    | true => cases f c <;> rfl
theorem fl_fm {α : Type} {q : α → Bool} {f : α → Option α} (hq : ∀ c, q c = false → f c = none) {l : List α} : (flR q l).filterMap f = l.filterMap f := by
  rw [flR_eq]
  induction l with
  | nil => rfl
  | cons c r ih =>
    rw [List.filter_cons]
    cases hc : q c with
    | false =>
      rw [if_neg (by decide), ih, List.filterMap_cons, hq c hc]
    | true =>
      rw [if_pos rfl, List.filterMap_cons, List.filterMap_cons, ih]
/-- is it of this object's rows? -/
noncomputable def rlG (o r : Nat) : Bool := Option.rec (motive := fun _ => Bool) false (fun d => Bool.rec (motive := fun _ => Bool) (Nat.beq o d.2.2.1.1) true (Nat.beq o d.2.1.1)) (rlD r)
theorem rlG_n {D : Db} {w o : Nat} {i : LE} {c : Kc} (h : rlG o c.2.1 = false) : rlP1 D w o i c = none := by
  unfold rlP1
  split
  · split
    · rename_i k o1 b1 s1 o2 b2 s2 n cv hd
      unfold rlG at h
      rw [hd] at h
      have h : Bool.rec (motive := fun _ => Bool) (Nat.beq o o2) true (Nat.beq o o1) = false := h
      split
      · cases h1 : Nat.beq o o1 with
        | true => rw [h1] at h; cases h
        | false =>
          rw [h1] at h
          have h2 : Nat.beq o o2 = false := h
          rw [if_neg (by decide), h2, if_neg (by decide)]
      · rfl
    · rfl
  · rfl
noncomputable def rlPf (D : Db) (w o : Nat) (i : LE) (l : List Kc) : Option (Nat × LE) := List.rec (motive := fun _ => Option (Nat × LE)) none (fun c _ ih => Bool.rec (motive := fun _ => Option (Nat × LE)) ih (Bool.rec (motive := fun _ => Option (Nat × LE)) ih (Option.rec (motive := fun _ => Option (Nat × LE)) ih (fun q => some q) (rlP1 D w o i c)) (rlG o c.2.1)) (Nat.beq c.1 9)) l
theorem rlPf_fn : rlPf = rlP := by
  funext D w o i l
  induction l with
  | nil => rfl
  | cons c r ih =>
    show Bool.rec (motive := fun _ => Option (Nat × LE)) (rlPf D w o i r) (Bool.rec (motive := fun _ => Option (Nat × LE)) (rlPf D w o i r) (Option.rec (motive := fun _ => Option (Nat × LE)) (rlPf D w o i r) (fun q => some q) (rlP1 D w o i c)) (rlG o c.2.1)) (Nat.beq c.1 9) = (match rlP1 D w o i c with
      | some q => some q
      | none => rlP D w o i r)
    rw [ih]
    cases h9 : Nat.beq c.1 9 with
    | false =>
      have e : rlP1 D w o i c = none := by
        unfold rlP1
        rw [h9, if_neg (by decide)]
      rw [e]
    | true =>
      cases hg : rlG o c.2.1 with
      | false => rw [rlG_n hg]
      | true => cases rlP1 D w o i c <;> rfl
noncomputable def rgFf (l : List Rg) (D : Db) (o : Nat) (i : LE) : Int × Int := List.rec (motive := fun _ => Int × Int) (I32lo, I32hi) (fun q _ ih => Bool.rec (motive := fun _ => Int × Int) ih (Bool.rec (motive := fun _ => Int × Int) ih (q.2.2.2.2.1, q.2.2.2.2.2) (rgM D q o i)) (Nat.beq q.1 o)) l
theorem rgFf_fn : rgFf = rgF := by
  funext l D o i
  induction l with
  | nil => rfl
  | cons q r ih =>
    show Bool.rec (motive := fun _ => Int × Int) (rgFf r D o i) (Bool.rec (motive := fun _ => Int × Int) (rgFf r D o i) (q.2.2.2.2.1, q.2.2.2.2.2) (rgM D q o i)) (Nat.beq q.1 o) = (if rgM D q o i = true then (q.2.2.2.2.1, q.2.2.2.2.2) else rgF r D o i)
    rw [ih]
    cases h : Nat.beq q.1 o with
    | false =>
      have e : rgM D q o i = false := by
        unfold rgM
        rw [h, Bool.false_and]
      rw [e, if_neg (by decide)]
    | true => cases rgM D q o i <;> rfl
noncomputable def rdI (rg : List Rg) (S : Sx) (o : Nat) (i : LE) : Sx × LE := match kcF S.2.2 0 o i with
  | some e => (S, e)
  | none => match rlPf S.2.1 0 o i S.2.2 with
    | some (o', i') => (match (if cvF = true then rlU S 0 o' i' else kcF S.2.2 0 o' i') with
      | some e => ((S.1, S.2.1, (0, o, i, e) :: S.2.2), e)
      | none => let b := rgFf rg S.2.1 o i; let b' := rgFf rg S.2.1 o' i'; let T := nwS S (xmx b.1 b'.1) (xmn b.2 b'.2); ((T.1, T.2.1, (0, o, i, leX S.1) :: (0, o', i', leX S.1) :: T.2.2), leX S.1))
    | none => let b := rgFf rg S.2.1 o i; let T := nwS S b.1 b.2; ((T.1, T.2.1, (0, o, i, leX S.1) :: T.2.2), leX S.1)
theorem rdI_sp (M : Mo rg ws h0 ρ S h) {o : Nat} {i : LE} {j : Int32} (hi : GG ρ S.1 i j.toInt) : ∃ ρ', Ag ρ ρ' S.1 ∧ S.1 ≤ (rdI rg S o i).1.1 ∧ Mo rg ws h0 ρ' (rdI rg S o i).1 h ∧ GG ρ' (rdI rg S o i).1.1 (rdI rg S o i).2 (h.1 o j).toInt := by
  unfold rdI
  rw [rlPf_fn, rgFf_fn]
  split
  · rename_i e he
    obtain ⟨g0, g1, j', g2, g3⟩ := M.2.1 _ (kcF_sp he)
    have : j' = j := Int32.toInt_inj.mp (g2.symm.trans hi.2)
    subst this
    exact ⟨ρ, Ag.rf, Nat.le_refl _, M, g1, g3⟩
  split
  · rename_i o' i' hp
    obtain ⟨p1, ⟨x, x0, x1, p2⟩, p3⟩ := rlP_sp M.1 hi.1 M.2.1 hp
    dsimp only at p1 p2 p3
    have ej : Int32.ofInt (leV ρ i) = j := by rw [hi.2]; exact Int32.ofInt_toInt j
    have ex : (Int32.ofInt x).toInt = x := i32of (by omega) (by omega)
    have p4 : (h.1 o j).toInt = (h.1 o' (Int32.ofInt x)).toInt := by
      have p3 : (h.1 o (Int32.ofInt (leV ρ i))).toInt = (h.1 o' (Int32.ofInt (leV ρ i'))).toInt := p3
      rw [ej, p2] at p3
      exact p3
    have hi' : GG ρ S.1 i' (Int32.ofInt x).toInt := ⟨p1, by rw [p2, ex]⟩
    split
    · rename_i e he
      have ge : GG ρ S.1 e (h.1 o j).toInt := by
        split at he
        · have v := rlU_sp M (Or.inl rfl) p1 he
          refine ⟨rlU_S M he, ?_⟩
          rw [v, p4, p2]
          rfl
        · obtain ⟨g0, g1, j', g2, g3⟩ := M.2.1 _ (kcF_sp he)
          have : j' = Int32.ofInt x := Int32.toInt_inj.mp (g2.symm.trans hi'.2)
          subst this
          exact ⟨g1, by rw [p4]; exact g3⟩
      exact ⟨ρ, Ag.rf, Nat.le_refl _, M.kc (kcO.i hi ge), ge⟩
    · have b := rgF_sp (h := h) (o := o) M.1 hi M.2.2.1
      have b' := rgF_sp (h := h) (o := o') M.1 hi' M.2.2.1
      rw [← p4] at b'
      have M1 := M.nw (xmx_le b.1 b'.1) (le_xmn b.2 b'.2)
      have M2 := M1.kc (kcO.i (o := o') (hi'.ext upd_ag (Nat.le_succ _)) (by rw [← p4]; exact upd_at))
      exact ⟨_, upd_ag, Nat.le_succ _, M2.kc (kcO.i (hi.ext upd_ag (Nat.le_succ _)) upd_at), upd_at⟩
  · have b := rgF_sp (h := h) (o := o) M.1 hi M.2.2.1
    refine ⟨_, upd_ag, Nat.le_succ _, (M.nw b.1 b.2).kc (kcO.i (hi.ext upd_ag (Nat.le_succ _)) upd_at), upd_at⟩
noncomputable def rdL (S : Sx) (o : Nat) (i : LE) : Sx × LE := match kcF S.2.2 1 o i with
  | some e => (S, e)
  | none => match rlPf S.2.1 1 o i S.2.2 with
    | some (o', i') => (match kcF S.2.2 1 o' i' with
      | some e => ((S.1, S.2.1, (1, o, i, e) :: S.2.2), e)
      | none => let T := nwS S I64lo I64hi; ((T.1, T.2.1, (1, o, i, leX S.1) :: (1, o', i', leX S.1) :: T.2.2), leX S.1))
    | none => let T := nwS S I64lo I64hi; ((T.1, T.2.1, (1, o, i, leX S.1) :: T.2.2), leX S.1)
theorem rdL_sp (M : Mo rg ws h0 ρ S h) {o : Nat} {i : LE} {j : Int32} (hi : GG ρ S.1 i j.toInt) : ∃ ρ', Ag ρ ρ' S.1 ∧ S.1 ≤ (rdL S o i).1.1 ∧ Mo rg ws h0 ρ' (rdL S o i).1 h ∧ GG ρ' (rdL S o i).1.1 (rdL S o i).2 (h.2.1 o j).toInt := by
  unfold rdL
  rw [rlPf_fn]
  split
  · rename_i e he
    obtain ⟨g0, g1, j', g2, g3⟩ := M.2.1 _ (kcF_sp he)
    have : j' = j := Int32.toInt_inj.mp (g2.symm.trans hi.2)
    subst this
    exact ⟨ρ, Ag.rf, Nat.le_refl _, M, g1, g3⟩
  split
  · rename_i o' i' hp
    obtain ⟨p1, ⟨x, x0, x1, p2⟩, p3⟩ := rlP_sp M.1 hi.1 M.2.1 hp
    dsimp only at p1 p2 p3
    have ej : Int32.ofInt (leV ρ i) = j := by rw [hi.2]; exact Int32.ofInt_toInt j
    have ex : (Int32.ofInt x).toInt = x := i32of (by omega) (by omega)
    have p4 : (h.2.1 o j).toInt = (h.2.1 o' (Int32.ofInt x)).toInt := by
      have p3 : (h.2.1 o (Int32.ofInt (leV ρ i))).toInt = (h.2.1 o' (Int32.ofInt (leV ρ i'))).toInt := p3
      rw [ej, p2] at p3
      exact p3
    have hi' : GG ρ S.1 i' (Int32.ofInt x).toInt := ⟨p1, by rw [p2, ex]⟩
    split
    · rename_i e he
      obtain ⟨g0, g1, j', g2, g3⟩ := M.2.1 _ (kcF_sp he)
      have : j' = Int32.ofInt x := Int32.toInt_inj.mp (g2.symm.trans hi'.2)
      subst this
      have ge : GG ρ S.1 e (h.2.1 o j).toInt := ⟨g1, by rw [p4]; exact g3⟩
      exact ⟨ρ, Ag.rf, Nat.le_refl _, M.kc (kcO.l hi ge), ge⟩
    · have M1 := M.nw (i64b (h.2.1 o j)).1 (i64b (h.2.1 o j)).2
      have M2 := M1.kc (kcO.l (o := o') (hi'.ext upd_ag (Nat.le_succ _)) (by rw [← p4]; exact upd_at))
      exact ⟨_, upd_ag, Nat.le_succ _, M2.kc (kcO.l (hi.ext upd_ag (Nat.le_succ _)) upd_at), upd_at⟩
  · refine ⟨_, upd_ag, Nat.le_succ _, (M.nw (i64b _).1 (i64b _).2).kc (kcO.l (hi.ext upd_ag (Nat.le_succ _)) upd_at), upd_at⟩
/-- writing -/
noncomputable def okW (ws : List Wr) (D : Db) (k o : Nat) (i : LE) : Bool := ws.any fun w => Nat.beq w.1 k && Nat.beq w.2.1 o && en D (leK i (-w.2.2.1)) && en D (leK (leSc (-1) i) w.2.2.2)
theorem okW_sp {D : Db} {n k o : Nat} {i : LE} {j : Int32} (F : Fa ρ n D) (hi : GG ρ n i j.toInt) (g : okW ws D k o i = true) : inW ws k o j := by
  simp only [okW, List.any_eq_true, Bool.and_eq_true] at g
  obtain ⟨w, hw, ⟨⟨g1, g2⟩, g3⟩, g4⟩ := g
  have e3 := en_sp F g3
  have e4 := en_sp F g4
  rw [leV_K, hi.2] at e3
  rw [leV_K, leV_sc, hi.2] at e4
  exact ⟨w, hw, Nat.eq_of_beq_eq_true g1, Nat.eq_of_beq_eq_true g2, by omega, by omega⟩
/-- no form with these coefficients is a multiple of s away from b -/
noncomputable def rsd (s : Int) (i : LE) (b : Int) : Bool := leEq (leSc s (leDv s (0, i.2))) (0, i.2) && !iz ((i.1 - b) % s)
theorem rsd_sp {s b : Int} {i : LE} (g : rsd s i b = true) (k : Int) : leV ρ i ≠ b + s * k := by
  simp only [rsd, Bool.and_eq_true, Bool.not_eq_true'] at g
  obtain ⟨g1, g2⟩ := g
  have e1 := congrArg (leV ρ) (leEq_eq g1)
  rw [leV_sc] at e1
  intro q
  have e0 : leV ρ i = i.1 + leV ρ (0, i.2) := by simp [leV]
  have : i.1 - b = s * (k - leV ρ (leDv s (0, i.2))) := by rw [Int.mul_sub]; omega
  rw [this, Int.mul_emod_right] at g2
  cases g2
noncomputable def okR (D : Db) (o : Nat) (i e : LE) (q : Rg) : Bool := !(Nat.beq q.1 o) || en D (leK (leSc (-1) i) (q.2.1 - 1)) || en D (leK i (-(q.2.1 + q.2.2.1 * (q.2.2.2.1 - 1)) - 1)) && ile 0 q.2.2.1 || rsd q.2.2.1 i q.2.1 || en D (leK e (-q.2.2.2.2.1)) && en D (leK (leSc (-1) e) q.2.2.2.2.2)
theorem okR_sp {D : Db} {n o : Nat} {i e : LE} {j v : Int32} {q : Rg} (F : Fa ρ n D) (hi : GG ρ n i j.toInt) (he : GG ρ n e v.toInt) (g : okR D o i e q = true) (hs : 0 ≤ q.2.2.1) (R : RgO h q) : RgO (hI h o j v) q := by
  intro j' k k0 k1 hj
  have hR := R j' k k0 k1 hj
  show q.2.2.2.2.1 ≤ (if q.1 = o ∧ j' = j then v else h.1 q.1 j').toInt ∧ (if q.1 = o ∧ j' = j then v else h.1 q.1 j').toInt ≤ q.2.2.2.2.2
  by_cases hc : q.1 = o ∧ j' = j
  · rw [if_pos hc]
    obtain ⟨rfl, rfl⟩ := hc
    simp only [okR, Bool.or_eq_true, Bool.and_eq_true, Bool.not_eq_true'] at g
    rcases g with (((g | g) | g) | g) | g
    · have := Nat.beq_refl q.1
      rw [g] at this
      cases this
    · have := en_sp F g
      rw [leV_K, leV_sc, hi.2] at this
      have := Int.mul_nonneg hs k0
      omega
    · have := en_sp F g.1
      rw [leV_K, hi.2] at this
      have := Int.mul_le_mul_of_nonneg_left (show k ≤ q.2.2.2.1 - 1 by omega) hs
      omega
    · exact absurd (hi.2.trans hj) (rsd_sp g k)
    · have g1 := en_sp F g.1
      have g2 := en_sp F g.2
      rw [leV_K, he.2] at g1
      rw [leV_K, leV_sc, he.2] at g2
      exact ⟨by omega, by omega⟩
  · rw [if_neg hc]
    exact hR
noncomputable def gcdT : List (Nat × Int) → Nat
  | [] => 0
  | (_, a) :: r => Nat.gcd a.natAbs (gcdT r)
/-- the two places differ -/
noncomputable def dif (D : Db) (i i' : LE) : Bool := let d := leSub i i'; en D (leK d (-1)) || en D (leK (leSc (-1) d) (-1)) || rsd (gcdT d.2) d 0
theorem dif_sp {D : Db} {n : Nat} {i i' : LE} {x y : Int} (F : Fa ρ n D) (hi : GG ρ n i x) (hi' : GG ρ n i' y) (g : dif D i i' = true) : x ≠ y := by
  simp only [dif, Bool.or_eq_true] at g
  intro hxy
  have e0 : leV ρ (leSub i i') = 0 := by rw [leV_sub, hi.2, hi'.2]; omega
  rcases g with (g | g) | g
  · have := en_sp F g
    rw [leV_K, e0] at this
    omega
  · have := en_sp F g
    rw [leV_K, leV_sc, e0] at this
    omega
  · exact rsd_sp g 0 (by rw [e0]; simp)
noncomputable def hiE (bd : List (Nat × Int × Int)) (e : LE) : Int := match loE bd (leSc (-1) e) with
  | some v => -v
  | none => I64hi
noncomputable def loE' (bd : List (Nat × Int × Int)) (e : LE) : Int := match loE bd e with
  | some v => v
  | none => I64lo
theorem hiE_sp {n : Nat} {D : Db} {e : LE} {x : Int} (F : Fa ρ n D) (he : GG ρ n e x) (hx : x ≤ I64hi) : x ≤ hiE D.1 e := by
  unfold hiE
  split
  · rename_i v hv
    have := loE_le F hv
    rw [leV_sc, he.2] at this
    omega
  · exact hx
theorem loE'_sp {n : Nat} {D : Db} {e : LE} {x : Int} (F : Fa ρ n D) (he : GG ρ n e x) (hx : I64lo ≤ x) : loE' D.1 e ≤ x := by
  unfold loE'
  split
  · rename_i v hv
    have := loE_le F hv
    rw [he.2] at this
    exact this
  · exact hx
/-- kinds 4 to 6 stay where an object is written between two places -/
noncomputable def gkp (k o : Nat) (o' : Nat) (l u : Int) : Bool := match k with
  | 4 => !(Nat.beq o' 66) && (!(Nat.beq o' 65) || ile u 23 || ile 26 l)
  | 5 => !(Nat.beq o' o) || ile u 3 || ile 5 l && ile u 599 || ile 3000 l
  | 6 => !(Nat.beq o' 65) || ile u 24 || ile 26 l
  | 7 => !(Nat.beq o' 75) && (!(Nat.beq o' 66) || ile u 305 || ile 568 l)
  | 8 => !(Nat.beq o' 75) && (!(Nat.beq o' 66) || ile u 305 || ile 568 l)
  | 9 => (match rlD o with
    | some d => (!(Nat.beq o' d.2.1.1) || ile u (d.2.1.2.1 - 1) || ile (d.2.1.2.1 + d.2.1.2.2 * (d.2.2.2.1 - 1) + 1) l) && (!(Nat.beq o' d.2.2.1.1) || ile u (d.2.2.1.2.1 - 1) || ile (d.2.2.1.2.1 + d.2.2.1.2.2 * (d.2.2.2.1 - 1) + 1) l)
    | none => false)
  | 10 => true
  | 11 => (match rlD o with
    | some d => !(Nat.beq o' d.2.1.1) || ile u (d.2.1.2.1 - 1) || ile (d.2.1.2.1 + d.2.1.2.2 * (d.2.2.2.1 - 1) + 1) l
    | none => false)
  | 12 => (!(Nat.beq o' (bgC o)) || ile u 11 || ile 139 l) && (!(Nat.beq o' (bgR o)) || ile u 199 || ile 300 l)
  | 13 => true
  | 14 => (match ubL[o / 4]? with
    | some q => (!(Nat.beq o' (ubC o)) || (ile (u + 1) q.2.2.2.1 || ile (q.2.2.2.1 + 1) l) && (Nat.beq q.2.2.2.2.1 1 || Nat.beq q.2.2.2.2.1 2 || ile (u + 1) q.2.2.2.2.2 || ile (q.2.2.2.2.2 + 1) l)) && (!(Nat.beq o' (ubR o)) || ile (u + 1) q.1 || ile (q.1 + q.2.1 * (q.2.2.1 - 1) + 1) l)
    | none => false)
  | 15 => !(Nat.beq o' (smC o)) && (!(Nat.beq o' (bgR o)) || ile u 599 || ile 3000 l)
  | 16 => !(Nat.beq o' (ubC o)) || ile u 1 || ile 3 l && ile u 9 || ile 11 l && ile u 19 || ile 21 l && ile u 29 || ile 31 l && ile u 47 || ile 193 l
  | 17 => !(Nat.beq o' (ubC o)) || ile u 1 || ile 3 l && ile u 47 || ile 196 l
  | _ => false
theorem nbeq {a b : Nat} (h : Nat.beq a b = false) : a ≠ b := fun e => by rw [e, Nat.beq_refl] at h; cases h
theorem gkp_sp {k o o' : Nat} {l u j : Int} (g : gkp k o o' l u = true) (h1 : l ≤ j) (h2 : j ≤ u) : ¬ dep k o o' j := by
  intro d
  unfold gkp at g
  split at g
  · simp only [Bool.and_eq_true, Bool.or_eq_true, Bool.not_eq_true'] at g
    obtain ⟨g0, g⟩ := g
    rcases d with rfl | ⟨rfl, d⟩
    · exact nbeq g0 rfl
    · rcases g with (g | g) | g
      · exact nbeq g rfl
      · have := ile_le g; omega
      · have := ile_le g; omega
  · simp only [Bool.and_eq_true, Bool.or_eq_true, Bool.not_eq_true'] at g
    obtain ⟨rfl, d⟩ := d
    rcases g with ((g | g) | g) | g
    · exact nbeq g rfl
    · have := ile_le g; omega
    · have g1 := ile_le g.1; have g2 := ile_le g.2; omega
    · have := ile_le g; omega
  · simp only [Bool.or_eq_true, Bool.not_eq_true'] at g
    obtain ⟨rfl, d⟩ := d
    rcases g with (g | g) | g
    · exact nbeq g rfl
    · have := ile_le g; omega
    · have := ile_le g; omega
  · simp only [Bool.and_eq_true, Bool.or_eq_true, Bool.not_eq_true'] at g
    obtain ⟨g0, g⟩ := g
    rcases d with rfl | ⟨rfl, d⟩
    · exact nbeq g0 rfl
    · rcases g with (g | g) | g
      · exact nbeq g rfl
      · have := ile_le g; omega
      · have := ile_le g; omega
  · simp only [Bool.and_eq_true, Bool.or_eq_true, Bool.not_eq_true'] at g
    obtain ⟨g0, g⟩ := g
    rcases d with rfl | ⟨rfl, d⟩
    · exact nbeq g0 rfl
    · rcases g with (g | g) | g
      · exact nbeq g rfl
      · have := ile_le g; omega
      · have := ile_le g; omega
  · obtain ⟨d, hd, d1⟩ := d
    rw [hd] at g
    simp only [Bool.and_eq_true, Bool.or_eq_true, Bool.not_eq_true'] at g
    rcases d1 with ⟨d1, d2, d3⟩ | ⟨d1, d2, d3⟩
    · rcases g.1 with (g | g) | g
      · exact nbeq g d1
      · have := ile_le g; omega
      · have := ile_le g; omega
    · rcases g.2 with (g | g) | g
      · exact nbeq g d1
      · have := ile_le g; omega
      · have := ile_le g; omega
  · exact d.elim
  · obtain ⟨d, hd, d1, d2, d3⟩ := d
    rw [hd] at g
    simp only [Bool.or_eq_true, Bool.not_eq_true'] at g
    rcases g with (g | g) | g
    · exact nbeq g d1
    · have := ile_le g; omega
    · have := ile_le g; omega
  · simp only [Bool.and_eq_true, Bool.or_eq_true, Bool.not_eq_true'] at g
    rcases d with ⟨d1, d2, d3⟩ | ⟨d1, d2, d3⟩
    · rcases g.1 with (g | g) | g
      · exact nbeq g d1
      · have := ile_le g; omega
      · have := ile_le g; omega
    · rcases g.2 with (g | g) | g
      · exact nbeq g d1
      · have := ile_le g; omega
      · have := ile_le g; omega
  · exact d.elim
  · obtain ⟨q, hq, d⟩ := d
    rw [hq] at g
    simp only [Bool.and_eq_true, Bool.or_eq_true, Bool.not_eq_true'] at g
    rcases d with ⟨d1, d2⟩ | ⟨d1, d2, d3⟩
    · rcases g.1 with g | g
      · exact nbeq g d1
      · rcases d2 with d2 | ⟨k1, k2, d2⟩
        · rcases g.1 with g | g
          · have := ile_le g; omega
          · have := ile_le g; omega
        · rcases g.2 with ((g | g) | g) | g
          · exact k1 (Nat.eq_of_beq_eq_true g)
          · exact k2 (Nat.eq_of_beq_eq_true g)
          · have := ile_le g; omega
          · have := ile_le g; omega
    · rcases g.2 with (g | g) | g
      · exact nbeq g d1
      · have := ile_le g; omega
      · have := ile_le g; omega
  · simp only [Bool.and_eq_true, Bool.or_eq_true, Bool.not_eq_true'] at g
    rcases d with d1 | ⟨d1, d2, d3⟩
    · exact nbeq g.1 d1
    · rcases g.2 with (g | g) | g
      · exact nbeq g d1
      · have := ile_le g; omega
      · have := ile_le g; omega
  · simp only [Bool.and_eq_true, Bool.or_eq_true, Bool.not_eq_true'] at g
    obtain ⟨d1, d2⟩ := d
    rcases g with (((((g | g) | g) | g) | g) | g) | g
    · exact nbeq g d1
    · have := ile_le g; omega
    · have := ile_le g.1; have := ile_le g.2; omega
    · have := ile_le g.1; have := ile_le g.2; omega
    · have := ile_le g.1; have := ile_le g.2; omega
    · have := ile_le g.1; have := ile_le g.2; omega
    · have := ile_le g; omega
  · simp only [Bool.and_eq_true, Bool.or_eq_true, Bool.not_eq_true'] at g
    obtain ⟨d1, d2⟩ := d
    rcases g with ((g | g) | g) | g
    · exact nbeq g d1
    · have := ile_le g; omega
    · have := ile_le g.1; have := ile_le g.2; omega
    · have := ile_le g; omega
  · cases g
noncomputable def kpt (D : Db) (k o : Nat) (i : LE) (c : Kc) : Bool := Nat.ble 2 c.1 && Nat.ble c.1 3 || Nat.ble 4 c.1 && (Nat.beq k 1 && !(Nat.beq c.1 9) || gkp c.1 c.2.1 o (loE' D.1 i) (hiE D.1 i)) || Nat.ble c.1 1 && (!(Nat.beq c.1 k) || !(Nat.beq c.2.1 o) || dif D c.2.2.1 i)
theorem KC.wI {h : Hp} {k o o' : Nat} {x y : Int} {j v : Int32} (w : KC h k o x y) (q : k = 0 → ¬ (o = o' ∧ x = j.toInt)) (q4 : 4 ≤ k → ¬ dep k o o' j.toInt) : KC (hI h o' j v) k o x y := by
  rcases Nat.lt_or_ge k 4 with hk | hk
  · rcases (show k = 0 ∨ k = 1 ∨ k = 2 ∨ k = 3 by omega) with rfl | rfl | rfl | rfl
    · obtain ⟨j', k1, k2⟩ := w
      refine ⟨j', k1, ?_⟩
      have e : (hI h o' j v).1 o j' = h.1 o j' := by
        show (if o = o' ∧ j' = j then v else h.1 o j') = _
        rw [if_neg (fun z => q rfl ⟨z.1, by rw [k1, z.2]⟩)]
      rw [e]
      exact k2
    · obtain ⟨j', k1, k2⟩ := w
      exact ⟨j', k1, k2⟩
    · have w' : y = (h.2.2.1 : Int) := w
      show y = (h.2.2.1 : Int)
      exact w'
    · obtain ⟨j', k1, k2⟩ := w
      exact ⟨j', k1, k2⟩
  · refine dep_cong (h := h) (h' := hI h o' j v) hk (fun a b d => ?_) (fun _ _ _ _ => rfl) w
    show (if a = o' ∧ b = j then v else h.1 a b) = h.1 a b
    rw [if_neg]
    rintro ⟨rfl, rfl⟩
    exact q4 hk d
theorem KC.wL {h : Hp} {k o o' : Nat} {x y : Int} {j : Int32} {v : Int64} (w : KC h k o x y) (q : k = 1 → ¬ (o = o' ∧ x = j.toInt)) (q9 : k = 9 → ¬ dep k o o' j.toInt) : KC (hL h o' j v) k o x y := by
  rcases Nat.lt_or_ge k 4 with hk | hk
  · rcases (show k = 0 ∨ k = 1 ∨ k = 2 ∨ k = 3 by omega) with rfl | rfl | rfl | rfl
    · obtain ⟨j', k1, k2⟩ := w
      exact ⟨j', k1, k2⟩
    · obtain ⟨j', k1, k2⟩ := w
      refine ⟨j', k1, ?_⟩
      have e : (hL h o' j v).2.1 o j' = h.2.1 o j' := by
        show (if o = o' ∧ j' = j then v else h.2.1 o j') = _
        rw [if_neg (fun z => q rfl ⟨z.1, by rw [k1, z.2]⟩)]
      rw [e]
      exact k2
    · have w' : y = (h.2.2.1 : Int) := w
      show y = (h.2.2.1 : Int)
      exact w'
    · obtain ⟨j', k1, k2⟩ := w
      exact ⟨j', k1, k2⟩
  · refine dep_cong (h := h) (h' := hL h o' j v) hk (fun a b d => rfl) (fun e a b d => ?_) w
    show (if a = o' ∧ b = j then v else h.2.1 a b) = h.2.1 a b
    rw [if_neg]
    rintro ⟨rfl, rfl⟩
    exact q9 e d
theorem kpt_sp {D : Db} {n k o : Nat} {i : LE} {c : Kc} {x : Int} (F : Fa ρ n D) (hi : GG ρ n i x) (hx1 : I64lo ≤ x) (hx2 : x ≤ I64hi) (hk : kpt D k o i c = true) (hs : leS n c.2.2.1) : (c.1 = k → k ≤ 1 → ¬ (c.2.1 = o ∧ leV ρ c.2.2.1 = x)) ∧ (4 ≤ c.1 → (k ≠ 1 ∨ c.1 = 9) → ¬ dep c.1 c.2.1 o x) := by
  simp only [kpt, Bool.and_eq_true, Bool.or_eq_true, Bool.not_eq_true'] at hk
  rcases hk with (hk | hk) | hk
  · have h1 := Nat.le_of_ble_eq_true hk.1
    have h2 := Nat.le_of_ble_eq_true hk.2
    exact ⟨fun e1 e2 => by omega, fun e => by omega⟩
  · have h1 := Nat.le_of_ble_eq_true hk.1
    refine ⟨fun e1 e2 => by omega, fun _ hne => ?_⟩
    rcases hk.2 with q | q
    · rcases hne with hne | hne
      · exact absurd (Nat.eq_of_beq_eq_true q.1) hne
      · exact absurd hne (nbeq q.2)
    · exact gkp_sp q (loE'_sp F hi hx1) (hiE_sp F hi hx2)
  · have h1 := Nat.le_of_ble_eq_true hk.1
    refine ⟨fun e1 e2 z => ?_, fun e => by omega⟩
    rcases hk.2 with (q | q) | q
    · exact nbeq q e1
    · exact nbeq q z.1
    · exact dif_sp F ⟨hs, z.2⟩ hi q rfl
theorem hI_at {o : Nat} {j v : Int32} : (hI h o j v).1 o j = v := by
  show (if o = o ∧ j = j then v else h.1 o j) = v
  rw [if_pos ⟨rfl, rfl⟩]
theorem hI_jn {o : Nat} {j k v : Int32} (hk : k ≠ j) : (hI h o j v).1 o k = h.1 o k := by
  show (if o = o ∧ k = j then v else h.1 o k) = _
  rw [if_neg (fun q => hk q.2)]
/-- what a write to the reference's places leaves, or makes, of kinds 4, 5, 7 -/
noncomputable def padA (S : Sx) (i : LE) : List Kc := match kcF S.2.2 5 66 (leC 0), kcF S.2.2 0 66 (leC 4) with
  | some y, some N => if (en S.2.1 N && en S.2.1 (leK (leSub i (leSc 200 N)) (-600))) = true then [(5, 66, leC 0, y)] else []
  | _, _ => []
noncomputable def padB (S : Sx) (i : LE) : List Kc := match kcF S.2.2 4 66 (leC 0), kcF S.2.2 0 65 (leC 25), kcF S.2.2 0 65 (leC 24) with
  | some g, some a, some l => if (en S.2.1 (leK (leSub a i) (-1)) && en2 S.2.1 (leK (leSc (-1) l) 96) && en S.2.1 (leK (leSc (-1) a) 4000)) = true then [(4, 66, leC 0, g)] else []
  | _, _, _ => []
noncomputable def padC (S : Sx) (i e : LE) : List Kc := match kcF S.2.2 7 66 (leC 0) with
  | some c7 => if (en S.2.1 e && S.2.2.any (fun c => Nat.beq c.1 8 && leEq (leK (leSc 9 c.2.2.1) 306) i && en S.2.1 c.2.2.1)) = true then [(7, 66, leC 0, leK c7 (-1))] else []
  | none => []
noncomputable def eqvD (D : Db) (a b : LE) : Bool := leEq a b || en2 D (leSub a b) && en2 D (leSub b a)
theorem eqvD_sp {n : Nat} {D : Db} (F : Fa ρ n D) {a b : LE} (g : eqvD D a b = true) : leV ρ a = leV ρ b := by
  simp only [eqvD, Bool.or_eq_true, Bool.and_eq_true] at g
  rcases g with g | ⟨g1, g2⟩
  · rw [leEq_eq g]
  · have h1 := en2_sp F g1
    have h2 := en2_sp F g2
    rw [leV_sub] at h1 h2
    omega
noncomputable def padD (S : Sx) (i e : LE) : List Kc := if leEq i (leC 4) = true then (match kcF S.2.2 5 66 (leC 0), kcF S.2.2 0 66 (leC 4), kcF S.2.2 4 66 (leC 0), kcF S.2.2 0 65 (leC 25), kcF S.2.2 0 65 (leC 24) with
  | some y, some N, some g, some a, some l => (match kcF S.2.2 0 66 (leK (leSc 200 N) 603) with
    | some m => if (eqvD S.2.1 g (leC 1) && eqvD S.2.1 a (leK (leSc 200 N) 604) && eqvD S.2.1 m l && eqvD S.2.1 e (leK N 1) && en2 S.2.1 (leK (leSc (-1) l) 96) && en2 S.2.1 N && en2 S.2.1 (leK (leSc (-1) N) 11)) = true then [(5, 66, leC 0, y)] else []
    | none => [])
  | _, _, _, _, _ => []) else []
noncomputable def padE (S : Sx) (i e : LE) : List Kc := match kcF S.2.2 7 66 (leC 0), kcF S.2.2 8 66 i with
  | some c7, some _ => if (en S.2.1 i && en S.2.1 (leK e (-1))) = true then [(7, 66, leC 0, leK c7 (-1))] else []
  | _, _ => []
/-- rows that went along but from x to y, with one more place that does not -/
noncomputable def rlX (D : Db) (x y e0 : LE) : Option (LE × LE) := if en D (leSub x y) = true then some (e0, leK e0 1) else if (en D (leSub e0 x) && en D (leK (leSub y e0) (-1))) = true then some (x, y) else if en D (leSub y x) = true then (if leEq e0 y = true then some (x, leK y 1) else if leEq (leK e0 1) x = true then some (e0, y) else none) else none
/-- with one more place that does -/
noncomputable def rlY (D : Db) (x y e0 : LE) : LE × LE := if en D (leSub x y) = true then (x, y) else if leEq e0 x = true then (leK x 1, y) else if leEq (leK e0 1) y = true then (x, leK y (-1)) else (x, y)
theorem rlX_sp {n : Nat} {D : Db} {x y e0 : LE} {q : LE × LE} (F : Fa ρ n D) (g : rlX D x y e0 = some q) (hx : leS n x) (hy : leS n y) (he : leS n e0) : leS n q.1 ∧ leS n q.2 ∧ ∀ t : Int, (t < leV ρ q.1 ∨ leV ρ q.2 ≤ t) → (t < leV ρ x ∨ leV ρ y ≤ t) ∧ t ≠ leV ρ e0 := by
  unfold rlX at g
  split at g
  · rename_i g1
    cases g
    have g1 := en_sp F g1
    rw [leV_sub] at g1
    refine ⟨he, leS_K he, fun t ht => ?_⟩
    dsimp only at ht
    rw [leV_K] at ht
    omega
  split at g
  · rename_i g1
    cases g
    rw [Bool.and_eq_true] at g1
    have g2 := en_sp F g1.1
    have g3 := en_sp F g1.2
    rw [leV_sub] at g2
    rw [leV_K, leV_sub] at g3
    refine ⟨hx, hy, fun t ht => ?_⟩
    dsimp only at ht
    omega
  split at g
  case isFalse => cases g
  rename_i g0
  have g0 := en_sp F g0
  rw [leV_sub] at g0
  split at g
  · rename_i g1
    cases g
    have := congrArg (leV ρ) (leEq_eq g1)
    refine ⟨hx, leS_K hy, fun t ht => ?_⟩
    dsimp only at ht
    rw [leV_K] at ht
    omega
  split at g
  · rename_i g1
    cases g
    have := congrArg (leV ρ) (leEq_eq g1)
    rw [leV_K] at this
    refine ⟨he, hy, fun t ht => ?_⟩
    dsimp only at ht
    omega
  · cases g
theorem rlY_sp {n : Nat} {D : Db} {x y e0 : LE} (F : Fa ρ n D) (hx : leS n x) (hy : leS n y) : leS n (rlY D x y e0).1 ∧ leS n (rlY D x y e0).2 ∧ ∀ t : Int, (t < leV ρ (rlY D x y e0).1 ∨ leV ρ (rlY D x y e0).2 ≤ t) → (t < leV ρ x ∨ leV ρ y ≤ t) ∨ t = leV ρ e0 := by
  unfold rlY
  split
  · exact ⟨hx, hy, fun t ht => Or.inl ht⟩
  split
  · rename_i g1
    have := leEq_eq g1
    subst this
    refine ⟨leS_K hx, hy, fun t ht => ?_⟩
    dsimp only at ht
    rw [leV_K] at ht
    omega
  split
  · rename_i g1
    have := congrArg (leV ρ) (leEq_eq g1)
    rw [leV_K] at this
    refine ⟨hx, leS_K hy, fun t ht => ?_⟩
    dsimp only at ht
    rw [leV_K] at ht
    omega
  · exact ⟨hx, hy, fun t ht => Or.inl ht⟩
/-- none but: all -/
noncomputable def rlN (D : Db) (q : LE × LE) : LE × LE := if en D (leSub q.1 q.2) = true then (leC 0, leC 0) else q
theorem rlN_sp {n : Nat} {D : Db} {q : LE × LE} (F : Fa ρ n D) (hx : leS n q.1) (hy : leS n q.2) : leS n (rlN D q).1 ∧ leS n (rlN D q).2 ∧ ∀ t : Int, (t < leV ρ (rlN D q).1 ∨ leV ρ (rlN D q).2 ≤ t) → (t < leV ρ q.1 ∨ leV ρ q.2 ≤ t) := by
  unfold rlN
  split
  · rename_i g
    have g := en_sp F g
    rw [leV_sub] at g
    exact ⟨leS_C, leS_C, fun t _ => by omega⟩
  · exact ⟨hx, hy, fun t ht => ht⟩
/-- a place behind a table's rows -/
noncomputable def rlV3 (D : Db) (cv : Nat) (e : LE) : Bool := (Nat.beq cv 3 || Nat.beq cv 4) && (en D (leK e (-2)) || en D (leSc (-1) e))
theorem rlV3_sp {n cv : Nat} {D : Db} {e : LE} {x : Int} (F : Fa ρ n D) (g : rlV3 D cv e = true) : rlR cv x (leV ρ e) := by
  unfold rlV3 at g
  simp only [Bool.and_eq_true, Bool.or_eq_true] at g
  have hn : leV ρ e ≠ 1 := by
    rcases g.2 with g | g
    · have := en_sp F g
      rw [leV_K] at this
      omega
    · have := en_sp F g
      rw [leV_sc] at this
      omega
  rcases g.1 with c | c
  · have hc : cv = 3 := Nat.eq_of_beq_eq_true c
    subst hc
    unfold rlR
    rw [if_neg (by decide), if_neg (by decide), if_pos rfl]
    exact fun z => absurd z hn
  · have hc : cv = 4 := Nat.eq_of_beq_eq_true c
    subst hc
    unfold rlR
    rw [if_neg (by decide), if_neg (by decide), if_neg (by decide), if_pos rfl]
    exact fun z => absurd z hn
noncomputable def rlV4 (D : Db) (cv : Nat) (u : LE) : Bool := Nat.beq cv 3 && (en D (leK u (-1)) && en D (leK (leSc (-1) u) 3)) || Nat.beq cv 4 && en D u
theorem rlV4_sp {n cv : Nat} {D : Db} {u : LE} {x : Int} (F : Fa ρ n D) (g : rlV4 D cv u = true) : rlR cv (leV ρ u) x := by
  unfold rlV4 at g
  simp only [Bool.and_eq_true, Bool.or_eq_true] at g
  rcases g with g | g
  · have hc : cv = 3 := Nat.eq_of_beq_eq_true g.1
    subst hc
    have g1 := en_sp F g.2.1
    have g2 := en_sp F g.2.2
    rw [leV_K] at g1
    rw [leV_K, leV_sc] at g2
    unfold rlR
    rw [if_neg (by decide), if_neg (by decide), if_pos rfl]
    exact fun _ => ⟨by omega, by omega⟩
  · have hc : cv = 4 := Nat.eq_of_beq_eq_true g.1
    subst hc
    have g1 := en_sp F g.2
    unfold rlR
    rw [if_neg (by decide), if_neg (by decide), if_neg (by decide), if_pos rfl]
    exact fun _ => g1
noncomputable def rlV2 (D : Db) (cv : Nat) (u e : LE) : Bool := if Nat.beq cv 0 = true then eqvD D u e else if (rlV3 D cv e || rlV4 D cv u) = true then true else Nat.beq cv 1 && (eqvD D u (leC (-1000000005)) && eqvD D e (leC (-1)) || en D u && eqvD D u e)
theorem rlV2_sp {n cv : Nat} {D : Db} {u e : LE} (F : Fa ρ n D) (g : rlV2 D cv u e = true) : rlR cv (leV ρ u) (leV ρ e) := by
  unfold rlV2 at g
  split at g
  · rename_i hc
    rw [Nat.eq_of_beq_eq_true hc]
    exact rlR0.mpr (eqvD_sp F g)
  split at g
  · rename_i h
    rw [Bool.or_eq_true] at h
    rcases h with h | h
    · exact rlV3_sp F h
    · exact rlV4_sp F h
  · rename_i hc _
    simp only [Bool.or_eq_true, Bool.and_eq_true] at g
    obtain ⟨gc, g⟩ := g
    have hc : cv = 1 := Nat.eq_of_beq_eq_true gc
    subst hc
    unfold rlR
    rw [if_pos rfl]
    rcases g with g | g
    · have g1 := eqvD_sp F g.1
      have g2 := eqvD_sp F g.2
      rw [leV_C] at g1 g2
      exact Or.inl ⟨g1, g2⟩
    · have g1 := en_sp F g.1
      have g2 := eqvD_sp F g.2
      exact Or.inr ⟨g2, by omega⟩
/-- the first of the rows holds there what the second is given -/
noncomputable def rlQ (S : Sx) (w o1 : Nat) (b1 s1 : Int) (cv : Nat) (e0 e : LE) : Bool := match rlU S w o1 (leK (leSc s1 e0) b1) with
  | some u => rlV2 S.2.1 cv u e
  | none => rlV3 S.2.1 cv e
/-- the second holds there what the first is given -/
noncomputable def rlQ2 (S : Sx) (w o2 : Nat) (b2 s2 : Int) (cv : Nat) (e0 e : LE) : Bool := match kcF S.2.2 w o2 (leK (leSc s2 e0) b2) with
  | some u => rlV2 S.2.1 cv e u
  | none => false
/-- the write falls between the rows that are left out -/
noncomputable def rlH (D : Db) (s b : Int) (i : LE) (c : Kc) : Bool := en D (leK (leSub i (leSc s c.2.2.1)) (s - b - 1)) && en D (leK (leSub (leSc s c.2.2.2) i) (b - 1))
theorem rlH_sp {n : Nat} {D : Db} {s b J : Int} {i : LE} {c : Kc} (F : Fa ρ n D) (hi : leV ρ i = J) (hs : 0 < s) (g : rlH D s b i c = true) {t : Int} (ht : t < leV ρ c.2.2.1 ∨ leV ρ c.2.2.2 ≤ t) : b + s * t ≠ J := by
  unfold rlH at g
  rw [Bool.and_eq_true] at g
  have g1 := en_sp F g.1
  have g2 := en_sp F g.2
  rw [leV_K, leV_sub, leV_sc, hi] at g1
  rw [leV_K, leV_sub, leV_sc, hi] at g2
  intro q
  rcases ht with ht | ht
  · have := Int.mul_le_mul_of_nonneg_left (show t ≤ leV ρ c.2.2.1 - 1 by omega) (Int.le_of_lt hs)
    rw [Int.mul_sub] at this
    omega
  · have := Int.mul_le_mul_of_nonneg_left ht (Int.le_of_lt hs)
    omega
noncomputable def padR1 (w : Nat) (S : Sx) (o : Nat) (i e : LE) (c : Kc) : Option Kc := if Nat.beq c.1 9 = true then (match rlD c.2.1 with
  | some (k, (o1, b1, s1), (o2, b2, s2), n, cv) => if Nat.beq k w = true then (if Nat.beq o o1 = true then (if rsd s1 i b1 = true then some c else match rlE s1 b1 i with
      | some e0 => if rlQ2 S w o2 b2 s2 cv e0 e = true then some (9, c.2.1, rlN S.2.1 (rlY S.2.1 c.2.2.1 c.2.2.2 e0)) else (match rlX S.2.1 c.2.2.1 c.2.2.2 e0 with
        | some q => some (9, c.2.1, q)
        | none => none)
      | none => if rlH S.2.1 s1 b1 i c = true then some c else none) else if Nat.beq o o2 = true then (if rsd s2 i b2 = true then some c else match rlE s2 b2 i with
      | some e0 => if rlQ S w o1 b1 s1 cv e0 e = true then some (9, c.2.1, rlN S.2.1 (rlY S.2.1 c.2.2.1 c.2.2.2 e0)) else (match rlX S.2.1 c.2.2.1 c.2.2.2 e0 with
        | some q => some (9, c.2.1, q)
        | none => none)
      | none => if rlH S.2.1 s2 b2 i c = true then some c else none) else none) else none
  | none => none) else none
/-- what a write leaves of rows that go along -/
noncomputable def padR (w : Nat) (S : Sx) (o : Nat) (i e : LE) : List Kc := S.2.2.filterMap (fun c => if gkp 9 c.2.1 o (loE' S.2.1.1 i) (hiE S.2.1.1 i) = true then none else padR1 w S o i e c)
/-- of one kind, one place of one object is written -/
noncomputable def WE (h h' : Hp) (w o : Nat) (J V : Int) : Prop := ∀ (a : Nat) (i : Int), 0 ≤ i → i ≤ 100000 → rlV h' w a i = if a = o ∧ i = J then V else rlV h w a i
theorem WE_I {o : Nat} {j v : Int32} : WE h (hI h o j v) 0 o j.toInt v.toInt := by
  intro a i i0 i1
  show (if a = o ∧ Int32.ofInt i = j then v else h.1 a (Int32.ofInt i)).toInt = if a = o ∧ i = j.toInt then v.toInt else (h.1 a (Int32.ofInt i)).toInt
  have e : Int32.ofInt i = j ↔ i = j.toInt := ⟨fun q => by rw [← q, i32of (by omega) (by omega)], fun q => by rw [q]; exact Int32.ofInt_toInt j⟩
  by_cases hc : a = o ∧ i = j.toInt
  · rw [if_pos hc, if_pos ⟨hc.1, e.mpr hc.2⟩]
  · rw [if_neg hc, if_neg (fun q => hc ⟨q.1, e.mp q.2⟩)]
theorem WE_L {o : Nat} {j : Int32} {v : Int64} : WE h (hL h o j v) 1 o j.toInt v.toInt := by
  intro a i i0 i1
  show (if a = o ∧ Int32.ofInt i = j then v else h.2.1 a (Int32.ofInt i)).toInt = if a = o ∧ i = j.toInt then v.toInt else (h.2.1 a (Int32.ofInt i)).toInt
  have e : Int32.ofInt i = j ↔ i = j.toInt := ⟨fun q => by rw [← q, i32of (by omega) (by omega)], fun q => by rw [q]; exact Int32.ofInt_toInt j⟩
  by_cases hc : a = o ∧ i = j.toInt
  · rw [if_pos hc, if_pos ⟨hc.1, e.mpr hc.2⟩]
  · rw [if_neg hc, if_neg (fun q => hc ⟨q.1, e.mp q.2⟩)]
theorem padR1_sp {h' : Hp} {w o : Nat} {i e : LE} {J V : Int} (M : Mo rg ws h0 ρ S h) (hi : GG ρ S.1 i J) (he : GG ρ S.1 e V) (hw : WE h h' w o J V) {c c' : Kc} (hc : c ∈ S.2.2) (g : padR1 w S o i e c = some c') : kcO ρ S.1 h' c' := by
  have K := M.2.1 c hc
  clear hc
  unfold padR1 at g
  split at g
  case isFalse => cases g
  rename_i h9
  obtain ⟨ck, co, cx, cy⟩ := c
  have h9 : ck = 9 := Nat.eq_of_beq_eq_true h9
  subst h9
  obtain ⟨kx, ky, k, o1, b1, s1, o2, b2, s2, m, cv, hd, K⟩ := K
  dsimp only at g hd K kx ky
  rw [hd] at g
  obtain ⟨d0, d1, d2, d3, d4, d5, d6⟩ := rlD_ok hd
  dsimp only at g
  split at g
  case isFalse => cases g
  rename_i hk
  have hk : k = w := Nat.eq_of_beq_eq_true hk
  subst hk
  have bd : ∀ (s b x : Int), 0 ≤ b → 0 < s → b + s * m ≤ 100000 → 0 ≤ x → x < m → 0 ≤ b + s * x ∧ b + s * x ≤ 100000 := fun s b x a1 a2 a3 a4 a5 => by
    have h1 := Int.mul_nonneg (Int.le_of_lt a2) a4
    have h2 := Int.mul_le_mul_of_nonneg_left (show x ≤ m by omega) (Int.le_of_lt a2)
    omega
  have inj : ∀ (s a b : Int), 0 < s → s * a = s * b → a = b := fun s a b hs hab => Int.eq_of_mul_eq_mul_left (Int.ne_of_gt hs) hab
  -- the rows behind the write
  have fin : ∀ x y : LE, leS S.1 x → leS S.1 y → (∀ t : Int, 0 ≤ t → t < m → (t < leV ρ x ∨ leV ρ y ≤ t) → ((t < leV ρ cx ∨ leV ρ cy ≤ t) ∧ ¬(o1 = o ∧ b1 + s1 * t = J) ∧ ¬(o2 = o ∧ b2 + s2 * t = J)) ∨ rlR cv (rlV h' k o1 (b1 + s1 * t)) (rlV h' k o2 (b2 + s2 * t))) → kcO ρ S.1 h' (9, co, x, y) := fun x y sx sy H => ⟨sx, sy, k, o1, b1, s1, o2, b2, s2, m, cv, hd, fun t t0 t1 t2 => by
    rcases H t t0 t1 t2 with ⟨q1, q2, q3⟩ | q
    · obtain ⟨z1, z2⟩ := bd s1 b1 t d1 d2 d5 t0 t1
      obtain ⟨z3, z4⟩ := bd s2 b2 t d3 d4 d6 t0 t1
      rw [hw o1 _ z1 z2, hw o2 _ z3 z4, if_neg q2, if_neg q3]
      exact K t t0 t1 q1
    · exact q⟩
  have out : ∀ {e0 : LE} {q : LE × LE}, leS S.1 e0 → rlX S.2.1 cx cy e0 = some q → (∀ t : Int, 0 ≤ t → t < m → t ≠ leV ρ e0 → ¬(o1 = o ∧ b1 + s1 * t = J) ∧ ¬(o2 = o ∧ b2 + s2 * t = J)) → kcO ρ S.1 h' (9, co, q) := fun {e0 q} s0 hq H => by
    obtain ⟨q1, q2, q3⟩ := rlX_sp M.1 hq kx ky s0
    exact fin q.1 q.2 q1 q2 (fun t t0 t1 t2 => Or.inl ⟨(q3 t t2).1, H t t0 t1 (q3 t t2).2⟩)
  have kk : k = 0 ∨ k = 1 := by
    unfold rlD at hd
    split at hd
    · split at hd
      · cases hd; exact Or.inl rfl
      · cases hd
    · split at hd
      · rename_i qq hqq
        cases hd
        exact rlM_k _ (List.mem_of_getElem? hqq)
      · cases hd
  have cls : ∀ {e0 : LE}, leS S.1 e0 → (0 ≤ leV ρ e0 → leV ρ e0 < m → rlR cv (rlV h' k o1 (b1 + s1 * leV ρ e0)) (rlV h' k o2 (b2 + s2 * leV ρ e0))) → (∀ t : Int, 0 ≤ t → t < m → t ≠ leV ρ e0 → ¬(o1 = o ∧ b1 + s1 * t = J) ∧ ¬(o2 = o ∧ b2 + s2 * t = J)) → kcO ρ S.1 h' (9, co, rlN S.2.1 (rlY S.2.1 cx cy e0)) := fun {e0} s0 H1 H2 => by
    obtain ⟨y1, y2, y3⟩ := rlY_sp (e0 := e0) M.1 kx ky
    obtain ⟨z1, z2, z3⟩ := rlN_sp M.1 y1 y2
    refine fin _ _ z1 z2 (fun t t0 t1 t2 => ?_)
    have t2 := z3 t t2
    by_cases hte : t = leV ρ e0
    · right
      subst hte
      exact H1 t0 t1
    · left
      exact ⟨(y3 t t2).resolve_right hte, H2 t t0 t1 hte⟩
  split at g
  · rename_i ho
    have ho : o = o1 := Nat.eq_of_beq_eq_true ho
    subst ho
    split at g
    · rename_i hr
      cases g
      refine fin cx cy kx ky (fun t t0 t1 t2 => Or.inl ⟨t2, fun q => ?_, fun q => d0 q.1.symm⟩)
      exact rsd_sp hr t (hi.2.trans q.2.symm)
    · split at g
      · rename_i e0 he0
        obtain ⟨s0, v0⟩ := rlE_sp (ρ := ρ) he0 hi.1
        have nu : ∀ t : Int, 0 ≤ t → t < m → t ≠ leV ρ e0 → ¬(o = o ∧ b1 + s1 * t = J) ∧ ¬(o2 = o ∧ b2 + s2 * t = J) := fun t t0 t1 hne => ⟨fun z => hne (inj s1 _ _ d2 (by rw [← hi.2] at z; omega)), fun z => d0 z.1.symm⟩
        split at g
        · rename_i hQ
          cases g
          refine cls s0 (fun t0 t1 => ?_) nu
          obtain ⟨z1, z2⟩ := bd s1 b1 _ d1 d2 d5 t0 t1
          obtain ⟨z3, z4⟩ := bd s2 b2 _ d3 d4 d6 t0 t1
          rw [hw o _ z1 z2, hw o2 _ z3 z4, if_pos ⟨rfl, by rw [← hi.2]; omega⟩, if_neg (fun q => d0 q.1.symm)]
          unfold rlQ2 at hQ
          split at hQ
          · rename_i u hu
            have hU : leV ρ u = rlV h k o2 (b2 + s2 * leV ρ e0) := by
              have ei : leV ρ (leK (leSc s2 e0) b2) = b2 + s2 * leV ρ e0 := by rw [leV_K, leV_sc, Int.add_comm]
              rw [← ei]
              exact rlU_sp M kk (leS_K (leS_sc s0)) (by unfold rlU; rw [hu])
            rw [← hU, ← he.2]
            exact rlV2_sp M.1 hQ
          · cases hQ
        · split at g
          · rename_i q hq
            cases g
            exact out s0 hq nu
          · cases g
      · split at g
        · rename_i hH
          cases g
          exact fin cx cy kx ky (fun t t0 t1 t2 => Or.inl ⟨t2, fun q => rlH_sp M.1 hi.2 d2 hH t2 q.2, fun q => d0 q.1.symm⟩)
        · cases g
  · split at g
    · rename_i ho
      have ho : o = o2 := Nat.eq_of_beq_eq_true ho
      subst ho
      split at g
      · rename_i hr
        cases g
        refine fin cx cy kx ky (fun t t0 t1 t2 => Or.inl ⟨t2, fun q => d0 q.1, fun q => ?_⟩)
        exact rsd_sp hr t (hi.2.trans q.2.symm)
      · split at g
        · rename_i e0 he0
          obtain ⟨s0, v0⟩ := rlE_sp (ρ := ρ) he0 hi.1
          have nu : ∀ t : Int, 0 ≤ t → t < m → t ≠ leV ρ e0 → ¬(o1 = o ∧ b1 + s1 * t = J) ∧ ¬(o = o ∧ b2 + s2 * t = J) := fun t t0 t1 hne => ⟨fun z => d0 z.1, fun z => hne (inj s2 _ _ d4 (by rw [← hi.2] at z; omega))⟩
          split at g
          · rename_i hQ
            cases g
            refine cls s0 (fun t0 t1 => ?_) nu
            obtain ⟨z1, z2⟩ := bd s1 b1 _ d1 d2 d5 t0 t1
            obtain ⟨z3, z4⟩ := bd s2 b2 _ d3 d4 d6 t0 t1
            rw [hw o1 _ z1 z2, hw o _ z3 z4, if_neg (fun q => d0 q.1), if_pos ⟨rfl, by rw [← hi.2]; omega⟩]
            unfold rlQ at hQ
            split at hQ
            · rename_i u hu
              have hU : leV ρ u = rlV h k o1 (b1 + s1 * leV ρ e0) := by
                have ei : leV ρ (leK (leSc s1 e0) b1) = b1 + s1 * leV ρ e0 := by rw [leV_K, leV_sc, Int.add_comm]
                rw [← ei]
                exact rlU_sp M kk (leS_K (leS_sc s0)) hu
              rw [← hU, ← he.2]
              exact rlV2_sp M.1 hQ
            · rw [← he.2]; exact rlV3_sp M.1 hQ
          · split at g
            · rename_i q hq
              cases g
              exact out s0 hq nu
            · cases g
        · split at g
          · rename_i hH
            cases g
            exact fin cx cy kx ky (fun t t0 t1 t2 => Or.inl ⟨t2, fun q => d0 q.1, fun q => rlH_sp M.1 hi.2 d4 hH t2 q.2⟩)
          · cases g
    · cases g
theorem padR_sp {h' : Hp} {w o : Nat} {i e : LE} {J V : Int} (M : Mo rg ws h0 ρ S h) (hi : GG ρ S.1 i J) (he : GG ρ S.1 e V) (hw : WE h h' w o J V) : ∀ c ∈ padR w S o i e, kcO ρ S.1 h' c := by
  intro c' hc'
  obtain ⟨c, hc, g⟩ := List.mem_filterMap.mp hc'
  split at g
  · cases g
  · exact padR1_sp M hi he hw hc g
/-- what a write leaves of rows of zeros -/
noncomputable def padZ1 (S : Sx) (o : Nat) (i e : LE) (c : Kc) : Option Kc := if Nat.beq c.1 11 = true then (match rlD c.2.1 with
  | some (_, (o1, b1, s1), _, _, _) => if Nat.beq o o1 = true then (if rsd s1 i b1 = true then some c else match rlE s1 b1 i with
    | some e0 => if (en2 S.2.1 (leK (leSub c.2.2.2 e0) (-1)) || leEq e (leC 0)) = true then some c else if leEq e0 c.2.2.2 = true then some (11, c.2.1, c.2.2.1, leK c.2.2.2 1) else none
    | none => none) else none
  | none => none) else none
noncomputable def padZ (S : Sx) (o : Nat) (i e : LE) : List Kc := S.2.2.filterMap (padZ1 S o i e)
theorem padZ_sp {o : Nat} {i e : LE} {j v : Int32} (M : Mo rg ws h0 ρ S h) (hi : GG ρ S.1 i j.toInt) (he : GG ρ S.1 e v.toInt) : ∀ c ∈ padZ S o i e, kcO ρ S.1 (hI h o j v) c := by
  intro c' hc'
  obtain ⟨c, hc, g⟩ := List.mem_filterMap.mp hc'
  have K := M.2.1 c hc
  unfold padZ1 at g
  split at g
  case isFalse => cases g
  rename_i h11
  obtain ⟨ck, co, cx, cy⟩ := c
  have h11 : ck = 11 := Nat.eq_of_beq_eq_true h11
  subst h11
  obtain ⟨kx, ky, o1, b1, s1, o2, b2, s2, m, cv, hd, K⟩ := K
  dsimp only at g hd K kx ky
  rw [hd] at g
  obtain ⟨d0, d1, d2, d3, d4, d5, d6⟩ := rlD_ok hd
  dsimp only at g
  split at g
  case isFalse => cases g
  rename_i ho
  have ho : o = o1 := Nat.eq_of_beq_eq_true ho
  subst ho
  have hw : WE h (hI h o j v) 0 o j.toInt v.toInt := WE_I
  have bd : ∀ t : Int, 0 ≤ t → t < m → 0 ≤ b1 + s1 * t ∧ b1 + s1 * t ≤ 100000 := fun t a4 a5 => by
    have h1 := Int.mul_nonneg (Int.le_of_lt d2) a4
    have h2 := Int.mul_le_mul_of_nonneg_left (show t ≤ m by omega) (Int.le_of_lt d2)
    omega
  have fin : ∀ y : LE, leS S.1 y → (∀ t : Int, 0 ≤ t → leV ρ y ≤ t → t < m → (leV ρ cy ≤ t ∧ ¬(b1 + s1 * t = j.toInt)) ∨ (leV ρ cy ≤ t ∧ v.toInt = 0)) → kcO ρ S.1 (hI h o j v) (11, co, cx, y) := fun y sy H => ⟨kx, sy, o, b1, s1, o2, b2, s2, m, cv, hd, fun t t0 t1 t2 => by
    obtain ⟨z1, z2⟩ := bd t t0 t2
    rw [hw o _ z1 z2]
    rcases H t t0 t1 t2 with ⟨q1, q2⟩ | ⟨q1, q2⟩
    · rw [if_neg (fun z => q2 z.2)]
      exact K t t0 q1 t2
    · split
      · exact q2
      · exact K t t0 q1 t2⟩
  split at g
  · rename_i hr
    cases g
    refine fin cy ky (fun t t0 t1 t2 => Or.inl ⟨t1, fun q => ?_⟩)
    exact rsd_sp hr t (hi.2.trans q.symm)
  · split at g
    · rename_i e0 he0
      obtain ⟨s0, v0⟩ := rlE_sp (ρ := ρ) he0 hi.1
      have ne : ∀ t : Int, t ≠ leV ρ e0 → ¬ b1 + s1 * t = j.toInt := fun t hne q => by
        rw [← hi.2, v0] at q
        exact hne (Int.eq_of_mul_eq_mul_left (Int.ne_of_gt d2) (by omega))
      split at g
      · rename_i hc
        cases g
        rw [Bool.or_eq_true] at hc
        rcases hc with hc | hc
        · have q := en2_sp M.1 hc
          rw [leV_K, leV_sub] at q
          exact fin cy ky (fun t t0 t1 t2 => Or.inl ⟨t1, ne t (by omega)⟩)
        · have q : v.toInt = 0 := by rw [← he.2, leEq_eq hc, leV_C]
          exact fin cy ky (fun t t0 t1 t2 => Or.inr ⟨t1, q⟩)
      · split at g
        · rename_i hc
          cases g
          have q := congrArg (leV ρ) (leEq_eq hc)
          refine fin _ (leS_K ky) (fun t t0 t1 t2 => ?_)
          rw [leV_K] at t1
          exact Or.inl ⟨by omega, ne t (by omega)⟩
        · cases g
    · cases g
/-- what a write leaves of who is barred -/
noncomputable def padB1 (S : Sx) (o : Nat) (i e : LE) (c : Kc) : Option Kc := if Nat.beq c.1 12 = true then (if Nat.beq o (bgC c.2.1) = true then (if rsd 14 i 12 = true then some c else none) else if (Nat.beq o (bgR c.2.1) && (leEq e (leC 0) && (en S.2.1 c.2.2.2 && (en S.2.1 (leK (leSc (-1) c.2.2.2) 9) && (List.range 10).any (fun k => leEq (leK i (-200 - (k : Int))) (leSc 10 c.2.2.2) || leEq (leK i (-200 - 10 * (k : Int))) c.2.2.2))))) = true then some c else none) else none
noncomputable def padBg (S : Sx) (o : Nat) (i e : LE) : List Kc := S.2.2.filterMap (padB1 S o i e)
theorem padBg_sp {o : Nat} {i e : LE} {j v : Int32} (M : Mo rg ws h0 ρ S h) (hi : GG ρ S.1 i j.toInt) (he : GG ρ S.1 e v.toInt) : ∀ c ∈ padBg S o i e, kcO ρ S.1 (hI h o j v) c := by
  intro c' hc'
  obtain ⟨c, hc, g⟩ := List.mem_filterMap.mp hc'
  have K := M.2.1 c hc
  unfold padB1 at g
  split at g
  case isFalse => cases g
  rename_i h12
  obtain ⟨ck, co, cx, cy⟩ := c
  have h12 : ck = 12 := Nat.eq_of_beq_eq_true h12
  subst h12
  obtain ⟨kx, ky, w1, w2⟩ := K
  dsimp only at g kx ky w1 w2
  have hw : WE h (hI h o j v) 0 o j.toInt v.toInt := WE_I
  split at g
  · rename_i ho
    have ho := Nat.eq_of_beq_eq_true ho
    split at g
    case isFalse => cases g
    rename_i hr
    cases g
    refine ⟨kx, ky, w1, fun a b a0 a1 b0 b1 => ?_⟩
    rw [hw (bgC co) (12 + 14 * a) (by omega) (by omega), hw (bgR co) (200 + 10 * a + b) (by omega) (by omega), hw (bgR co) (200 + 10 * b + a) (by omega) (by omega), if_neg (fun q => rsd_sp hr a (hi.2.trans q.2.symm)), if_neg (fun q => bg_ne w1 (ho.symm.trans q.1.symm)), if_neg (fun q => bg_ne w1 (ho.symm.trans q.1.symm))]
    exact w2 a b a0 a1 b0 b1
  · split at g
    case isFalse => cases g
    rename_i hg
    cases g
    simp only [Bool.and_eq_true, Bool.or_eq_true, List.any_eq_true] at hg
    obtain ⟨ho, g1, g2, g3, k, hk, g4⟩ := hg
    have ho := Nat.eq_of_beq_eq_true ho
    have g2 := en_sp M.1 g2
    have g3 := en_sp M.1 g3
    rw [leV_K, leV_sc] at g3
    have hk := List.mem_range.mp hk
    have v0 : v.toInt = 0 := by rw [← he.2, leEq_eq g1, leV_C]
    refine ⟨kx, ky, w1, fun a b a0 a1 b0 b1 => ?_⟩
    have ha : ∀ a b : Int, 0 ≤ a → a < 10 → 0 ≤ b → b < 10 → bgR co = o ∧ 200 + 10 * a + b = j.toInt → leV ρ cy ≤ a ∨ leV ρ cy ≤ b := fun a b a0 a1 b0 b1 hj => by
      rcases g4 with g4 | g4
      · have := congrArg (leV ρ) (leEq_eq g4)
        rw [leV_K, leV_sc, hi.2] at this
        left
        omega
      · have := congrArg (leV ρ) (leEq_eq g4)
        rw [leV_K, hi.2] at this
        right
        omega
    have ev : ∀ a b : Int, 0 ≤ a → a < 10 → 0 ≤ b → b < 10 → rlV (hI h o j v) 0 (bgR co) (200 + 10 * a + b) = rlV h 0 (bgR co) (200 + 10 * a + b) := fun a b a0 a1 b0 b1 => by
      rw [hw (bgR co) (200 + 10 * a + b) (by omega) (by omega)]
      split
      · rename_i hj
        obtain ⟨-, -, u3, u4, -⟩ := w2 a b a0 a1 b0 b1
        rw [v0, u3, u4 (ha a b a0 a1 b0 b1 hj)]
      · rfl
    rw [hw (bgC co) (12 + 14 * a) (by omega) (by omega), ev a b a0 a1 b0 b1, ev b a b0 b1 a0 a1, if_neg (fun q => bg_ne w1 (q.1.trans ho))]
    exact w2 a b a0 a1 b0 b1
/-- what a write leaves, or makes, of what is sure of a row -/
noncomputable def ubP (D : Db) (w : Nat) (e : LE) (N2 : Option LE) (y : LE) : Bool := match w with
  | 0 => (match N2 with
    | some N => en D (leK (leSub N e) (-1))
    | none => false)
  | 1 => en D (leK e (-1)) || en D (leK (leSc (-1) e) (-1))
  | _ => en2 D e && en2 D (leSub y e)
noncomputable def ubT (D : Db) (e0 : LE) (N1 : Option LE) : Bool := match N1 with
  | some N => en D (leSub e0 N)
  | none => false
noncomputable def ubZ (D : Db) (f : Option LE) : Bool := match f with
  | some f => en D (leSc (-1) f)
  | none => false
theorem ubT_sp {n : Nat} {D : Db} {e0 : LE} {N1 : Option LE} {N : Int} (F : Fa ρ n D) (g : ubT D e0 N1 = true) (hN : ∀ q, N1 = some q → leV ρ q = N) : N ≤ leV ρ e0 := by
  unfold ubT at g
  split at g
  · rename_i q
    have g := en_sp F g
    rw [leV_sub, hN q rfl] at g
    omega
  · cases g
theorem ubZ_sp {n : Nat} {D : Db} {f : Option LE} {N : Int} (F : Fa ρ n D) (g : ubZ D f = true) (hN : ∀ q, f = some q → leV ρ q = N) : N ≤ 0 := by
  unfold ubZ at g
  split at g
  · rename_i q
    have g := en_sp F g
    rw [leV_sc, hN q rfl] at g
    omega
  · cases g
noncomputable def padU1 (S : Sx) (o : Nat) (i e : LE) (c : Kc) : Option Kc := if (Nat.beq c.1 14 && (Nat.ble (c.2.1 / 4) 4 && Nat.beq o (ubC c.2.1))) = true then (match ubL[c.2.1 / 4]? with
  | some (b, s, n, c1, w, c2) => (let N1 := kcF S.2.2 0 o (leC c1); let N2 := if Nat.beq w 0 = true then kcF S.2.2 0 o (leC c2) else none;
    if leEq i (leC c1) = true then (match N1 with
      | some N1 => if en S.2.1 (leSub N1 e) = true then some c else if leEq e (leK N1 1) = true then (match kcF S.2.2 0 o (leK (leSc s N1) b) with
        | some v => if ubP S.2.1 w v N2 c.2.2.2 = true then some c else none
        | none => none) else none
      | none => none)
    else if (Nat.beq w 0 && leEq i (leC c2)) = true then (match N2 with
      | some N2 => if en S.2.1 (leSub e N2) = true then some c else none
      | none => none)
    else if en S.2.1 (leK i (-10)) = true then (if rsd s i b = true then some c else match rlE s b i with
      | some e0 => if (ubP S.2.1 w e N2 c.2.2.2 || ubT S.2.1 e0 N1) = true then some c else if (Nat.beq w 2 && (en2 S.2.1 e && en2 S.2.1 (leK (leSub c.2.2.2 e) 1))) = true then some (14, c.2.1, c.2.2.1, leK c.2.2.2 1) else none
      | none => none) else none)
  | none => none) else none
noncomputable def padU (S : Sx) (o : Nat) (i e : LE) : List Kc := S.2.2.filterMap (fun c => if gkp 14 c.2.1 o (loE' S.2.1.1 i) (hiE S.2.1.1 i) = true then none else padU1 S o i e c)
theorem kcR (M : Mo rg ws h0 ρ S h) {o : Nat} {i e : LE} {x : Int} (g : kcF S.2.2 0 o i = some e) (hx : leV ρ i = x) : leV ρ e = rlV h 0 o x := by
  obtain ⟨-, -, j, j1, j2⟩ := M.2.1 _ (kcF_sp g)
  rw [j2, ← hx, j1]
  show _ = (h.1 o (Int32.ofInt j.toInt)).toInt
  rw [Int32.ofInt_toInt]
theorem ubP_sp {n w : Nat} {D : Db} {e y : LE} {N2 : Option LE} {N : Int} (F : Fa ρ n D) (g : ubP D w e N2 y = true) (w4 : w ≤ 2) (hN : ∀ q, N2 = some q → leV ρ q = N) : ubQ w (leV ρ e) N (leV ρ y) := by
  unfold ubP at g
  split at g
  · split at g
    · rename_i q
      have g := en_sp F g
      rw [leV_K, leV_sub, hN q rfl] at g
      exact ⟨fun _ => by omega, fun z => by omega, fun z => by omega, fun z => by omega⟩
    · cases g
  · rw [Bool.or_eq_true] at g
    refine ⟨fun z => by omega, fun _ => ?_, fun z => by omega, fun z => by omega⟩
    rcases g with g | g
    · have g := en_sp F g
      rw [leV_K] at g
      omega
    · have g := en_sp F g
      rw [leV_K, leV_sc] at g
      omega
  · rename_i n0 n1
    rw [Bool.and_eq_true] at g
    have g1 := en2_sp F g.1
    have g2 := en2_sp F g.2
    rw [leV_sub] at g2
    exact ⟨fun z => absurd z n0, fun z => absurd z n1, fun _ => ⟨g1, by omega⟩, fun z => by omega⟩
theorem padU_sp {o : Nat} {i e : LE} {j v : Int32} (M : Mo rg ws h0 ρ S h) (hi : GG ρ S.1 i j.toInt) (he : GG ρ S.1 e v.toInt) : ∀ c ∈ padU S o i e, kcO ρ S.1 (hI h o j v) c := by
  intro c' hc'
  obtain ⟨c, hc, g⟩ := List.mem_filterMap.mp hc'
  split at g
  · cases g
  have K := M.2.1 c hc
  unfold padU1 at g
  split at g
  case isFalse => cases g
  rename_i h14
  obtain ⟨ck, co, cx, cy⟩ := c
  simp only [Bool.and_eq_true] at h14
  obtain ⟨h1, h2, h3⟩ := h14
  have h1 : ck = 14 := Nat.eq_of_beq_eq_true h1
  subst h1
  have h2 : co / 4 ≤ 4 := Nat.le_of_ble_eq_true h2
  have h3 : o = ubC co := Nat.eq_of_beq_eq_true h3
  subst h3
  obtain ⟨kx, ky, b, s, n, c1, w, c2, hd, K⟩ := K
  dsimp only at g hd K kx ky
  rw [hd] at g
  dsimp only at g
  have P1 : ∀ q, kcF S.2.2 0 (ubC co) (leC c1) = some q → leV ρ q = rlV h 0 (ubC co) c1 := fun q hq => by
    obtain ⟨-, -, j, j1, j2⟩ := M.2.1 _ (kcF_sp hq)
    rw [j2]
    have : leV ρ (leC c1) = c1 := leV_C ρ c1
    rw [← this, j1]
    show _ = (h.1 _ (Int32.ofInt j.toInt)).toInt
    rw [Int32.ofInt_toInt]
  have P2 : ∀ q, (if Nat.beq w 0 = true then kcF S.2.2 0 (ubC co) (leC c2) else none) = some q → leV ρ q = rlV h 0 (ubC co) c2 := fun q hq => by
    split at hq
    · obtain ⟨-, -, j, j1, j2⟩ := M.2.1 _ (kcF_sp hq)
      rw [j2]
      have : leV ρ (leC c2) = c2 := leV_C ρ c2
      rw [← this, j1]
      show _ = (h.1 _ (Int32.ofInt j.toInt)).toInt
      rw [Int32.ofInt_toInt]
    · cases hq
  generalize kcF S.2.2 0 (ubC co) (leC c1) = N1 at g P1
  generalize (if Nat.beq w 0 = true then kcF S.2.2 0 (ubC co) (leC c2) else none) = N2 at g P2
  have eR : ubR co = ubC co := by
    unfold ubR ubC
    rw [if_neg (fun z => by have := Nat.eq_of_beq_eq_true z; omega)]
  rw [eR] at K
  have B := ubL_ok _ (List.mem_of_getElem? hd)
  dsimp only at B
  obtain ⟨B1, B2, B3, B4, B5, B6, B7, B8, B9⟩ := B
  have w3 : w ≤ 2 := by
    have : co / 4 = 0 ∨ co / 4 = 1 ∨ co / 4 = 2 ∨ co / 4 = 3 ∨ co / 4 = 4 := by omega
    rcases this with q | q | q | q | q <;> (rw [q] at hd; cases hd; decide)
  have hw : WE h (hI h (ubC co) j v) 0 (ubC co) j.toInt v.toInt := WE_I
  have bd : ∀ t : Int, 0 ≤ t → t < n → 0 ≤ b + s * t ∧ b + s * t ≤ 100000 := fun t a4 a5 => by
    have h1 := Int.mul_nonneg (Int.le_of_lt B2) a4
    have h2 := Int.mul_le_mul_of_nonneg_left (show t ≤ n by omega) (Int.le_of_lt B2)
    omega
  have b10 : 10 ≤ b := by
    have : co / 4 = 0 ∨ co / 4 = 1 ∨ co / 4 = 2 ∨ co / 4 = 3 ∨ co / 4 = 4 := by omega
    rcases this with q | q | q | q | q <;> (rw [q] at hd; cases hd; decide)
  have c12 : w = 0 → c1 ≠ c2 := by
    have : co / 4 = 0 ∨ co / 4 = 1 ∨ co / 4 = 2 ∨ co / 4 = 3 ∨ co / 4 = 4 := by omega
    rcases this with q | q | q | q | q <;> (rw [q] at hd; cases hd; decide)
  have nm : ∀ t : Int, 0 ≤ t → 10 ≤ b + s * t := fun t t0 => by
    have := Int.mul_nonneg (Int.le_of_lt B2) t0
    omega
  have mono0 : ∀ {v N N' y : Int}, ubQ w v N y → (w = 0 → N ≤ N') → ubQ w v N' y := fun q hN => ⟨fun z => Int.lt_of_lt_of_le (q.1 z) (hN z), q.2.1, q.2.2.1, fun z => by omega⟩
  have fin : ∀ y : LE, leS S.1 y → (∀ t : Int, 0 ≤ t → t < n → t < rlV (hI h (ubC co) j v) 0 (ubC co) c1 → ubQ w (rlV (hI h (ubC co) j v) 0 (ubC co) (b + s * t)) (rlV (hI h (ubC co) j v) 0 (ubC co) c2) (leV ρ y)) → kcO ρ S.1 (hI h (ubC co) j v) (14, co, cx, y) := fun y sy H => ⟨kx, sy, b, s, n, c1, w, c2, hd, by rw [eR]; exact H⟩
  split at g
  · -- the count
    rename_i hc1
    have ej : j.toInt = c1 := by rw [← hi.2, leEq_eq hc1, leV_C]
    have ec1 : rlV (hI h (ubC co) j v) 0 (ubC co) c1 = v.toInt := by rw [hw _ _ B5 (by omega), if_pos ⟨rfl, ej.symm⟩]
    have ec2 : w = 0 → rlV (hI h (ubC co) j v) 0 (ubC co) c2 = rlV h 0 (ubC co) c2 := fun z => by rw [hw _ _ B7 (by omega), if_neg (fun q => c12 z (by omega))]
    have er : ∀ t : Int, 0 ≤ t → t < n → rlV (hI h (ubC co) j v) 0 (ubC co) (b + s * t) = rlV h 0 (ubC co) (b + s * t) := fun t t0 t1 => by
      obtain ⟨z1, z2⟩ := bd t t0 t1
      have := nm t t0
      rw [hw _ _ z1 z2, if_neg (fun q => by omega)]
    split at g
    case h_2 => cases g
    rename_i N1
    have eN1 := P1 N1 rfl
    split at g
    · rename_i q
      cases g
      have q := en_sp M.1 q
      rw [leV_sub, eN1, he.2] at q
      refine fin cy ky (fun t t0 t1 t2 => ?_)
      rw [ec1] at t2
      rw [er t t0 t1]
      exact mono0 (K t t0 t1 (by omega)) (fun z => by rw [ec2 z]; exact Int.le_refl _)
    · split at g
      case isFalse => cases g
      rename_i q
      have q := congrArg (leV ρ) (leEq_eq q)
      rw [leV_K, he.2, eN1] at q
      split at g
      case h_2 => cases g
      rename_i u hu
      split at g
      case isFalse => cases g
      rename_i p
      cases g
      have eu := kcR M hu (x := b + s * leV ρ N1) (by rw [leV_K, leV_sc, Int.add_comm])
      refine fin cy ky (fun t t0 t1 t2 => ?_)
      rw [ec1] at t2
      rw [er t t0 t1]
      rcases (show t < rlV h 0 (ubC co) c1 ∨ t = leV ρ N1 by omega) with t3 | t3
      · exact mono0 (K t t0 t1 t3) (fun z => by rw [ec2 z]; exact Int.le_refl _)
      · have p := ubP_sp (N := rlV h 0 (ubC co) c2) M.1 p w3 P2
        rw [eu, ← t3] at p
        exact mono0 p (fun z => by rw [ec2 z]; exact Int.le_refl _)
  split at g
  · -- the bound's cell
    rename_i hc1 hc2
    rw [Bool.and_eq_true] at hc2
    have hw0 : w = 0 := Nat.eq_of_beq_eq_true hc2.1
    have ej : j.toInt = c2 := by rw [← hi.2, leEq_eq hc2.2, leV_C]
    split at g
    case h_2 => cases g
    rename_i N2
    have eN2 := P2 N2 rfl
    split at g
    case isFalse => cases g
    rename_i q
    cases g
    have q := en_sp M.1 q
    rw [leV_sub, eN2, he.2] at q
    refine fin cy ky (fun t t0 t1 t2 => ?_)
    rw [hw _ _ B5 (by omega), if_neg (fun q => by have := c12 hw0; omega)] at t2
    obtain ⟨z1, z2⟩ := bd t t0 t1
    have := nm t t0
    rw [hw _ _ z1 z2, if_neg (fun q => by omega), hw _ _ B7 (by omega), if_pos ⟨rfl, ej.symm⟩]
    exact mono0 (K t t0 t1 t2) (fun _ => by omega)
  split at g
  case isFalse => cases g
  rename_i g10
  have g10 := en_sp M.1 g10
  rw [leV_K, hi.2] at g10
  have e1 : rlV (hI h (ubC co) j v) 0 (ubC co) c1 = rlV h 0 (ubC co) c1 := by rw [hw _ _ B5 (by omega), if_neg (fun q => by omega)]
  have e2 : rlV (hI h (ubC co) j v) 0 (ubC co) c2 = rlV h 0 (ubC co) c2 := by rw [hw _ _ B7 (by omega), if_neg (fun q => by omega)]
  split at g
  · rename_i hr
    cases g
    refine fin cy ky (fun t t0 t1 t2 => ?_)
    rw [e1] at t2
    obtain ⟨z1, z2⟩ := bd t t0 t1
    rw [e2, hw _ _ z1 z2, if_neg (fun q => rsd_sp hr t (hi.2.trans q.2.symm))]
    exact K t t0 t1 t2
  split at g
  case h_2 => cases g
  rename_i e0 he0
  obtain ⟨s0, v0⟩ := rlE_sp (ρ := ρ) he0 hi.1
  have ne : ∀ t : Int, t ≠ leV ρ e0 → ¬ b + s * t = j.toInt := fun t hne q => by
    rw [← hi.2, v0] at q
    exact hne (Int.eq_of_mul_eq_mul_left (Int.ne_of_gt B2) (by omega))
  have at0 : b + s * leV ρ e0 = j.toInt := by rw [← v0, hi.2]
  split at g
  · rename_i p
    cases g
    rw [Bool.or_eq_true] at p
    refine fin cy ky (fun t t0 t1 t2 => ?_)
    rw [e1] at t2
    obtain ⟨z1, z2⟩ := bd t t0 t1
    rw [e2, hw _ _ z1 z2]
    by_cases ht : t = leV ρ e0
    · rcases p with p | p
      · rw [if_pos ⟨rfl, by rw [ht, at0]⟩, ← he.2]
        exact ubP_sp (N := rlV h 0 (ubC co) c2) M.1 p w3 P2
      · have p := ubT_sp M.1 p P1
        omega
    · rw [if_neg (fun q => ne t ht q.2)]
      exact K t t0 t1 t2
  · split at g
    case isFalse => cases g
    rename_i p
    cases g
    simp only [Bool.and_eq_true] at p
    obtain ⟨p1, p2, p3⟩ := p
    have p1 : w = 2 := Nat.eq_of_beq_eq_true p1
    have p2 := en2_sp M.1 p2
    have p3 := en2_sp M.1 p3
    rw [he.2] at p2
    rw [leV_K, leV_sub, he.2] at p3
    refine fin _ (leS_K ky) (fun t t0 t1 t2 => ?_)
    rw [e1] at t2
    obtain ⟨z1, z2⟩ := bd t t0 t1
    rw [e2, hw _ _ z1 z2, leV_K]
    by_cases ht : t = leV ρ e0
    · rw [if_pos ⟨rfl, by rw [ht, at0]⟩]
      exact ⟨fun z => by omega, fun z => by omega, fun _ => ⟨p2, by omega⟩, fun z => by omega⟩
    · rw [if_neg (fun q => ne t ht q.2)]
      obtain ⟨-, -, k2, -⟩ := K t t0 t1 t2
      exact ⟨fun z => by omega, fun z => by omega, fun z => ⟨(k2 z).1, by have := (k2 z).2; omega⟩, fun z => by omega⟩
/-- what a write leaves of what the shops hold -/
noncomputable def padP1 (S : Sx) (o : Nat) (i e : LE) (c : Kc) : Option Kc := if (Nat.beq c.1 16 && Nat.beq o (ubC c.2.1)) = true then (if leEq i (leC 2) = true then (match kcF S.2.2 0 o (leC 2) with
    | some N2 => if leEq e (leK N2 1) = true then (match kcF S.2.2 0 o (leK (leSc 16 N2) 48) with
      | some u => if en S.2.1 (leK (leSc (-1) u) (-1)) = true then some c else none
      | none => none) else none
    | none => none)
  else if en S.2.1 (leK i (-31)) = true then (if (rsd 16 i 48 || en S.2.1 (leK (leSc (-1) e) (-1))) = true then some c else match rlE 16 48 i, kcF S.2.2 0 o (leC 2) with
    | some e0, some N2 => if en S.2.1 (leSub e0 N2) = true then some c else none
    | _, _ => none)
  else if (en S.2.1 (leK i (-10)) && en S.2.1 (leK (leSc (-1) i) 39)) = true then (if rsd 10 i 10 = true then some c else match rlE 10 10 i, kcF S.2.2 0 o (leC 1) with
    | some e0, some N1 => if (en S.2.1 (leSub e0 N1) && S.2.2.any (fun d => Nat.beq d.1 14 && Nat.beq d.2.1 (c.2.1 % 4))) = true then some c else none
    | _, _ => none)
  else none) else none
noncomputable def padP (S : Sx) (o : Nat) (i e : LE) : List Kc := S.2.2.filterMap (fun c => if gkp 16 c.2.1 o (loE' S.2.1.1 i) (hiE S.2.1.1 i) = true then none else padP1 S o i e c)
theorem countP_le {p q : Nat → Bool} : ∀ {n : Nat}, (∀ k, k < n → p k = true → q k = true) → (List.range n).countP p ≤ (List.range n).countP q
  | 0, _ => Nat.le_refl _
  | n + 1, H => by
    rw [List.range_succ, List.countP_append, List.countP_append]
    have ih := countP_le (n := n) (fun k hk => H k (by omega))
    have : [n].countP p ≤ [n].countP q := by
      by_cases hp : p n = true
      · rw [List.countP_cons, List.countP_cons, if_pos hp, if_pos (H n (by omega) hp)]
        exact Nat.le_refl _
      · rw [List.countP_cons, if_neg hp]
        exact Nat.zero_le _
    omega
theorem padP_sp {o : Nat} {i e : LE} {j v : Int32} (M : Mo rg ws h0 ρ S h) (hi : GG ρ S.1 i j.toInt) (he : GG ρ S.1 e v.toInt) : ∀ c ∈ padP S o i e, kcO ρ S.1 (hI h o j v) c := by
  intro c' hc'
  obtain ⟨c, hc, g⟩ := List.mem_filterMap.mp hc'
  split at g
  · cases g
  have K := M.2.1 c hc
  unfold padP1 at g
  split at g
  case isFalse => cases g
  rename_i h16
  obtain ⟨ck, co, cx, cy⟩ := c
  simp only [Bool.and_eq_true] at h16
  obtain ⟨h1, h3⟩ := h16
  have h1 : ck = 16 := Nat.eq_of_beq_eq_true h1
  subst h1
  have h3 : o = ubC co := Nat.eq_of_beq_eq_true h3
  subst h3
  obtain ⟨kx, ky, y0, K⟩ := K
  dsimp only at g K kx ky y0
  have hw : WE h (hI h (ubC co) j v) 0 (ubC co) j.toInt v.toInt := WE_I
  -- the counts only fall, the places stay
  have fin : (∀ k : Int, 0 ≤ k → k < 3 → ∀ t : Nat, t < 10 → plB (hI h (ubC co) j v) co k t = true → plB h co k t = true) → (∀ k : Int, 0 ≤ k → k < 3 → rlV (hI h (ubC co) j v) 0 (ubC co) (10 + 10 * k) = rlV h 0 (ubC co) (10 + 10 * k) ∨ plN h co k = 0) → kcO ρ S.1 (hI h (ubC co) j v) (16, co, cx, cy) := fun H H2 => ⟨kx, ky, y0, fun k k0 k1 => by
    show plN (hI h (ubC co) j v) co k = 0 ∨ (plN (hI h (ubC co) j v) co k : Int) ≤ rlV (hI h (ubC co) j v) 0 (ubC co) (10 + 10 * k)
    have le : plN (hI h (ubC co) j v) co k ≤ plN h co k := countP_le (fun t ht => H k k0 k1 t ht)
    rcases K k k0 k1 with q | q
    · left; omega
    · rcases H2 k k0 k1 with q2 | q2
      · right; rw [q2]; omega
      · left; omega⟩
  have pl : ∀ (k : Int) (t : Nat), plB (hI h (ubC co) j v) co k t = true → (t : Int) < rlV (hI h (ubC co) j v) 0 (ubC co) 2 ∧ rlV (hI h (ubC co) j v) 0 (ubC co) (48 + 16 * (t : Int)) = k := fun k t q => by
    unfold plB at q
    rw [Bool.and_eq_true] at q
    exact ⟨of_decide_eq_true q.1, of_decide_eq_true q.2⟩
  have lp : ∀ (k : Int) (t : Nat), (t : Int) < rlV h 0 (ubC co) 2 → rlV h 0 (ubC co) (48 + 16 * (t : Int)) = k → plB h co k t = true := fun k t a b => by
    unfold plB
    rw [Bool.and_eq_true]
    exact ⟨decide_eq_true a, decide_eq_true b⟩
  split at g
  · rename_i hc2
    have ej : j.toInt = 2 := by rw [← hi.2, leEq_eq hc2, leV_C]
    split at g
    case h_2 => cases g
    rename_i N2 hN2
    split at g
    case isFalse => cases g
    rename_i q
    split at g
    case h_2 => cases g
    rename_i u hu
    split at g
    case isFalse => cases g
    rename_i p
    cases g
    have q := congrArg (leV ρ) (leEq_eq q)
    rw [leV_K, he.2, kcR M hN2 (leV_C ρ 2)] at q
    have p := en_sp M.1 p
    rw [leV_K, leV_sc, kcR M hu (x := 48 + 16 * leV ρ N2) (by rw [leV_K, leV_sc, Int.add_comm]), kcR M hN2 (leV_C ρ 2)] at p
    refine fin (fun k k0 k1 t t1 ht => ?_) (fun k k0 k1 => Or.inl ?_)
    · obtain ⟨a, b⟩ := pl k t ht
      rw [hw _ _ (by omega) (by omega), if_pos ⟨rfl, ej.symm⟩] at a
      rw [hw _ _ (by omega) (by omega), if_neg (fun z => by omega)] at b
      rcases (show (t : Int) < rlV h 0 (ubC co) 2 ∨ (t : Int) = rlV h 0 (ubC co) 2 by omega) with r | r
      · exact lp k t r b
      · rw [← r] at p
        omega
    · rw [hw _ _ (by omega) (by omega), if_neg (fun z => by omega)]
  split at g
  · rename_i hc2 g31
    have g31 := en_sp M.1 g31
    rw [leV_K, hi.2] at g31
    have e2 : rlV (hI h (ubC co) j v) 0 (ubC co) 2 = rlV h 0 (ubC co) 2 := by rw [hw _ _ (by omega) (by omega), if_neg (fun z => by omega)]
    have er : ∀ k : Int, 0 ≤ k → k < 3 → rlV (hI h (ubC co) j v) 0 (ubC co) (10 + 10 * k) = rlV h 0 (ubC co) (10 + 10 * k) ∨ plN h co k = 0 := fun k k0 k1 => Or.inl (by rw [hw _ _ (by omega) (by omega), if_neg (fun z => by omega)])
    split at g
    · rename_i p
      cases g
      rw [Bool.or_eq_true] at p
      refine fin (fun k k0 k1 t t1 ht => ?_) er
      obtain ⟨a, b⟩ := pl k t ht
      rw [e2] at a
      rw [hw _ _ (by omega) (by omega)] at b
      split at b
      · rename_i z
        rcases p with p | p
        · exact absurd (hi.2.trans z.2.symm) (rsd_sp p t)
        · have p := en_sp M.1 p
          rw [leV_K, leV_sc, he.2] at p
          omega
      · exact lp k t a b
    · split at g
      case h_2 => cases g
      rename_i e0 N2 he0 hN2
      split at g
      case isFalse => cases g
      rename_i p
      cases g
      obtain ⟨s0, v0⟩ := rlE_sp (ρ := ρ) he0 hi.1
      have p := en_sp M.1 p
      rw [leV_sub, kcR M hN2 (leV_C ρ 2)] at p
      refine fin (fun k k0 k1 t t1 ht => ?_) er
      obtain ⟨a, b⟩ := pl k t ht
      rw [e2] at a
      rw [hw _ _ (by omega) (by omega), if_neg (fun z => by have := hi.2; omega)] at b
      exact lp k t a b
  split at g
  case isFalse => cases g
  rename_i hc2 g31 g10
  rw [Bool.and_eq_true] at g10
  have g1 := en_sp M.1 g10.1
  have g2 := en_sp M.1 g10.2
  rw [leV_K, hi.2] at g1
  rw [leV_K, leV_sc, hi.2] at g2
  have same : ∀ k : Int, 0 ≤ k → k < 3 → ∀ t : Nat, t < 10 → plB (hI h (ubC co) j v) co k t = true → plB h co k t = true := fun k k0 k1 t t1 ht => by
    obtain ⟨a, b⟩ := pl k t ht
    rw [hw _ _ (by omega) (by omega), if_neg (fun z => by omega)] at a
    rw [hw _ _ (by omega) (by omega), if_neg (fun z => by omega)] at b
    exact lp k t a b
  split at g
  · rename_i hr
    cases g
    refine fin same (fun k k0 k1 => Or.inl ?_)
    rw [hw _ _ (by omega) (by omega), if_neg (fun q => rsd_sp hr k (hi.2.trans q.2.symm))]
  · split at g
    case h_2 => cases g
    rename_i e0 N1 he0 hN1
    split at g
    case isFalse => cases g
    rename_i p
    cases g
    simp only [Bool.and_eq_true, List.any_eq_true] at p
    obtain ⟨p1, d, hd, p2, p3⟩ := p
    obtain ⟨s0, v0⟩ := rlE_sp (ρ := ρ) he0 hi.1
    have p1 := en_sp M.1 p1
    rw [leV_sub, kcR M hN1 (leV_C ρ 1)] at p1
    obtain ⟨-, -, U⟩ := M.2.1 d hd
    rw [Nat.eq_of_beq_eq_true p2, Nat.eq_of_beq_eq_true p3] at U
    obtain ⟨b, s, n, c1, w, c2, hu, U⟩ := U
    have e4 : co % 4 / 4 = 0 := by omega
    rw [e4] at hu
    cases hu
    have eC : ubC (co % 4) = ubC co := by unfold ubC; omega
    have eR : ubR (co % 4) = ubC co := by
      unfold ubR ubC
      rw [if_neg (fun z => by have := Nat.eq_of_beq_eq_true z; omega)]
      omega
    rw [eC, eR] at U
    refine fin same (fun k k0 k1 => ?_)
    by_cases hk : k = leV ρ e0
    · right
      refine List.countP_eq_zero.mpr (fun t ht => ?_)
      have ht := List.mem_range.mp ht
      intro q
      unfold plB at q
      rw [Bool.and_eq_true] at q
      have q1 := of_decide_eq_true q.1
      have q2 := of_decide_eq_true q.2
      have := (U t (by omega) (by omega) q1).1 rfl
      omega
    · left
      rw [hw _ _ (by omega) (by omega), if_neg (fun q => by have := hi.2; omega)]
/-- what a write leaves, or makes, of who is free and in no shop -/
noncomputable def padF1 (S : Sx) (o : Nat) (i e : LE) (c : Kc) : Option Kc := if (Nat.beq c.1 17 && Nat.beq o (ubC c.2.1)) = true then (if leEq i (leC 2) = true then (match kcF S.2.2 0 o (leC 2) with
    | some N2 => if leEq e (leK N2 1) = true then (match kcF S.2.2 0 o (leK (leSc 16 N2) 48) with
      | some u => if en S.2.1 (leK (leSc (-1) u) (-1)) = true then some c else none
      | none => none) else none
    | none => none)
  else if (en S.2.1 (leK i (-40)) && en S.2.1 (leK (leSc (-1) i) 199)) = true then (if (rsd 16 i 48 && rsd 16 i 51) = true then some c else match rlE 16 48 i with
    | some e0 => if en S.2.1 (leK (leSc (-1) e) (-1)) = true then (if leEq e0 (nrm S.2.1 c.2.2.2) = true then some (17, c.2.1, c.2.2.1, leC (-1)) else some c) else if (ubT S.2.1 e0 (kcF S.2.2 0 o (leC 2)) || ubZ S.2.1 (kcF S.2.2 0 o (leK (leSc 16 e0) 51))) = true then some c else none
    | none => (match rlE 16 51 i with
      | some e0 => if en S.2.1 (leSc (-1) e) = true then some c else if leEq (nrm S.2.1 c.2.2.2) (leC (-1)) = true then some (17, c.2.1, c.2.2.1, e0) else none
      | none => none))
  else none) else none
noncomputable def padF (S : Sx) (o : Nat) (i e : LE) : List Kc := S.2.2.filterMap (fun c => if gkp 17 c.2.1 o (loE' S.2.1.1 i) (hiE S.2.1.1 i) = true then none else padF1 S o i e c)
theorem padF_sp {o : Nat} {i e : LE} {j v : Int32} (M : Mo rg ws h0 ρ S h) (hi : GG ρ S.1 i j.toInt) (he : GG ρ S.1 e v.toInt) : ∀ c ∈ padF S o i e, kcO ρ S.1 (hI h o j v) c := by
  intro c' hc'
  obtain ⟨c, hc, g⟩ := List.mem_filterMap.mp hc'
  split at g
  · cases g
  have K := M.2.1 c hc
  unfold padF1 at g
  split at g
  case isFalse => cases g
  rename_i h17
  obtain ⟨ck, co, cx, cy⟩ := c
  simp only [Bool.and_eq_true] at h17
  obtain ⟨h1, h3⟩ := h17
  have h1 : ck = 17 := Nat.eq_of_beq_eq_true h1
  subst h1
  have h3 : o = ubC co := Nat.eq_of_beq_eq_true h3
  subst h3
  obtain ⟨kx, ky, K⟩ := K
  dsimp only at g K kx ky
  have hw : WE h (hI h (ubC co) j v) 0 (ubC co) j.toInt v.toInt := WE_I
  have fin : ∀ y : LE, leS S.1 y → FRO (hI h (ubC co) j v) co (leV ρ y) → kcO ρ S.1 (hI h (ubC co) j v) (17, co, cx, y) := fun y sy H => ⟨kx, sy, H⟩
  have off : ∀ a : Int, 0 ≤ a → a ≤ 100000 → a ≠ j.toInt → rlV (hI h (ubC co) j v) 0 (ubC co) a = rlV h 0 (ubC co) a := fun a a0 a1 hne => by rw [hw _ _ a0 a1, if_neg (fun z => hne z.2)]
  have on : ∀ a : Int, 0 ≤ a → a ≤ 100000 → a = j.toInt → rlV (hI h (ubC co) j v) 0 (ubC co) a = v.toInt := fun a a0 a1 hne => by rw [hw _ _ a0 a1, if_pos ⟨rfl, hne⟩]
  split at g
  · rename_i hc2
    have ej : j.toInt = 2 := by rw [← hi.2, leEq_eq hc2, leV_C]
    split at g
    case h_2 => cases g
    rename_i N2 hN2
    split at g
    case isFalse => cases g
    rename_i q
    split at g
    case h_2 => cases g
    rename_i u hu
    split at g
    case isFalse => cases g
    rename_i p
    cases g
    have q := congrArg (leV ρ) (leEq_eq q)
    rw [leV_K, he.2, kcR M hN2 (leV_C ρ 2)] at q
    have p := en_sp M.1 p
    rw [leV_K, leV_sc, kcR M hu (x := 48 + 16 * leV ρ N2) (by rw [leV_K, leV_sc, Int.add_comm]), kcR M hN2 (leV_C ρ 2)] at p
    refine fin cy ky (fun t t0 t1 t2 t3 => ?_)
    rw [on 2 (by omega) (by omega) ej.symm] at t2
    rw [off _ (by omega) (by omega) (by omega)] at t3 ⊢
    rcases (show t < rlV h 0 (ubC co) 2 ∨ t = rlV h 0 (ubC co) 2 by omega) with r | r
    · exact K t t0 t1 r t3
    · left
      rw [r]
      omega
  split at g
  case isFalse => cases g
  rename_i hc2 g40
  rw [Bool.and_eq_true] at g40
  have g1 := en_sp M.1 g40.1
  have g2 := en_sp M.1 g40.2
  rw [leV_K, hi.2] at g1
  rw [leV_K, leV_sc, hi.2] at g2
  have e2 := off 2 (by omega) (by omega) (by omega)
  split at g
  · rename_i hr
    cases g
    rw [Bool.and_eq_true] at hr
    refine fin cy ky (fun t t0 t1 t2 t3 => ?_)
    rw [e2] at t2
    have n1 := rsd_sp (ρ := ρ) hr.1 t
    have n2 := rsd_sp (ρ := ρ) hr.2 t
    rw [hi.2] at n1 n2
    rw [off _ (by omega) (by omega) (by omega)] at t3 ⊢
    exact K t t0 t1 t2 t3
  have inj : ∀ (b : Int) {e0 : LE} {t : Int}, leV ρ i = b + 16 * leV ρ e0 → t ≠ leV ρ e0 → b + 16 * t ≠ j.toInt := fun b e0 t v0 hne q => by
    have := hi.2
    omega
  split at g
  · rename_i e0 he0
    obtain ⟨s0, v0⟩ := rlE_sp (ρ := ρ) he0 hi.1
    have ev := v0
    rw [hi.2] at ev
    have nf : ∀ t : Int, 0 ≤ t → t < 10 → rlV (hI h (ubC co) j v) 0 (ubC co) (51 + 16 * t) = rlV h 0 (ubC co) (51 + 16 * t) := fun t t0 t1 => off _ (by omega) (by omega) (by omega)
    have same : (∀ t : Int, t = leV ρ e0 → 0 ≤ t → t < 10 → t < rlV h 0 (ubC co) 2 → rlV h 0 (ubC co) (51 + 16 * t) = 1 → v.toInt < 0 ∨ t = leV ρ cy) → FRO (hI h (ubC co) j v) co (leV ρ cy) := fun H t t0 t1 t2 t3 => by
      rw [e2] at t2
      rw [nf t t0 t1] at t3
      by_cases ht : t = leV ρ e0
      · rw [on _ (by omega) (by omega) (by omega)]
        exact H t ht t0 t1 t2 t3
      · rw [off _ (by omega) (by omega) (by omega)]
        exact K t t0 t1 t2 t3
    split at g
    · rename_i p
      have p := en_sp M.1 p
      rw [leV_K, leV_sc, he.2] at p
      split at g
      · rename_i q
        cases g
        have q := congrArg (leV ρ) (leEq_eq q)
        rw [nrm_sp M.1] at q
        refine fin _ leS_C (fun t t0 t1 t2 t3 => ?_)
        rw [e2] at t2
        rw [nf t t0 t1] at t3
        left
        by_cases ht : t = leV ρ e0
        · rw [on _ (by omega) (by omega) (by omega)]
          omega
        · rw [off _ (by omega) (by omega) (by omega)]
          exact (K t t0 t1 t2 t3).resolve_right (by omega)
      · cases g
        exact fin cy ky (same (fun t _ _ _ _ _ => Or.inl (by omega)))
    · split at g
      case isFalse => cases g
      rename_i q
      cases g
      rw [Bool.or_eq_true] at q
      rcases q with q | q
      · have q := ubT_sp M.1 q (fun _ hq => kcR M hq (leV_C ρ 2))
        exact fin cy ky (same (fun t ht _ _ t2 _ => by omega))
      · have q := ubZ_sp M.1 q (fun _ hq => kcR M hq (x := 51 + 16 * leV ρ e0) (by rw [leV_K, leV_sc, Int.add_comm]))
        exact fin cy ky (same (fun t ht _ _ _ t3 => by rw [ht] at t3; omega))
  · split at g
    · rename_i e0 he0
      obtain ⟨s0, v0⟩ := rlE_sp (ρ := ρ) he0 hi.1
      have ev := v0
      rw [hi.2] at ev
      have na : ∀ t : Int, 0 ≤ t → t < 10 → rlV (hI h (ubC co) j v) 0 (ubC co) (48 + 16 * t) = rlV h 0 (ubC co) (48 + 16 * t) := fun t t0 t1 => off _ (by omega) (by omega) (by omega)
      split at g
      · rename_i p
        cases g
        have p := en_sp M.1 p
        rw [leV_sc, he.2] at p
        refine fin cy ky (fun t t0 t1 t2 t3 => ?_)
        rw [e2] at t2
        rw [na t t0 t1]
        by_cases ht : t = leV ρ e0
        · rw [on _ (by omega) (by omega) (by omega)] at t3
          omega
        · rw [off _ (by omega) (by omega) (by omega)] at t3
          exact K t t0 t1 t2 t3
      · split at g
        · rename_i q
          cases g
          have q := congrArg (leV ρ) (leEq_eq q)
          rw [nrm_sp M.1, leV_C] at q
          refine fin _ s0 (fun t t0 t1 t2 t3 => ?_)
          rw [e2] at t2
          rw [na t t0 t1]
          by_cases ht : t = leV ρ e0
          · exact Or.inr ht
          · rw [off _ (by omega) (by omega) (by omega)] at t3
            left
            exact (K t t0 t1 t2 t3).resolve_right (by omega)
        · cases g
    · cases g
noncomputable def pad (S : Sx) (o : Nat) (i e : LE) : List Kc := if Nat.beq o 66 = true then padA S i ++ padB S i ++ padC S i e ++ padD S i e else if Nat.beq o 75 = true then padE S i e else []
/-- the value of a known int -/
theorem kc0 (M : Mo rg ws h0 ρ S h) {o : Nat} {i e : LE} {j : Int32} (q : kcF S.2.2 0 o i = some e) (hi : leV ρ i = j.toInt) : leV ρ e = (h.1 o j).toInt := by
  obtain ⟨-, -, j', g2, g3⟩ := M.2.1 _ (kcF_sp q)
  have : j' = j := Int32.toInt_inj.mp (g2.symm.trans hi)
  subst this
  exact g3
theorem kcE (M : Mo rg ws h0 ρ S h) {k o : Nat} {i e : LE} (q : kcF S.2.2 k o i = some e) : leS S.1 e ∧ KC h k o (leV ρ i) (leV ρ e) := ⟨(M.2.1 _ (kcF_sp q)).2.1, (M.2.1 _ (kcF_sp q)).2.2⟩
theorem Fz_ne {o : Nat} {j v : Int32} {a : Nat} {i : Int} (hn : a = o → (Int32.ofInt i).toInt ≠ j.toInt) : Fz (hI h o j v) a i = Fz h a i := by
  unfold Fz
  show (if a = o ∧ Int32.ofInt i = j then v else h.1 a (Int32.ofInt i)).toInt = _
  rw [if_neg (fun z => hn z.1 (by rw [z.2]))]
theorem Fz_eq {o : Nat} {j v : Int32} {i : Int} (hj : j.toInt = i) : Fz (hI h o j v) o i = v.toInt := by
  unfold Fz
  show (if o = o ∧ Int32.ofInt i = j then v else h.1 o (Int32.ofInt i)).toInt = _
  rw [if_pos ⟨rfl, by rw [← hj]; exact Int32.ofInt_toInt j⟩]
theorem padA_sp (M : Mo rg ws h0 ρ S h) {i : LE} {j v : Int32} (hi : GG ρ S.1 i j.toInt) : ∀ c ∈ padA S i, kcO ρ S.1 (hI h 66 j v) c := by
  intro c hc
  unfold padA at hc
  split at hc
  · rename_i y N hy hN
    split at hc
    · rename_i g
      rcases List.mem_cons.mp hc with rfl | hc
      · rw [Bool.and_eq_true] at g
        have e0 := en_sp M.1 g.1
        have e1 := en_sp M.1 g.2
        rw [leV_K, leV_sub, leV_sc, hi.2] at e1
        have eN := kc0 M hN (j := 4) (leV_C ρ 4)
        obtain ⟨s1, w0, w⟩ := kcE M hy
        refine ⟨leS_C, s1, w0, fun t t0 t1 t2 => ?_⟩
        have hj4 : (hI h 66 j v).1 66 4 = h.1 66 4 := hI_jn (fun hz => by
          have hc4 : (4 : Int32).toInt = 4 := rfl
          rw [← hz] at e1
          omega)
        have t2 : t < ((hI h 66 j v).1 66 4).toInt := t2
        rw [hj4] at t2
        obtain ⟨w1, w2⟩ := w t t0 t1 t2
        have ex : ∀ q : Int, 603 + 200 * t ≤ q → q < 603 + 200 * t + 194 → Fz (hI h 66 j v) 66 q = Fz h 66 q := fun q q0 q1 => Fz_ne (fun _ => by rw [i32of (by omega) (by omega)]; omega)
        rw [ex _ (by omega) (by omega)]
        exact ⟨w1, WFP_cong (fun q q0 q1 => ex q (by omega) (by omega)) w2⟩
      · cases hc
    · cases hc
  · cases hc
theorem padB_sp (M : Mo rg ws h0 ρ S h) {i : LE} {j v : Int32} (hi : GG ρ S.1 i j.toInt) : ∀ c ∈ padB S i, kcO ρ S.1 (hI h 66 j v) c := by
  intro c hc
  unfold padB at hc
  split at hc
  · rename_i g a l hg ha hl
    split at hc
    · rename_i q
      rcases List.mem_cons.mp hc with rfl | hc
      · simp only [Bool.and_eq_true] at q
        have e1 := en_sp M.1 q.1.1
        have e2 := en2_sp M.1 q.1.2
        have e3 := en_sp M.1 q.2
        rw [leV_K, leV_sub, hi.2] at e1
        rw [leV_K, leV_sc] at e2 e3
        have ea := kc0 M ha (j := 25) (leV_C ρ 25)
        have el := kc0 M hl (j := 24) (leV_C ρ 24)
        obtain ⟨s1, w⟩ := kcE M hg
        have hb := i32b j
        simp only [I32lo, I32hi] at hb
        refine ⟨leS_C, s1, ?_⟩
        show WFP (Fz (hI h 66 j v) 66) (h.1 65 25).toInt (h.1 65 24).toInt _
        exact WFP_cong (fun q q0 q1 => Fz_ne (fun _ => by rw [i32of (by omega) (by omega)]; omega)) w
      · cases hc
    · cases hc
  · cases hc
theorem cnt_dec {o : Nat} {j v : Int32} {x : Int} (w : opn h x) (hb : opB (hI h o j v) x.toNat = false) (hr : ∀ k : Nat, k < 30 → (k : Int) ≠ x → opB (hI h o j v) k = opB h k) : (cntO h : Int) - 1 = (cntO (hI h o j v) : Int) := by
  obtain ⟨w0, w1, w2⟩ := w
  have := countP_flip (n := 30) (m := x.toNat) (by omega) w2 hb (fun k hk hne => hr k hk (by omega))
  unfold cntO
  omega
theorem padC_sp (M : Mo rg ws h0 ρ S h) {i e : LE} {j v : Int32} (hi : GG ρ S.1 i j.toInt) (he : GG ρ S.1 e v.toInt) : ∀ c ∈ padC S i e, kcO ρ S.1 (hI h 66 j v) c := by
  intro c hc
  unfold padC at hc
  split at hc
  · rename_i c7 h7
    split at hc
    · rename_i q
      rcases List.mem_cons.mp hc with rfl | hc
      · simp only [Bool.and_eq_true, List.any_eq_true] at q
        obtain ⟨q0, c8, m8, ⟨q1, q2⟩, q3⟩ := q
        have e0 := en_sp M.1 q0
        rw [he.2] at e0
        have e2 := congrArg (leV ρ) (leEq_eq q2)
        rw [leV_K, leV_sc, hi.2] at e2
        have e3 := en_sp M.1 q3
        obtain ⟨s1, w7⟩ := kcE M h7
        have w8 := (M.2.1 _ m8).2.2
        rw [Nat.eq_of_beq_eq_true q1] at w8
        obtain ⟨-, w8⟩ := w8
        have w8 : opn h (leV ρ c8.2.2.1) := w8.resolve_left (by omega)
        refine ⟨leS_C, s1, ?_⟩
        show leV ρ (leK c7 (-1)) = _
        rw [leV_K]
        have w7 : leV ρ c7 = (cntO h : Int) := w7
        rw [w7]
        refine cnt_dec w8 ?_ (fun k hk hne => ?_)
        · unfold opB
          rw [Fz_eq (by have := w8.1; omega)]
          simp only [Bool.and_eq_false_iff, decide_eq_false_iff_not]
          left; omega
        · unfold opB
          rw [Fz_ne (fun _ => by rw [i32of (by omega) (by omega)]; omega), Fz_ne (fun z => absurd z (by decide))]
      · cases hc
    · cases hc
  · cases hc
theorem padE_sp (M : Mo rg ws h0 ρ S h) {i e : LE} {j v : Int32} (hi : GG ρ S.1 i j.toInt) (he : GG ρ S.1 e v.toInt) : ∀ c ∈ padE S i e, kcO ρ S.1 (hI h 75 j v) c := by
  intro c hc
  unfold padE at hc
  split at hc
  · rename_i c7 c8 h7 h8
    split at hc
    · rename_i q
      rcases List.mem_cons.mp hc with rfl | hc
      · simp only [Bool.and_eq_true] at q
        have e0 := en_sp M.1 q.1
        rw [hi.2] at e0
        have e1 := en_sp M.1 q.2
        rw [leV_K, he.2] at e1
        obtain ⟨s1, w7⟩ := kcE M h7
        obtain ⟨-, -, w8⟩ := kcE M h8
        rw [hi.2] at w8
        have w8 : opn h j.toInt := w8.resolve_left (by omega)
        refine ⟨leS_C, s1, ?_⟩
        show leV ρ (leK c7 (-1)) = _
        rw [leV_K]
        have w7 : leV ρ c7 = (cntO h : Int) := w7
        rw [w7]
        refine cnt_dec w8 ?_ (fun k hk hne => ?_)
        · unfold opB
          rw [show ((j.toInt.toNat : Nat) : Int) = j.toInt by omega, Fz_eq (o := 75) rfl]
          simp only [Bool.and_eq_false_iff, decide_eq_false_iff_not]
          right; omega
        · unfold opB
          rw [Fz_ne (fun z => absurd z (by decide)), Fz_ne (fun _ => by rw [i32of (by omega) (by omega)]; omega)]
      · cases hc
    · cases hc
  · cases hc
theorem padD_sp (M : Mo rg ws h0 ρ S h) {i e : LE} {j v : Int32} (hi : GG ρ S.1 i j.toInt) (he : GG ρ S.1 e v.toInt) : ∀ c ∈ padD S i e, kcO ρ S.1 (hI h 66 j v) c := by
  intro c hc
  unfold padD at hc
  split at hc
  · rename_i hi4
    have ej : j = 4 := Int32.toInt_inj.mp (by rw [← hi.2, leEq_eq hi4, leV_C]; rfl)
    subst ej
    split at hc
    · rename_i y N g a l hy hN hg ha hl
      split at hc
      · rename_i m hm
        split at hc
        · rename_i q
          rcases List.mem_cons.mp hc with rfl | hc
          · simp only [Bool.and_eq_true] at q
            obtain ⟨⟨⟨⟨⟨⟨q1, q2⟩, q3⟩, q4⟩, q5⟩, q6⟩, q7⟩ := q
            have q1 := eqvD_sp M.1 q1
            have q2 := eqvD_sp M.1 q2
            have q3 := eqvD_sp M.1 q3
            have q4 := eqvD_sp M.1 q4
            have q5 := en2_sp M.1 q5
            have q6 := en2_sp M.1 q6
            have q7 := en2_sp M.1 q7
            rw [leV_C] at q1
            rw [leV_K, leV_sc] at q2 q5 q7
            rw [leV_K, he.2] at q4
            have eN := kc0 M hN (j := 4) (leV_C ρ 4)
            have ea := kc0 M ha (j := 25) (leV_C ρ 25)
            have el := kc0 M hl (j := 24) (leV_C ρ 24)
            have em := kc0 M hm (j := Int32.ofInt (603 + 200 * leV ρ N)) (by rw [leV_K, leV_sc, i32of (by omega) (by omega)]; omega)
            obtain ⟨s1, w0, w⟩ := kcE M hy
            obtain ⟨-, wg⟩ := kcE M hg
            rw [q1] at wg
            have wg : WFP (Fz h 66) (h.1 65 25).toInt (h.1 65 24).toInt 1 := wg
            rw [← ea, ← el, q2] at wg
            refine ⟨leS_C, s1, w0, fun t t0 t1 t2 => ?_⟩
            have t2 : t < ((hI h 66 4 v).1 66 4).toInt := t2
            rw [hI_at, q4] at t2
            have hc4 : (4 : Int32).toInt = 4 := rfl
            have ex : ∀ q : Int, 603 ≤ q → q < 4000 → Fz (hI h 66 4 v) 66 q = Fz h 66 q := fun q q0 q1 => Fz_ne (fun _ => by rw [i32of (by omega) (by omega), hc4]; omega)
            have hz : t < leV ρ N ∨ t = leV ρ N := by omega
            rw [ex _ (by omega) (by omega)]
            rcases hz with hz | rfl
            · obtain ⟨w1, w2⟩ := w t t0 t1 (by omega)
              exact ⟨w1, WFP_cong (fun q q0 q1 => ex q (by omega) (by omega)) w2⟩
            · have e5 : Fz h 66 (603 + 200 * leV ρ N) = leV ρ l := by rw [← q3, em]; rfl
              rw [e5]
              refine ⟨by omega, WFP_cong (fun q q0 q1 => ex q (by omega) (by omega)) ?_⟩
              rw [show (604 : Int) + 200 * leV ρ N = 200 * leV ρ N + 604 by omega]
              exact wg
          · cases hc
        · cases hc
      · cases hc
    · cases hc
  · cases hc
theorem pad_sp (M : Mo rg ws h0 ρ S h) {o : Nat} {i e : LE} {j v : Int32} (hi : GG ρ S.1 i j.toInt) (he : GG ρ S.1 e v.toInt) : ∀ c ∈ pad S o i e, kcO ρ S.1 (hI h o j v) c := by
  intro c hc
  unfold pad at hc
  split at hc
  · rename_i ho
    have := Nat.eq_of_beq_eq_true ho
    subst this
    rcases List.mem_append.mp hc with hc | hc
    · rcases List.mem_append.mp hc with hc | hc
      · rcases List.mem_append.mp hc with hc | hc
        · exact padA_sp M hi c hc
        · exact padB_sp M hi c hc
      · exact padC_sp M hi he c hc
    · exact padD_sp M hi he c hc
  · split at hc
    · rename_i ho
      have := Nat.eq_of_beq_eq_true ho
      subst this
      exact padE_sp M hi he c hc
    · cases hc
/-- rows that go along: what is written isn't theirs -/
noncomputable def gk9x (d : Rl) (o' : Nat) (l u : Int) : Bool := (!(Nat.beq o' d.2.1.1) || ile u (d.2.1.2.1 - 1) || ile (d.2.1.2.1 + d.2.1.2.2 * (d.2.2.2.1 - 1) + 1) l) && (!(Nat.beq o' d.2.2.1.1) || ile u (d.2.2.1.2.1 - 1) || ile (d.2.2.1.2.1 + d.2.2.1.2.2 * (d.2.2.2.1 - 1) + 1) l)
noncomputable def gk9 (o : Nat) (o' : Nat) (l u : Int) : Bool := Option.rec (motive := fun _ => Bool) false (fun d => Bool.rec (motive := fun _ => Bool) (Bool.rec (motive := fun _ => Bool) true (gk9x d o' l u) (Nat.beq o' d.2.2.1.1)) (gk9x d o' l u) (Nat.beq o' d.2.1.1)) (rlD o)
theorem gk9_eq {o o' : Nat} {l u : Int} : gk9 o o' l u = gkp 9 o o' l u := by
  have e : gkp 9 o o' l u = (match rlD o with
    | some d => gk9x d o' l u
    | none => false) := rfl
  rw [e]
  unfold gk9
  cases rlD o with
  | none => rfl
  | some d =>
    show Bool.rec (motive := fun _ => Bool) (Bool.rec (motive := fun _ => Bool) true (gk9x d o' l u) (Nat.beq o' d.2.2.1.1)) (gk9x d o' l u) (Nat.beq o' d.2.1.1) = gk9x d o' l u
    cases h1 : Nat.beq o' d.2.1.1 with
    | true => rfl
    | false =>
      cases h2 : Nat.beq o' d.2.2.1.1 with
      | true => rfl
      | false =>
        show true = gk9x d o' l u
        unfold gk9x
        rw [h1, h2]
        rfl
theorem kdF {c K : Nat} (hK : Nat.ble 10 K = true) (hc : Nat.ble 10 c = false) : Nat.beq c K = false := by
  cases h : Nat.beq c K with
  | false => rfl
  | true => rw [Nat.eq_of_beq_eq_true h, hK] at hc; cases hc
noncomputable def padRf (w : Nat) (S : Sx) (o : Nat) (i e : LE) : List Kc := fmR (fun c => Nat.beq c.1 9) (fun c => Bool.rec (motive := fun _ => Option Kc) (padR1 w S o i e c) none (gk9 c.2.1 o (loE' S.2.1.1 i) (hiE S.2.1.1 i))) S.2.2
theorem padRf_eq {w : Nat} {S : Sx} {o : Nat} {i e : LE} : padRf w S o i e = padR w S o i e := by
  have E : (fun c : Kc => Bool.rec (motive := fun _ => Option Kc) (padR1 w S o i e c) none (gk9 c.2.1 o (loE' S.2.1.1 i) (hiE S.2.1.1 i))) = (fun c => if gkp 9 c.2.1 o (loE' S.2.1.1 i) (hiE S.2.1.1 i) = true then none else padR1 w S o i e c) := by
    funext c
    rw [gk9_eq]
    cases gkp 9 c.2.1 o (loE' S.2.1.1 i) (hiE S.2.1.1 i) <;> rfl
  unfold padRf padR
  rw [E]
  refine fmR_eq (fun c hc => ?_)
  (try dsimp only at hc ⊢)
  split
  · rfl
  · unfold padR1
    rw [hc, if_neg (by decide)]
/-- a cell that stays -/
noncomputable def kptF (D : Db) (k o : Nat) (i : LE) (c : Kc) : Bool := Bool.rec (motive := fun _ => Bool) (Bool.rec (motive := fun _ => Bool) (kpt D k o i c) (Bool.rec (motive := fun _ => Bool) true (Bool.rec (motive := fun _ => Bool) true (dif D c.2.2.1 i) (Nat.beq c.2.1 o)) (Nat.beq 0 k)) (Nat.beq c.1 0)) (gk9 c.2.1 o (loE' D.1 i) (hiE D.1 i)) (Nat.beq c.1 9)
theorem kptF_fn : kptF = kpt := by
  funext D k o i c
  obtain ⟨c1, c2, c3, c4⟩ := c
  unfold kptF
  dsimp only
  cases h9 : Nat.beq c1 9 with
  | true =>
    have e := Nat.eq_of_beq_eq_true h9
    subst e
    show gk9 c2 o (loE' D.1 i) (hiE D.1 i) = _
    rw [gk9_eq]
    show _ = (false || (Nat.beq k 1 && false || gkp 9 c2 o (loE' D.1 i) (hiE D.1 i)) || false)
    cases Nat.beq k 1 <;> cases gkp 9 c2 o (loE' D.1 i) (hiE D.1 i) <;> rfl
  | false =>
    cases h0 : Nat.beq c1 0 with
    | false => rfl
    | true =>
      have e := Nat.eq_of_beq_eq_true h0
      subst e
      show Bool.rec (motive := fun _ => Bool) true (Bool.rec (motive := fun _ => Bool) true (dif D c3 i) (Nat.beq c2 o)) (Nat.beq 0 k) = (false || false || (!(Nat.beq 0 k) || !(Nat.beq c2 o) || dif D c3 i))
      cases Nat.beq 0 k <;> cases Nat.beq c2 o <;> cases dif D c3 i <;> rfl
noncomputable def okRf (D : Db) (o : Nat) (i e : LE) (q : Rg) : Bool := Bool.rec (motive := fun _ => Bool) (ile 0 q.2.2.1) (okR D o i e q && ile 0 q.2.2.1) (Nat.beq q.1 o)
theorem okRf_all {D : Db} {o : Nat} {i e : LE} {rg : List Rg} : alR (okRf D o i e) rg = rg.all (fun q => okR D o i e q && ile 0 q.2.2.1) := by
  have E : okRf D o i e = (fun q => okR D o i e q && ile 0 q.2.2.1) := by
    funext q
    unfold okRf
    cases h : Nat.beq q.1 o with
    | true => rfl
    | false =>
      have k : okR D o i e q = true := by
        unfold okR
        rw [h]
        rfl
      rw [k]
      rfl
  rw [alR_eq, E]
noncomputable def wrC1 (l : List Kc) (S : Sx) (o : Nat) (i e : LE) : List Kc := pad S o i e ++ (padRf 0 S o i e ++ (l.filterMap (padZ1 S o i e) ++ (l.filterMap (padB1 S o i e) ++ (l.filterMap (fun c => if gkp 14 c.2.1 o (loE' S.2.1.1 i) (hiE S.2.1.1 i) = true then none else padU1 S o i e c) ++ (l.filterMap (fun c => if gkp 16 c.2.1 o (loE' S.2.1.1 i) (hiE S.2.1.1 i) = true then none else padP1 S o i e c) ++ (l.filterMap (fun c => if gkp 17 c.2.1 o (loE' S.2.1.1 i) (hiE S.2.1.1 i) = true then none else padF1 S o i e c) ++ flR (kptF S.2.1 0 o i) S.2.2))))))
noncomputable def wrC (S : Sx) (o : Nat) (i e : LE) : List Kc := wrC1 (flR (fun c => Nat.ble 10 c.1) S.2.2) S o i e
theorem wrC_O {S : Sx} {o : Nat} {i e : LE} : wrC S o i e = (pad S o i e ++ (padR 0 S o i e ++ (padZ S o i e ++ (padBg S o i e ++ (padU S o i e ++ (padP S o i e ++ (padF S o i e ++ S.2.2.filter (kpt S.2.1 0 o i)))))))) := by
  unfold wrC wrC1 padZ padBg padU padP padF
  rw [fl_fm (f := padZ1 S o i e) (fun c hc => by unfold padZ1; rw [kdF (by decide) hc, if_neg (by decide)]), fl_fm (f := padB1 S o i e) (fun c hc => by unfold padB1; rw [kdF (by decide) hc, if_neg (by decide)]), fl_fm (f := fun c => if gkp 14 c.2.1 o (loE' S.2.1.1 i) (hiE S.2.1.1 i) = true then none else padU1 S o i e c) (fun c hc => by (try dsimp only); split <;> first | rfl | (unfold padU1; rw [kdF (by decide) hc, Bool.false_and, if_neg (by decide)])), fl_fm (f := fun c => if gkp 16 c.2.1 o (loE' S.2.1.1 i) (hiE S.2.1.1 i) = true then none else padP1 S o i e c) (fun c hc => by (try dsimp only); split <;> first | rfl | (unfold padP1; rw [kdF (by decide) hc, Bool.false_and, if_neg (by decide)])), fl_fm (f := fun c => if gkp 17 c.2.1 o (loE' S.2.1.1 i) (hiE S.2.1.1 i) = true then none else padF1 S o i e c) (fun c hc => by (try dsimp only); split <;> first | rfl | (unfold padF1; rw [kdF (by decide) hc, Bool.false_and, if_neg (by decide)])), padRf_eq, flR_eq, kptF_fn]
noncomputable def wrI (rg : List Rg) (ws : List Wr) (S : Sx) (o : Nat) (i e : LE) : Option Sx := if (okW ws S.2.1 0 o i && alR (okRf S.2.1 o i e) rg) = true then some (S.1, S.2.1, (0, o, i, e) :: wrC S o i e) else none
theorem i32w (j : Int32) : I64lo ≤ j.toInt ∧ j.toInt ≤ I64hi := by
  have := i32b j
  simp only [I32lo, I32hi] at this
  show -9223372036854775808 ≤ j.toInt ∧ j.toInt ≤ 9223372036854775807
  omega
theorem wrI_sp (M : Mo rg ws h0 ρ S h) {o : Nat} {i e : LE} {j v : Int32} {S' : Sx} (hi : GG ρ S.1 i j.toInt) (he : GG ρ S.1 e v.toInt) (g : wrI rg ws S o i e = some S') : S'.1 = S.1 ∧ Mo rg ws h0 ρ S' (hI h o j v) := by
  unfold wrI at g
  rw [okRf_all, wrC_O] at g
  split at g
  · rename_i g0
    cases g
    simp only [Bool.and_eq_true, List.all_eq_true] at g0
    obtain ⟨g1, g2⟩ := g0
    have P := pad_sp M (o := o) hi he
    have P9 := padR_sp M hi he (WE_I (o := o))
    have P11 := padZ_sp M (o := o) hi he
    have P12 := padBg_sp M (o := o) hi he
    have P14 := padU_sp M (o := o) hi he
    have P16 := padP_sp M (o := o) hi he
    have P17 := padF_sp M (o := o) hi he
    obtain ⟨F, K, R, W⟩ := M
    refine ⟨rfl, F, fun c hc => ?_, fun q hq => okR_sp F hi he (g2 q hq).1 (ile_le (g2 q hq).2) (R q hq), ?_⟩
    · rcases List.mem_cons.mp hc with rfl | hc
      · exact kcO.i hi (by show GG ρ S.1 e (if o = o ∧ j = j then v else h.1 o j).toInt; rw [if_pos ⟨rfl, rfl⟩]; exact he)
      rcases List.mem_append.mp hc with hc | hc
      · exact P c hc
      rcases List.mem_append.mp hc with hc | hc
      · exact P9 c hc
      rcases List.mem_append.mp hc with hc | hc
      · exact P11 c hc
      rcases List.mem_append.mp hc with hc | hc
      · exact P12 c hc
      rcases List.mem_append.mp hc with hc | hc
      · exact P14 c hc
      rcases List.mem_append.mp hc with hc | hc
      · exact P16 c hc
      rcases List.mem_append.mp hc with hc | hc
      · exact P17 c hc
      · obtain ⟨hc, hk⟩ := List.mem_filter.mp hc
        obtain ⟨k1, k2, k3⟩ := K c hc
        obtain ⟨p1, p2⟩ := kpt_sp F hi (i32w j).1 (i32w j).2 hk k1
        exact ⟨k1, k2, k3.wI (fun e => p1 e (by decide)) (fun e => p2 e (Or.inl (by decide)))⟩
    · refine ⟨fun o' j' hn => ?_, W.2.1, W.2.2⟩
      show (if o' = o ∧ j' = j then v else h.1 o' j') = _
      rw [if_neg]
      · exact W.1 o' j' hn
      · rintro ⟨rfl, rfl⟩
        exact hn (okW_sp F hi g1)
  · cases g
noncomputable def wrL (ws : List Wr) (S : Sx) (o : Nat) (i e : LE) : Option Sx := if okW ws S.2.1 1 o i = true then some (S.1, S.2.1, (1, o, i, e) :: (padRf 1 S o i e ++ flR (kptF S.2.1 1 o i) S.2.2)) else none
theorem wrL_sp (M : Mo rg ws h0 ρ S h) {o : Nat} {i e : LE} {j : Int32} {v : Int64} {S' : Sx} (hi : GG ρ S.1 i j.toInt) (he : GG ρ S.1 e v.toInt) (g : wrL ws S o i e = some S') : S'.1 = S.1 ∧ Mo rg ws h0 ρ S' (hL h o j v) := by
  unfold wrL at g
  rw [padRf_eq, flR_eq, kptF_fn] at g
  split at g
  · rename_i g1
    cases g
    have P9 := padR_sp M hi he (WE_L (o := o))
    obtain ⟨F, K, R, W⟩ := M
    refine ⟨rfl, F, fun c hc => ?_, R, ?_⟩
    · rcases List.mem_cons.mp hc with rfl | hc
      · exact kcO.l hi (by show GG ρ S.1 e (if o = o ∧ j = j then v else h.2.1 o j).toInt; rw [if_pos ⟨rfl, rfl⟩]; exact he)
      rcases List.mem_append.mp hc with hc | hc
      · exact P9 c hc
      · obtain ⟨hc, hk⟩ := List.mem_filter.mp hc
        obtain ⟨k1, k2, k3⟩ := K c hc
        obtain ⟨p1, p2⟩ := kpt_sp F hi (i32w j).1 (i32w j).2 hk k1
        exact ⟨k1, k2, k3.wL (fun e => p1 e (by decide)) (fun e => p2 (by omega) (Or.inr e))⟩
    · refine ⟨W.1, fun o' j' hn => ?_, W.2.2⟩
      show (if o' = o ∧ j' = j then v else h.2.1 o' j') = _
      rw [if_neg]
      · exact W.2.1 o' j' hn
      · rintro ⟨rfl, rfl⟩
        exact hn (okW_sp F hi g1)
  · cases g
/-- what is left of the known cells where so much may have been written -/
noncomputable def kpW (D : Db) (w : Wr) (c : Kc) : Bool := Nat.ble 2 c.1 && Nat.ble c.1 3 || Nat.ble 4 c.1 && (Nat.beq w.1 1 && !(Nat.beq c.1 9) || gkp c.1 c.2.1 w.2.1 w.2.2.1 w.2.2.2) || Nat.ble c.1 1 && (!(Nat.beq c.1 w.1) || !(Nat.beq c.2.1 w.2.1) || en D (leK (leSc (-1) c.2.2.1) (w.2.2.1 - 1)) || en D (leK c.2.2.1 (-w.2.2.2 - 1)))
noncomputable def kpWF (D : Db) (c : Kc) (w : Wr) : Bool := Bool.rec (motive := fun _ => Bool) (Bool.rec (motive := fun _ => Bool) (kpW D w c) (Bool.rec (motive := fun _ => Bool) true (Bool.rec (motive := fun _ => Bool) true (en D (leK (leSc (-1) c.2.2.1) (w.2.2.1 - 1)) || en D (leK c.2.2.1 (-w.2.2.2 - 1))) (Nat.beq c.2.1 w.2.1)) (Nat.beq 0 w.1)) (Nat.beq c.1 0)) (gk9 c.2.1 w.2.1 w.2.2.1 w.2.2.2) (Nat.beq c.1 9)
theorem kpWF_eq {D : Db} {c : Kc} {w : Wr} : kpWF D c w = kpW D w c := by
  obtain ⟨c1, c2, c3, c4⟩ := c
  unfold kpWF
  dsimp only
  cases h9 : Nat.beq c1 9 with
  | true =>
    have e := Nat.eq_of_beq_eq_true h9
    subst e
    show gk9 c2 w.2.1 w.2.2.1 w.2.2.2 = _
    rw [gk9_eq]
    show _ = (false || (Nat.beq w.1 1 && false || gkp 9 c2 w.2.1 w.2.2.1 w.2.2.2) || false)
    cases Nat.beq w.1 1 <;> cases gkp 9 c2 w.2.1 w.2.2.1 w.2.2.2 <;> rfl
  | false =>
    cases h0 : Nat.beq c1 0 with
    | false => rfl
    | true =>
      have e := Nat.eq_of_beq_eq_true h0
      subst e
      show Bool.rec (motive := fun _ => Bool) true (Bool.rec (motive := fun _ => Bool) true (en D (leK (leSc (-1) c3) (w.2.2.1 - 1)) || en D (leK c3 (-w.2.2.2 - 1))) (Nat.beq c2 w.2.1)) (Nat.beq 0 w.1) = (false || false || (!(Nat.beq 0 w.1) || !(Nat.beq c2 w.2.1) || en D (leK (leSc (-1) c3) (w.2.2.1 - 1)) || en D (leK c3 (-w.2.2.2 - 1))))
      cases Nat.beq 0 w.1 <;> cases Nat.beq c2 w.2.1 <;> cases en D (leK (leSc (-1) c3) (w.2.2.1 - 1)) <;> cases en D (leK c3 (-w.2.2.2 - 1)) <;> rfl
noncomputable def kpL (D : Db) (vs : List Wr) (kc : List Kc) : List Kc := flR (fun c => alR (kpWF D c) vs) kc
theorem kpL_O {D : Db} {vs : List Wr} {kc : List Kc} : kpL D vs kc = kc.filter fun c => vs.all fun w => kpW D w c := by
  have E : (fun c => alR (kpWF D c) vs) = (fun c => vs.all fun w => kpW D w c) := by
    funext c
    rw [alR_eq, show kpWF D c = (fun w => kpW D w c) from funext fun w => kpWF_eq]
  unfold kpL
  rw [flR_eq, E]
theorem kpL_sp {D : Db} {n : Nat} {vs : List Wr} {kc : List Kc} {h' : Hp} (F : Fa ρ n D) (K : ∀ c ∈ kc, kcO ρ n h c) (W : Frm vs h h') : ∀ c ∈ kpL D vs kc, kcO ρ n h' c := by
  intro c hc
  rw [kpL_O] at hc
  obtain ⟨hc, hk⟩ := List.mem_filter.mp hc
  rw [List.all_eq_true] at hk
  obtain ⟨s1, s2, hK⟩ := K c hc
  refine ⟨s1, s2, ?_⟩
  obtain ⟨ck, co, ci, ce⟩ := c
  dsimp only at s1 hK ⊢
  have nin : ∀ k (j : Int32), ck = k → k < 2 → leV ρ ci = j.toInt → ¬ inW vs k co j := by
    rintro k j e1 e2 gi ⟨w, hw, w1, w2, w3, w4⟩
    have hk := hk w hw
    simp only [kpW, Bool.or_eq_true, Bool.and_eq_true, Bool.not_eq_true'] at hk
    rcases hk with (hk | hk) | hk
    · have : 2 ≤ ck := Nat.le_of_ble_eq_true hk.1
      omega
    · have : 4 ≤ ck := Nat.le_of_ble_eq_true hk.1
      omega
    · rcases hk.2 with ((q | q) | q) | q
      · exact nbeq q (e1.trans w1.symm)
      · exact nbeq q w2.symm
      · have := en_sp F q
        rw [leV_K, leV_sc, gi] at this
        omega
      · have := en_sp F q
        rw [leV_K, gi] at this
        omega
  match ck, hK with
  | 0, ⟨j, k1, k2⟩ => exact ⟨j, k1, by rw [W.1 _ _ (nin 0 j rfl (by decide) k1)]; exact k2⟩
  | 1, ⟨j, k1, k2⟩ => exact ⟨j, k1, by rw [W.2.1 _ _ (nin 1 j rfl (by decide) k1)]; exact k2⟩
  | 2, w => exact w.trans (by rw [W.2.2])
  | 3, ⟨j, k1, k2⟩ => exact ⟨j, k1, by rw [W.2.2]; exact k2⟩
  | k + 4, w =>
    have key : ∀ kk (o' : Nat) (j : Int32), dep (k + 4) co o' j.toInt → (kk ≠ 1 ∨ k + 4 = 9) → ¬ inW vs kk o' j := by
      rintro kk o' j d hne ⟨v, hv, w1, w2, w3, w4⟩
      have hk := hk v hv
      simp only [kpW, Bool.or_eq_true, Bool.and_eq_true, Bool.not_eq_true'] at hk
      rcases hk with (hk | hk) | hk
      · have := Nat.le_of_ble_eq_true hk.2
        omega
      · rcases hk.2 with q | q
        · have := Nat.eq_of_beq_eq_true q.1
          rcases hne with hne | hne
          · omega
          · exact absurd hne (nbeq q.2)
        · rw [← w2] at d
          exact gkp_sp q w3 w4 d
      · have := Nat.le_of_ble_eq_true hk.1
        omega
    exact dep_cong (by omega) (fun o' j d => W.1 o' j (key 0 o' j d (Or.inl (by decide)))) (fun e o' j d => W.2.1 o' j (key 1 o' j d (Or.inr e))) w
/-- reading the script -/
noncomputable def rdT (S : Sx) (i : LE) : Sx × LE := match kcF S.2.2 3 1300 i with
  | some e => (S, e)
  | none => let T := nwS S I32lo I32hi; ((T.1, T.2.1, (3, 1300, i, leX S.1) :: T.2.2), leX S.1)
theorem rdT_sp (M : Mo rg ws h0 ρ S h) {i : LE} {j : Int32} (hi : GG ρ S.1 i j.toInt) : ∃ ρ', Ag ρ ρ' S.1 ∧ S.1 ≤ (rdT S i).1.1 ∧ Mo rg ws h0 ρ' (rdT S i).1 h ∧ GG ρ' (rdT S i).1.1 (rdT S i).2 (h.2.2.2 j.toNatClampNeg).toInt := by
  unfold rdT
  split
  · rename_i e he
    obtain ⟨g0, g1, j', g2, g3⟩ := M.2.1 _ (kcF_sp he)
    have : j' = j := Int32.toInt_inj.mp (g2.symm.trans hi.2)
    subst this
    exact ⟨ρ, Ag.rf, Nat.le_refl _, M, g1, g3⟩
  · refine ⟨_, upd_ag, Nat.le_succ _, (M.nw (i32b _).1 (i32b _).2).kc (kcO.t (hi.ext upd_ag (Nat.le_succ _)) upd_at), upd_at⟩
end MO
