/-! THE RULES: the reference works the same steps out. -/
noncomputable def jnB (c x y : Int32) : Int32 := if c = 43 then x + y else if c = 45 then x - y else if c = 42 then x * y else if c = 47 then (if y = 0 then 0 else if y = -1 then -x else x / y) else if c = 60 then (if x < y then 1 else 0) else if c = 62 then (if y < x then 1 else 0) else if c = 61 then (if x = y then 1 else 0) else if c = 38 then (if ¬ x = 0 ∧ ¬ y = 0 then 1 else 0) else (if ¬ x = 0 ∨ ¬ y = 0 then 1 else 0)
theorem div_m1 {x y : Int32} (h : y = -1) : x / y = -x := by
  apply Int32.toInt_inj.mp
  have c : y.toInt = -1 := by rw [h]; rfl
  rw [Int32.toInt_div, Int32.toInt_neg, c]
  congr 1
  rw [Int.tdiv_neg, Int.tdiv_one]
theorem jnB_eq {s : Int} {v x y : Int32} (h : isSg s) (e : v.toInt = s) : jnB v x y = jn s x y := by
  have ev : v = Int32.ofInt s := by rw [← e]; exact (Int32.ofInt_toInt v).symm
  have d : (if y = 0 then (0 : Int32) else if y = -1 then -x else x / y) = if y = 0 then 0 else x / y := by
    by_cases q : y = -1
    · rw [if_pos q, div_m1 q]
    · rw [if_neg q]
  rw [ev]
  rcases h with rfl | rfl | rfl | rfl | rfl | rfl | rfl | rfl | rfl
  · rfl
  · rfl
  · rfl
  · exact d
  · rfl
  · rfl
  · rfl
  · rfl
  · rfl
noncomputable abbrev Pw (h : Hp) (S : List Int32) : Prop := (PLi (h.1 80) S) ∧ (S.length ≤ 96)
theorem Pw.cs {h : Hp} {S : List Int32} (self_ : Pw h S) : PLi (h.1 80) S := self_.1
theorem Pw.ln {h : Hp} {S : List Int32} (self_ : Pw h S) : S.length ≤ 96 := self_.2
theorem Pw.up {h : Hp} {S : List Int32} {v : Int32} (P : Pw h S) (l : S.length < 96) : Pw (hI h 80 (nI S.length) v) (v :: S) := by
  have e : (hI h 80 (nI S.length) v).1 80 = fun j => if j = nI S.length then v else h.1 80 j := funext fun j => by
    by_cases q : j = nI S.length
    · rw [q, hI_eq, if_pos rfl]
    · rw [hI_j q, if_neg q]
  exact ⟨by rw [e]; exact P.cs.up (by omega), l⟩
theorem Pw.top {h : Hp} {S : List Int32} {v w : Int32} (P : Pw h (v :: S)) : h.1 80 (nI S.length) = v ∧ Pw (hI h 80 (nI S.length) w) (w :: S) := by
  refine ⟨P.cs.1, ?_, P.ln⟩
  have e : (hI h 80 (nI S.length) w).1 80 = fun j => if j = nI S.length then w else h.1 80 j := funext fun j => by
    by_cases q : j = nI S.length
    · rw [q, hI_eq, if_pos rfl]
    · rw [hI_j q, if_neg q]
  have := P.ln
  rw [e]
  exact PLi.up P.cs.2 (by simp only [List.length_cons] at this; omega)
theorem Pw.two {h : Hp} {S : List Int32} {x y w : Int32} (P : Pw h (y :: x :: S)) : h.1 80 (nI (S.length + 1)) = y ∧ h.1 80 (nI S.length) = x ∧ Pw (hI h 80 (nI S.length) w) (w :: S) := ⟨P.cs.1, P.cs.2.1, Pw.top (v := x) ⟨P.cs.2, by have := P.ln; simp only [List.length_cons] at this ⊢; omega⟩ |>.2⟩
/-- a step, as the class and as the reference keep it, with what is sure of it -/
noncomputable def stV (key : Nat) (s : Int) (x v : Int32) : Prop := (x = 0 ∧ v.toInt = s ∧ 0 ≤ s ∧ s < 10000) ∨ (x = 1 ∧ ∃ k, k < (nmT key).length ∧ s = 10000 + (k : Int) ∧ v = nI ((nmT key).getD k 0)) ∨ (x = 2 ∧ s = 20000 + v.toInt ∧ (v = 33 ∨ isSg v.toInt))
/-- the letters of a KEY hold what is told -/
noncomputable def NmV (key : Nat) (h : Hp) (a b c : Int32) : Prop := ∀ k, k < (nmT key).length → h.1 79 (nI ((nmT key).getD k 0)) = if k = 0 then a else if k = 1 then b else c
noncomputable def fr80' (h h' : Hp) : Prop := (∀ o (j : Int32), o ≠ 80 → h'.1 o j = h.1 o j) ∧ h'.2 = h.2
theorem fr80'_rf {h : Hp} : fr80' h h := ⟨fun _ _ _ => rfl, rfl⟩
theorem fr80'.st {h h1 : Hp} (f : fr80' h h1) {j v : Int32} : fr80' h (hI h1 80 j v) := ⟨fun a k q => (hI_ne q).trans (f.1 a k q), f.2⟩
theorem nmT_b : ∀ key, key ≤ 5 → ∀ k, k < (nmT key).length → k ≤ 2 ∧ (nmT key).getD k 0 < 128 := by decide
theorem ib1 {m : Nat} {S : List Int32} (hm : m = S.length) (l : S.length ≤ 96) (h : 1 ≤ S.length) : ibd (nI m - 1) 100 := by
  rw [show nI m - 1 = nI (m - 1) from nI_sb (b := 1) (by omega) (by omega)]
  exact ibd_of (B := 100) rfl (tx_0 _ (by omega)) ((tx_lt (b := 100) (by omega) (by decide)).mpr (by omega))
theorem im1 {m : Nat} (h : 1 ≤ m) (l : m ≤ 96) : nI m + (-1) = nI (m - 1) := by
  rw [← show nI m - 1 = nI (m - 1) from nI_sb (b := 1) (by omega) (by omega)]
  exact (Int32.sub_eq_add_neg _ _).symm
theorem ib2 {m : Nat} {S : List Int32} (hm : m = S.length) (l : S.length ≤ 96) (h : 2 ≤ S.length) : ibd (nI m + (-1)) 100 ∧ ibd ((nI m + (-1)) - 1) 100 := by
  rw [im1 (by omega) (by omega), show nI (m - 1) - 1 = nI (m - 1 - 1) from nI_sb (b := 1) (by omega) (by omega)]
  exact ⟨ibd_of (B := 100) rfl (tx_0 _ (by omega)) ((tx_lt (b := 100) (by omega) (by decide)).mpr (by omega)), ibd_of (B := 100) rfl (tx_0 _ (by omega)) ((tx_lt (b := 100) (by omega) (by decide)).mpr (by omega))⟩
theorem stV_0 {key : Nat} {s : Int} {x v : Int32} (h : stV key s x v) (e : x = 0) : Int32.ofInt s = v ∧ s < 10000 := by
  rcases h with h | h | h
  · exact ⟨by rw [← h.2.1]; exact Int32.ofInt_toInt v, h.2.2.2⟩
  · rw [h.1] at e; exact absurd e (by decide)
  · rw [h.1] at e; exact absurd e (by decide)
theorem stV_1 {key : Nat} {s : Int} {x v : Int32} {h0 : Hp} {a b c : Int32} (hkey : key ≤ 5) (nm : NmV key h0 a b c) (h : stV key s x v) (e0 : ¬ x = 0) (e2 : ¬ x = 2) : h0.1 79 v = (if s = 10000 then a else if s = 10001 then b else c) ∧ ¬ s < 10000 ∧ s < 20000 ∧ 0 ≤ v ∧ v < 128 := by
  rcases h with h | ⟨-, k, hk, h1, h2⟩ | h
  · exact absurd h.1 e0
  · obtain ⟨k2, kb⟩ := nmT_b key hkey k hk
    refine ⟨?_, by omega, by omega, ?_, ?_⟩
    · rw [h2, nm k hk]
      have : k = 0 ∨ k = 1 ∨ k = 2 := by omega
      rcases this with rfl | rfl | rfl
      · rw [h1]; rfl
      · rw [h1]; rfl
      · rw [h1]; rfl
    · rw [h2]; exact tx_0 _ (by omega)
    · rw [h2]; exact (tx_lt (b := 128) (by omega) (by decide)).mpr kb
  · exact absurd h.1 e2
theorem stV_2 {key : Nat} {s : Int} {x v : Int32} (h : stV key s x v) (e : x = 2) : (v = 33 → s = 20033) ∧ (¬ v = 33 → isSg (s - 20000) ∧ v.toInt = s - 20000) := by
  rcases h with h | h | ⟨-, h1, h2⟩
  · rw [h.1] at e; exact absurd e (by decide)
  · rw [h.1] at e; exact absurd e (by decide)
  · refine ⟨fun q => by rw [h1, q]; rfl, fun q => ?_⟩
    have e : v.toInt = s - 20000 := by omega
    rw [← e]
    exact ⟨h2.resolve_left q, rfl⟩
theorem c_joinV {d : Nat} {Q : Option Value → Hp → Prop} {h : Hp} {c x y : Int32} (k : Q (some (.int (jnB c x y))) h) : Call (d + 1) 229 [.int c, .int x, .int y] h Q := by
  refine call_of (rfl : psM[229]? = some _) rfl rfl (rcvS rfl) (fun X hX => ?_)
  show X (0, [some (.int c), some (.int x), some (.int y)], [], h)
  refine go hX 2 (gs := [True, True]) (z' := (if c = 38 then 183 else if c = 39 then 197 else if c = 40 then 197 else if c = 41 then 197 else if c = 42 then 124 else if c = 43 then 116 else if c = 44 then 197 else if c = 45 then 120 else if c = 46 then 197 else if c = 47 then 128 else if c = 48 then 197 else if c = 49 then 197 else if c = 50 then 197 else if c = 51 then 197 else if c = 52 then 197 else if c = 53 then 197 else if c = 54 then 197 else if c = 55 then 197 else if c = 56 then 197 else if c = 57 then 197 else if c = 58 then 197 else if c = 59 then 197 else if c = 60 then 150 else if c = 61 then 172 else if c = 62 then 161 else 197, [some (.int c), some (.int x), some (.int y)], [], h)) rfl ⟨trivial, trivial, trivial⟩ ?_
  refine br (fun b1 => ?_) (fun b1 => ?_)
  ·
    refine go hX 2 (gs := [True, True]) (z' := (if x = 0 then 195 else 187, [some (.int c), some (.int x), some (.int y)], [], h)) rfl ⟨trivial, trivial, trivial⟩ ?_
    refine br (fun b2 => ?_) (fun b2 => ?_)
    ·
      refine go hX 1 (gs := [True]) (z' := (196, [some (.int c), some (.int x), some (.int y)], [.int 0], h)) rfl ⟨trivial, trivial⟩ ?_
      refine rt_ hX (G := True) (r := some (.int 0)) rfl trivial ?_
      have e : jnB c x y = 0 := by
        unfold jnB
        simp [*]
      rw [e] at k
      exact k
    ·
      refine go hX 2 (gs := [True, True]) (z' := (if y = 0 then 195 else 191, [some (.int c), some (.int x), some (.int y)], [], h)) rfl ⟨trivial, trivial, trivial⟩ ?_
      refine br (fun b3 => ?_) (fun b3 => ?_)
      ·
        refine go hX 1 (gs := [True]) (z' := (196, [some (.int c), some (.int x), some (.int y)], [.int 0], h)) rfl ⟨trivial, trivial⟩ ?_
        refine rt_ hX (G := True) (r := some (.int 0)) rfl trivial ?_
        have e : jnB c x y = 0 := by
          unfold jnB
          simp [*]
        rw [e] at k
        exact k
      ·
        refine go hX 2 (gs := [True, True]) (z' := (196, [some (.int c), some (.int x), some (.int y)], [.int 1], h)) rfl ⟨trivial, trivial, trivial⟩ ?_
        refine rt_ hX (G := True) (r := some (.int 1)) rfl trivial ?_
        have e : jnB c x y = 1 := by
          unfold jnB
          simp [*]
        rw [e] at k
        exact k
  ·
    refine br (fun b4 => ?_) (fun b4 => ?_)
    ·
      refine go hX 2 (gs := [True, True]) (z' := (if x = 0 then 201 else 205, [some (.int c), some (.int x), some (.int y)], [], h)) rfl ⟨trivial, trivial, trivial⟩ ?_
      refine br (fun b5 => ?_) (fun b5 => ?_)
      ·
        refine go hX 2 (gs := [True, True]) (z' := (if y = 0 then 209 else 205, [some (.int c), some (.int x), some (.int y)], [], h)) rfl ⟨trivial, trivial, trivial⟩ ?_
        refine br (fun b6 => ?_) (fun b6 => ?_)
        ·
          refine go hX 1 (gs := [True]) (z' := (210, [some (.int c), some (.int x), some (.int y)], [.int 0], h)) rfl ⟨trivial, trivial⟩ ?_
          refine rt_ hX (G := True) (r := some (.int 0)) rfl trivial ?_
          have e : jnB c x y = 0 := by
            unfold jnB
            simp [*]
          rw [e] at k
          exact k
        ·
          refine go hX 2 (gs := [True, True]) (z' := (210, [some (.int c), some (.int x), some (.int y)], [.int 1], h)) rfl ⟨trivial, trivial, trivial⟩ ?_
          refine rt_ hX (G := True) (r := some (.int 1)) rfl trivial ?_
          have e : jnB c x y = 1 := by
            unfold jnB
            simp [*]
          rw [e] at k
          exact k
      ·
        refine go hX 2 (gs := [True, True]) (z' := (210, [some (.int c), some (.int x), some (.int y)], [.int 1], h)) rfl ⟨trivial, trivial, trivial⟩ ?_
        refine rt_ hX (G := True) (r := some (.int 1)) rfl trivial ?_
        have e : jnB c x y = 1 := by
          unfold jnB
          simp [*]
        rw [e] at k
        exact k
    ·
      refine br (fun b7 => ?_) (fun b7 => ?_)
      ·
        refine go hX 2 (gs := [True, True]) (z' := (if x = 0 then 201 else 205, [some (.int c), some (.int x), some (.int y)], [], h)) rfl ⟨trivial, trivial, trivial⟩ ?_
        refine br (fun b8 => ?_) (fun b8 => ?_)
        ·
          refine go hX 2 (gs := [True, True]) (z' := (if y = 0 then 209 else 205, [some (.int c), some (.int x), some (.int y)], [], h)) rfl ⟨trivial, trivial, trivial⟩ ?_
          refine br (fun b9 => ?_) (fun b9 => ?_)
          ·
            refine go hX 1 (gs := [True]) (z' := (210, [some (.int c), some (.int x), some (.int y)], [.int 0], h)) rfl ⟨trivial, trivial⟩ ?_
            refine rt_ hX (G := True) (r := some (.int 0)) rfl trivial ?_
            have e : jnB c x y = 0 := by
              unfold jnB
              simp [*]
            rw [e] at k
            exact k
          ·
            refine go hX 2 (gs := [True, True]) (z' := (210, [some (.int c), some (.int x), some (.int y)], [.int 1], h)) rfl ⟨trivial, trivial, trivial⟩ ?_
            refine rt_ hX (G := True) (r := some (.int 1)) rfl trivial ?_
            have e : jnB c x y = 1 := by
              unfold jnB
              simp [*]
            rw [e] at k
            exact k
        ·
          refine go hX 2 (gs := [True, True]) (z' := (210, [some (.int c), some (.int x), some (.int y)], [.int 1], h)) rfl ⟨trivial, trivial, trivial⟩ ?_
          refine rt_ hX (G := True) (r := some (.int 1)) rfl trivial ?_
          have e : jnB c x y = 1 := by
            unfold jnB
            simp [*]
          rw [e] at k
          exact k
      ·
        refine br (fun b10 => ?_) (fun b10 => ?_)
        ·
          refine go hX 2 (gs := [True, True]) (z' := (if x = 0 then 201 else 205, [some (.int c), some (.int x), some (.int y)], [], h)) rfl ⟨trivial, trivial, trivial⟩ ?_
          refine br (fun b11 => ?_) (fun b11 => ?_)
          ·
            refine go hX 2 (gs := [True, True]) (z' := (if y = 0 then 209 else 205, [some (.int c), some (.int x), some (.int y)], [], h)) rfl ⟨trivial, trivial, trivial⟩ ?_
            refine br (fun b12 => ?_) (fun b12 => ?_)
            ·
              refine go hX 1 (gs := [True]) (z' := (210, [some (.int c), some (.int x), some (.int y)], [.int 0], h)) rfl ⟨trivial, trivial⟩ ?_
              refine rt_ hX (G := True) (r := some (.int 0)) rfl trivial ?_
              have e : jnB c x y = 0 := by
                unfold jnB
                simp [*]
              rw [e] at k
              exact k
            ·
              refine go hX 2 (gs := [True, True]) (z' := (210, [some (.int c), some (.int x), some (.int y)], [.int 1], h)) rfl ⟨trivial, trivial, trivial⟩ ?_
              refine rt_ hX (G := True) (r := some (.int 1)) rfl trivial ?_
              have e : jnB c x y = 1 := by
                unfold jnB
                simp [*]
              rw [e] at k
              exact k
          ·
            refine go hX 2 (gs := [True, True]) (z' := (210, [some (.int c), some (.int x), some (.int y)], [.int 1], h)) rfl ⟨trivial, trivial, trivial⟩ ?_
            refine rt_ hX (G := True) (r := some (.int 1)) rfl trivial ?_
            have e : jnB c x y = 1 := by
              unfold jnB
              simp [*]
            rw [e] at k
            exact k
        ·
          refine br (fun b13 => ?_) (fun b13 => ?_)
          ·
            refine go hX 3 (gs := [True, True, True]) (z' := (127, [some (.int c), some (.int x), some (.int y)], [.int (x * y)], h)) rfl ⟨trivial, trivial, trivial, trivial⟩ ?_
            refine rt_ hX (G := True) (r := some (.int (x * y))) rfl trivial ?_
            have e : jnB c x y = (x * y) := by
              unfold jnB
              simp [*]
            rw [e] at k
            exact k
          ·
            refine br (fun b14 => ?_) (fun b14 => ?_)
            ·
              refine go hX 3 (gs := [True, True, True]) (z' := (119, [some (.int c), some (.int x), some (.int y)], [.int (x + y)], h)) rfl ⟨trivial, trivial, trivial, trivial⟩ ?_
              refine rt_ hX (G := True) (r := some (.int (x + y))) rfl trivial ?_
              have e : jnB c x y = (x + y) := by
                unfold jnB
                simp [*]
              rw [e] at k
              exact k
            ·
              refine br (fun b15 => ?_) (fun b15 => ?_)
              ·
                refine go hX 2 (gs := [True, True]) (z' := (if x = 0 then 201 else 205, [some (.int c), some (.int x), some (.int y)], [], h)) rfl ⟨trivial, trivial, trivial⟩ ?_
                refine br (fun b16 => ?_) (fun b16 => ?_)
                ·
                  refine go hX 2 (gs := [True, True]) (z' := (if y = 0 then 209 else 205, [some (.int c), some (.int x), some (.int y)], [], h)) rfl ⟨trivial, trivial, trivial⟩ ?_
                  refine br (fun b17 => ?_) (fun b17 => ?_)
                  ·
                    refine go hX 1 (gs := [True]) (z' := (210, [some (.int c), some (.int x), some (.int y)], [.int 0], h)) rfl ⟨trivial, trivial⟩ ?_
                    refine rt_ hX (G := True) (r := some (.int 0)) rfl trivial ?_
                    have e : jnB c x y = 0 := by
                      unfold jnB
                      simp [*]
                    rw [e] at k
                    exact k
                  ·
                    refine go hX 2 (gs := [True, True]) (z' := (210, [some (.int c), some (.int x), some (.int y)], [.int 1], h)) rfl ⟨trivial, trivial, trivial⟩ ?_
                    refine rt_ hX (G := True) (r := some (.int 1)) rfl trivial ?_
                    have e : jnB c x y = 1 := by
                      unfold jnB
                      simp [*]
                    rw [e] at k
                    exact k
                ·
                  refine go hX 2 (gs := [True, True]) (z' := (210, [some (.int c), some (.int x), some (.int y)], [.int 1], h)) rfl ⟨trivial, trivial, trivial⟩ ?_
                  refine rt_ hX (G := True) (r := some (.int 1)) rfl trivial ?_
                  have e : jnB c x y = 1 := by
                    unfold jnB
                    simp [*]
                  rw [e] at k
                  exact k
              ·
                refine br (fun b18 => ?_) (fun b18 => ?_)
                ·
                  refine go hX 3 (gs := [True, True, True]) (z' := (123, [some (.int c), some (.int x), some (.int y)], [.int (x - y)], h)) rfl ⟨trivial, trivial, trivial, trivial⟩ ?_
                  refine rt_ hX (G := True) (r := some (.int (x - y))) rfl trivial ?_
                  have e : jnB c x y = (x - y) := by
                    unfold jnB
                    simp [*]
                  rw [e] at k
                  exact k
                ·
                  refine br (fun b19 => ?_) (fun b19 => ?_)
                  ·
                    refine go hX 2 (gs := [True, True]) (z' := (if x = 0 then 201 else 205, [some (.int c), some (.int x), some (.int y)], [], h)) rfl ⟨trivial, trivial, trivial⟩ ?_
                    refine br (fun b20 => ?_) (fun b20 => ?_)
                    ·
                      refine go hX 2 (gs := [True, True]) (z' := (if y = 0 then 209 else 205, [some (.int c), some (.int x), some (.int y)], [], h)) rfl ⟨trivial, trivial, trivial⟩ ?_
                      refine br (fun b21 => ?_) (fun b21 => ?_)
                      ·
                        refine go hX 1 (gs := [True]) (z' := (210, [some (.int c), some (.int x), some (.int y)], [.int 0], h)) rfl ⟨trivial, trivial⟩ ?_
                        refine rt_ hX (G := True) (r := some (.int 0)) rfl trivial ?_
                        have e : jnB c x y = 0 := by
                          unfold jnB
                          simp [*]
                        rw [e] at k
                        exact k
                      ·
                        refine go hX 2 (gs := [True, True]) (z' := (210, [some (.int c), some (.int x), some (.int y)], [.int 1], h)) rfl ⟨trivial, trivial, trivial⟩ ?_
                        refine rt_ hX (G := True) (r := some (.int 1)) rfl trivial ?_
                        have e : jnB c x y = 1 := by
                          unfold jnB
                          simp [*]
                        rw [e] at k
                        exact k
                    ·
                      refine go hX 2 (gs := [True, True]) (z' := (210, [some (.int c), some (.int x), some (.int y)], [.int 1], h)) rfl ⟨trivial, trivial, trivial⟩ ?_
                      refine rt_ hX (G := True) (r := some (.int 1)) rfl trivial ?_
                      have e : jnB c x y = 1 := by
                        unfold jnB
                        simp [*]
                      rw [e] at k
                      exact k
                  ·
                    refine br (fun b22 => ?_) (fun b22 => ?_)
                    ·
                      refine go hX 2 (gs := [True, True]) (z' := (if y = 0 then 132 else 136, [some (.int c), some (.int x), some (.int y)], [], h)) rfl ⟨trivial, trivial, trivial⟩ ?_
                      refine br (fun b23 => ?_) (fun b23 => ?_)
                      ·
                        refine go hX 2 (gs := [True, True]) (z' := (149, [some (.int c), some (.int x), some (.int y)], [.int 0], h)) rfl ⟨trivial, trivial, trivial⟩ ?_
                        refine rt_ hX (G := True) (r := some (.int 0)) rfl trivial ?_
                        have e : jnB c x y = 0 := by
                          unfold jnB
                          simp [*]
                        rw [e] at k
                        exact k
                      ·
                        refine go hX 3 (gs := [True, True, True]) (z' := (if y = (-1) then 141 else 146, [some (.int c), some (.int x), some (.int y)], [], h)) rfl ⟨trivial, trivial, trivial, trivial⟩ ?_
                        refine br (fun b24 => ?_) (fun b24 => ?_)
                        ·
                          refine go hX 3 (gs := [True, True, True]) (z' := (149, [some (.int c), some (.int x), some (.int y)], [.int (-x)], h)) rfl ⟨trivial, trivial, trivial, trivial⟩ ?_
                          refine rt_ hX (G := True) (r := some (.int (-x))) rfl trivial ?_
                          have e : jnB c x y = (-x) := by
                            unfold jnB
                            simp [*]
                          rw [e] at k
                          exact k
                        ·
                          refine go hX 3 (gs := [¬ y = (0 : Int32), True, True]) (z' := (149, [some (.int c), some (.int x), some (.int y)], [.int (x / y)], h)) rfl ⟨?_, trivial, trivial, trivial⟩ ?_
                          · assumption
                          refine rt_ hX (G := True) (r := some (.int (x / y))) rfl trivial ?_
                          have e : jnB c x y = (x / y) := by
                            unfold jnB
                            simp [*]
                          rw [e] at k
                          exact k
                    ·
                      refine br (fun b25 => ?_) (fun b25 => ?_)
                      ·
                        refine go hX 2 (gs := [True, True]) (z' := (if x = 0 then 201 else 205, [some (.int c), some (.int x), some (.int y)], [], h)) rfl ⟨trivial, trivial, trivial⟩ ?_
                        refine br (fun b26 => ?_) (fun b26 => ?_)
                        ·
                          refine go hX 2 (gs := [True, True]) (z' := (if y = 0 then 209 else 205, [some (.int c), some (.int x), some (.int y)], [], h)) rfl ⟨trivial, trivial, trivial⟩ ?_
                          refine br (fun b27 => ?_) (fun b27 => ?_)
                          ·
                            refine go hX 1 (gs := [True]) (z' := (210, [some (.int c), some (.int x), some (.int y)], [.int 0], h)) rfl ⟨trivial, trivial⟩ ?_
                            refine rt_ hX (G := True) (r := some (.int 0)) rfl trivial ?_
                            have e : jnB c x y = 0 := by
                              unfold jnB
                              simp [*]
                            rw [e] at k
                            exact k
                          ·
                            refine go hX 2 (gs := [True, True]) (z' := (210, [some (.int c), some (.int x), some (.int y)], [.int 1], h)) rfl ⟨trivial, trivial, trivial⟩ ?_
                            refine rt_ hX (G := True) (r := some (.int 1)) rfl trivial ?_
                            have e : jnB c x y = 1 := by
                              unfold jnB
                              simp [*]
                            rw [e] at k
                            exact k
                        ·
                          refine go hX 2 (gs := [True, True]) (z' := (210, [some (.int c), some (.int x), some (.int y)], [.int 1], h)) rfl ⟨trivial, trivial, trivial⟩ ?_
                          refine rt_ hX (G := True) (r := some (.int 1)) rfl trivial ?_
                          have e : jnB c x y = 1 := by
                            unfold jnB
                            simp [*]
                          rw [e] at k
                          exact k
                      ·
                        refine br (fun b28 => ?_) (fun b28 => ?_)
                        ·
                          refine go hX 2 (gs := [True, True]) (z' := (if x = 0 then 201 else 205, [some (.int c), some (.int x), some (.int y)], [], h)) rfl ⟨trivial, trivial, trivial⟩ ?_
                          refine br (fun b29 => ?_) (fun b29 => ?_)
                          ·
                            refine go hX 2 (gs := [True, True]) (z' := (if y = 0 then 209 else 205, [some (.int c), some (.int x), some (.int y)], [], h)) rfl ⟨trivial, trivial, trivial⟩ ?_
                            refine br (fun b30 => ?_) (fun b30 => ?_)
                            ·
                              refine go hX 1 (gs := [True]) (z' := (210, [some (.int c), some (.int x), some (.int y)], [.int 0], h)) rfl ⟨trivial, trivial⟩ ?_
                              refine rt_ hX (G := True) (r := some (.int 0)) rfl trivial ?_
                              have e : jnB c x y = 0 := by
                                unfold jnB
                                simp [*]
                              rw [e] at k
                              exact k
                            ·
                              refine go hX 2 (gs := [True, True]) (z' := (210, [some (.int c), some (.int x), some (.int y)], [.int 1], h)) rfl ⟨trivial, trivial, trivial⟩ ?_
                              refine rt_ hX (G := True) (r := some (.int 1)) rfl trivial ?_
                              have e : jnB c x y = 1 := by
                                unfold jnB
                                simp [*]
                              rw [e] at k
                              exact k
                          ·
                            refine go hX 2 (gs := [True, True]) (z' := (210, [some (.int c), some (.int x), some (.int y)], [.int 1], h)) rfl ⟨trivial, trivial, trivial⟩ ?_
                            refine rt_ hX (G := True) (r := some (.int 1)) rfl trivial ?_
                            have e : jnB c x y = 1 := by
                              unfold jnB
                              simp [*]
                            rw [e] at k
                            exact k
                        ·
                          refine br (fun b31 => ?_) (fun b31 => ?_)
                          ·
                            refine go hX 2 (gs := [True, True]) (z' := (if x = 0 then 201 else 205, [some (.int c), some (.int x), some (.int y)], [], h)) rfl ⟨trivial, trivial, trivial⟩ ?_
                            refine br (fun b32 => ?_) (fun b32 => ?_)
                            ·
                              refine go hX 2 (gs := [True, True]) (z' := (if y = 0 then 209 else 205, [some (.int c), some (.int x), some (.int y)], [], h)) rfl ⟨trivial, trivial, trivial⟩ ?_
                              refine br (fun b33 => ?_) (fun b33 => ?_)
                              ·
                                refine go hX 1 (gs := [True]) (z' := (210, [some (.int c), some (.int x), some (.int y)], [.int 0], h)) rfl ⟨trivial, trivial⟩ ?_
                                refine rt_ hX (G := True) (r := some (.int 0)) rfl trivial ?_
                                have e : jnB c x y = 0 := by
                                  unfold jnB
                                  simp [*]
                                rw [e] at k
                                exact k
                              ·
                                refine go hX 2 (gs := [True, True]) (z' := (210, [some (.int c), some (.int x), some (.int y)], [.int 1], h)) rfl ⟨trivial, trivial, trivial⟩ ?_
                                refine rt_ hX (G := True) (r := some (.int 1)) rfl trivial ?_
                                have e : jnB c x y = 1 := by
                                  unfold jnB
                                  simp [*]
                                rw [e] at k
                                exact k
                            ·
                              refine go hX 2 (gs := [True, True]) (z' := (210, [some (.int c), some (.int x), some (.int y)], [.int 1], h)) rfl ⟨trivial, trivial, trivial⟩ ?_
                              refine rt_ hX (G := True) (r := some (.int 1)) rfl trivial ?_
                              have e : jnB c x y = 1 := by
                                unfold jnB
                                simp [*]
                              rw [e] at k
                              exact k
                          ·
                            refine br (fun b34 => ?_) (fun b34 => ?_)
                            ·
                              refine go hX 2 (gs := [True, True]) (z' := (if x = 0 then 201 else 205, [some (.int c), some (.int x), some (.int y)], [], h)) rfl ⟨trivial, trivial, trivial⟩ ?_
                              refine br (fun b35 => ?_) (fun b35 => ?_)
                              ·
                                refine go hX 2 (gs := [True, True]) (z' := (if y = 0 then 209 else 205, [some (.int c), some (.int x), some (.int y)], [], h)) rfl ⟨trivial, trivial, trivial⟩ ?_
                                refine br (fun b36 => ?_) (fun b36 => ?_)
                                ·
                                  refine go hX 1 (gs := [True]) (z' := (210, [some (.int c), some (.int x), some (.int y)], [.int 0], h)) rfl ⟨trivial, trivial⟩ ?_
                                  refine rt_ hX (G := True) (r := some (.int 0)) rfl trivial ?_
                                  have e : jnB c x y = 0 := by
                                    unfold jnB
                                    simp [*]
                                  rw [e] at k
                                  exact k
                                ·
                                  refine go hX 2 (gs := [True, True]) (z' := (210, [some (.int c), some (.int x), some (.int y)], [.int 1], h)) rfl ⟨trivial, trivial, trivial⟩ ?_
                                  refine rt_ hX (G := True) (r := some (.int 1)) rfl trivial ?_
                                  have e : jnB c x y = 1 := by
                                    unfold jnB
                                    simp [*]
                                  rw [e] at k
                                  exact k
                              ·
                                refine go hX 2 (gs := [True, True]) (z' := (210, [some (.int c), some (.int x), some (.int y)], [.int 1], h)) rfl ⟨trivial, trivial, trivial⟩ ?_
                                refine rt_ hX (G := True) (r := some (.int 1)) rfl trivial ?_
                                have e : jnB c x y = 1 := by
                                  unfold jnB
                                  simp [*]
                                rw [e] at k
                                exact k
                            ·
                              refine br (fun b37 => ?_) (fun b37 => ?_)
                              ·
                                refine go hX 2 (gs := [True, True]) (z' := (if x = 0 then 201 else 205, [some (.int c), some (.int x), some (.int y)], [], h)) rfl ⟨trivial, trivial, trivial⟩ ?_
                                refine br (fun b38 => ?_) (fun b38 => ?_)
                                ·
                                  refine go hX 2 (gs := [True, True]) (z' := (if y = 0 then 209 else 205, [some (.int c), some (.int x), some (.int y)], [], h)) rfl ⟨trivial, trivial, trivial⟩ ?_
                                  refine br (fun b39 => ?_) (fun b39 => ?_)
                                  ·
                                    refine go hX 1 (gs := [True]) (z' := (210, [some (.int c), some (.int x), some (.int y)], [.int 0], h)) rfl ⟨trivial, trivial⟩ ?_
                                    refine rt_ hX (G := True) (r := some (.int 0)) rfl trivial ?_
                                    have e : jnB c x y = 0 := by
                                      unfold jnB
                                      simp [*]
                                    rw [e] at k
                                    exact k
                                  ·
                                    refine go hX 2 (gs := [True, True]) (z' := (210, [some (.int c), some (.int x), some (.int y)], [.int 1], h)) rfl ⟨trivial, trivial, trivial⟩ ?_
                                    refine rt_ hX (G := True) (r := some (.int 1)) rfl trivial ?_
                                    have e : jnB c x y = 1 := by
                                      unfold jnB
                                      simp [*]
                                    rw [e] at k
                                    exact k
                                ·
                                  refine go hX 2 (gs := [True, True]) (z' := (210, [some (.int c), some (.int x), some (.int y)], [.int 1], h)) rfl ⟨trivial, trivial, trivial⟩ ?_
                                  refine rt_ hX (G := True) (r := some (.int 1)) rfl trivial ?_
                                  have e : jnB c x y = 1 := by
                                    unfold jnB
                                    simp [*]
                                  rw [e] at k
                                  exact k
                              ·
                                refine br (fun b40 => ?_) (fun b40 => ?_)
                                ·
                                  refine go hX 2 (gs := [True, True]) (z' := (if x = 0 then 201 else 205, [some (.int c), some (.int x), some (.int y)], [], h)) rfl ⟨trivial, trivial, trivial⟩ ?_
                                  refine br (fun b41 => ?_) (fun b41 => ?_)
                                  ·
                                    refine go hX 2 (gs := [True, True]) (z' := (if y = 0 then 209 else 205, [some (.int c), some (.int x), some (.int y)], [], h)) rfl ⟨trivial, trivial, trivial⟩ ?_
                                    refine br (fun b42 => ?_) (fun b42 => ?_)
                                    ·
                                      refine go hX 1 (gs := [True]) (z' := (210, [some (.int c), some (.int x), some (.int y)], [.int 0], h)) rfl ⟨trivial, trivial⟩ ?_
                                      refine rt_ hX (G := True) (r := some (.int 0)) rfl trivial ?_
                                      have e : jnB c x y = 0 := by
                                        unfold jnB
                                        simp [*]
                                      rw [e] at k
                                      exact k
                                    ·
                                      refine go hX 2 (gs := [True, True]) (z' := (210, [some (.int c), some (.int x), some (.int y)], [.int 1], h)) rfl ⟨trivial, trivial, trivial⟩ ?_
                                      refine rt_ hX (G := True) (r := some (.int 1)) rfl trivial ?_
                                      have e : jnB c x y = 1 := by
                                        unfold jnB
                                        simp [*]
                                      rw [e] at k
                                      exact k
                                  ·
                                    refine go hX 2 (gs := [True, True]) (z' := (210, [some (.int c), some (.int x), some (.int y)], [.int 1], h)) rfl ⟨trivial, trivial, trivial⟩ ?_
                                    refine rt_ hX (G := True) (r := some (.int 1)) rfl trivial ?_
                                    have e : jnB c x y = 1 := by
                                      unfold jnB
                                      simp [*]
                                    rw [e] at k
                                    exact k
                                ·
                                  refine br (fun b43 => ?_) (fun b43 => ?_)
                                  ·
                                    refine go hX 2 (gs := [True, True]) (z' := (if x = 0 then 201 else 205, [some (.int c), some (.int x), some (.int y)], [], h)) rfl ⟨trivial, trivial, trivial⟩ ?_
                                    refine br (fun b44 => ?_) (fun b44 => ?_)
                                    ·
                                      refine go hX 2 (gs := [True, True]) (z' := (if y = 0 then 209 else 205, [some (.int c), some (.int x), some (.int y)], [], h)) rfl ⟨trivial, trivial, trivial⟩ ?_
                                      refine br (fun b45 => ?_) (fun b45 => ?_)
                                      ·
                                        refine go hX 1 (gs := [True]) (z' := (210, [some (.int c), some (.int x), some (.int y)], [.int 0], h)) rfl ⟨trivial, trivial⟩ ?_
                                        refine rt_ hX (G := True) (r := some (.int 0)) rfl trivial ?_
                                        have e : jnB c x y = 0 := by
                                          unfold jnB
                                          simp [*]
                                        rw [e] at k
                                        exact k
                                      ·
                                        refine go hX 2 (gs := [True, True]) (z' := (210, [some (.int c), some (.int x), some (.int y)], [.int 1], h)) rfl ⟨trivial, trivial, trivial⟩ ?_
                                        refine rt_ hX (G := True) (r := some (.int 1)) rfl trivial ?_
                                        have e : jnB c x y = 1 := by
                                          unfold jnB
                                          simp [*]
                                        rw [e] at k
                                        exact k
                                    ·
                                      refine go hX 2 (gs := [True, True]) (z' := (210, [some (.int c), some (.int x), some (.int y)], [.int 1], h)) rfl ⟨trivial, trivial, trivial⟩ ?_
                                      refine rt_ hX (G := True) (r := some (.int 1)) rfl trivial ?_
                                      have e : jnB c x y = 1 := by
                                        unfold jnB
                                        simp [*]
                                      rw [e] at k
                                      exact k
                                  ·
                                    refine br (fun b46 => ?_) (fun b46 => ?_)
                                    ·
                                      refine go hX 2 (gs := [True, True]) (z' := (if x = 0 then 201 else 205, [some (.int c), some (.int x), some (.int y)], [], h)) rfl ⟨trivial, trivial, trivial⟩ ?_
                                      refine br (fun b47 => ?_) (fun b47 => ?_)
                                      ·
                                        refine go hX 2 (gs := [True, True]) (z' := (if y = 0 then 209 else 205, [some (.int c), some (.int x), some (.int y)], [], h)) rfl ⟨trivial, trivial, trivial⟩ ?_
                                        refine br (fun b48 => ?_) (fun b48 => ?_)
                                        ·
                                          refine go hX 1 (gs := [True]) (z' := (210, [some (.int c), some (.int x), some (.int y)], [.int 0], h)) rfl ⟨trivial, trivial⟩ ?_
                                          refine rt_ hX (G := True) (r := some (.int 0)) rfl trivial ?_
                                          have e : jnB c x y = 0 := by
                                            unfold jnB
                                            simp [*]
                                          rw [e] at k
                                          exact k
                                        ·
                                          refine go hX 2 (gs := [True, True]) (z' := (210, [some (.int c), some (.int x), some (.int y)], [.int 1], h)) rfl ⟨trivial, trivial, trivial⟩ ?_
                                          refine rt_ hX (G := True) (r := some (.int 1)) rfl trivial ?_
                                          have e : jnB c x y = 1 := by
                                            unfold jnB
                                            simp [*]
                                          rw [e] at k
                                          exact k
                                      ·
                                        refine go hX 2 (gs := [True, True]) (z' := (210, [some (.int c), some (.int x), some (.int y)], [.int 1], h)) rfl ⟨trivial, trivial, trivial⟩ ?_
                                        refine rt_ hX (G := True) (r := some (.int 1)) rfl trivial ?_
                                        have e : jnB c x y = 1 := by
                                          unfold jnB
                                          simp [*]
                                        rw [e] at k
                                        exact k
                                    ·
                                      refine br (fun b49 => ?_) (fun b49 => ?_)
                                      ·
                                        refine go hX 2 (gs := [True, True]) (z' := (if x = 0 then 201 else 205, [some (.int c), some (.int x), some (.int y)], [], h)) rfl ⟨trivial, trivial, trivial⟩ ?_
                                        refine br (fun b50 => ?_) (fun b50 => ?_)
                                        ·
                                          refine go hX 2 (gs := [True, True]) (z' := (if y = 0 then 209 else 205, [some (.int c), some (.int x), some (.int y)], [], h)) rfl ⟨trivial, trivial, trivial⟩ ?_
                                          refine br (fun b51 => ?_) (fun b51 => ?_)
                                          ·
                                            refine go hX 1 (gs := [True]) (z' := (210, [some (.int c), some (.int x), some (.int y)], [.int 0], h)) rfl ⟨trivial, trivial⟩ ?_
                                            refine rt_ hX (G := True) (r := some (.int 0)) rfl trivial ?_
                                            have e : jnB c x y = 0 := by
                                              unfold jnB
                                              simp [*]
                                            rw [e] at k
                                            exact k
                                          ·
                                            refine go hX 2 (gs := [True, True]) (z' := (210, [some (.int c), some (.int x), some (.int y)], [.int 1], h)) rfl ⟨trivial, trivial, trivial⟩ ?_
                                            refine rt_ hX (G := True) (r := some (.int 1)) rfl trivial ?_
                                            have e : jnB c x y = 1 := by
                                              unfold jnB
                                              simp [*]
                                            rw [e] at k
                                            exact k
                                        ·
                                          refine go hX 2 (gs := [True, True]) (z' := (210, [some (.int c), some (.int x), some (.int y)], [.int 1], h)) rfl ⟨trivial, trivial, trivial⟩ ?_
                                          refine rt_ hX (G := True) (r := some (.int 1)) rfl trivial ?_
                                          have e : jnB c x y = 1 := by
                                            unfold jnB
                                            simp [*]
                                          rw [e] at k
                                          exact k
                                      ·
                                        refine br (fun b52 => ?_) (fun b52 => ?_)
                                        ·
                                          refine go hX 2 (gs := [True, True]) (z' := (if x = 0 then 201 else 205, [some (.int c), some (.int x), some (.int y)], [], h)) rfl ⟨trivial, trivial, trivial⟩ ?_
                                          refine br (fun b53 => ?_) (fun b53 => ?_)
                                          ·
                                            refine go hX 2 (gs := [True, True]) (z' := (if y = 0 then 209 else 205, [some (.int c), some (.int x), some (.int y)], [], h)) rfl ⟨trivial, trivial, trivial⟩ ?_
                                            refine br (fun b54 => ?_) (fun b54 => ?_)
                                            ·
                                              refine go hX 1 (gs := [True]) (z' := (210, [some (.int c), some (.int x), some (.int y)], [.int 0], h)) rfl ⟨trivial, trivial⟩ ?_
                                              refine rt_ hX (G := True) (r := some (.int 0)) rfl trivial ?_
                                              have e : jnB c x y = 0 := by
                                                unfold jnB
                                                simp [*]
                                              rw [e] at k
                                              exact k
                                            ·
                                              refine go hX 2 (gs := [True, True]) (z' := (210, [some (.int c), some (.int x), some (.int y)], [.int 1], h)) rfl ⟨trivial, trivial, trivial⟩ ?_
                                              refine rt_ hX (G := True) (r := some (.int 1)) rfl trivial ?_
                                              have e : jnB c x y = 1 := by
                                                unfold jnB
                                                simp [*]
                                              rw [e] at k
                                              exact k
                                          ·
                                            refine go hX 2 (gs := [True, True]) (z' := (210, [some (.int c), some (.int x), some (.int y)], [.int 1], h)) rfl ⟨trivial, trivial, trivial⟩ ?_
                                            refine rt_ hX (G := True) (r := some (.int 1)) rfl trivial ?_
                                            have e : jnB c x y = 1 := by
                                              unfold jnB
                                              simp [*]
                                            rw [e] at k
                                            exact k
                                        ·
                                          refine br (fun b55 => ?_) (fun b55 => ?_)
                                          ·
                                            refine go hX 2 (gs := [True, True]) (z' := (if x = 0 then 201 else 205, [some (.int c), some (.int x), some (.int y)], [], h)) rfl ⟨trivial, trivial, trivial⟩ ?_
                                            refine br (fun b56 => ?_) (fun b56 => ?_)
                                            ·
                                              refine go hX 2 (gs := [True, True]) (z' := (if y = 0 then 209 else 205, [some (.int c), some (.int x), some (.int y)], [], h)) rfl ⟨trivial, trivial, trivial⟩ ?_
                                              refine br (fun b57 => ?_) (fun b57 => ?_)
                                              ·
                                                refine go hX 1 (gs := [True]) (z' := (210, [some (.int c), some (.int x), some (.int y)], [.int 0], h)) rfl ⟨trivial, trivial⟩ ?_
                                                refine rt_ hX (G := True) (r := some (.int 0)) rfl trivial ?_
                                                have e : jnB c x y = 0 := by
                                                  unfold jnB
                                                  simp [*]
                                                rw [e] at k
                                                exact k
                                              ·
                                                refine go hX 2 (gs := [True, True]) (z' := (210, [some (.int c), some (.int x), some (.int y)], [.int 1], h)) rfl ⟨trivial, trivial, trivial⟩ ?_
                                                refine rt_ hX (G := True) (r := some (.int 1)) rfl trivial ?_
                                                have e : jnB c x y = 1 := by
                                                  unfold jnB
                                                  simp [*]
                                                rw [e] at k
                                                exact k
                                            ·
                                              refine go hX 2 (gs := [True, True]) (z' := (210, [some (.int c), some (.int x), some (.int y)], [.int 1], h)) rfl ⟨trivial, trivial, trivial⟩ ?_
                                              refine rt_ hX (G := True) (r := some (.int 1)) rfl trivial ?_
                                              have e : jnB c x y = 1 := by
                                                unfold jnB
                                                simp [*]
                                              rw [e] at k
                                              exact k
                                          ·
                                            refine br (fun b58 => ?_) (fun b58 => ?_)
                                            ·
                                              refine go hX 2 (gs := [True, True]) (z' := (if x = 0 then 201 else 205, [some (.int c), some (.int x), some (.int y)], [], h)) rfl ⟨trivial, trivial, trivial⟩ ?_
                                              refine br (fun b59 => ?_) (fun b59 => ?_)
                                              ·
                                                refine go hX 2 (gs := [True, True]) (z' := (if y = 0 then 209 else 205, [some (.int c), some (.int x), some (.int y)], [], h)) rfl ⟨trivial, trivial, trivial⟩ ?_
                                                refine br (fun b60 => ?_) (fun b60 => ?_)
                                                ·
                                                  refine go hX 1 (gs := [True]) (z' := (210, [some (.int c), some (.int x), some (.int y)], [.int 0], h)) rfl ⟨trivial, trivial⟩ ?_
                                                  refine rt_ hX (G := True) (r := some (.int 0)) rfl trivial ?_
                                                  have e : jnB c x y = 0 := by
                                                    unfold jnB
                                                    simp [*]
                                                  rw [e] at k
                                                  exact k
                                                ·
                                                  refine go hX 2 (gs := [True, True]) (z' := (210, [some (.int c), some (.int x), some (.int y)], [.int 1], h)) rfl ⟨trivial, trivial, trivial⟩ ?_
                                                  refine rt_ hX (G := True) (r := some (.int 1)) rfl trivial ?_
                                                  have e : jnB c x y = 1 := by
                                                    unfold jnB
                                                    simp [*]
                                                  rw [e] at k
                                                  exact k
                                              ·
                                                refine go hX 2 (gs := [True, True]) (z' := (210, [some (.int c), some (.int x), some (.int y)], [.int 1], h)) rfl ⟨trivial, trivial, trivial⟩ ?_
                                                refine rt_ hX (G := True) (r := some (.int 1)) rfl trivial ?_
                                                have e : jnB c x y = 1 := by
                                                  unfold jnB
                                                  simp [*]
                                                rw [e] at k
                                                exact k
                                            ·
                                              refine br (fun b61 => ?_) (fun b61 => ?_)
                                              ·
                                                refine go hX 3 (gs := [True, True, True]) (z' := (if y ≤ x then 159 else 155, [some (.int c), some (.int x), some (.int y)], [], h)) rfl ⟨trivial, trivial, trivial, trivial⟩ ?_
                                                refine br (fun b62 => ?_) (fun b62 => ?_)
                                                ·
                                                  refine go hX 1 (gs := [True]) (z' := (160, [some (.int c), some (.int x), some (.int y)], [.int 0], h)) rfl ⟨trivial, trivial⟩ ?_
                                                  refine rt_ hX (G := True) (r := some (.int 0)) rfl trivial ?_
                                                  have e : jnB c x y = 0 := by
                                                    unfold jnB
                                                    simp [*]
                                                  rw [e] at k
                                                  exact k
                                                ·
                                                  refine go hX 2 (gs := [True, True]) (z' := (160, [some (.int c), some (.int x), some (.int y)], [.int 1], h)) rfl ⟨trivial, trivial, trivial⟩ ?_
                                                  refine rt_ hX (G := True) (r := some (.int 1)) rfl trivial ?_
                                                  have e : jnB c x y = 1 := by
                                                    unfold jnB
                                                    simp [*]
                                                  rw [e] at k
                                                  exact k
                                              ·
                                                refine br (fun b63 => ?_) (fun b63 => ?_)
                                                ·
                                                  refine go hX 3 (gs := [True, True, True]) (z' := (if x = y then 177 else 181, [some (.int c), some (.int x), some (.int y)], [], h)) rfl ⟨trivial, trivial, trivial, trivial⟩ ?_
                                                  refine br (fun b64 => ?_) (fun b64 => ?_)
                                                  ·
                                                    refine go hX 2 (gs := [True, True]) (z' := (182, [some (.int c), some (.int x), some (.int y)], [.int 1], h)) rfl ⟨trivial, trivial, trivial⟩ ?_
                                                    refine rt_ hX (G := True) (r := some (.int 1)) rfl trivial ?_
                                                    have e : jnB c x y = 1 := by
                                                      unfold jnB
                                                      simp [*]
                                                    rw [e] at k
                                                    exact k
                                                  ·
                                                    refine go hX 1 (gs := [True]) (z' := (182, [some (.int c), some (.int x), some (.int y)], [.int 0], h)) rfl ⟨trivial, trivial⟩ ?_
                                                    refine rt_ hX (G := True) (r := some (.int 0)) rfl trivial ?_
                                                    have e : jnB c x y = 0 := by
                                                      unfold jnB
                                                      simp [*]
                                                    rw [e] at k
                                                    exact k
                                                ·
                                                  refine br (fun b65 => ?_) (fun b65 => ?_)
                                                  ·
                                                    refine go hX 3 (gs := [True, True, True]) (z' := (if x ≤ y then 170 else 166, [some (.int c), some (.int x), some (.int y)], [], h)) rfl ⟨trivial, trivial, trivial, trivial⟩ ?_
                                                    refine br (fun b66 => ?_) (fun b66 => ?_)
                                                    ·
                                                      refine go hX 1 (gs := [True]) (z' := (171, [some (.int c), some (.int x), some (.int y)], [.int 0], h)) rfl ⟨trivial, trivial⟩ ?_
                                                      refine rt_ hX (G := True) (r := some (.int 0)) rfl trivial ?_
                                                      have e : jnB c x y = 0 := by
                                                        unfold jnB
                                                        simp [*]
                                                      rw [e] at k
                                                      exact k
                                                    ·
                                                      refine go hX 2 (gs := [True, True]) (z' := (171, [some (.int c), some (.int x), some (.int y)], [.int 1], h)) rfl ⟨trivial, trivial, trivial⟩ ?_
                                                      refine rt_ hX (G := True) (r := some (.int 1)) rfl trivial ?_
                                                      have e : jnB c x y = 1 := by
                                                        unfold jnB
                                                        simp [*]
                                                      rw [e] at k
                                                      exact k
                                                  ·
                                                    refine go hX 2 (gs := [True, True]) (z' := (if x = 0 then 201 else 205, [some (.int c), some (.int x), some (.int y)], [], h)) rfl ⟨trivial, trivial, trivial⟩ ?_
                                                    refine br (fun b67 => ?_) (fun b67 => ?_)
                                                    ·
                                                      refine go hX 2 (gs := [True, True]) (z' := (if y = 0 then 209 else 205, [some (.int c), some (.int x), some (.int y)], [], h)) rfl ⟨trivial, trivial, trivial⟩ ?_
                                                      refine br (fun b68 => ?_) (fun b68 => ?_)
                                                      ·
                                                        refine go hX 1 (gs := [True]) (z' := (210, [some (.int c), some (.int x), some (.int y)], [.int 0], h)) rfl ⟨trivial, trivial⟩ ?_
                                                        refine rt_ hX (G := True) (r := some (.int 0)) rfl trivial ?_
                                                        have e : jnB c x y = 0 := by
                                                          unfold jnB
                                                          simp [*]
                                                        rw [e] at k
                                                        exact k
                                                      ·
                                                        refine go hX 2 (gs := [True, True]) (z' := (210, [some (.int c), some (.int x), some (.int y)], [.int 1], h)) rfl ⟨trivial, trivial, trivial⟩ ?_
                                                        refine rt_ hX (G := True) (r := some (.int 1)) rfl trivial ?_
                                                        have e : jnB c x y = 1 := by
                                                          unfold jnB
                                                          simp [*]
                                                        rw [e] at k
                                                        exact k
                                                    ·
                                                      refine go hX 2 (gs := [True, True]) (z' := (210, [some (.int c), some (.int x), some (.int y)], [.int 1], h)) rfl ⟨trivial, trivial, trivial⟩ ?_
                                                      refine rt_ hX (G := True) (r := some (.int 1)) rfl trivial ?_
                                                      have e : jnB c x y = 1 := by
                                                        unfold jnB
                                                        simp [*]
                                                      rw [e] at k
                                                      exact k
theorem c_textAtV {d : Nat} {Q : Option Value → Hp → Prop} {h : Hp} {x : Int32} (k : Q (some (.int (600 + (200 * x)))) h) : Call (d + 1) 166 [.ref 65, .int x] h Q := by
  refine call_of (rfl : psM[166]? = some _) rfl rfl (rcvV rfl) (fun X hX => ?_)
  show X (0, [some (.ref 65), some (.int x)], [], h)
  refine go hX 5 (gs := [True, True, True, True, True]) (z' := (9, [some (.ref 65), some (.int x)], [.int (600 + (200 * x))], h)) rfl ⟨trivial, trivial, trivial, trivial, trivial, trivial⟩ ?_
  refine rt_ hX (G := True) (r := some (.int (600 + (200 * x)))) rfl trivial ?_
  exact k
theorem lp_wk {d : Nat} {Q : Option Value → Hp → Prop} {X : Cf → Prop} (hX : Clo (Call (d + 1)) cd230 (some .int) Q X) {t n key : Nat} {a b c : Int32} {h0 : Hp} {st : Nat → Int} (W : WfS st n) (ht : t < 12) (hkey : key ≤ 5) (hn : h0.1 66 ((600 + (200 * (nI t))) + 3) = nI n) (hs : ∀ k, k < n → stV key (st k) (h0.1 66 (((600 + (200 * (nI t))) + 4) + (2 * (nI k)))) (h0.1 66 ((((600 + (200 * (nI t))) + 4) + (2 * (nI k))) + 1))) (nm0 : NmV key h0 a b c) (K : ∀ h r, fr80' h0 h → evS a b c st n = [r] → Q (some (.int r)) h) {k : Nat} (hk : k ≤ n) : ∀ {m : Nat} (h : Hp) (l4 l5 : Option Value), m = (evS a b c st k).length → (l4 = none ∧ l5 = none ∨ ∃ x y, l4 = some (.int x) ∧ l5 = some (.int y)) → fr80' h0 h → Pw h (evS a b c st k) → X (4, [some (.ref 65), some (.int (nI t)), some (.int (nI m)), some (.int (nI k)), l4, l5], [], h) := by
  have n96 := W.n96
  have t0 : (0 : Int32) ≤ nI t := tx_0 t (by omega)
  have t1 : nI t < (12 : Int32) := (tx_lt (b := 12) (by omega) (by decide)).mpr ht
  refine @dn_ind n (fun k => ∀ {m : Nat} (h : Hp) (l4 l5 : Option Value), m = (evS a b c st k).length → (l4 = none ∧ l5 = none ∨ ∃ x y, l4 = some (.int x) ∧ l5 = some (.int y)) → fr80' h0 h → Pw h (evS a b c st k) → X (4, [some (.ref 65), some (.int (nI t)), some (.int (nI m)), some (.int (nI k)), l4, l5], [], h)) (fun k hk ih m h l4 l5 hm hl fr P => ?_) k hk
  have sl : (evS a b c st k).length ≤ 96 := P.ln
  have sk : (evS a b c st k).length ≤ k := evS_le
  rcases hl with ⟨rfl, rfl⟩ | ⟨x4, x5, rfl, rfl⟩
  ·
    refine go hX 5 (gs := [True, True, True, True, True]) (z' := (11, [some (.ref 65), some (.int (nI t)), some (.int (nI m)), some (.int (nI k)), none, none], [.int (nI t), .ref 65, .ref 66, .int (nI k)], h)) rfl ⟨trivial, trivial, trivial, trivial, trivial, trivial⟩ ?_
    refine cl hX 166 2 [.ref 65, .int (nI t)] [.ref 66, .int (nI k)] rfl rfl rfl rfl ?_
    refine c_textAtV ?_
    show X (14, [some (.ref 65), some (.int (nI t)), some (.int (nI m)), some (.int (nI k)), none, none], [.int (600 + (200 * (nI t))), .ref 66, .int (nI k)], h)
    refine go hX 4 (gs := [True, ibd ((600 + (200 * (nI t))) + 3) 3400, True, True]) (z' := (if (h.1 66 ((600 + (200 * (nI t))) + 3)) ≤ (nI k) then 163 else 20, [some (.ref 65), some (.int (nI t)), some (.int (nI m)), some (.int (nI k)), none, none], [], h)) rfl ⟨trivial, ?_, trivial, trivial, trivial⟩ ?_
    · exact ibd_of (B := 3400) rfl (by grind) (by grind)
    refine br (fun b1 => ?_) (fun b1 => ?_)
    ·
      have e : k = n := Nat.le_antisymm hk ((tx_le (by omega) (by omega)).mp (by rw [← fr.1 66 _ (by omega)] at hn; rw [← hn]; exact b1))
      rw [e] at P
      obtain ⟨r, hr⟩ := List.length_eq_one_iff.mp (W.one a b c)
      rw [hr] at P
      have e0 : h.1 80 0 = r := P.cs.1
      refine go hX 4 (gs := [ibd 0 100, True, True, True]) (z' := (169, [some (.ref 65), some (.int (nI t)), some (.int (nI m)), some (.int (nI k)), none, none], [.int (h.1 80 0)], h)) rfl ⟨?_, trivial, trivial, trivial, trivial⟩ ?_
      · exact ⟨by decide, by decide⟩
      refine rt_ hX (G := True) (r := some (.int (h.1 80 0))) rfl trivial ?_
      rw [e0]
      exact K _ _ fr hr
    ·
      have kn : k < n := Nat.lt_of_not_le (fun z => b1 (by rw [fr.1 66 _ (by omega), hn]; exact (tx_le (by omega) (by omega)).mpr z))
      have k0 : (0 : Int32) ≤ nI k := tx_0 k (by omega)
      have k96 : nI k < (96 : Int32) := (tx_lt (b := 96) (by omega) (by decide)).mpr (by omega)
      have sv : stV key (st k) (h.1 66 (((600 + (200 * (nI t))) + 4) + (2 * (nI k)))) (h.1 66 ((((600 + (200 * (nI t))) + 4) + (2 * (nI k))) + 1)) := by rw [fr.1 66 _ (by omega), fr.1 66 _ (by omega)]; exact hs k kn
      have nm : NmV key h a b c := fun j hj => by rw [fr.1 79 _ (by omega)]; exact nm0 j hj
      refine go hX 4 (gs := [True, True, True, True]) (z' := (26, [some (.ref 65), some (.int (nI t)), some (.int (nI m)), some (.int (nI k)), none, none], [.int (nI t), .ref 65, .ref 66], h)) rfl ⟨trivial, trivial, trivial, trivial, trivial⟩ ?_
      refine cl hX 166 2 [.ref 65, .int (nI t)] [.ref 66] rfl rfl rfl rfl ?_
      refine c_textAtV ?_
      show X (29, [some (.ref 65), some (.int (nI t)), some (.int (nI m)), some (.int (nI k)), none, none], [.int (600 + (200 * (nI t))), .ref 66], h)
      refine go hX 12 (gs := [True, True, True, True, True, ibd (((600 + (200 * (nI t))) + 4) + (2 * (nI k))) 3400, True, True, True, True, True, True]) (z' := (44, [some (.ref 65), some (.int (nI t)), some (.int (nI m)), some (.int (nI k)), some (.int (h.1 66 (((600 + (200 * (nI t))) + 4) + (2 * (nI k))))), none], [.int (nI t), .ref 65, .ref 66], h)) rfl ⟨trivial, trivial, trivial, trivial, trivial, ?_, trivial, trivial, trivial, trivial, trivial, trivial, trivial⟩ ?_
      · exact ibd_of (B := 3400) rfl (by grind) (by grind)
      refine cl hX 166 2 [.ref 65, .int (nI t)] [.ref 66] rfl rfl rfl rfl ?_
      refine c_textAtV ?_
      show X (47, [some (.ref 65), some (.int (nI t)), some (.int (nI m)), some (.int (nI k)), some (.int (h.1 66 (((600 + (200 * (nI t))) + 4) + (2 * (nI k))))), none], [.int (600 + (200 * (nI t))), .ref 66], h)
      refine go hX 13 (gs := [True, True, True, True, ibd ((((600 + (200 * (nI t))) + 4) + (2 * (nI k))) + 1) 3400, True, True, True, True, True, True, True, True]) (z' := (if (h.1 66 (((600 + (200 * (nI t))) + 4) + (2 * (nI k)))) = 2 then 93 else 64, [some (.ref 65), some (.int (nI t)), some (.int (nI m)), some (.int (nI k)), some (.int (h.1 66 (((600 + (200 * (nI t))) + 4) + (2 * (nI k))))), some (.int (h.1 66 ((((600 + (200 * (nI t))) + 4) + (2 * (nI k))) + 1)))], [], h)) rfl ⟨trivial, trivial, trivial, trivial, ?_, trivial, trivial, trivial, trivial, trivial, trivial, trivial, trivial, trivial⟩ ?_
      · exact ibd_of (B := 3400) rfl (by grind) (by grind)
      refine br (fun b2 => ?_) (fun b2 => ?_)
      ·
        refine go hX 3 (gs := [True, True, True]) (z' := (if (h.1 66 ((((600 + (200 * (nI t))) + 4) + (2 * (nI k))) + 1)) = 33 then 100 else 127, [some (.ref 65), some (.int (nI t)), some (.int (nI m)), some (.int (nI k)), some (.int (h.1 66 (((600 + (200 * (nI t))) + 4) + (2 * (nI k))))), some (.int (h.1 66 ((((600 + (200 * (nI t))) + 4) + (2 * (nI k))) + 1)))], [], h)) rfl ⟨trivial, trivial, trivial, trivial⟩ ?_
        refine br (fun b3 => ?_) (fun b3 => ?_)
        ·
          refine go hX 12 (gs := [True, ibd ((nI m) - 1) 100, True, True, True, True, True, True, True, True, True, True]) (z' := (if (h.1 80 ((nI m) - 1)) = 0 then 118 else 122, [some (.ref 65), some (.int (nI t)), some (.int (nI m)), some (.int (nI k)), some (.int (h.1 66 (((600 + (200 * (nI t))) + 4) + (2 * (nI k))))), some (.int (h.1 66 ((((600 + (200 * (nI t))) + 4) + (2 * (nI k))) + 1)))], [.int ((nI m) - 1), .ref 80], h)) rfl ⟨trivial, ?_, trivial, trivial, trivial, trivial, trivial, trivial, trivial, trivial, trivial, trivial, trivial⟩ ?_
          · exact ib1 hm sl ((W.ln a b c k kn).1 ((stV_2 sv b2).1 b3))
          refine br (fun b4 => ?_) (fun b4 => ?_)
          ·
            refine go hX 6 (gs := [True, True, True, ibd ((nI m) - 1) 100, True, True]) (z' := (4, [some (.ref 65), some (.int (nI t)), some (.int (nI m)), some (.int ((nI k) + 1)), some (.int (h.1 66 (((600 + (200 * (nI t))) + 4) + (2 * (nI k))))), some (.int (h.1 66 ((((600 + (200 * (nI t))) + 4) + (2 * (nI k))) + 1)))], [], (hI h 80 ((nI m) - 1) 1))) rfl ⟨trivial, trivial, trivial, ?_, trivial, trivial, trivial⟩ ?_
            · exact ib1 hm sl ((W.ln a b c k kn).1 ((stV_2 sv b2).1 b3))
            have s33 := (stV_2 sv b2).1 b3
            obtain ⟨x, S, hS⟩ := len1 ((W.ln a b c k kn).1 s33)
            rw [hS] at hm P
            have i1 : nI m - 1 = nI S.length := by rw [hm]; exact nI_m1
            obtain ⟨eX, P2⟩ := P.top (w := 1)
            rw [i1, eX] at b4
            have ev := evS_not (a := a) (b := b) (c := c) s33 hS
            rw [if_pos b4] at ev
            rw [tx_1, i1]
            refine ih (k + 1) (Nat.lt_succ_self k) (by omega) (m := m) _ _ _ (by rw [ev]; simp only [List.length_cons] at hm ⊢; omega) (Or.inr ⟨_, _, rfl, rfl⟩) fr.st (by rw [ev]; exact P2)
          ·
            refine go hX 5 (gs := [True, True, True, ibd ((nI m) - 1) 100, True]) (z' := (4, [some (.ref 65), some (.int (nI t)), some (.int (nI m)), some (.int ((nI k) + 1)), some (.int (h.1 66 (((600 + (200 * (nI t))) + 4) + (2 * (nI k))))), some (.int (h.1 66 ((((600 + (200 * (nI t))) + 4) + (2 * (nI k))) + 1)))], [], (hI h 80 ((nI m) - 1) 0))) rfl ⟨trivial, trivial, trivial, ?_, trivial, trivial⟩ ?_
            · exact ib1 hm sl ((W.ln a b c k kn).1 ((stV_2 sv b2).1 b3))
            have s33 := (stV_2 sv b2).1 b3
            obtain ⟨x, S, hS⟩ := len1 ((W.ln a b c k kn).1 s33)
            rw [hS] at hm P
            have i1 : nI m - 1 = nI S.length := by rw [hm]; exact nI_m1
            obtain ⟨eX, P2⟩ := P.top (w := 0)
            rw [i1, eX] at b4
            have ev := evS_not (a := a) (b := b) (c := c) s33 hS
            rw [if_neg b4] at ev
            rw [tx_1, i1]
            refine ih (k + 1) (Nat.lt_succ_self k) (by omega) (m := m) _ _ _ (by rw [ev]; simp only [List.length_cons] at hm ⊢; omega) (Or.inr ⟨_, _, rfl, rfl⟩) fr.st (by rw [ev]; exact P2)
        ·
          refine go hX 17 (gs := [ibd ((nI m) + (-1)) 100, True, True, True, ibd (((nI m) + (-1)) - 1) 100, True, True, True, True, True, True, True, True, True, True, True, True]) (z' := (153, [some (.ref 65), some (.int (nI t)), some (.int ((nI m) + (-1))), some (.int (nI k)), some (.int (h.1 66 (((600 + (200 * (nI t))) + 4) + (2 * (nI k))))), some (.int (h.1 66 ((((600 + (200 * (nI t))) + 4) + (2 * (nI k))) + 1)))], [.int (h.1 80 ((nI m) + (-1))), .int (h.1 80 (((nI m) + (-1)) - 1)), .int (h.1 66 ((((600 + (200 * (nI t))) + 4) + (2 * (nI k))) + 1)), .int (((nI m) + (-1)) - 1), .ref 80], h)) rfl ⟨?_, trivial, trivial, trivial, ?_, trivial, trivial, trivial, trivial, trivial, trivial, trivial, trivial, trivial, trivial, trivial, trivial, trivial⟩ ?_
          · exact (ib2 hm sl ((W.ln a b c k kn).2 ((stV_2 sv b2).2 b3).1)).1
          · exact (ib2 hm sl ((W.ln a b c k kn).2 ((stV_2 sv b2).2 b3).1)).2
          refine cl hX 229 3 [.int (h.1 66 ((((600 + (200 * (nI t))) + 4) + (2 * (nI k))) + 1)), .int (h.1 80 (((nI m) + (-1)) - 1)), .int (h.1 80 ((nI m) + (-1)))] [.int (((nI m) + (-1)) - 1), .ref 80] rfl rfl rfl rfl ?_
          obtain ⟨sg, ev0⟩ := (stV_2 sv b2).2 b3
          obtain ⟨y, x, S, hS⟩ := len2 ((W.ln a b c k kn).2 sg)
          rw [hS] at hm P
          have i1 : nI m + (-1) = nI (S.length + 1) := by rw [im1 (by rw [hm]; simp) (by rw [hm]; exact P.ln), hm]; rfl
          have i2 : nI (S.length + 1) - 1 = nI S.length := nI_m1
          obtain ⟨eY, eX, P2⟩ := P.two (w := jn (st k - 20000) x y)
          refine c_joinV ?_
          have ej : jnB (h.1 66 ((((600 + (200 * (nI t))) + 4) + (2 * (nI k))) + 1)) (h.1 80 (((nI m) + (-1)) - 1)) (h.1 80 ((nI m) + (-1))) = jn (st k - 20000) x y := by rw [i1, i2, eX, eY, jnB_eq sg ev0]
          rw [ej]
          show X (156, [some (.ref 65), some (.int (nI t)), some (.int ((nI m) + (-1))), some (.int (nI k)), some (.int (h.1 66 (((600 + (200 * (nI t))) + 4) + (2 * (nI k))))), some (.int (h.1 66 ((((600 + (200 * (nI t))) + 4) + (2 * (nI k))) + 1)))], [.int (jn (st k - 20000) x y), .int (((nI m) + (-1)) - 1), .ref 80], h)
          refine go hX 3 (gs := [True, True, ibd (((nI m) + (-1)) - 1) 100]) (z' := (4, [some (.ref 65), some (.int (nI t)), some (.int ((nI m) + (-1))), some (.int ((nI k) + 1)), some (.int (h.1 66 (((600 + (200 * (nI t))) + 4) + (2 * (nI k))))), some (.int (h.1 66 ((((600 + (200 * (nI t))) + 4) + (2 * (nI k))) + 1)))], [], (hI h 80 (((nI m) + (-1)) - 1) (jn (st k - 20000) x y)))) rfl ⟨trivial, trivial, ?_, trivial⟩ ?_
          · rw [i1, i2]; exact ibd_of (B := 100) rfl (tx_0 _ (by have := P.ln; simp only [List.length_cons] at this; omega)) ((tx_lt (b := 100) (by have := P.ln; simp only [List.length_cons] at this; omega) (by decide)).mpr (by have := P.ln; simp only [List.length_cons] at this; omega))
          rw [tx_1, i1, i2]
          have ev := evS_two (a := a) (b := b) (c := c) sg hS
          refine ih (k + 1) (Nat.lt_succ_self k) (by omega) (m := S.length + 1) _ _ _ (congrArg List.length ev).symm (Or.inr ⟨_, _, rfl, rfl⟩) fr.st (by rw [ev]; exact P2)
      ·
        refine go hX 5 (gs := [True, True, True, True, True]) (z' := (if (h.1 66 (((600 + (200 * (nI t))) + 4) + (2 * (nI k)))) = 0 then 74 else 79, [some (.ref 65), some (.int (nI t)), some (.int (nI m)), some (.int (nI k)), some (.int (h.1 66 (((600 + (200 * (nI t))) + 4) + (2 * (nI k))))), some (.int (h.1 66 ((((600 + (200 * (nI t))) + 4) + (2 * (nI k))) + 1)))], [.int (nI m), .ref 80], h)) rfl ⟨trivial, trivial, trivial, trivial, trivial, trivial⟩ ?_
        refine br (fun b5 => ?_) (fun b5 => ?_)
        ·
          refine go hX 7 (gs := [True, True, True, True, ibd (nI m) 100, True, True]) (z' := (4, [some (.ref 65), some (.int (nI t)), some (.int ((nI m) + 1)), some (.int ((nI k) + 1)), some (.int (h.1 66 (((600 + (200 * (nI t))) + 4) + (2 * (nI k))))), some (.int (h.1 66 ((((600 + (200 * (nI t))) + 4) + (2 * (nI k))) + 1)))], [], (hI h 80 (nI m) (h.1 66 ((((600 + (200 * (nI t))) + 4) + (2 * (nI k))) + 1))))) rfl ⟨trivial, trivial, trivial, trivial, ?_, trivial, trivial, trivial⟩ ?_
          · exact ibd_of (B := 100) rfl (tx_0 _ (by omega)) ((tx_lt (b := 100) (by omega) (by decide)).mpr (by omega))
          obtain ⟨q1, q3⟩ := stV_0 sv b5
          have ev := evS_num (a := a) (b := b) (c := c) q3
          rw [q1] at ev
          rw [tx_1, tx_1]
          have l := evS_le (a := a) (b := b) (c := c) (st := st) (k := k)
          have P2 := P.up (v := (h.1 66 ((((600 + (200 * (nI t))) + 4) + (2 * (nI k))) + 1))) (by omega)
          rw [← hm] at P2
          refine ih (k + 1) (Nat.lt_succ_self k) (by omega) (m := m + 1) _ _ _ (by rw [ev]; simp [hm]) (Or.inr ⟨_, _, rfl, rfl⟩) fr.st (by rw [ev]; exact P2)
        ·
          refine go hX 9 (gs := [True, True, True, True, ibd (nI m) 100, ibd (h.1 66 ((((600 + (200 * (nI t))) + 4) + (2 * (nI k))) + 1)) 128, True, True, True]) (z' := (4, [some (.ref 65), some (.int (nI t)), some (.int ((nI m) + 1)), some (.int ((nI k) + 1)), some (.int (h.1 66 (((600 + (200 * (nI t))) + 4) + (2 * (nI k))))), some (.int (h.1 66 ((((600 + (200 * (nI t))) + 4) + (2 * (nI k))) + 1)))], [], (hI h 80 (nI m) (h.1 79 (h.1 66 ((((600 + (200 * (nI t))) + 4) + (2 * (nI k))) + 1)))))) rfl ⟨trivial, trivial, trivial, trivial, ?_, ?_, trivial, trivial, trivial, trivial⟩ ?_
          · exact ibd_of (B := 100) rfl (tx_0 _ (by omega)) ((tx_lt (b := 100) (by omega) (by decide)).mpr (by omega))
          · exact ibd_of (B := 128) rfl (stV_1 hkey nm sv b5 b2).2.2.2.1 (stV_1 hkey nm sv b5 b2).2.2.2.2
          obtain ⟨q1, q3, q4, -⟩ := stV_1 hkey nm sv b5 b2
          have ev := evS_nam (a := a) (b := b) (c := c) q3 q4
          rw [← q1] at ev
          rw [tx_1, tx_1]
          have l := evS_le (a := a) (b := b) (c := c) (st := st) (k := k)
          have P2 := P.up (v := (h.1 79 (h.1 66 ((((600 + (200 * (nI t))) + 4) + (2 * (nI k))) + 1)))) (by omega)
          rw [← hm] at P2
          refine ih (k + 1) (Nat.lt_succ_self k) (by omega) (m := m + 1) _ _ _ (by rw [ev]; simp [hm]) (Or.inr ⟨_, _, rfl, rfl⟩) fr.st (by rw [ev]; exact P2)
  ·
    refine go hX 5 (gs := [True, True, True, True, True]) (z' := (11, [some (.ref 65), some (.int (nI t)), some (.int (nI m)), some (.int (nI k)), some (.int x4), some (.int x5)], [.int (nI t), .ref 65, .ref 66, .int (nI k)], h)) rfl ⟨trivial, trivial, trivial, trivial, trivial, trivial⟩ ?_
    refine cl hX 166 2 [.ref 65, .int (nI t)] [.ref 66, .int (nI k)] rfl rfl rfl rfl ?_
    refine c_textAtV ?_
    show X (14, [some (.ref 65), some (.int (nI t)), some (.int (nI m)), some (.int (nI k)), some (.int x4), some (.int x5)], [.int (600 + (200 * (nI t))), .ref 66, .int (nI k)], h)
    refine go hX 4 (gs := [True, ibd ((600 + (200 * (nI t))) + 3) 3400, True, True]) (z' := (if (h.1 66 ((600 + (200 * (nI t))) + 3)) ≤ (nI k) then 163 else 20, [some (.ref 65), some (.int (nI t)), some (.int (nI m)), some (.int (nI k)), some (.int x4), some (.int x5)], [], h)) rfl ⟨trivial, ?_, trivial, trivial, trivial⟩ ?_
    · exact ibd_of (B := 3400) rfl (by grind) (by grind)
    refine br (fun b1 => ?_) (fun b1 => ?_)
    ·
      have e : k = n := Nat.le_antisymm hk ((tx_le (by omega) (by omega)).mp (by rw [← fr.1 66 _ (by omega)] at hn; rw [← hn]; exact b1))
      rw [e] at P
      obtain ⟨r, hr⟩ := List.length_eq_one_iff.mp (W.one a b c)
      rw [hr] at P
      have e0 : h.1 80 0 = r := P.cs.1
      refine go hX 4 (gs := [ibd 0 100, True, True, True]) (z' := (169, [some (.ref 65), some (.int (nI t)), some (.int (nI m)), some (.int (nI k)), some (.int x4), some (.int x5)], [.int (h.1 80 0)], h)) rfl ⟨?_, trivial, trivial, trivial, trivial⟩ ?_
      · exact ⟨by decide, by decide⟩
      refine rt_ hX (G := True) (r := some (.int (h.1 80 0))) rfl trivial ?_
      rw [e0]
      exact K _ _ fr hr
    ·
      have kn : k < n := Nat.lt_of_not_le (fun z => b1 (by rw [fr.1 66 _ (by omega), hn]; exact (tx_le (by omega) (by omega)).mpr z))
      have k0 : (0 : Int32) ≤ nI k := tx_0 k (by omega)
      have k96 : nI k < (96 : Int32) := (tx_lt (b := 96) (by omega) (by decide)).mpr (by omega)
      have sv : stV key (st k) (h.1 66 (((600 + (200 * (nI t))) + 4) + (2 * (nI k)))) (h.1 66 ((((600 + (200 * (nI t))) + 4) + (2 * (nI k))) + 1)) := by rw [fr.1 66 _ (by omega), fr.1 66 _ (by omega)]; exact hs k kn
      have nm : NmV key h a b c := fun j hj => by rw [fr.1 79 _ (by omega)]; exact nm0 j hj
      refine go hX 4 (gs := [True, True, True, True]) (z' := (26, [some (.ref 65), some (.int (nI t)), some (.int (nI m)), some (.int (nI k)), some (.int x4), some (.int x5)], [.int (nI t), .ref 65, .ref 66], h)) rfl ⟨trivial, trivial, trivial, trivial, trivial⟩ ?_
      refine cl hX 166 2 [.ref 65, .int (nI t)] [.ref 66] rfl rfl rfl rfl ?_
      refine c_textAtV ?_
      show X (29, [some (.ref 65), some (.int (nI t)), some (.int (nI m)), some (.int (nI k)), some (.int x4), some (.int x5)], [.int (600 + (200 * (nI t))), .ref 66], h)
      refine go hX 12 (gs := [True, True, True, True, True, ibd (((600 + (200 * (nI t))) + 4) + (2 * (nI k))) 3400, True, True, True, True, True, True]) (z' := (44, [some (.ref 65), some (.int (nI t)), some (.int (nI m)), some (.int (nI k)), some (.int (h.1 66 (((600 + (200 * (nI t))) + 4) + (2 * (nI k))))), some (.int x5)], [.int (nI t), .ref 65, .ref 66], h)) rfl ⟨trivial, trivial, trivial, trivial, trivial, ?_, trivial, trivial, trivial, trivial, trivial, trivial, trivial⟩ ?_
      · exact ibd_of (B := 3400) rfl (by grind) (by grind)
      refine cl hX 166 2 [.ref 65, .int (nI t)] [.ref 66] rfl rfl rfl rfl ?_
      refine c_textAtV ?_
      show X (47, [some (.ref 65), some (.int (nI t)), some (.int (nI m)), some (.int (nI k)), some (.int (h.1 66 (((600 + (200 * (nI t))) + 4) + (2 * (nI k))))), some (.int x5)], [.int (600 + (200 * (nI t))), .ref 66], h)
      refine go hX 13 (gs := [True, True, True, True, ibd ((((600 + (200 * (nI t))) + 4) + (2 * (nI k))) + 1) 3400, True, True, True, True, True, True, True, True]) (z' := (if (h.1 66 (((600 + (200 * (nI t))) + 4) + (2 * (nI k)))) = 2 then 93 else 64, [some (.ref 65), some (.int (nI t)), some (.int (nI m)), some (.int (nI k)), some (.int (h.1 66 (((600 + (200 * (nI t))) + 4) + (2 * (nI k))))), some (.int (h.1 66 ((((600 + (200 * (nI t))) + 4) + (2 * (nI k))) + 1)))], [], h)) rfl ⟨trivial, trivial, trivial, trivial, ?_, trivial, trivial, trivial, trivial, trivial, trivial, trivial, trivial, trivial⟩ ?_
      · exact ibd_of (B := 3400) rfl (by grind) (by grind)
      refine br (fun b2 => ?_) (fun b2 => ?_)
      ·
        refine go hX 3 (gs := [True, True, True]) (z' := (if (h.1 66 ((((600 + (200 * (nI t))) + 4) + (2 * (nI k))) + 1)) = 33 then 100 else 127, [some (.ref 65), some (.int (nI t)), some (.int (nI m)), some (.int (nI k)), some (.int (h.1 66 (((600 + (200 * (nI t))) + 4) + (2 * (nI k))))), some (.int (h.1 66 ((((600 + (200 * (nI t))) + 4) + (2 * (nI k))) + 1)))], [], h)) rfl ⟨trivial, trivial, trivial, trivial⟩ ?_
        refine br (fun b3 => ?_) (fun b3 => ?_)
        ·
          refine go hX 12 (gs := [True, ibd ((nI m) - 1) 100, True, True, True, True, True, True, True, True, True, True]) (z' := (if (h.1 80 ((nI m) - 1)) = 0 then 118 else 122, [some (.ref 65), some (.int (nI t)), some (.int (nI m)), some (.int (nI k)), some (.int (h.1 66 (((600 + (200 * (nI t))) + 4) + (2 * (nI k))))), some (.int (h.1 66 ((((600 + (200 * (nI t))) + 4) + (2 * (nI k))) + 1)))], [.int ((nI m) - 1), .ref 80], h)) rfl ⟨trivial, ?_, trivial, trivial, trivial, trivial, trivial, trivial, trivial, trivial, trivial, trivial, trivial⟩ ?_
          · exact ib1 hm sl ((W.ln a b c k kn).1 ((stV_2 sv b2).1 b3))
          refine br (fun b4 => ?_) (fun b4 => ?_)
          ·
            refine go hX 6 (gs := [True, True, True, ibd ((nI m) - 1) 100, True, True]) (z' := (4, [some (.ref 65), some (.int (nI t)), some (.int (nI m)), some (.int ((nI k) + 1)), some (.int (h.1 66 (((600 + (200 * (nI t))) + 4) + (2 * (nI k))))), some (.int (h.1 66 ((((600 + (200 * (nI t))) + 4) + (2 * (nI k))) + 1)))], [], (hI h 80 ((nI m) - 1) 1))) rfl ⟨trivial, trivial, trivial, ?_, trivial, trivial, trivial⟩ ?_
            · exact ib1 hm sl ((W.ln a b c k kn).1 ((stV_2 sv b2).1 b3))
            have s33 := (stV_2 sv b2).1 b3
            obtain ⟨x, S, hS⟩ := len1 ((W.ln a b c k kn).1 s33)
            rw [hS] at hm P
            have i1 : nI m - 1 = nI S.length := by rw [hm]; exact nI_m1
            obtain ⟨eX, P2⟩ := P.top (w := 1)
            rw [i1, eX] at b4
            have ev := evS_not (a := a) (b := b) (c := c) s33 hS
            rw [if_pos b4] at ev
            rw [tx_1, i1]
            refine ih (k + 1) (Nat.lt_succ_self k) (by omega) (m := m) _ _ _ (by rw [ev]; simp only [List.length_cons] at hm ⊢; omega) (Or.inr ⟨_, _, rfl, rfl⟩) fr.st (by rw [ev]; exact P2)
          ·
            refine go hX 5 (gs := [True, True, True, ibd ((nI m) - 1) 100, True]) (z' := (4, [some (.ref 65), some (.int (nI t)), some (.int (nI m)), some (.int ((nI k) + 1)), some (.int (h.1 66 (((600 + (200 * (nI t))) + 4) + (2 * (nI k))))), some (.int (h.1 66 ((((600 + (200 * (nI t))) + 4) + (2 * (nI k))) + 1)))], [], (hI h 80 ((nI m) - 1) 0))) rfl ⟨trivial, trivial, trivial, ?_, trivial, trivial⟩ ?_
            · exact ib1 hm sl ((W.ln a b c k kn).1 ((stV_2 sv b2).1 b3))
            have s33 := (stV_2 sv b2).1 b3
            obtain ⟨x, S, hS⟩ := len1 ((W.ln a b c k kn).1 s33)
            rw [hS] at hm P
            have i1 : nI m - 1 = nI S.length := by rw [hm]; exact nI_m1
            obtain ⟨eX, P2⟩ := P.top (w := 0)
            rw [i1, eX] at b4
            have ev := evS_not (a := a) (b := b) (c := c) s33 hS
            rw [if_neg b4] at ev
            rw [tx_1, i1]
            refine ih (k + 1) (Nat.lt_succ_self k) (by omega) (m := m) _ _ _ (by rw [ev]; simp only [List.length_cons] at hm ⊢; omega) (Or.inr ⟨_, _, rfl, rfl⟩) fr.st (by rw [ev]; exact P2)
        ·
          refine go hX 17 (gs := [ibd ((nI m) + (-1)) 100, True, True, True, ibd (((nI m) + (-1)) - 1) 100, True, True, True, True, True, True, True, True, True, True, True, True]) (z' := (153, [some (.ref 65), some (.int (nI t)), some (.int ((nI m) + (-1))), some (.int (nI k)), some (.int (h.1 66 (((600 + (200 * (nI t))) + 4) + (2 * (nI k))))), some (.int (h.1 66 ((((600 + (200 * (nI t))) + 4) + (2 * (nI k))) + 1)))], [.int (h.1 80 ((nI m) + (-1))), .int (h.1 80 (((nI m) + (-1)) - 1)), .int (h.1 66 ((((600 + (200 * (nI t))) + 4) + (2 * (nI k))) + 1)), .int (((nI m) + (-1)) - 1), .ref 80], h)) rfl ⟨?_, trivial, trivial, trivial, ?_, trivial, trivial, trivial, trivial, trivial, trivial, trivial, trivial, trivial, trivial, trivial, trivial, trivial⟩ ?_
          · exact (ib2 hm sl ((W.ln a b c k kn).2 ((stV_2 sv b2).2 b3).1)).1
          · exact (ib2 hm sl ((W.ln a b c k kn).2 ((stV_2 sv b2).2 b3).1)).2
          refine cl hX 229 3 [.int (h.1 66 ((((600 + (200 * (nI t))) + 4) + (2 * (nI k))) + 1)), .int (h.1 80 (((nI m) + (-1)) - 1)), .int (h.1 80 ((nI m) + (-1)))] [.int (((nI m) + (-1)) - 1), .ref 80] rfl rfl rfl rfl ?_
          obtain ⟨sg, ev0⟩ := (stV_2 sv b2).2 b3
          obtain ⟨y, x, S, hS⟩ := len2 ((W.ln a b c k kn).2 sg)
          rw [hS] at hm P
          have i1 : nI m + (-1) = nI (S.length + 1) := by rw [im1 (by rw [hm]; simp) (by rw [hm]; exact P.ln), hm]; rfl
          have i2 : nI (S.length + 1) - 1 = nI S.length := nI_m1
          obtain ⟨eY, eX, P2⟩ := P.two (w := jn (st k - 20000) x y)
          refine c_joinV ?_
          have ej : jnB (h.1 66 ((((600 + (200 * (nI t))) + 4) + (2 * (nI k))) + 1)) (h.1 80 (((nI m) + (-1)) - 1)) (h.1 80 ((nI m) + (-1))) = jn (st k - 20000) x y := by rw [i1, i2, eX, eY, jnB_eq sg ev0]
          rw [ej]
          show X (156, [some (.ref 65), some (.int (nI t)), some (.int ((nI m) + (-1))), some (.int (nI k)), some (.int (h.1 66 (((600 + (200 * (nI t))) + 4) + (2 * (nI k))))), some (.int (h.1 66 ((((600 + (200 * (nI t))) + 4) + (2 * (nI k))) + 1)))], [.int (jn (st k - 20000) x y), .int (((nI m) + (-1)) - 1), .ref 80], h)
          refine go hX 3 (gs := [True, True, ibd (((nI m) + (-1)) - 1) 100]) (z' := (4, [some (.ref 65), some (.int (nI t)), some (.int ((nI m) + (-1))), some (.int ((nI k) + 1)), some (.int (h.1 66 (((600 + (200 * (nI t))) + 4) + (2 * (nI k))))), some (.int (h.1 66 ((((600 + (200 * (nI t))) + 4) + (2 * (nI k))) + 1)))], [], (hI h 80 (((nI m) + (-1)) - 1) (jn (st k - 20000) x y)))) rfl ⟨trivial, trivial, ?_, trivial⟩ ?_
          · rw [i1, i2]; exact ibd_of (B := 100) rfl (tx_0 _ (by have := P.ln; simp only [List.length_cons] at this; omega)) ((tx_lt (b := 100) (by have := P.ln; simp only [List.length_cons] at this; omega) (by decide)).mpr (by have := P.ln; simp only [List.length_cons] at this; omega))
          rw [tx_1, i1, i2]
          have ev := evS_two (a := a) (b := b) (c := c) sg hS
          refine ih (k + 1) (Nat.lt_succ_self k) (by omega) (m := S.length + 1) _ _ _ (congrArg List.length ev).symm (Or.inr ⟨_, _, rfl, rfl⟩) fr.st (by rw [ev]; exact P2)
      ·
        refine go hX 5 (gs := [True, True, True, True, True]) (z' := (if (h.1 66 (((600 + (200 * (nI t))) + 4) + (2 * (nI k)))) = 0 then 74 else 79, [some (.ref 65), some (.int (nI t)), some (.int (nI m)), some (.int (nI k)), some (.int (h.1 66 (((600 + (200 * (nI t))) + 4) + (2 * (nI k))))), some (.int (h.1 66 ((((600 + (200 * (nI t))) + 4) + (2 * (nI k))) + 1)))], [.int (nI m), .ref 80], h)) rfl ⟨trivial, trivial, trivial, trivial, trivial, trivial⟩ ?_
        refine br (fun b5 => ?_) (fun b5 => ?_)
        ·
          refine go hX 7 (gs := [True, True, True, True, ibd (nI m) 100, True, True]) (z' := (4, [some (.ref 65), some (.int (nI t)), some (.int ((nI m) + 1)), some (.int ((nI k) + 1)), some (.int (h.1 66 (((600 + (200 * (nI t))) + 4) + (2 * (nI k))))), some (.int (h.1 66 ((((600 + (200 * (nI t))) + 4) + (2 * (nI k))) + 1)))], [], (hI h 80 (nI m) (h.1 66 ((((600 + (200 * (nI t))) + 4) + (2 * (nI k))) + 1))))) rfl ⟨trivial, trivial, trivial, trivial, ?_, trivial, trivial, trivial⟩ ?_
          · exact ibd_of (B := 100) rfl (tx_0 _ (by omega)) ((tx_lt (b := 100) (by omega) (by decide)).mpr (by omega))
          obtain ⟨q1, q3⟩ := stV_0 sv b5
          have ev := evS_num (a := a) (b := b) (c := c) q3
          rw [q1] at ev
          rw [tx_1, tx_1]
          have l := evS_le (a := a) (b := b) (c := c) (st := st) (k := k)
          have P2 := P.up (v := (h.1 66 ((((600 + (200 * (nI t))) + 4) + (2 * (nI k))) + 1))) (by omega)
          rw [← hm] at P2
          refine ih (k + 1) (Nat.lt_succ_self k) (by omega) (m := m + 1) _ _ _ (by rw [ev]; simp [hm]) (Or.inr ⟨_, _, rfl, rfl⟩) fr.st (by rw [ev]; exact P2)
        ·
          refine go hX 9 (gs := [True, True, True, True, ibd (nI m) 100, ibd (h.1 66 ((((600 + (200 * (nI t))) + 4) + (2 * (nI k))) + 1)) 128, True, True, True]) (z' := (4, [some (.ref 65), some (.int (nI t)), some (.int ((nI m) + 1)), some (.int ((nI k) + 1)), some (.int (h.1 66 (((600 + (200 * (nI t))) + 4) + (2 * (nI k))))), some (.int (h.1 66 ((((600 + (200 * (nI t))) + 4) + (2 * (nI k))) + 1)))], [], (hI h 80 (nI m) (h.1 79 (h.1 66 ((((600 + (200 * (nI t))) + 4) + (2 * (nI k))) + 1)))))) rfl ⟨trivial, trivial, trivial, trivial, ?_, ?_, trivial, trivial, trivial, trivial⟩ ?_
          · exact ibd_of (B := 100) rfl (tx_0 _ (by omega)) ((tx_lt (b := 100) (by omega) (by decide)).mpr (by omega))
          · exact ibd_of (B := 128) rfl (stV_1 hkey nm sv b5 b2).2.2.2.1 (stV_1 hkey nm sv b5 b2).2.2.2.2
          obtain ⟨q1, q3, q4, -⟩ := stV_1 hkey nm sv b5 b2
          have ev := evS_nam (a := a) (b := b) (c := c) q3 q4
          rw [← q1] at ev
          rw [tx_1, tx_1]
          have l := evS_le (a := a) (b := b) (c := c) (st := st) (k := k)
          have P2 := P.up (v := (h.1 79 (h.1 66 ((((600 + (200 * (nI t))) + 4) + (2 * (nI k))) + 1)))) (by omega)
          rw [← hm] at P2
          refine ih (k + 1) (Nat.lt_succ_self k) (by omega) (m := m + 1) _ _ _ (by rw [ev]; simp [hm]) (Or.inr ⟨_, _, rfl, rfl⟩) fr.st (by rw [ev]; exact P2)
theorem c_workedV {d : Nat} {Q : Option Value → Hp → Prop} {t n key : Nat} {a b c : Int32} {h : Hp} {st : Nat → Int} (W : WfS st n) (ht : t < 12) (hkey : key ≤ 5) (hn : h.1 66 ((600 + (200 * (nI t))) + 3) = nI n) (hs : ∀ k, k < n → stV key (st k) (h.1 66 (((600 + (200 * (nI t))) + 4) + (2 * (nI k)))) (h.1 66 ((((600 + (200 * (nI t))) + 4) + (2 * (nI k))) + 1))) (nm0 : NmV key h a b c) (K : ∀ h' r, fr80' h h' → evS a b c st n = [r] → Q (some (.int r)) h') : Call (d + 2) 230 [.ref 65, .int (nI t)] h Q := by
  refine call_of (rfl : psM[230]? = some _) rfl rfl (rcvV rfl) (fun X hX => ?_)
  show X (0, [some (.ref 65), some (.int (nI t)), none, none, none, none], [], h)
  refine go hX 4 (gs := [True, True, True, True]) (z' := (4, [some (.ref 65), some (.int (nI t)), some (.int 0), some (.int 0), none, none], [], h)) rfl ⟨trivial, trivial, trivial, trivial, trivial⟩ ?_
  exact @lp_wk _ _ _ hX t n key a b c h st W ht hkey hn hs nm0 K 0 (Nat.zero_le n) 0 h none none rfl (Or.inl ⟨rfl, rfl⟩) fr80'_rf ⟨trivial, Nat.zero_le 96⟩
