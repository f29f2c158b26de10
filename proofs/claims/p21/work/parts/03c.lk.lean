/-! What stands at a place of a list, found fast. -/
/-- a list behind its first, its first two, four .. -/
def dz0 {α : Type} (l : List α) : List α := match l with
  | [] => []
  | _ :: r => r
theorem dz0_at {α : Type} {l : List α} {n : Nat} : (dz0 l)[n]? = l[n + 1]? := by
  cases l with
  | nil => rfl
  | cons a r => rfl
def dz1 {α : Type} (l : List α) : List α := dz0 (dz0 l)
theorem dz1_at {α : Type} {l : List α} {n : Nat} : (dz1 l)[n]? = l[n + 2]? := (dz0_at (l := dz0 l)).trans dz0_at
def dz2 {α : Type} (l : List α) : List α := dz1 (dz1 l)
theorem dz2_at {α : Type} {l : List α} {n : Nat} : (dz2 l)[n]? = l[n + 4]? := (dz1_at (l := dz1 l)).trans dz1_at
def dz3 {α : Type} (l : List α) : List α := dz2 (dz2 l)
theorem dz3_at {α : Type} {l : List α} {n : Nat} : (dz3 l)[n]? = l[n + 8]? := (dz2_at (l := dz2 l)).trans dz2_at
def dz4 {α : Type} (l : List α) : List α := dz3 (dz3 l)
theorem dz4_at {α : Type} {l : List α} {n : Nat} : (dz4 l)[n]? = l[n + 16]? := (dz3_at (l := dz3 l)).trans dz3_at
def dz5 {α : Type} (l : List α) : List α := dz4 (dz4 l)
theorem dz5_at {α : Type} {l : List α} {n : Nat} : (dz5 l)[n]? = l[n + 32]? := (dz4_at (l := dz4 l)).trans dz4_at
def dz6 {α : Type} (l : List α) : List α := dz5 (dz5 l)
theorem dz6_at {α : Type} {l : List α} {n : Nat} : (dz6 l)[n]? = l[n + 64]? := (dz5_at (l := dz5 l)).trans dz5_at
def dz7 {α : Type} (l : List α) : List α := dz6 (dz6 l)
theorem dz7_at {α : Type} {l : List α} {n : Nat} : (dz7 l)[n]? = l[n + 128]? := (dz6_at (l := dz6 l)).trans dz6_at
def dz8 {α : Type} (l : List α) : List α := dz7 (dz7 l)
theorem dz8_at {α : Type} {l : List α} {n : Nat} : (dz8 l)[n]? = l[n + 256]? := (dz7_at (l := dz7 l)).trans dz7_at
def dz9 {α : Type} (l : List α) : List α := dz8 (dz8 l)
theorem dz9_at {α : Type} {l : List α} {n : Nat} : (dz9 l)[n]? = l[n + 512]? := (dz8_at (l := dz8 l)).trans dz8_at
def dz10 {α : Type} (l : List α) : List α := dz9 (dz9 l)
theorem dz10_at {α : Type} {l : List α} {n : Nat} : (dz10 l)[n]? = l[n + 1024]? := (dz9_at (l := dz9 l)).trans dz9_at
def kz0 {α : Type} (l : List α) : Option α := match l with
  | [] => none
  | a :: _ => some a
theorem kz0_at {α : Type} {l : List α} : kz0 l = l[0]? := by
  cases l with
  | nil => rfl
  | cons a r => rfl
def kz1 {α : Type} (l : List α) (n : Nat) : Option α := match Nat.ble 1 n with
  | true => kz0 (dz0 l)
  | false => kz0 l
theorem kz1_at {α : Type} {l : List α} {n : Nat} (hn : n < 2) : kz1 l n = l[n]? := by
  unfold kz1
  split
  · rename_i h
    have h := Nat.le_of_ble_eq_true h
    have e : n = 1 := by omega
    subst e
    exact kz0_at.trans dz0_at
  · rename_i h
    have h : n < 1 := Nat.lt_of_not_le (fun z => by rw [Nat.ble_eq_true_of_le z] at h; cases h)
    have e : n = 0 := by omega
    subst e
    exact kz0_at
def kz2 {α : Type} (l : List α) (n : Nat) : Option α := match Nat.ble 2 n with
  | true => kz1 (dz1 l) (n - 2)
  | false => kz1 l n
theorem kz2_at {α : Type} {l : List α} {n : Nat} (hn : n < 4) : kz2 l n = l[n]? := by
  unfold kz2
  split
  · rename_i h
    have h := Nat.le_of_ble_eq_true h
    rw [kz1_at (by omega), dz1_at, show n - 2 + 2 = n by omega]
  · rename_i h
    have h : n < 2 := Nat.lt_of_not_le (fun z => by rw [Nat.ble_eq_true_of_le z] at h; cases h)
    exact kz1_at h
def kz3 {α : Type} (l : List α) (n : Nat) : Option α := match Nat.ble 4 n with
  | true => kz2 (dz2 l) (n - 4)
  | false => kz2 l n
theorem kz3_at {α : Type} {l : List α} {n : Nat} (hn : n < 8) : kz3 l n = l[n]? := by
  unfold kz3
  split
  · rename_i h
    have h := Nat.le_of_ble_eq_true h
    rw [kz2_at (by omega), dz2_at, show n - 4 + 4 = n by omega]
  · rename_i h
    have h : n < 4 := Nat.lt_of_not_le (fun z => by rw [Nat.ble_eq_true_of_le z] at h; cases h)
    exact kz2_at h
def kz4 {α : Type} (l : List α) (n : Nat) : Option α := match Nat.ble 8 n with
  | true => kz3 (dz3 l) (n - 8)
  | false => kz3 l n
theorem kz4_at {α : Type} {l : List α} {n : Nat} (hn : n < 16) : kz4 l n = l[n]? := by
  unfold kz4
  split
  · rename_i h
    have h := Nat.le_of_ble_eq_true h
    rw [kz3_at (by omega), dz3_at, show n - 8 + 8 = n by omega]
  · rename_i h
    have h : n < 8 := Nat.lt_of_not_le (fun z => by rw [Nat.ble_eq_true_of_le z] at h; cases h)
    exact kz3_at h
def kz5 {α : Type} (l : List α) (n : Nat) : Option α := match Nat.ble 16 n with
  | true => kz4 (dz4 l) (n - 16)
  | false => kz4 l n
theorem kz5_at {α : Type} {l : List α} {n : Nat} (hn : n < 32) : kz5 l n = l[n]? := by
  unfold kz5
  split
  · rename_i h
    have h := Nat.le_of_ble_eq_true h
    rw [kz4_at (by omega), dz4_at, show n - 16 + 16 = n by omega]
  · rename_i h
    have h : n < 16 := Nat.lt_of_not_le (fun z => by rw [Nat.ble_eq_true_of_le z] at h; cases h)
    exact kz4_at h
def kz6 {α : Type} (l : List α) (n : Nat) : Option α := match Nat.ble 32 n with
  | true => kz5 (dz5 l) (n - 32)
  | false => kz5 l n
theorem kz6_at {α : Type} {l : List α} {n : Nat} (hn : n < 64) : kz6 l n = l[n]? := by
  unfold kz6
  split
  · rename_i h
    have h := Nat.le_of_ble_eq_true h
    rw [kz5_at (by omega), dz5_at, show n - 32 + 32 = n by omega]
  · rename_i h
    have h : n < 32 := Nat.lt_of_not_le (fun z => by rw [Nat.ble_eq_true_of_le z] at h; cases h)
    exact kz5_at h
def kz7 {α : Type} (l : List α) (n : Nat) : Option α := match Nat.ble 64 n with
  | true => kz6 (dz6 l) (n - 64)
  | false => kz6 l n
theorem kz7_at {α : Type} {l : List α} {n : Nat} (hn : n < 128) : kz7 l n = l[n]? := by
  unfold kz7
  split
  · rename_i h
    have h := Nat.le_of_ble_eq_true h
    rw [kz6_at (by omega), dz6_at, show n - 64 + 64 = n by omega]
  · rename_i h
    have h : n < 64 := Nat.lt_of_not_le (fun z => by rw [Nat.ble_eq_true_of_le z] at h; cases h)
    exact kz6_at h
def kz8 {α : Type} (l : List α) (n : Nat) : Option α := match Nat.ble 128 n with
  | true => kz7 (dz7 l) (n - 128)
  | false => kz7 l n
theorem kz8_at {α : Type} {l : List α} {n : Nat} (hn : n < 256) : kz8 l n = l[n]? := by
  unfold kz8
  split
  · rename_i h
    have h := Nat.le_of_ble_eq_true h
    rw [kz7_at (by omega), dz7_at, show n - 128 + 128 = n by omega]
  · rename_i h
    have h : n < 128 := Nat.lt_of_not_le (fun z => by rw [Nat.ble_eq_true_of_le z] at h; cases h)
    exact kz7_at h
def kz9 {α : Type} (l : List α) (n : Nat) : Option α := match Nat.ble 256 n with
  | true => kz8 (dz8 l) (n - 256)
  | false => kz8 l n
theorem kz9_at {α : Type} {l : List α} {n : Nat} (hn : n < 512) : kz9 l n = l[n]? := by
  unfold kz9
  split
  · rename_i h
    have h := Nat.le_of_ble_eq_true h
    rw [kz8_at (by omega), dz8_at, show n - 256 + 256 = n by omega]
  · rename_i h
    have h : n < 256 := Nat.lt_of_not_le (fun z => by rw [Nat.ble_eq_true_of_le z] at h; cases h)
    exact kz8_at h
def kz10 {α : Type} (l : List α) (n : Nat) : Option α := match Nat.ble 512 n with
  | true => kz9 (dz9 l) (n - 512)
  | false => kz9 l n
theorem kz10_at {α : Type} {l : List α} {n : Nat} (hn : n < 1024) : kz10 l n = l[n]? := by
  unfold kz10
  split
  · rename_i h
    have h := Nat.le_of_ble_eq_true h
    rw [kz9_at (by omega), dz9_at, show n - 512 + 512 = n by omega]
  · rename_i h
    have h : n < 512 := Nat.lt_of_not_le (fun z => by rw [Nat.ble_eq_true_of_le z] at h; cases h)
    exact kz9_at h
def kz11 {α : Type} (l : List α) (n : Nat) : Option α := match Nat.ble 1024 n with
  | true => kz10 (dz10 l) (n - 1024)
  | false => kz10 l n
theorem kz11_at {α : Type} {l : List α} {n : Nat} (hn : n < 2048) : kz11 l n = l[n]? := by
  unfold kz11
  split
  · rename_i h
    have h := Nat.le_of_ble_eq_true h
    rw [kz10_at (by omega), dz10_at, show n - 1024 + 1024 = n by omega]
  · rename_i h
    have h : n < 1024 := Nat.lt_of_not_le (fun z => by rw [Nat.ble_eq_true_of_le z] at h; cases h)
    exact kz10_at h
/-- what stands at a place of a list -/
def lk {α : Type} (l : List α) (n : Nat) : Option α := match Nat.ble 2048 n with
  | true => l[n]?
  | false => kz11 l n
theorem lk_eq {α : Type} {l : List α} {n : Nat} : lk l n = l[n]? := by
  unfold lk
  split
  · rfl
  · rename_i h
    exact kz11_at (Nat.lt_of_not_le (fun z => by rw [Nat.ble_eq_true_of_le z] at h; cases h))
def lk6 {α : Type} (l : List α) (n : Nat) : Option α := match Nat.ble 64 n with
  | true => l[n]?
  | false => kz6 l n
theorem lk6_eq {α : Type} {l : List α} {n : Nat} : lk6 l n = l[n]? := by
  unfold lk6
  split
  · rfl
  · rename_i h
    exact kz6_at (Nat.lt_of_not_le (fun z => by rw [Nat.ble_eq_true_of_le z] at h; cases h))
def cdX (cd : Cd) (pc : Nat) : Option En := match lk cd pc with
  | some q => q
  | none => none
theorem cdX_eq {cd : Cd} {pc : Nat} : cdX cd pc = cdAt cd pc := by
  unfold cdX cdAt
  rw [lk_eq]
  cases cd[pc]? with
  | none => rfl
  | some q => cases q <;> rfl
