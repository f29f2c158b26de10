/-! Measure. -/
def bdH (l : List (Nat × Int × Int)) (k : Nat) : Option (Int × Int) := List.rec (motive := fun _ => Option (Int × Int)) none (fun q _ ih => Bool.rec (motive := fun _ => Option (Int × Int)) ih (some q.2) (Nat.beq k q.1)) l
