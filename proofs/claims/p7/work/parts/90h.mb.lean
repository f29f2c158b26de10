/-! Measure. -/
noncomputable def bdJ (l : List (Nat × Int × Int)) (k : Nat) : Option (Int × Int) := List.rec (motive := fun _ => Option (Int × Int)) none (fun q _ ih => Bool.rec (motive := fun _ => Option (Int × Int)) ih (some q.2) (Nat.beq k q.1)) l
set_option maxRecDepth 1000000 in
theorem mb7 : (List.range 4000).all (fun i => (bdJ mbL (i % 60)).isSome) = true := by decide +kernel
