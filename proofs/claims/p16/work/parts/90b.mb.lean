/-! Measure. -/
set_option maxRecDepth 1000000 in
theorem mb1 : (List.range 4000).all (fun i => (bdF mbL (i % 60)).isSome) = true := by decide +kernel
