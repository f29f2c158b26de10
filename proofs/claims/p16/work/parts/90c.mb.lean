/-! Measure. -/
set_option maxRecDepth 1000000 in
theorem mb2 : (List.range 4000).all (fun i => (bdG mbL (i % 60)).isSome) = true := by decide +kernel
