/-! Measure. -/
set_option maxRecDepth 1000000 in
theorem mb4 : (List.range 4000).all (fun i => (rlD (16 * (i % 32))).isSome) = true := by decide +kernel
