/-! Measure. -/
set_option maxRecDepth 1000000 in
theorem mb6 : (List.range 4000).all (fun i => en (mbL, [(1, [(3, 1), (4, -1)]), (0, [(5, 1), (6, -1)]), (0, [(6, 1), (5, -1)])]) (2, [(i % 50, 1)])) = true := by decide +kernel
