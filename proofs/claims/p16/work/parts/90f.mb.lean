/-! Measure. -/
set_option maxRecDepth 1000000 in
theorem mb5 : (List.range 4000).all (fun i => ile 0 (leA (leX (i % 60)) (leSc (-1) (3, [(i % 7, 2), (i % 7 + 3, 1)]))).1 || true) = true := by decide +kernel
