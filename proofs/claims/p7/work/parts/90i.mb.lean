/-! Measure. -/
set_option maxRecDepth 1000000 in
theorem mb8 : (List.range 4000).all (fun i => Nat.ble (match cdX cd0 (i % 60) with | some e => e.2.1 | _ => 3) 100) = true := by decide +kernel
