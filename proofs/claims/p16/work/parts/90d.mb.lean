/-! Measure. -/
set_option maxRecDepth 1000000 in
theorem mb3 : (List.range 4000).all (fun i => Nat.ble (match cd0[i % 60]? with | some (some e) => e.2.1 | _ => 3) 100) = true := by decide +kernel
