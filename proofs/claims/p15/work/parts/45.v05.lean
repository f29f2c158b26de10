/-! Printed by wip/ai/tab.py. -/
set_option maxRecDepth 1000000 in
def an256 : List (Nat × List (Nat × An)) := []
set_option maxRecDepth 1000000 in
theorem ok256 : SmOK rgT sm256 := vfy_sp (T := []) (AN := an256) (g := 216) (fun _ h => absurd h List.not_mem_nil) (by decide +kernel)
