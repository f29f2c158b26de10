/-! Printed by wip/ai/tab.py. -/
set_option maxRecDepth 1000000 in
def an230 : List (Nat × List (Nat × An)) := [(264, [(88, ([((0, 2, 0, (0, [])), (-2147483648), 2147483647), ((0, 3, 0, (0, [])), 0, 2147483647)], ([], [], []), [], [], [], 1, true)), (160, ([((0, 3, 0, (0, [])), 0, 2147483647), ((0, 2, 0, (0, [])), (-2147483648), 2147483647)], ([], [], []), [], [], [], 0, true)), (257, ([((0, 2, 0, (0, [])), (-2147483648), 2147483647), ((0, 3, 0, (0, [])), 0, 2147483647)], ([], [], []), [], [], [], 1, true))])]
set_option maxRecDepth 1000000 in
theorem ok230 : SmOK rgT sm230 := vfy_sp (T := [sm178]) (AN := an230) (g := 297) (List.forall_mem_cons.mpr ⟨ok178, fun _ h => absurd h List.not_mem_nil⟩) (by decide +kernel)
set_option maxRecDepth 1000000 in
def an232 : List (Nat × List (Nat × An)) := []
set_option maxRecDepth 1000000 in
theorem ok232 : SmOK rgT sm232 := vfy_sp (T := []) (AN := an232) (g := 216) (fun _ h => absurd h List.not_mem_nil) (by decide +kernel)
set_option maxRecDepth 1000000 in
def an233 : List (Nat × List (Nat × An)) := []
set_option maxRecDepth 1000000 in
theorem ok233 : SmOK rgT sm233 := vfy_sp (T := []) (AN := an233) (g := 216) (fun _ h => absurd h List.not_mem_nil) (by decide +kernel)
