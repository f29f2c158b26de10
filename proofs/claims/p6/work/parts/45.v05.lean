/-! Printed by wip/ai/tab.py. -/
set_option maxRecDepth 1000000 in
def an257 : List (Nat × List (Nat × An)) := [(264, [(88, ([((0, 2, 0, (0, [])), (-2147483648), 2147483647), ((0, 3, 0, (0, [])), 0, 2147483647)], ([], [], []), [], [], [], 1, true)), (160, ([((0, 3, 0, (0, [])), 0, 2147483647), ((0, 2, 0, (0, [])), (-2147483648), 2147483647)], ([], [], []), [], [], [], 0, true)), (257, ([((0, 2, 0, (0, [])), (-2147483648), 2147483647), ((0, 3, 0, (0, [])), 0, 2147483647)], ([], [], []), [], [], [], 1, true))])]
set_option maxRecDepth 1000000 in
theorem ok257 : SmOK rgT sm257 := vfy_sp (T := [sm200]) (AN := an257) (g := 291) (List.forall_mem_cons.mpr ⟨ok200, fun _ h => absurd h List.not_mem_nil⟩) (by decide +kernel)
set_option maxRecDepth 1000000 in
def an259 : List (Nat × List (Nat × An)) := []
set_option maxRecDepth 1000000 in
theorem ok259 : SmOK rgT sm259 := vfy_sp (T := []) (AN := an259) (g := 216) (fun _ h => absurd h List.not_mem_nil) (by decide +kernel)
set_option maxRecDepth 1000000 in
def an260 : List (Nat × List (Nat × An)) := []
set_option maxRecDepth 1000000 in
theorem ok260 : SmOK rgT sm260 := vfy_sp (T := []) (AN := an260) (g := 216) (fun _ h => absurd h List.not_mem_nil) (by decide +kernel)
