/-! Printed by wip/ai/tab.py. -/
set_option maxRecDepth 1000000 in
def an255 : List (Nat × List (Nat × An)) := []
set_option maxRecDepth 1000000 in
theorem ok255 : SmOK rgT sm255 := vfy_sp (T := [sm_setAside_66_67]) (AN := an255) (g := 74) (List.forall_mem_cons.mpr ⟨ok_setAside_66_67, fun _ h => absurd h List.not_mem_nil⟩) (by decide +kernel)
set_option maxRecDepth 1000000 in
def an256 : List (Nat × List (Nat × An)) := []
set_option maxRecDepth 1000000 in
theorem ok256 : SmOK rgT sm256 := vfy_sp (T := [sm_setAside_67_66]) (AN := an256) (g := 87) (List.forall_mem_cons.mpr ⟨ok_setAside_67_66, fun _ h => absurd h List.not_mem_nil⟩) (by decide +kernel)
set_option maxRecDepth 1000000 in
def an257 : List (Nat × List (Nat × An)) := [(264, [(88, ([((0, 2, 0, (0, [])), (-2147483648), 2147483647), ((0, 3, 0, (0, [])), 0, 2147483647)], ([], [], []), [], [], [], 1, true)), (160, ([((0, 3, 0, (0, [])), 0, 2147483647), ((0, 2, 0, (0, [])), (-2147483648), 2147483647)], ([], [], []), [], [], [], 0, true)), (257, ([((0, 2, 0, (0, [])), (-2147483648), 2147483647), ((0, 3, 0, (0, [])), 0, 2147483647)], ([], [], []), [], [], [], 1, true))])]
set_option maxRecDepth 1000000 in
theorem ok257 : SmOK rgT sm257 := vfy_sp (T := [sm200]) (AN := an257) (g := 291) (List.forall_mem_cons.mpr ⟨ok200, fun _ h => absurd h List.not_mem_nil⟩) (by decide +kernel)
