/-! Printed by wip/ai/tab.py. -/
set_option maxRecDepth 1000000 in
def an273 : List (Nat × List (Nat × An)) := [(257, [(113, ([((0, 6, 0, (0, [])), 0, 2147483647)], ([], [], []), [], [], [], 0, true)), (150, ([((0, 6, 0, (0, [])), 0, 2147483647)], ([], [], []), [], [], [], 0, true))])]
set_option maxRecDepth 1000000 in
theorem ok273 : SmOK rgT sm273 := vfy_sp (T := []) (AN := an273) (g := 237) (fun _ h => absurd h List.not_mem_nil) (by decide +kernel)
set_option maxRecDepth 1000000 in
def an274 : List (Nat × List (Nat × An)) := [(258, [(14, ([((0, 4, 0, (0, [])), (-1), 3), ((0, 2, 0, (0, [])), (-1), 3)], ([], [], []), [], [], [], 0, false)), (45, ([((0, 4, 0, (0, [])), 0, 2147483647), ((0, 3, 0, (0, [])), (-2147483648), 2147483647)], ([], [], []), [], [], [], 0, true))])]
set_option maxRecDepth 1000000 in
theorem ok274 : SmOK rgT sm274 := vfy_sp (T := []) (AN := an274) (g := 285) (fun _ h => absurd h List.not_mem_nil) (by decide +kernel)
set_option maxRecDepth 1000000 in
def an275 : List (Nat × List (Nat × An)) := [(261, [(61, ([((0, 3, 0, (0, [])), 0, 30), ((1, 0, 66, (0, [])), 0, 1999)], ([(999, [(0, 1), (1, (-1))])], [], []), [], [], [(0, 66, 0, 0)], 0, true)), (93, ([((0, 4, 0, (0, [])), 0, 2147483647)], ([], [], []), [], [], [(0, 83, 0, 58)], 0, true)), (138, ([((0, 4, 0, (0, [])), 0, 2147483647)], ([], [], []), [], [], [(0, 83, 1, 59)], 0, true)), (202, ([((0, 3, 0, (0, [])), 0, 2147483647)], ([], [], []), [], [], [], 0, true))])]
set_option maxRecDepth 1000000 in
theorem ok275 : SmOK rgT sm275 := vfy_sp (T := [sm267, sm_setAside_68_66, sm_setAside_67_66, sm_setAside_66_68]) (AN := an275) (g := 444) (List.forall_mem_cons.mpr ⟨ok267, List.forall_mem_cons.mpr ⟨ok_setAside_68_66, List.forall_mem_cons.mpr ⟨ok_setAside_67_66, List.forall_mem_cons.mpr ⟨ok_setAside_66_68, fun _ h => absurd h List.not_mem_nil⟩⟩⟩⟩) (by decide +kernel)
set_option maxRecDepth 1000000 in
def an276 : List (Nat × List (Nat × An)) := []
set_option maxRecDepth 1000000 in
theorem ok276 : SmOK rgT sm276 := vfy_sp (T := [sm_setAside_66_67]) (AN := an276) (g := 74) (List.forall_mem_cons.mpr ⟨ok_setAside_66_67, fun _ h => absurd h List.not_mem_nil⟩) (by decide +kernel)
set_option maxRecDepth 1000000 in
def an277 : List (Nat × List (Nat × An)) := []
set_option maxRecDepth 1000000 in
theorem ok277 : SmOK rgT sm277 := vfy_sp (T := [sm_setAside_67_66]) (AN := an277) (g := 87) (List.forall_mem_cons.mpr ⟨ok_setAside_67_66, fun _ h => absurd h List.not_mem_nil⟩) (by decide +kernel)
set_option maxRecDepth 1000000 in
def an278 : List (Nat × List (Nat × An)) := [(264, [(88, ([((0, 2, 0, (0, [])), (-2147483648), 2147483647), ((0, 3, 0, (0, [])), 0, 2147483647)], ([], [], []), [], [], [], 1, true)), (160, ([((0, 3, 0, (0, [])), 0, 2147483647), ((0, 2, 0, (0, [])), (-2147483648), 2147483647)], ([], [], []), [], [], [], 0, true)), (257, ([((0, 2, 0, (0, [])), (-2147483648), 2147483647), ((0, 3, 0, (0, [])), 0, 2147483647)], ([], [], []), [], [], [], 1, true))])]
set_option maxRecDepth 1000000 in
theorem ok278 : SmOK rgT sm278 := vfy_sp (T := [sm219]) (AN := an278) (g := 291) (List.forall_mem_cons.mpr ⟨ok219, fun _ h => absurd h List.not_mem_nil⟩) (by decide +kernel)
