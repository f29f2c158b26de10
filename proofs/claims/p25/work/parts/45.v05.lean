/-! Printed by wip/ai/tab.py. -/
set_option maxRecDepth 1000000 in
def an270 : List (Nat × List (Nat × An)) := []
set_option maxRecDepth 1000000 in
theorem ok270 : SmOK rgT sm270 := vfy_sp (T := []) (AN := an270) (g := 81) (fun _ h => absurd h List.not_mem_nil) (by decide +kernel)
set_option maxRecDepth 1000000 in
def an271 : List (Nat × List (Nat × An)) := [(261, [(61, ([((0, 3, 0, (0, [])), 0, 30), ((1, 0, 66, (0, [])), 0, 1999)], ([(999, [(0, 1), (1, (-1))])], [], []), [], [], [(0, 66, 0, 0)], 0, true)), (93, ([((0, 4, 0, (0, [])), 0, 2147483647)], ([], [], []), [], [], [(0, 83, 0, 58)], 0, true)), (138, ([((0, 4, 0, (0, [])), 0, 2147483647)], ([], [], []), [], [], [(0, 83, 1, 59)], 0, true)), (202, ([((0, 3, 0, (0, [])), 0, 2147483647)], ([], [], []), [], [], [], 0, true))])]
set_option maxRecDepth 1000000 in
theorem ok271 : SmOK rgT sm271 := vfy_sp (T := [sm262, sm_setAside_68_66, sm_setAside_67_66, sm_setAside_66_68]) (AN := an271) (g := 444) (List.forall_mem_cons.mpr ⟨ok262, List.forall_mem_cons.mpr ⟨ok_setAside_68_66, List.forall_mem_cons.mpr ⟨ok_setAside_67_66, List.forall_mem_cons.mpr ⟨ok_setAside_66_68, fun _ h => absurd h List.not_mem_nil⟩⟩⟩⟩) (by decide +kernel)
set_option maxRecDepth 1000000 in
def an272 : List (Nat × List (Nat × An)) := []
set_option maxRecDepth 1000000 in
theorem ok272 : SmOK rgT sm272 := vfy_sp (T := [sm_setAside_66_67]) (AN := an272) (g := 74) (List.forall_mem_cons.mpr ⟨ok_setAside_66_67, fun _ h => absurd h List.not_mem_nil⟩) (by decide +kernel)
set_option maxRecDepth 1000000 in
def an273 : List (Nat × List (Nat × An)) := []
set_option maxRecDepth 1000000 in
theorem ok273 : SmOK rgT sm273 := vfy_sp (T := [sm_setAside_67_66]) (AN := an273) (g := 87) (List.forall_mem_cons.mpr ⟨ok_setAside_67_66, fun _ h => absurd h List.not_mem_nil⟩) (by decide +kernel)
set_option maxRecDepth 1000000 in
def an274 : List (Nat × List (Nat × An)) := [(264, [(88, ([((0, 2, 0, (0, [])), (-2147483648), 2147483647), ((0, 3, 0, (0, [])), 0, 2147483647)], ([], [], []), [], [], [], 1, true)), (160, ([((0, 3, 0, (0, [])), 0, 2147483647), ((0, 2, 0, (0, [])), (-2147483648), 2147483647)], ([], [], []), [], [], [], 0, true)), (257, ([((0, 2, 0, (0, [])), (-2147483648), 2147483647), ((0, 3, 0, (0, [])), 0, 2147483647)], ([], [], []), [], [], [], 1, true))])]
set_option maxRecDepth 1000000 in
theorem ok274 : SmOK rgT sm274 := vfy_sp (T := [sm216]) (AN := an274) (g := 291) (List.forall_mem_cons.mpr ⟨ok216, fun _ h => absurd h List.not_mem_nil⟩) (by decide +kernel)
