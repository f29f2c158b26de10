/-! Printed by wip/ai/tab.py. -/
set_option maxRecDepth 1000000 in
def an383 : List (Nat × List (Nat × An)) := [(248, [(34, ([((0, 2, 0, (0, [])), 0, 60), ((1, 0, 66, (0, [])), 0, 999)], ([(999, [(0, 1), (1, (-1)), (1000, (-1))])], [], []), [], [], [(0, 66, 0, 0)], 0, true))])]
set_option maxRecDepth 1000000 in
theorem ok383 : SmOK rgT sm383 := vfy_sp (T := [sm382]) (AN := an383) (g := 113) (List.forall_mem_cons.mpr ⟨ok382, fun _ h => absurd h List.not_mem_nil⟩) (by decide +kernel)
set_option maxRecDepth 1000000 in
def an384 : List (Nat × List (Nat × An)) := []
set_option maxRecDepth 1000000 in
theorem ok384 : SmOK rgT sm384 := vfy_sp (T := []) (AN := an384) (g := 105) (fun _ h => absurd h List.not_mem_nil) (by decide +kernel)
set_option maxRecDepth 1000000 in
def an385 : List (Nat × List (Nat × An)) := []
set_option maxRecDepth 1000000 in
theorem ok385 : SmOK rgT sm385 := vfy_sp (T := []) (AN := an385) (g := 236) (fun _ h => absurd h List.not_mem_nil) (by decide +kernel)
set_option maxRecDepth 1000000 in
def an386 : List (Nat × List (Nat × An)) := []
set_option maxRecDepth 1000000 in
theorem ok386 : SmOK rgT sm386 := vfy_sp (T := []) (AN := an386) (g := 247) (fun _ h => absurd h List.not_mem_nil) (by decide +kernel)
set_option maxRecDepth 1000000 in
def an387 : List (Nat × List (Nat × An)) := [(257, [(113, ([((0, 6, 0, (0, [])), 0, 2147483647)], ([], [], []), [], [], [], 0, true)), (150, ([((0, 6, 0, (0, [])), 0, 2147483647)], ([], [], []), [], [], [], 0, true))])]
set_option maxRecDepth 1000000 in
theorem ok387 : SmOK rgT sm387 := vfy_sp (T := []) (AN := an387) (g := 237) (fun _ h => absurd h List.not_mem_nil) (by decide +kernel)
set_option maxRecDepth 1000000 in
def an388 : List (Nat × List (Nat × An)) := [(258, [(14, ([((0, 4, 0, (0, [])), (-1), 3), ((0, 2, 0, (0, [])), (-1), 3)], ([], [], []), [], [], [], 0, false)), (45, ([((0, 4, 0, (0, [])), 0, 2147483647), ((0, 3, 0, (0, [])), (-2147483648), 2147483647)], ([], [], []), [], [], [], 0, true))])]
set_option maxRecDepth 1000000 in
theorem ok388 : SmOK rgT sm388 := vfy_sp (T := []) (AN := an388) (g := 285) (fun _ h => absurd h List.not_mem_nil) (by decide +kernel)
set_option maxRecDepth 1000000 in
def an389 : List (Nat × List (Nat × An)) := []
set_option maxRecDepth 1000000 in
theorem ok389 : SmOK rgT sm389 := vfy_sp (T := []) (AN := an389) (g := 81) (fun _ h => absurd h List.not_mem_nil) (by decide +kernel)
set_option maxRecDepth 1000000 in
def an390 : List (Nat × List (Nat × An)) := [(261, [(61, ([((0, 3, 0, (0, [])), 0, 30), ((1, 0, 66, (0, [])), 0, 1999)], ([(999, [(0, 1), (1, (-1))])], [], []), [], [], [(0, 66, 0, 0)], 0, true)), (93, ([((0, 4, 0, (0, [])), 0, 2147483647)], ([], [], []), [], [], [(0, 83, 0, 58)], 0, true)), (138, ([((0, 4, 0, (0, [])), 0, 2147483647)], ([], [], []), [], [], [(0, 83, 1, 59)], 0, true)), (202, ([((0, 3, 0, (0, [])), 0, 2147483647)], ([], [], []), [], [], [], 0, true))])]
set_option maxRecDepth 1000000 in
theorem ok390 : SmOK rgT sm390 := vfy_sp (T := [sm382, sm_setAside_68_66, sm_setAside_67_66, sm_setAside_66_68]) (AN := an390) (g := 444) (List.forall_mem_cons.mpr ⟨ok382, List.forall_mem_cons.mpr ⟨ok_setAside_68_66, List.forall_mem_cons.mpr ⟨ok_setAside_67_66, List.forall_mem_cons.mpr ⟨ok_setAside_66_68, fun _ h => absurd h List.not_mem_nil⟩⟩⟩⟩) (by decide +kernel)
set_option maxRecDepth 1000000 in
def an391 : List (Nat × List (Nat × An)) := []
set_option maxRecDepth 1000000 in
theorem ok391 : SmOK rgT sm391 := vfy_sp (T := [sm_setAside_66_67]) (AN := an391) (g := 74) (List.forall_mem_cons.mpr ⟨ok_setAside_66_67, fun _ h => absurd h List.not_mem_nil⟩) (by decide +kernel)
set_option maxRecDepth 1000000 in
def an392 : List (Nat × List (Nat × An)) := []
set_option maxRecDepth 1000000 in
theorem ok392 : SmOK rgT sm392 := vfy_sp (T := [sm_setAside_67_66]) (AN := an392) (g := 87) (List.forall_mem_cons.mpr ⟨ok_setAside_67_66, fun _ h => absurd h List.not_mem_nil⟩) (by decide +kernel)
set_option maxRecDepth 1000000 in
def an393 : List (Nat × List (Nat × An)) := [(264, [(88, ([((0, 2, 0, (0, [])), (-2147483648), 2147483647), ((0, 3, 0, (0, [])), 0, 2147483647)], ([], [], []), [], [], [], 1, true)), (160, ([((0, 3, 0, (0, [])), 0, 2147483647), ((0, 2, 0, (0, [])), (-2147483648), 2147483647)], ([], [], []), [], [], [], 0, true)), (257, ([((0, 2, 0, (0, [])), (-2147483648), 2147483647), ((0, 3, 0, (0, [])), 0, 2147483647)], ([], [], []), [], [], [], 1, true))])]
set_option maxRecDepth 1000000 in
theorem ok393 : SmOK rgT sm393 := vfy_sp (T := [sm334]) (AN := an393) (g := 291) (List.forall_mem_cons.mpr ⟨ok334, fun _ h => absurd h List.not_mem_nil⟩) (by decide +kernel)
