/-! Printed by wip/ai/tab.py. -/
set_option maxRecDepth 1000000 in
def an249 : List (Nat × List (Nat × An)) := [(248, [(34, ([((0, 2, 0, (0, [])), 0, 60), ((1, 0, 66, (0, [])), 0, 999)], ([(999, [(0, 1), (1, (-1)), (1000, (-1))])], [], []), [], [], [(0, 66, 0, 0)], 0, true))])]
set_option maxRecDepth 1000000 in
theorem ok249 : SmOK rgT sm249 := vfy_sp (T := [sm248]) (AN := an249) (g := 113) (List.forall_mem_cons.mpr ⟨ok248, fun _ h => absurd h List.not_mem_nil⟩) (by decide +kernel)
set_option maxRecDepth 1000000 in
def an250 : List (Nat × List (Nat × An)) := []
set_option maxRecDepth 1000000 in
theorem ok250 : SmOK rgT sm250 := vfy_sp (T := []) (AN := an250) (g := 105) (fun _ h => absurd h List.not_mem_nil) (by decide +kernel)
set_option maxRecDepth 1000000 in
def an251 : List (Nat × List (Nat × An)) := []
set_option maxRecDepth 1000000 in
theorem ok251 : SmOK rgT sm251 := vfy_sp (T := []) (AN := an251) (g := 81) (fun _ h => absurd h List.not_mem_nil) (by decide +kernel)
set_option maxRecDepth 1000000 in
def an252 : List (Nat × List (Nat × An)) := [(261, [(61, ([((0, 3, 0, (0, [])), 0, 30), ((1, 0, 66, (0, [])), 0, 1999)], ([(999, [(0, 1), (1, (-1))])], [], []), [], [], [(0, 66, 0, 0)], 0, true)), (93, ([((0, 4, 0, (0, [])), 0, 2147483647)], ([], [], []), [], [], [(0, 83, 0, 58)], 0, true)), (138, ([((0, 4, 0, (0, [])), 0, 2147483647)], ([], [], []), [], [], [(0, 83, 1, 59)], 0, true)), (202, ([((0, 3, 0, (0, [])), 0, 2147483647)], ([], [], []), [], [], [], 0, true))])]
set_option maxRecDepth 1000000 in
theorem ok252 : SmOK rgT sm252 := vfy_sp (T := [sm248, sm_setAside_68_66, sm_setAside_67_66, sm_setAside_66_68]) (AN := an252) (g := 466) (List.forall_mem_cons.mpr ⟨ok248, List.forall_mem_cons.mpr ⟨ok_setAside_68_66, List.forall_mem_cons.mpr ⟨ok_setAside_67_66, List.forall_mem_cons.mpr ⟨ok_setAside_66_68, fun _ h => absurd h List.not_mem_nil⟩⟩⟩⟩) (by decide +kernel)
set_option maxRecDepth 1000000 in
def an253 : List (Nat × List (Nat × An)) := []
set_option maxRecDepth 1000000 in
theorem ok253 : SmOK rgT sm253 := vfy_sp (T := [sm_setAside_66_67]) (AN := an253) (g := 74) (List.forall_mem_cons.mpr ⟨ok_setAside_66_67, fun _ h => absurd h List.not_mem_nil⟩) (by decide +kernel)
set_option maxRecDepth 1000000 in
def an254 : List (Nat × List (Nat × An)) := []
set_option maxRecDepth 1000000 in
theorem ok254 : SmOK rgT sm254 := vfy_sp (T := [sm_setAside_67_66]) (AN := an254) (g := 87) (List.forall_mem_cons.mpr ⟨ok_setAside_67_66, fun _ h => absurd h List.not_mem_nil⟩) (by decide +kernel)
set_option maxRecDepth 1000000 in
def an255 : List (Nat × List (Nat × An)) := [(264, [(88, ([((0, 2, 0, (0, [])), (-2147483648), 2147483647), ((0, 3, 0, (0, [])), 0, 2147483647)], ([], [], []), [], [], [], 1, true)), (160, ([((0, 3, 0, (0, [])), 0, 2147483647), ((0, 2, 0, (0, [])), (-2147483648), 2147483647)], ([], [], []), [], [], [], 0, true)), (257, ([((0, 2, 0, (0, [])), (-2147483648), 2147483647), ((0, 3, 0, (0, [])), 0, 2147483647)], ([], [], []), [], [], [], 1, true))])]
set_option maxRecDepth 1000000 in
theorem ok255 : SmOK rgT sm255 := vfy_sp (T := [sm200]) (AN := an255) (g := 297) (List.forall_mem_cons.mpr ⟨ok200, fun _ h => absurd h List.not_mem_nil⟩) (by decide +kernel)
