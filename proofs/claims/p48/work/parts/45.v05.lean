/-! Printed by wip/ai/tab.py. -/
set_option maxRecDepth 1000000 in
def an262 : List (Nat × List (Nat × An)) := []
set_option maxRecDepth 1000000 in
theorem ok262 : SmOK rgT sm262 := vfy_sp (T := []) (AN := an262) (g := 81) (fun _ h => absurd h List.not_mem_nil) (by decide +kernel)
set_option maxRecDepth 1000000 in
def an263 : List (Nat × List (Nat × An)) := [(261, [(61, ([((0, 3, 0, (0, [])), 0, 30), ((1, 0, 66, (0, [])), 0, 1999)], ([(999, [(0, 1), (1, (-1))])], [], []), [], [], [(0, 66, 0, 0)], 0, true)), (93, ([((0, 4, 0, (0, [])), 0, 2147483647)], ([], [], []), [], [], [(0, 83, 0, 58)], 0, true)), (138, ([((0, 4, 0, (0, [])), 0, 2147483647)], ([], [], []), [], [], [(0, 83, 1, 59)], 0, true)), (202, ([((0, 3, 0, (0, [])), 0, 2147483647)], ([], [], []), [], [], [], 0, true))])]
set_option maxRecDepth 1000000 in
theorem ok263 : SmOK rgT sm263 := vfy_sp (T := [sm254, sm_setAside_68_66, sm_setAside_67_66, sm_setAside_66_68]) (AN := an263) (g := 444) (List.forall_mem_cons.mpr ⟨ok254, List.forall_mem_cons.mpr ⟨ok_setAside_68_66, List.forall_mem_cons.mpr ⟨ok_setAside_67_66, List.forall_mem_cons.mpr ⟨ok_setAside_66_68, fun _ h => absurd h List.not_mem_nil⟩⟩⟩⟩) (by decide +kernel)
set_option maxRecDepth 1000000 in
def an264 : List (Nat × List (Nat × An)) := [(264, [(88, ([((0, 2, 0, (0, [])), (-2147483648), 2147483647), ((0, 3, 0, (0, [])), 0, 2147483647)], ([], [], []), [], [], [], 1, true)), (160, ([((0, 3, 0, (0, [])), 0, 2147483647), ((0, 2, 0, (0, [])), (-2147483648), 2147483647)], ([], [], []), [], [], [], 0, true)), (257, ([((0, 2, 0, (0, [])), (-2147483648), 2147483647), ((0, 3, 0, (0, [])), 0, 2147483647)], ([], [], []), [], [], [], 1, true))])]
set_option maxRecDepth 1000000 in
theorem ok264 : SmOK rgT sm264 := vfy_sp (T := [sm206]) (AN := an264) (g := 291) (List.forall_mem_cons.mpr ⟨ok206, fun _ h => absurd h List.not_mem_nil⟩) (by decide +kernel)
set_option maxRecDepth 1000000 in
def an266 : List (Nat × List (Nat × An)) := []
set_option maxRecDepth 1000000 in
theorem ok266 : SmOK rgT sm266 := vfy_sp (T := []) (AN := an266) (g := 84) (fun _ h => absurd h List.not_mem_nil) (by decide +kernel)
set_option maxRecDepth 1000000 in
def an267 : List (Nat × List (Nat × An)) := []
set_option maxRecDepth 1000000 in
theorem ok267 : SmOK rgT sm267 := vfy_sp (T := []) (AN := an267) (g := 84) (fun _ h => absurd h List.not_mem_nil) (by decide +kernel)
set_option maxRecDepth 1000000 in
def an268 : List (Nat × List (Nat × An)) := []
set_option maxRecDepth 1000000 in
theorem ok268 : SmOK rgT sm268 := vfy_sp (T := []) (AN := an268) (g := 84) (fun _ h => absurd h List.not_mem_nil) (by decide +kernel)
set_option maxRecDepth 1000000 in
def an269 : List (Nat × List (Nat × An)) := []
set_option maxRecDepth 1000000 in
theorem ok269 : SmOK rgT sm269 := vfy_sp (T := []) (AN := an269) (g := 84) (fun _ h => absurd h List.not_mem_nil) (by decide +kernel)
set_option maxRecDepth 1000000 in
def an270 : List (Nat × List (Nat × An)) := []
set_option maxRecDepth 1000000 in
theorem ok270 : SmOK rgT sm270 := vfy_sp (T := []) (AN := an270) (g := 84) (fun _ h => absurd h List.not_mem_nil) (by decide +kernel)
set_option maxRecDepth 1000000 in
def an271 : List (Nat × List (Nat × An)) := []
set_option maxRecDepth 1000000 in
theorem ok271 : SmOK rgT sm271 := vfy_sp (T := [sm270, sm269, sm268, sm267, sm266]) (AN := an271) (g := 96) (List.forall_mem_cons.mpr ⟨ok270, List.forall_mem_cons.mpr ⟨ok269, List.forall_mem_cons.mpr ⟨ok268, List.forall_mem_cons.mpr ⟨ok267, List.forall_mem_cons.mpr ⟨ok266, fun _ h => absurd h List.not_mem_nil⟩⟩⟩⟩⟩) (by decide +kernel)
set_option maxRecDepth 1000000 in
def an272 : List (Nat × List (Nat × An)) := []
set_option maxRecDepth 1000000 in
theorem ok272 : SmOK rgT sm272 := vfy_sp (T := []) (AN := an272) (g := 84) (fun _ h => absurd h List.not_mem_nil) (by decide +kernel)
set_option maxRecDepth 1000000 in
def an273 : List (Nat × List (Nat × An)) := []
set_option maxRecDepth 1000000 in
theorem ok273 : SmOK rgT sm273 := vfy_sp (T := []) (AN := an273) (g := 84) (fun _ h => absurd h List.not_mem_nil) (by decide +kernel)
set_option maxRecDepth 1000000 in
def an274 : List (Nat × List (Nat × An)) := []
set_option maxRecDepth 1000000 in
theorem ok274 : SmOK rgT sm274 := vfy_sp (T := []) (AN := an274) (g := 84) (fun _ h => absurd h List.not_mem_nil) (by decide +kernel)
set_option maxRecDepth 1000000 in
def an275 : List (Nat × List (Nat × An)) := []
set_option maxRecDepth 1000000 in
theorem ok275 : SmOK rgT sm275 := vfy_sp (T := []) (AN := an275) (g := 84) (fun _ h => absurd h List.not_mem_nil) (by decide +kernel)
set_option maxRecDepth 1000000 in
def an276 : List (Nat × List (Nat × An)) := []
set_option maxRecDepth 1000000 in
theorem ok276 : SmOK rgT sm276 := vfy_sp (T := []) (AN := an276) (g := 84) (fun _ h => absurd h List.not_mem_nil) (by decide +kernel)
set_option maxRecDepth 1000000 in
def an277 : List (Nat × List (Nat × An)) := []
set_option maxRecDepth 1000000 in
theorem ok277 : SmOK rgT sm277 := vfy_sp (T := [sm276, sm275, sm274, sm273, sm272]) (AN := an277) (g := 96) (List.forall_mem_cons.mpr ⟨ok276, List.forall_mem_cons.mpr ⟨ok275, List.forall_mem_cons.mpr ⟨ok274, List.forall_mem_cons.mpr ⟨ok273, List.forall_mem_cons.mpr ⟨ok272, fun _ h => absurd h List.not_mem_nil⟩⟩⟩⟩⟩) (by decide +kernel)
