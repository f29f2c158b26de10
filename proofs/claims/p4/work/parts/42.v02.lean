/-! Printed by wip/ai/tab.py. -/
set_option maxRecDepth 1000000 in
def an60 : List (Nat × List (Nat × An)) := []
set_option maxRecDepth 1000000 in
theorem ok60 : SmOK rgT sm60 := vfy_sp (T := []) (AN := an60) (g := 174) (fun _ h => absurd h List.not_mem_nil) (by decide +kernel)
set_option maxRecDepth 1000000 in
def an61 : List (Nat × List (Nat × An)) := [(67, [(4, ([((0, 2, 0, (0, [])), (-2147483648), 2147483647), ((0, 3, 0, (0, [])), 0, 2147483647)], ([], [], []), [], [], [], 1, true))])]
set_option maxRecDepth 1000000 in
theorem ok61 : SmOK rgT sm61 := vfy_sp (T := []) (AN := an61) (g := 120) (fun _ h => absurd h List.not_mem_nil) (by decide +kernel)
set_option maxRecDepth 1000000 in
def an62 : List (Nat × List (Nat × An)) := []
set_option maxRecDepth 1000000 in
theorem ok62 : SmOK rgT sm62 := vfy_sp (T := []) (AN := an62) (g := 102) (fun _ h => absurd h List.not_mem_nil) (by decide +kernel)
set_option maxRecDepth 1000000 in
def an63 : List (Nat × List (Nat × An)) := [(76, [(5, ([((0, 4, 0, (0, [])), 0, 2147483647), ((0, 3, 0, (0, [])), (-2147483648), 2147483647)], ([], [], []), [], [], [], 0, true))])]
set_option maxRecDepth 1000000 in
theorem ok63 : SmOK rgT sm63 := vfy_sp (T := [sm33]) (AN := an63) (g := 300) (List.forall_mem_cons.mpr ⟨ok33, fun _ h => absurd h List.not_mem_nil⟩) (by decide +kernel)
set_option maxRecDepth 1000000 in
def an64 : List (Nat × List (Nat × An)) := []
set_option maxRecDepth 1000000 in
theorem ok64 : SmOK rgT sm64 := vfy_sp (T := [sm63, sm62, sm61]) (AN := an64) (g := 225) (List.forall_mem_cons.mpr ⟨ok63, List.forall_mem_cons.mpr ⟨ok62, List.forall_mem_cons.mpr ⟨ok61, fun _ h => absurd h List.not_mem_nil⟩⟩⟩) (by decide +kernel)
set_option maxRecDepth 1000000 in
def an65 : List (Nat × List (Nat × An)) := []
set_option maxRecDepth 1000000 in
theorem ok65 : SmOK rgT sm65 := vfy_sp (T := []) (AN := an65) (g := 323) (fun _ h => absurd h List.not_mem_nil) (by decide +kernel)
set_option maxRecDepth 1000000 in
def an66 : List (Nat × List (Nat × An)) := []
set_option maxRecDepth 1000000 in
theorem ok66 : SmOK rgT sm66 := vfy_sp (T := []) (AN := an66) (g := 138) (fun _ h => absurd h List.not_mem_nil) (by decide +kernel)
set_option maxRecDepth 1000000 in
def an67 : List (Nat × List (Nat × An)) := []
set_option maxRecDepth 1000000 in
theorem ok67 : SmOK rgT sm67 := vfy_sp (T := []) (AN := an67) (g := 171) (fun _ h => absurd h List.not_mem_nil) (by decide +kernel)
set_option maxRecDepth 1000000 in
def an68 : List (Nat × List (Nat × An)) := []
set_option maxRecDepth 1000000 in
theorem ok68 : SmOK rgT sm68 := vfy_sp (T := [sm67]) (AN := an68) (g := 201) (List.forall_mem_cons.mpr ⟨ok67, fun _ h => absurd h List.not_mem_nil⟩) (by decide +kernel)
set_option maxRecDepth 1000000 in
def an69 : List (Nat × List (Nat × An)) := []
set_option maxRecDepth 1000000 in
theorem ok69 : SmOK rgT sm69 := vfy_sp (T := []) (AN := an69) (g := 124) (fun _ h => absurd h List.not_mem_nil) (by decide +kernel)
set_option maxRecDepth 1000000 in
def an70 : List (Nat × List (Nat × An)) := []
set_option maxRecDepth 1000000 in
theorem ok70 : SmOK rgT sm70 := vfy_sp (T := []) (AN := an70) (g := 272) (fun _ h => absurd h List.not_mem_nil) (by decide +kernel)
set_option maxRecDepth 1000000 in
def an71 : List (Nat × List (Nat × An)) := []
set_option maxRecDepth 1000000 in
theorem ok71 : SmOK rgT sm71 := vfy_sp (T := [sm70, sm69]) (AN := an71) (g := 220) (List.forall_mem_cons.mpr ⟨ok70, List.forall_mem_cons.mpr ⟨ok69, fun _ h => absurd h List.not_mem_nil⟩⟩) (by decide +kernel)
set_option maxRecDepth 1000000 in
def an72 : List (Nat × List (Nat × An)) := []
set_option maxRecDepth 1000000 in
theorem ok72 : SmOK rgT sm72 := vfy_sp (T := [sm43]) (AN := an72) (g := 909) (List.forall_mem_cons.mpr ⟨ok43, fun _ h => absurd h List.not_mem_nil⟩) (by decide +kernel)
set_option maxRecDepth 1000000 in
def an73 : List (Nat × List (Nat × An)) := []
set_option maxRecDepth 1000000 in
theorem ok73 : SmOK rgT sm73 := vfy_sp (T := [sm72]) (AN := an73) (g := 121) (List.forall_mem_cons.mpr ⟨ok72, fun _ h => absurd h List.not_mem_nil⟩) (by decide +kernel)
set_option maxRecDepth 1000000 in
def an74 : List (Nat × List (Nat × An)) := []
set_option maxRecDepth 1000000 in
theorem ok74 : SmOK rgT sm74 := vfy_sp (T := [sm57]) (AN := an74) (g := 166) (List.forall_mem_cons.mpr ⟨ok57, fun _ h => absurd h List.not_mem_nil⟩) (by decide +kernel)
set_option maxRecDepth 1000000 in
def an75 : List (Nat × List (Nat × An)) := []
set_option maxRecDepth 1000000 in
theorem ok75 : SmOK rgT sm75 := vfy_sp (T := [sm62, sm61]) (AN := an75) (g := 265) (List.forall_mem_cons.mpr ⟨ok62, List.forall_mem_cons.mpr ⟨ok61, fun _ h => absurd h List.not_mem_nil⟩⟩) (by decide +kernel)
set_option maxRecDepth 1000000 in
def an76 : List (Nat × List (Nat × An)) := []
set_option maxRecDepth 1000000 in
theorem ok76 : SmOK rgT sm76 := vfy_sp (T := [sm75, sm74, sm72]) (AN := an76) (g := 207) (List.forall_mem_cons.mpr ⟨ok75, List.forall_mem_cons.mpr ⟨ok74, List.forall_mem_cons.mpr ⟨ok72, fun _ h => absurd h List.not_mem_nil⟩⟩⟩) (by decide +kernel)
set_option maxRecDepth 1000000 in
def an77 : List (Nat × List (Nat × An)) := [(11, [(16, ([((0, 3, 0, (0, [])), 0, 10)], ([], [], []), [], [], [], 0, false))])]
set_option maxRecDepth 1000000 in
theorem ok77 : SmOK rgT sm77 := vfy_sp (T := []) (AN := an77) (g := 107) (fun _ h => absurd h List.not_mem_nil) (by decide +kernel)
set_option maxRecDepth 1000000 in
def an78 : List (Nat × List (Nat × An)) := [(10, [(32, ([((0, 2, 0, (0, [])), (-1), 9), ((0, 1, 0, (0, [])), (-2147483648), 2147483647)], ([], [], []), [], [], [(0, 50, 0, 10), (0, 51, 0, 110)], 0, false)), (71, ([((0, 3, 0, (0, [])), (-2147483648), 2147483647), ((0, 4, 0, (0, [])), 0, 2147483647)], ([], [], []), [], [], [(0, 51, 0, 110)], 1, true))])]
set_option maxRecDepth 1000000 in
theorem ok78 : SmOK rgT sm78 := vfy_sp (T := [sm77]) (AN := an78) (g := 235) (List.forall_mem_cons.mpr ⟨ok77, fun _ h => absurd h List.not_mem_nil⟩) (by decide +kernel)
set_option maxRecDepth 1000000 in
def an79 : List (Nat × List (Nat × An)) := [(9, [(4, ([((0, 2, 0, (0, [])), (-2147483648), 2147483647), ((0, 3, 0, (0, [])), 0, 2147483647)], ([], [], []), [], [], [], 1, true))])]
set_option maxRecDepth 1000000 in
theorem ok79 : SmOK rgT sm79 := vfy_sp (T := [sm72]) (AN := an79) (g := 96) (List.forall_mem_cons.mpr ⟨ok72, fun _ h => absurd h List.not_mem_nil⟩) (by decide +kernel)
set_option maxRecDepth 1000000 in
def an80 : List (Nat × List (Nat × An)) := [(8, [(18, ([((0, 2, 0, (0, [])), 0, 2147483647)], ([], [], []), [], [], [], 0, true)), (53, ([((0, 2, 0, (0, [])), 0, 2147483647)], ([], [], []), [], [], [], 0, true))])]
set_option maxRecDepth 1000000 in
theorem ok80 : SmOK rgT sm80 := vfy_sp (T := [sm79, sm78, sm0]) (AN := an80) (g := 219) (List.forall_mem_cons.mpr ⟨ok79, List.forall_mem_cons.mpr ⟨ok78, List.forall_mem_cons.mpr ⟨ok0, fun _ h => absurd h List.not_mem_nil⟩⟩⟩) (by decide +kernel)
set_option maxRecDepth 1000000 in
def an81 : List (Nat × List (Nat × An)) := []
set_option maxRecDepth 1000000 in
theorem ok81 : SmOK rgT sm81 := vfy_sp (T := []) (AN := an81) (g := 81) (fun _ h => absurd h List.not_mem_nil) (by decide +kernel)
set_option maxRecDepth 1000000 in
def an82 : List (Nat × List (Nat × An)) := []
set_option maxRecDepth 1000000 in
theorem ok82 : SmOK rgT sm82 := vfy_sp (T := [sm81, sm80]) (AN := an82) (g := 120) (List.forall_mem_cons.mpr ⟨ok81, List.forall_mem_cons.mpr ⟨ok80, fun _ h => absurd h List.not_mem_nil⟩⟩) (by decide +kernel)
set_option maxRecDepth 1000000 in
def an83 : List (Nat × List (Nat × An)) := [(117, [(15, ([((0, 2, 0, (0, [])), 0, 2147483647), ((0, 1, 0, (0, [])), (-2147483648), 2147483647)], ([], [], []), [], [], [], 0, true))])]
set_option maxRecDepth 1000000 in
theorem ok83 : SmOK rgT sm83 := vfy_sp (T := [sm81, sm80, sm74, sm43]) (AN := an83) (g := 137) (List.forall_mem_cons.mpr ⟨ok81, List.forall_mem_cons.mpr ⟨ok80, List.forall_mem_cons.mpr ⟨ok74, List.forall_mem_cons.mpr ⟨ok43, fun _ h => absurd h List.not_mem_nil⟩⟩⟩⟩) (by decide +kernel)
set_option maxRecDepth 1000000 in
def an84 : List (Nat × List (Nat × An)) := [(118, [(4, ([((0, 2, 0, (0, [])), 0, 2147483647), ((0, 1, 0, (0, [])), (-2147483648), 2147483647)], ([], [], []), [], [], [], 0, true))])]
set_option maxRecDepth 1000000 in
theorem ok84 : SmOK rgT sm84 := vfy_sp (T := [sm43]) (AN := an84) (g := 161) (List.forall_mem_cons.mpr ⟨ok43, fun _ h => absurd h List.not_mem_nil⟩) (by decide +kernel)
set_option maxRecDepth 1000000 in
def an85 : List (Nat × List (Nat × An)) := []
set_option maxRecDepth 1000000 in
theorem ok85 : SmOK rgT sm85 := vfy_sp (T := []) (AN := an85) (g := 400) (fun _ h => absurd h List.not_mem_nil) (by decide +kernel)
set_option maxRecDepth 1000000 in
def an86 : List (Nat × List (Nat × An)) := []
set_option maxRecDepth 1000000 in
theorem ok86 : SmOK rgT sm86 := vfy_sp (T := [sm85]) (AN := an86) (g := 364) (List.forall_mem_cons.mpr ⟨ok85, fun _ h => absurd h List.not_mem_nil⟩) (by decide +kernel)
set_option maxRecDepth 1000000 in
def an87 : List (Nat × List (Nat × An)) := []
set_option maxRecDepth 1000000 in
theorem ok87 : SmOK rgT sm87 := vfy_sp (T := []) (AN := an87) (g := 138) (fun _ h => absurd h List.not_mem_nil) (by decide +kernel)
set_option maxRecDepth 1000000 in
def an88 : List (Nat × List (Nat × An)) := []
set_option maxRecDepth 1000000 in
theorem ok88 : SmOK rgT sm88 := vfy_sp (T := [sm33]) (AN := an88) (g := 144) (List.forall_mem_cons.mpr ⟨ok33, fun _ h => absurd h List.not_mem_nil⟩) (by decide +kernel)
set_option maxRecDepth 1000000 in
def an89 : List (Nat × List (Nat × An)) := []
set_option maxRecDepth 1000000 in
theorem ok89 : SmOK rgT sm89 := vfy_sp (T := [sm33]) (AN := an89) (g := 1905) (List.forall_mem_cons.mpr ⟨ok33, fun _ h => absurd h List.not_mem_nil⟩) (by decide +kernel)
