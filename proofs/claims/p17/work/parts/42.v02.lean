/-! Printed by wip/ai/tab.py. -/
set_option maxRecDepth 1000000 in
def an66 : List (Nat × List (Nat × An)) := [(72, [(4, ([((0, 3, 0, (0, [])), 0, 2147483647), ((0, 2, 0, (0, [])), (-2147483648), 2147483647)], ([], [], []), [], [], [], 0, true))])]
set_option maxRecDepth 1000000 in
theorem ok66 : SmOK rgT sm66 := vfy_sp (T := [sm47]) (AN := an66) (g := 94) (List.forall_mem_cons.mpr ⟨ok47, fun _ h => absurd h List.not_mem_nil⟩) (by decide +kernel)
set_option maxRecDepth 1000000 in
def an68 : List (Nat × List (Nat × An)) := []
set_option maxRecDepth 1000000 in
theorem ok68 : SmOK rgT sm68 := vfy_sp (T := [sm66, sm65, sm34]) (AN := an68) (g := 191) (List.forall_mem_cons.mpr ⟨ok66, List.forall_mem_cons.mpr ⟨ok65, List.forall_mem_cons.mpr ⟨ok34, fun _ h => absurd h List.not_mem_nil⟩⟩⟩) (by decide +kernel)
set_option maxRecDepth 1000000 in
def an70 : List (Nat × List (Nat × An)) := []
set_option maxRecDepth 1000000 in
theorem ok70 : SmOK rgT sm70 := vfy_sp (T := [sm34]) (AN := an70) (g := 314) (List.forall_mem_cons.mpr ⟨ok34, fun _ h => absurd h List.not_mem_nil⟩) (by decide +kernel)
set_option maxRecDepth 1000000 in
def an71 : List (Nat × List (Nat × An)) := []
set_option maxRecDepth 1000000 in
theorem ok71 : SmOK rgT sm71 := vfy_sp (T := [sm34]) (AN := an71) (g := 133) (List.forall_mem_cons.mpr ⟨ok34, fun _ h => absurd h List.not_mem_nil⟩) (by decide +kernel)
set_option maxRecDepth 1000000 in
def an73 : List (Nat × List (Nat × An)) := []
set_option maxRecDepth 1000000 in
theorem ok73 : SmOK rgT sm73 := vfy_sp (T := []) (AN := an73) (g := 594) (fun _ h => absurd h List.not_mem_nil) (by decide +kernel)
set_option maxRecDepth 1000000 in
def an75 : List (Nat × List (Nat × An)) := [(124, [(44, ([((0, 5, 0, (0, [])), 0, 2147483647), ((0, 3, 0, (0, [])), (-2147483648), 2147483647), ((0, 4, 0, (0, [])), (-2147483648), 2147483647)], ([], [], []), [(9, 320, (0, []), (0, [])), (9, 352, (0, []), (0, []))], [], [], 0, true))])]
set_option maxRecDepth 1000000 in
theorem ok75 : SmOK rgT sm75 := vfy_sp (T := [sm73, sm71, sm35]) (AN := an75) (g := 246) (List.forall_mem_cons.mpr ⟨ok73, List.forall_mem_cons.mpr ⟨ok71, List.forall_mem_cons.mpr ⟨ok35, fun _ h => absurd h List.not_mem_nil⟩⟩⟩) (by decide +kernel)
set_option maxRecDepth 1000000 in
def an76 : List (Nat × List (Nat × An)) := [(125, [(21, ([((0, 3, 0, (0, [])), 0, 2147483647), ((0, 2, 0, (0, [])), (-2147483648), 2147483647)], ([], [], []), [], [], [], 0, true))])]
set_option maxRecDepth 1000000 in
theorem ok76 : SmOK rgT sm76 := vfy_sp (T := [sm71]) (AN := an76) (g := 179) (List.forall_mem_cons.mpr ⟨ok71, fun _ h => absurd h List.not_mem_nil⟩) (by decide +kernel)
set_option maxRecDepth 1000000 in
def an77 : List (Nat × List (Nat × An)) := []
set_option maxRecDepth 1000000 in
theorem ok77 : SmOK rgT sm77 := vfy_sp (T := [sm34]) (AN := an77) (g := 190) (List.forall_mem_cons.mpr ⟨ok34, fun _ h => absurd h List.not_mem_nil⟩) (by decide +kernel)
set_option maxRecDepth 1000000 in
def an78 : List (Nat × List (Nat × An)) := []
set_option maxRecDepth 1000000 in
theorem ok78 : SmOK rgT sm78 := vfy_sp (T := [sm34]) (AN := an78) (g := 113) (List.forall_mem_cons.mpr ⟨ok34, fun _ h => absurd h List.not_mem_nil⟩) (by decide +kernel)
set_option maxRecDepth 1000000 in
def an79 : List (Nat × List (Nat × An)) := []
set_option maxRecDepth 1000000 in
theorem ok79 : SmOK rgT sm79 := vfy_sp (T := []) (AN := an79) (g := 337) (fun _ h => absurd h List.not_mem_nil) (by decide +kernel)
set_option maxRecDepth 1000000 in
def an80 : List (Nat × List (Nat × An)) := [(81, [(6, ([((0, 4, 0, (0, [])), 0, 2147483647), ((0, 3, 0, (0, [])), (-2147483648), 2147483647)], ([], [], []), [], [], [], 0, true))])]
set_option maxRecDepth 1000000 in
theorem ok80 : SmOK rgT sm80 := vfy_sp (T := [sm79, sm78]) (AN := an80) (g := 167) (List.forall_mem_cons.mpr ⟨ok79, List.forall_mem_cons.mpr ⟨ok78, fun _ h => absurd h List.not_mem_nil⟩⟩) (by decide +kernel)
set_option maxRecDepth 1000000 in
def an81 : List (Nat × List (Nat × An)) := [(18, [(13, ([((0, 3, 0, (0, [])), (-2147483648), 2147483647), ((1, 0, 38, (3, [])), 0, 30)], ([], [], []), [], [], [(0, 39, 0, 29), (0, 38, 3, 3)], 1, true))])]
set_option maxRecDepth 1000000 in
theorem ok81 : SmOK rgT sm81 := vfy_sp (T := [sm80]) (AN := an81) (g := 157) (List.forall_mem_cons.mpr ⟨ok80, fun _ h => absurd h List.not_mem_nil⟩) (by decide +kernel)
set_option maxRecDepth 1000000 in
def an82 : List (Nat × List (Nat × An)) := [(19, [(7, ([((0, 3, 0, (0, [])), 0, 2147483647)], ([], [], []), [], [], [(0, 38, 4, 4)], 0, true))])]
set_option maxRecDepth 1000000 in
theorem ok82 : SmOK rgT sm82 := vfy_sp (T := []) (AN := an82) (g := 193) (fun _ h => absurd h List.not_mem_nil) (by decide +kernel)
set_option maxRecDepth 1000000 in
def an83 : List (Nat × List (Nat × An)) := [(20, [(5, ([((0, 3, 0, (0, [])), (-2147483648), 2147483647), ((0, 4, 0, (0, [])), 0, 2147483647)], ([], [], []), [], [], [], 1, true))])]
set_option maxRecDepth 1000000 in
theorem ok83 : SmOK rgT sm83 := vfy_sp (T := []) (AN := an83) (g := 104) (fun _ h => absurd h List.not_mem_nil) (by decide +kernel)
set_option maxRecDepth 1000000 in
def an84 : List (Nat × List (Nat × An)) := [(17, [(40, ([((0, 4, 0, (0, [])), (-2147483648), 2147483647), ((0, 6, 0, (0, [])), 0, 2147483647), ((0, 5, 0, (0, [])), 0, 2147483647)], ([], [], []), [], [], [], 1, true)), (60, ([((0, 4, 0, (0, [])), (-2147483648), 2147483647), ((0, 5, 0, (0, [])), 0, 2147483647)], ([], [], []), [], [], [], 1, true))])]
set_option maxRecDepth 1000000 in
theorem ok84 : SmOK rgT sm84 := vfy_sp (T := [sm83, sm82, sm81]) (AN := an84) (g := 331) (List.forall_mem_cons.mpr ⟨ok83, List.forall_mem_cons.mpr ⟨ok82, List.forall_mem_cons.mpr ⟨ok81, fun _ h => absurd h List.not_mem_nil⟩⟩⟩) (by decide +kernel)
set_option maxRecDepth 1000000 in
def an85 : List (Nat × List (Nat × An)) := []
set_option maxRecDepth 1000000 in
theorem ok85 : SmOK rgT sm85 := vfy_sp (T := [sm84]) (AN := an85) (g := 93) (List.forall_mem_cons.mpr ⟨ok84, fun _ h => absurd h List.not_mem_nil⟩) (by decide +kernel)
set_option maxRecDepth 1000000 in
def an86 : List (Nat × List (Nat × An)) := [(102, [(3, ([((0, 2, 0, (0, [])), (-2147483648), 2147483647)], ([], [], []), [], [], [], 0, false))])]
set_option maxRecDepth 1000000 in
theorem ok86 : SmOK rgT sm86 := vfy_sp (T := []) (AN := an86) (g := 95) (fun _ h => absurd h List.not_mem_nil) (by decide +kernel)
set_option maxRecDepth 1000000 in
def an87 : List (Nat × List (Nat × An)) := []
set_option maxRecDepth 1000000 in
theorem ok87 : SmOK rgT sm87 := vfy_sp (T := [sm86]) (AN := an87) (g := 99) (List.forall_mem_cons.mpr ⟨ok86, fun _ h => absurd h List.not_mem_nil⟩) (by decide +kernel)
set_option maxRecDepth 1000000 in
def an88 : List (Nat × List (Nat × An)) := []
set_option maxRecDepth 1000000 in
theorem ok88 : SmOK rgT sm88 := vfy_sp (T := []) (AN := an88) (g := 69) (fun _ h => absurd h List.not_mem_nil) (by decide +kernel)
set_option maxRecDepth 1000000 in
def an89 : List (Nat × List (Nat × An)) := []
set_option maxRecDepth 1000000 in
theorem ok89 : SmOK rgT sm89 := vfy_sp (T := [sm88]) (AN := an89) (g := 95) (List.forall_mem_cons.mpr ⟨ok88, fun _ h => absurd h List.not_mem_nil⟩) (by decide +kernel)
set_option maxRecDepth 1000000 in
def an90 : List (Nat × List (Nat × An)) := []
set_option maxRecDepth 1000000 in
theorem ok90 : SmOK rgT sm90 := vfy_sp (T := []) (AN := an90) (g := 93) (fun _ h => absurd h List.not_mem_nil) (by decide +kernel)
set_option maxRecDepth 1000000 in
def an91 : List (Nat × List (Nat × An)) := []
set_option maxRecDepth 1000000 in
theorem ok91 : SmOK rgT sm91 := vfy_sp (T := []) (AN := an91) (g := 81) (fun _ h => absurd h List.not_mem_nil) (by decide +kernel)
set_option maxRecDepth 1000000 in
def an92 : List (Nat × List (Nat × An)) := [(32, [(5, ([((1, 0, 55, (6, [])), (-2147483648), 2147483647)], ([], [], []), [], [], [(0, 55, 6, 6), (0, 55, 8, 8)], 0, true))])]
set_option maxRecDepth 1000000 in
theorem ok92 : SmOK rgT sm92 := vfy_sp (T := [sm91]) (AN := an92) (g := 122) (List.forall_mem_cons.mpr ⟨ok91, fun _ h => absurd h List.not_mem_nil⟩) (by decide +kernel)
set_option maxRecDepth 1000000 in
def an93 : List (Nat × List (Nat × An)) := [(31, [(0, ([((1, 0, 55, (6, [])), (-2147483648), 2147483647)], ([], [], []), [], [], [(0, 55, 6, 6), (0, 55, 8, 8)], 0, true))])]
set_option maxRecDepth 1000000 in
theorem ok93 : SmOK rgT sm93 := vfy_sp (T := [sm91]) (AN := an93) (g := 103) (List.forall_mem_cons.mpr ⟨ok91, fun _ h => absurd h List.not_mem_nil⟩) (by decide +kernel)
set_option maxRecDepth 1000000 in
def an94 : List (Nat × List (Nat × An)) := [(30, [(27, ([((1, 0, 55, (6, [])), (-2147483648), 2147483647)], ([], [], []), [], [], [(0, 55, 6, 6), (0, 55, 8, 8)], 0, true))])]
set_option maxRecDepth 1000000 in
theorem ok94 : SmOK rgT sm94 := vfy_sp (T := [sm93, sm92, sm91]) (AN := an94) (g := 1274) (List.forall_mem_cons.mpr ⟨ok93, List.forall_mem_cons.mpr ⟨ok92, List.forall_mem_cons.mpr ⟨ok91, fun _ h => absurd h List.not_mem_nil⟩⟩⟩) (by decide +kernel)
set_option maxRecDepth 1000000 in
def an95 : List (Nat × List (Nat × An)) := [(35, [(2, ([((0, 1, 0, (0, [])), 0, 2147483647)], ([], [], []), [], [], [], 0, true))])]
set_option maxRecDepth 1000000 in
theorem ok95 : SmOK rgT sm95 := vfy_sp (T := [sm91]) (AN := an95) (g := 857) (List.forall_mem_cons.mpr ⟨ok91, fun _ h => absurd h List.not_mem_nil⟩) (by decide +kernel)
set_option maxRecDepth 1000000 in
def an96 : List (Nat × List (Nat × An)) := []
set_option maxRecDepth 1000000 in
theorem ok96 : SmOK rgT sm96 := vfy_sp (T := []) (AN := an96) (g := 82) (fun _ h => absurd h List.not_mem_nil) (by decide +kernel)
set_option maxRecDepth 1000000 in
def an97 : List (Nat × List (Nat × An)) := []
set_option maxRecDepth 1000000 in
theorem ok97 : SmOK rgT sm97 := vfy_sp (T := []) (AN := an97) (g := 82) (fun _ h => absurd h List.not_mem_nil) (by decide +kernel)
set_option maxRecDepth 1000000 in
def an98 : List (Nat × List (Nat × An)) := []
set_option maxRecDepth 1000000 in
theorem ok98 : SmOK rgT sm98 := vfy_sp (T := []) (AN := an98) (g := 85) (fun _ h => absurd h List.not_mem_nil) (by decide +kernel)
set_option maxRecDepth 1000000 in
def an99 : List (Nat × List (Nat × An)) := []
set_option maxRecDepth 1000000 in
theorem ok99 : SmOK rgT sm99 := vfy_sp (T := []) (AN := an99) (g := 84) (fun _ h => absurd h List.not_mem_nil) (by decide +kernel)
set_option maxRecDepth 1000000 in
def an100 : List (Nat × List (Nat × An)) := [(46, [(2, ([((0, 2, 0, (0, [])), 0, 2147483647)], ([], [], []), [], [], [], 0, true))])]
set_option maxRecDepth 1000000 in
theorem ok100 : SmOK rgT sm100 := vfy_sp (T := [sm99, sm98, sm97, sm96]) (AN := an100) (g := 85) (List.forall_mem_cons.mpr ⟨ok99, List.forall_mem_cons.mpr ⟨ok98, List.forall_mem_cons.mpr ⟨ok97, List.forall_mem_cons.mpr ⟨ok96, fun _ h => absurd h List.not_mem_nil⟩⟩⟩⟩) (by decide +kernel)
set_option maxRecDepth 1000000 in
def an101 : List (Nat × List (Nat × An)) := []
set_option maxRecDepth 1000000 in
theorem ok101 : SmOK rgT sm101 := vfy_sp (T := []) (AN := an101) (g := 84) (fun _ h => absurd h List.not_mem_nil) (by decide +kernel)
set_option maxRecDepth 1000000 in
def an102 : List (Nat × List (Nat × An)) := [(45, [(0, ([((1, 0, 55, (11, [])), (-2147483648), 2147483647)], ([], [], []), [], [], [(0, 55, 11, 11)], 0, false))])]
set_option maxRecDepth 1000000 in
theorem ok102 : SmOK rgT sm102 := vfy_sp (T := [sm99, sm98, sm96]) (AN := an102) (g := 93) (List.forall_mem_cons.mpr ⟨ok99, List.forall_mem_cons.mpr ⟨ok98, List.forall_mem_cons.mpr ⟨ok96, fun _ h => absurd h List.not_mem_nil⟩⟩⟩) (by decide +kernel)
set_option maxRecDepth 1000000 in
def an103 : List (Nat × List (Nat × An)) := []
set_option maxRecDepth 1000000 in
theorem ok103 : SmOK rgT sm103 := vfy_sp (T := [sm102, sm100, sm98]) (AN := an103) (g := 99) (List.forall_mem_cons.mpr ⟨ok102, List.forall_mem_cons.mpr ⟨ok100, List.forall_mem_cons.mpr ⟨ok98, fun _ h => absurd h List.not_mem_nil⟩⟩⟩) (by decide +kernel)
set_option maxRecDepth 1000000 in
def an104 : List (Nat × List (Nat × An)) := []
set_option maxRecDepth 1000000 in
theorem ok104 : SmOK rgT sm104 := vfy_sp (T := [sm103, sm101, sm100, sm97, sm96]) (AN := an104) (g := 161) (List.forall_mem_cons.mpr ⟨ok103, List.forall_mem_cons.mpr ⟨ok101, List.forall_mem_cons.mpr ⟨ok100, List.forall_mem_cons.mpr ⟨ok97, List.forall_mem_cons.mpr ⟨ok96, fun _ h => absurd h List.not_mem_nil⟩⟩⟩⟩⟩) (by decide +kernel)
set_option maxRecDepth 1000000 in
def an105 : List (Nat × List (Nat × An)) := []
set_option maxRecDepth 1000000 in
theorem ok105 : SmOK rgT sm105 := vfy_sp (T := [sm102, sm99, sm91]) (AN := an105) (g := 306) (List.forall_mem_cons.mpr ⟨ok102, List.forall_mem_cons.mpr ⟨ok99, List.forall_mem_cons.mpr ⟨ok91, fun _ h => absurd h List.not_mem_nil⟩⟩⟩) (by decide +kernel)
set_option maxRecDepth 1000000 in
def an106 : List (Nat × List (Nat × An)) := []
set_option maxRecDepth 1000000 in
theorem ok106 : SmOK rgT sm106 := vfy_sp (T := [sm101]) (AN := an106) (g := 114) (List.forall_mem_cons.mpr ⟨ok101, fun _ h => absurd h List.not_mem_nil⟩) (by decide +kernel)
set_option maxRecDepth 1000000 in
def an107 : List (Nat × List (Nat × An)) := []
set_option maxRecDepth 1000000 in
theorem ok107 : SmOK rgT sm107 := vfy_sp (T := [sm106, sm105, sm102, sm99]) (AN := an107) (g := 102) (List.forall_mem_cons.mpr ⟨ok106, List.forall_mem_cons.mpr ⟨ok105, List.forall_mem_cons.mpr ⟨ok102, List.forall_mem_cons.mpr ⟨ok99, fun _ h => absurd h List.not_mem_nil⟩⟩⟩⟩) (by decide +kernel)
set_option maxRecDepth 1000000 in
def an108 : List (Nat × List (Nat × An)) := [(27, [(36, ([((0, 1, 0, (0, [])), 0, 2147483647)], ([], [], []), [], [], [], 0, true))])]
set_option maxRecDepth 1000000 in
theorem ok108 : SmOK rgT sm108 := vfy_sp (T := [sm107, sm104, sm100, sm95, sm94, sm90]) (AN := an108) (g := 214) (List.forall_mem_cons.mpr ⟨ok107, List.forall_mem_cons.mpr ⟨ok104, List.forall_mem_cons.mpr ⟨ok100, List.forall_mem_cons.mpr ⟨ok95, List.forall_mem_cons.mpr ⟨ok94, List.forall_mem_cons.mpr ⟨ok90, fun _ h => absurd h List.not_mem_nil⟩⟩⟩⟩⟩⟩) (by decide +kernel)
set_option maxRecDepth 1000000 in
def an109 : List (Nat × List (Nat × An)) := []
set_option maxRecDepth 1000000 in
theorem ok109 : SmOK rgT sm109 := vfy_sp (T := []) (AN := an109) (g := 83) (fun _ h => absurd h List.not_mem_nil) (by decide +kernel)
set_option maxRecDepth 1000000 in
def an110 : List (Nat × List (Nat × An)) := [(28, [(35, ([((0, 3, 0, (0, [])), 0, 2147483647)], ([], [], []), [], [], [(0, 9, 3, 1103)], 0, true))])]
set_option maxRecDepth 1000000 in
theorem ok110 : SmOK rgT sm110 := vfy_sp (T := [sm109]) (AN := an110) (g := 321) (List.forall_mem_cons.mpr ⟨ok109, fun _ h => absurd h List.not_mem_nil⟩) (by decide +kernel)
set_option maxRecDepth 1000000 in
def an111 : List (Nat × List (Nat × An)) := []
set_option maxRecDepth 1000000 in
theorem ok111 : SmOK rgT sm111 := vfy_sp (T := [sm110, sm108, sm88]) (AN := an111) (g := 185) (List.forall_mem_cons.mpr ⟨ok110, List.forall_mem_cons.mpr ⟨ok108, List.forall_mem_cons.mpr ⟨ok88, fun _ h => absurd h List.not_mem_nil⟩⟩⟩) (by decide +kernel)
set_option maxRecDepth 1000000 in
def an112 : List (Nat × List (Nat × An)) := []
set_option maxRecDepth 1000000 in
theorem ok112 : SmOK rgT sm112 := vfy_sp (T := []) (AN := an112) (g := 138) (fun _ h => absurd h List.not_mem_nil) (by decide +kernel)
