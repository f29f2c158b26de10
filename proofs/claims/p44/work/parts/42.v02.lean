/-! Printed by wip/ai/tab.py. -/
set_option maxRecDepth 1000000 in
def an52 : List (Nat × List (Nat × An)) := []
set_option maxRecDepth 1000000 in
theorem ok52 : SmOK rgT sm52 := vfy_sp (T := [sm36]) (AN := an52) (g := 74) (List.forall_mem_cons.mpr ⟨ok36, fun _ h => absurd h List.not_mem_nil⟩) (by decide +kernel)
set_option maxRecDepth 1000000 in
def an53 : List (Nat × List (Nat × An)) := []
set_option maxRecDepth 1000000 in
theorem ok53 : SmOK rgT sm53 := vfy_sp (T := [sm52, sm36, sm32]) (AN := an53) (g := 128) (List.forall_mem_cons.mpr ⟨ok52, List.forall_mem_cons.mpr ⟨ok36, List.forall_mem_cons.mpr ⟨ok32, fun _ h => absurd h List.not_mem_nil⟩⟩⟩) (by decide +kernel)
set_option maxRecDepth 1000000 in
def an54 : List (Nat × List (Nat × An)) := []
set_option maxRecDepth 1000000 in
theorem ok54 : SmOK rgT sm54 := vfy_sp (T := [sm53]) (AN := an54) (g := 121) (List.forall_mem_cons.mpr ⟨ok53, fun _ h => absurd h List.not_mem_nil⟩) (by decide +kernel)
set_option maxRecDepth 1000000 in
def an55 : List (Nat × List (Nat × An)) := []
set_option maxRecDepth 1000000 in
theorem ok55 : SmOK rgT sm55 := vfy_sp (T := [sm39]) (AN := an55) (g := 85) (List.forall_mem_cons.mpr ⟨ok39, fun _ h => absurd h List.not_mem_nil⟩) (by decide +kernel)
set_option maxRecDepth 1000000 in
def an56 : List (Nat × List (Nat × An)) := []
set_option maxRecDepth 1000000 in
theorem ok56 : SmOK rgT sm56 := vfy_sp (T := []) (AN := an56) (g := 87) (fun _ h => absurd h List.not_mem_nil) (by decide +kernel)
set_option maxRecDepth 1000000 in
def an57 : List (Nat × List (Nat × An)) := [(70, [(2, ([((0, 3, 0, (0, [])), 0, 2147483647)], ([], [], []), [], [], [], 0, true))])]
set_option maxRecDepth 1000000 in
theorem ok57 : SmOK rgT sm57 := vfy_sp (T := [sm56, sm55]) (AN := an57) (g := 95) (List.forall_mem_cons.mpr ⟨ok56, List.forall_mem_cons.mpr ⟨ok55, fun _ h => absurd h List.not_mem_nil⟩⟩) (by decide +kernel)
set_option maxRecDepth 1000000 in
def an58 : List (Nat × List (Nat × An)) := []
set_option maxRecDepth 1000000 in
theorem ok58 : SmOK rgT sm58 := vfy_sp (T := [sm57, sm43, sm36]) (AN := an58) (g := 90) (List.forall_mem_cons.mpr ⟨ok57, List.forall_mem_cons.mpr ⟨ok43, List.forall_mem_cons.mpr ⟨ok36, fun _ h => absurd h List.not_mem_nil⟩⟩⟩) (by decide +kernel)
set_option maxRecDepth 1000000 in
def an59 : List (Nat × List (Nat × An)) := []
set_option maxRecDepth 1000000 in
theorem ok59 : SmOK rgT sm59 := vfy_sp (T := [sm38, sm37, sm36, sm32]) (AN := an59) (g := 95) (List.forall_mem_cons.mpr ⟨ok38, List.forall_mem_cons.mpr ⟨ok37, List.forall_mem_cons.mpr ⟨ok36, List.forall_mem_cons.mpr ⟨ok32, fun _ h => absurd h List.not_mem_nil⟩⟩⟩⟩) (by decide +kernel)
set_option maxRecDepth 1000000 in
def an60 : List (Nat × List (Nat × An)) := []
set_option maxRecDepth 1000000 in
theorem ok60 : SmOK rgT sm60 := vfy_sp (T := [sm59, sm58, sm53, sm36]) (AN := an60) (g := 175) (List.forall_mem_cons.mpr ⟨ok59, List.forall_mem_cons.mpr ⟨ok58, List.forall_mem_cons.mpr ⟨ok53, List.forall_mem_cons.mpr ⟨ok36, fun _ h => absurd h List.not_mem_nil⟩⟩⟩⟩) (by decide +kernel)
set_option maxRecDepth 1000000 in
def an61 : List (Nat × List (Nat × An)) := [(11, [(16, ([((0, 3, 0, (0, [])), 0, 10)], ([], [], []), [], [], [], 0, false))])]
set_option maxRecDepth 1000000 in
theorem ok61 : SmOK rgT sm61 := vfy_sp (T := []) (AN := an61) (g := 107) (fun _ h => absurd h List.not_mem_nil) (by decide +kernel)
set_option maxRecDepth 1000000 in
def an62 : List (Nat × List (Nat × An)) := [(10, [(32, ([((0, 2, 0, (0, [])), (-1), 9), ((0, 1, 0, (0, [])), (-2147483648), 2147483647)], ([], [], []), [], [], [(0, 50, 0, 10), (0, 51, 0, 110)], 0, false)), (71, ([((0, 3, 0, (0, [])), (-2147483648), 2147483647), ((0, 4, 0, (0, [])), 0, 2147483647)], ([], [], []), [], [], [(0, 51, 0, 110)], 1, true))])]
set_option maxRecDepth 1000000 in
theorem ok62 : SmOK rgT sm62 := vfy_sp (T := [sm61]) (AN := an62) (g := 235) (List.forall_mem_cons.mpr ⟨ok61, fun _ h => absurd h List.not_mem_nil⟩) (by decide +kernel)
set_option maxRecDepth 1000000 in
def an63 : List (Nat × List (Nat × An)) := [(9, [(4, ([((0, 2, 0, (0, [])), (-2147483648), 2147483647), ((0, 3, 0, (0, [])), 0, 2147483647)], ([], [], []), [], [], [], 1, true))])]
set_option maxRecDepth 1000000 in
theorem ok63 : SmOK rgT sm63 := vfy_sp (T := [sm53]) (AN := an63) (g := 96) (List.forall_mem_cons.mpr ⟨ok53, fun _ h => absurd h List.not_mem_nil⟩) (by decide +kernel)
set_option maxRecDepth 1000000 in
def an64 : List (Nat × List (Nat × An)) := [(8, [(18, ([((0, 2, 0, (0, [])), 0, 2147483647)], ([], [], []), [], [], [], 0, true)), (53, ([((0, 2, 0, (0, [])), 0, 2147483647)], ([], [], []), [], [], [], 0, true))])]
set_option maxRecDepth 1000000 in
theorem ok64 : SmOK rgT sm64 := vfy_sp (T := [sm63, sm62, sm36, sm32, sm0]) (AN := an64) (g := 142) (List.forall_mem_cons.mpr ⟨ok63, List.forall_mem_cons.mpr ⟨ok62, List.forall_mem_cons.mpr ⟨ok36, List.forall_mem_cons.mpr ⟨ok32, List.forall_mem_cons.mpr ⟨ok0, fun _ h => absurd h List.not_mem_nil⟩⟩⟩⟩⟩) (by decide +kernel)
set_option maxRecDepth 1000000 in
def an65 : List (Nat × List (Nat × An)) := []
set_option maxRecDepth 1000000 in
theorem ok65 : SmOK rgT sm65 := vfy_sp (T := []) (AN := an65) (g := 81) (fun _ h => absurd h List.not_mem_nil) (by decide +kernel)
set_option maxRecDepth 1000000 in
def an66 : List (Nat × List (Nat × An)) := []
set_option maxRecDepth 1000000 in
theorem ok66 : SmOK rgT sm66 := vfy_sp (T := [sm65, sm64]) (AN := an66) (g := 120) (List.forall_mem_cons.mpr ⟨ok65, List.forall_mem_cons.mpr ⟨ok64, fun _ h => absurd h List.not_mem_nil⟩⟩) (by decide +kernel)
set_option maxRecDepth 1000000 in
def an67 : List (Nat × List (Nat × An)) := [(117, [(15, ([((0, 2, 0, (0, [])), 0, 2147483647), ((0, 1, 0, (0, [])), (-2147483648), 2147483647)], ([], [], []), [], [], [], 0, true))])]
set_option maxRecDepth 1000000 in
theorem ok67 : SmOK rgT sm67 := vfy_sp (T := [sm65, sm64, sm58, sm52, sm36]) (AN := an67) (g := 127) (List.forall_mem_cons.mpr ⟨ok65, List.forall_mem_cons.mpr ⟨ok64, List.forall_mem_cons.mpr ⟨ok58, List.forall_mem_cons.mpr ⟨ok52, List.forall_mem_cons.mpr ⟨ok36, fun _ h => absurd h List.not_mem_nil⟩⟩⟩⟩⟩) (by decide +kernel)
set_option maxRecDepth 1000000 in
def an68 : List (Nat × List (Nat × An)) := [(118, [(4, ([((0, 2, 0, (0, [])), 0, 2147483647), ((0, 1, 0, (0, [])), (-2147483648), 2147483647)], ([], [], []), [], [], [], 0, true))])]
set_option maxRecDepth 1000000 in
theorem ok68 : SmOK rgT sm68 := vfy_sp (T := [sm52, sm36]) (AN := an68) (g := 120) (List.forall_mem_cons.mpr ⟨ok52, List.forall_mem_cons.mpr ⟨ok36, fun _ h => absurd h List.not_mem_nil⟩⟩) (by decide +kernel)
set_option maxRecDepth 1000000 in
def an69 : List (Nat × List (Nat × An)) := []
set_option maxRecDepth 1000000 in
theorem ok69 : SmOK rgT sm69 := vfy_sp (T := []) (AN := an69) (g := 400) (fun _ h => absurd h List.not_mem_nil) (by decide +kernel)
set_option maxRecDepth 1000000 in
def an70 : List (Nat × List (Nat × An)) := []
set_option maxRecDepth 1000000 in
theorem ok70 : SmOK rgT sm70 := vfy_sp (T := [sm69, sm56]) (AN := an70) (g := 203) (List.forall_mem_cons.mpr ⟨ok69, List.forall_mem_cons.mpr ⟨ok56, fun _ h => absurd h List.not_mem_nil⟩⟩) (by decide +kernel)
set_option maxRecDepth 1000000 in
def an71 : List (Nat × List (Nat × An)) := []
set_option maxRecDepth 1000000 in
theorem ok71 : SmOK rgT sm71 := vfy_sp (T := [sm39]) (AN := an71) (g := 116) (List.forall_mem_cons.mpr ⟨ok39, fun _ h => absurd h List.not_mem_nil⟩) (by decide +kernel)
set_option maxRecDepth 1000000 in
def an72 : List (Nat × List (Nat × An)) := []
set_option maxRecDepth 1000000 in
theorem ok72 : SmOK rgT sm72 := vfy_sp (T := [sm40, sm39]) (AN := an72) (g := 122) (List.forall_mem_cons.mpr ⟨ok40, List.forall_mem_cons.mpr ⟨ok39, fun _ h => absurd h List.not_mem_nil⟩⟩) (by decide +kernel)
set_option maxRecDepth 1000000 in
def an73 : List (Nat × List (Nat × An)) := []
set_option maxRecDepth 1000000 in
theorem ok73 : SmOK rgT sm73 := vfy_sp (T := [sm40, sm39, sm36, sm32]) (AN := an73) (g := 131) (List.forall_mem_cons.mpr ⟨ok40, List.forall_mem_cons.mpr ⟨ok39, List.forall_mem_cons.mpr ⟨ok36, List.forall_mem_cons.mpr ⟨ok32, fun _ h => absurd h List.not_mem_nil⟩⟩⟩⟩) (by decide +kernel)
set_option maxRecDepth 1000000 in
def an74 : List (Nat × List (Nat × An)) := [(72, [(4, ([((0, 3, 0, (0, [])), 0, 2147483647), ((0, 2, 0, (0, [])), (-2147483648), 2147483647)], ([], [], []), [], [], [], 0, true))])]
set_option maxRecDepth 1000000 in
theorem ok74 : SmOK rgT sm74 := vfy_sp (T := [sm55]) (AN := an74) (g := 94) (List.forall_mem_cons.mpr ⟨ok55, fun _ h => absurd h List.not_mem_nil⟩) (by decide +kernel)
set_option maxRecDepth 1000000 in
def an75 : List (Nat × List (Nat × An)) := []
set_option maxRecDepth 1000000 in
theorem ok75 : SmOK rgT sm75 := vfy_sp (T := [sm74, sm73, sm56, sm40]) (AN := an75) (g := 145) (List.forall_mem_cons.mpr ⟨ok74, List.forall_mem_cons.mpr ⟨ok73, List.forall_mem_cons.mpr ⟨ok56, List.forall_mem_cons.mpr ⟨ok40, fun _ h => absurd h List.not_mem_nil⟩⟩⟩⟩) (by decide +kernel)
set_option maxRecDepth 1000000 in
def an76 : List (Nat × List (Nat × An)) := []
set_option maxRecDepth 1000000 in
theorem ok76 : SmOK rgT sm76 := vfy_sp (T := [sm56, sm39]) (AN := an76) (g := 72) (List.forall_mem_cons.mpr ⟨ok56, List.forall_mem_cons.mpr ⟨ok39, fun _ h => absurd h List.not_mem_nil⟩⟩) (by decide +kernel)
set_option maxRecDepth 1000000 in
def an77 : List (Nat × List (Nat × An)) := []
set_option maxRecDepth 1000000 in
theorem ok77 : SmOK rgT sm77 := vfy_sp (T := [sm76, sm56, sm40, sm39]) (AN := an77) (g := 132) (List.forall_mem_cons.mpr ⟨ok76, List.forall_mem_cons.mpr ⟨ok56, List.forall_mem_cons.mpr ⟨ok40, List.forall_mem_cons.mpr ⟨ok39, fun _ h => absurd h List.not_mem_nil⟩⟩⟩⟩) (by decide +kernel)
set_option maxRecDepth 1000000 in
def an78 : List (Nat × List (Nat × An)) := []
set_option maxRecDepth 1000000 in
theorem ok78 : SmOK rgT sm78 := vfy_sp (T := [sm40, sm39]) (AN := an78) (g := 81) (List.forall_mem_cons.mpr ⟨ok40, List.forall_mem_cons.mpr ⟨ok39, fun _ h => absurd h List.not_mem_nil⟩⟩) (by decide +kernel)
set_option maxRecDepth 1000000 in
def an79 : List (Nat × List (Nat × An)) := []
set_option maxRecDepth 1000000 in
theorem ok79 : SmOK rgT sm79 := vfy_sp (T := [sm56, sm39]) (AN := an79) (g := 216) (List.forall_mem_cons.mpr ⟨ok56, List.forall_mem_cons.mpr ⟨ok39, fun _ h => absurd h List.not_mem_nil⟩⟩) (by decide +kernel)
set_option maxRecDepth 1000000 in
def an80 : List (Nat × List (Nat × An)) := [(124, [(44, ([((0, 5, 0, (0, [])), 0, 2147483647), ((0, 3, 0, (0, [])), (-2147483648), 2147483647), ((0, 4, 0, (0, [])), (-2147483648), 2147483647)], ([], [], []), [], [], [], 0, true))])]
set_option maxRecDepth 1000000 in
theorem ok80 : SmOK rgT sm80 := vfy_sp (T := [sm79, sm78, sm41, sm30]) (AN := an80) (g := 200) (List.forall_mem_cons.mpr ⟨ok79, List.forall_mem_cons.mpr ⟨ok78, List.forall_mem_cons.mpr ⟨ok41, List.forall_mem_cons.mpr ⟨ok30, fun _ h => absurd h List.not_mem_nil⟩⟩⟩⟩) (by decide +kernel)
set_option maxRecDepth 1000000 in
def an81 : List (Nat × List (Nat × An)) := [(125, [(21, ([((0, 3, 0, (0, [])), 0, 2147483647), ((0, 2, 0, (0, [])), (-2147483648), 2147483647)], ([], [], []), [], [], [], 0, true))])]
set_option maxRecDepth 1000000 in
theorem ok81 : SmOK rgT sm81 := vfy_sp (T := [sm78, sm39]) (AN := an81) (g := 138) (List.forall_mem_cons.mpr ⟨ok78, List.forall_mem_cons.mpr ⟨ok39, fun _ h => absurd h List.not_mem_nil⟩⟩) (by decide +kernel)
set_option maxRecDepth 1000000 in
def an82 : List (Nat × List (Nat × An)) := []
set_option maxRecDepth 1000000 in
theorem ok82 : SmOK rgT sm82 := vfy_sp (T := [sm40, sm39]) (AN := an82) (g := 133) (List.forall_mem_cons.mpr ⟨ok40, List.forall_mem_cons.mpr ⟨ok39, fun _ h => absurd h List.not_mem_nil⟩⟩) (by decide +kernel)
set_option maxRecDepth 1000000 in
def an83 : List (Nat × List (Nat × An)) := []
set_option maxRecDepth 1000000 in
theorem ok83 : SmOK rgT sm83 := vfy_sp (T := [sm40, sm39]) (AN := an83) (g := 81) (List.forall_mem_cons.mpr ⟨ok40, List.forall_mem_cons.mpr ⟨ok39, fun _ h => absurd h List.not_mem_nil⟩⟩) (by decide +kernel)
set_option maxRecDepth 1000000 in
def an84 : List (Nat × List (Nat × An)) := []
set_option maxRecDepth 1000000 in
theorem ok84 : SmOK rgT sm84 := vfy_sp (T := [sm39]) (AN := an84) (g := 91) (List.forall_mem_cons.mpr ⟨ok39, fun _ h => absurd h List.not_mem_nil⟩) (by decide +kernel)
set_option maxRecDepth 1000000 in
def an85 : List (Nat × List (Nat × An)) := [(81, [(6, ([((0, 4, 0, (0, [])), 0, 2147483647), ((0, 3, 0, (0, [])), (-2147483648), 2147483647)], ([], [], []), [], [], [], 0, true))])]
set_option maxRecDepth 1000000 in
theorem ok85 : SmOK rgT sm85 := vfy_sp (T := [sm84, sm83, sm39]) (AN := an85) (g := 216) (List.forall_mem_cons.mpr ⟨ok84, List.forall_mem_cons.mpr ⟨ok83, List.forall_mem_cons.mpr ⟨ok39, fun _ h => absurd h List.not_mem_nil⟩⟩⟩) (by decide +kernel)
set_option maxRecDepth 1000000 in
def an86 : List (Nat × List (Nat × An)) := [(18, [(13, ([((0, 3, 0, (0, [])), (-2147483648), 2147483647), ((1, 0, 38, (3, [])), 0, 30)], ([], [], []), [], [], [(0, 39, 0, 29), (0, 38, 3, 3)], 1, true))])]
set_option maxRecDepth 1000000 in
theorem ok86 : SmOK rgT sm86 := vfy_sp (T := [sm85, sm39]) (AN := an86) (g := 133) (List.forall_mem_cons.mpr ⟨ok85, List.forall_mem_cons.mpr ⟨ok39, fun _ h => absurd h List.not_mem_nil⟩⟩) (by decide +kernel)
set_option maxRecDepth 1000000 in
def an87 : List (Nat × List (Nat × An)) := [(19, [(7, ([((0, 3, 0, (0, [])), 0, 2147483647)], ([], [], []), [], [], [(0, 38, 4, 4)], 0, true))])]
set_option maxRecDepth 1000000 in
theorem ok87 : SmOK rgT sm87 := vfy_sp (T := [sm36]) (AN := an87) (g := 130) (List.forall_mem_cons.mpr ⟨ok36, fun _ h => absurd h List.not_mem_nil⟩) (by decide +kernel)
set_option maxRecDepth 1000000 in
def an88 : List (Nat × List (Nat × An)) := [(20, [(5, ([((0, 3, 0, (0, [])), (-2147483648), 2147483647), ((0, 4, 0, (0, [])), 0, 2147483647)], ([], [], []), [], [], [], 1, true))])]
set_option maxRecDepth 1000000 in
theorem ok88 : SmOK rgT sm88 := vfy_sp (T := []) (AN := an88) (g := 104) (fun _ h => absurd h List.not_mem_nil) (by decide +kernel)
set_option maxRecDepth 1000000 in
def an89 : List (Nat × List (Nat × An)) := [(17, [(40, ([((0, 4, 0, (0, [])), (-2147483648), 2147483647), ((0, 6, 0, (0, [])), 0, 2147483647), ((0, 5, 0, (0, [])), 0, 2147483647)], ([], [], []), [], [], [], 1, true)), (60, ([((0, 4, 0, (0, [])), (-2147483648), 2147483647), ((0, 5, 0, (0, [])), 0, 2147483647)], ([], [], []), [], [], [], 1, true))])]
set_option maxRecDepth 1000000 in
theorem ok89 : SmOK rgT sm89 := vfy_sp (T := [sm88, sm87, sm86, sm32]) (AN := an89) (g := 139) (List.forall_mem_cons.mpr ⟨ok88, List.forall_mem_cons.mpr ⟨ok87, List.forall_mem_cons.mpr ⟨ok86, List.forall_mem_cons.mpr ⟨ok32, fun _ h => absurd h List.not_mem_nil⟩⟩⟩⟩) (by decide +kernel)
set_option maxRecDepth 1000000 in
def an90 : List (Nat × List (Nat × An)) := []
set_option maxRecDepth 1000000 in
theorem ok90 : SmOK rgT sm90 := vfy_sp (T := [sm89]) (AN := an90) (g := 93) (List.forall_mem_cons.mpr ⟨ok89, fun _ h => absurd h List.not_mem_nil⟩) (by decide +kernel)
set_option maxRecDepth 1000000 in
def an91 : List (Nat × List (Nat × An)) := [(102, [(3, ([((0, 2, 0, (0, [])), (-2147483648), 2147483647)], ([], [], []), [], [], [], 0, false))])]
set_option maxRecDepth 1000000 in
theorem ok91 : SmOK rgT sm91 := vfy_sp (T := []) (AN := an91) (g := 95) (fun _ h => absurd h List.not_mem_nil) (by decide +kernel)
set_option maxRecDepth 1000000 in
def an92 : List (Nat × List (Nat × An)) := []
set_option maxRecDepth 1000000 in
theorem ok92 : SmOK rgT sm92 := vfy_sp (T := [sm91]) (AN := an92) (g := 99) (List.forall_mem_cons.mpr ⟨ok91, fun _ h => absurd h List.not_mem_nil⟩) (by decide +kernel)
set_option maxRecDepth 1000000 in
def an93 : List (Nat × List (Nat × An)) := []
set_option maxRecDepth 1000000 in
theorem ok93 : SmOK rgT sm93 := vfy_sp (T := []) (AN := an93) (g := 69) (fun _ h => absurd h List.not_mem_nil) (by decide +kernel)
set_option maxRecDepth 1000000 in
def an94 : List (Nat × List (Nat × An)) := []
set_option maxRecDepth 1000000 in
theorem ok94 : SmOK rgT sm94 := vfy_sp (T := [sm93]) (AN := an94) (g := 95) (List.forall_mem_cons.mpr ⟨ok93, fun _ h => absurd h List.not_mem_nil⟩) (by decide +kernel)
set_option maxRecDepth 1000000 in
def an95 : List (Nat × List (Nat × An)) := []
set_option maxRecDepth 1000000 in
theorem ok95 : SmOK rgT sm95 := vfy_sp (T := []) (AN := an95) (g := 93) (fun _ h => absurd h List.not_mem_nil) (by decide +kernel)
set_option maxRecDepth 1000000 in
def an96 : List (Nat × List (Nat × An)) := []
set_option maxRecDepth 1000000 in
theorem ok96 : SmOK rgT sm96 := vfy_sp (T := []) (AN := an96) (g := 81) (fun _ h => absurd h List.not_mem_nil) (by decide +kernel)
set_option maxRecDepth 1000000 in
def an97 : List (Nat × List (Nat × An)) := [(32, [(5, ([((1, 0, 55, (6, [])), (-2147483648), 2147483647)], ([], [], []), [], [], [(0, 55, 6, 6), (0, 55, 8, 8)], 0, true))])]
set_option maxRecDepth 1000000 in
theorem ok97 : SmOK rgT sm97 := vfy_sp (T := [sm96]) (AN := an97) (g := 122) (List.forall_mem_cons.mpr ⟨ok96, fun _ h => absurd h List.not_mem_nil⟩) (by decide +kernel)
set_option maxRecDepth 1000000 in
def an98 : List (Nat × List (Nat × An)) := [(31, [(0, ([((1, 0, 55, (6, [])), (-2147483648), 2147483647)], ([], [], []), [], [], [(0, 55, 6, 6), (0, 55, 8, 8)], 0, true))])]
set_option maxRecDepth 1000000 in
theorem ok98 : SmOK rgT sm98 := vfy_sp (T := [sm96]) (AN := an98) (g := 103) (List.forall_mem_cons.mpr ⟨ok96, fun _ h => absurd h List.not_mem_nil⟩) (by decide +kernel)
set_option maxRecDepth 1000000 in
def an99 : List (Nat × List (Nat × An)) := [(30, [(27, ([((1, 0, 55, (6, [])), (-2147483648), 2147483647)], ([], [], []), [], [], [(0, 55, 6, 6), (0, 55, 8, 8)], 0, true))])]
set_option maxRecDepth 1000000 in
theorem ok99 : SmOK rgT sm99 := vfy_sp (T := [sm98, sm97, sm96]) (AN := an99) (g := 2318) (List.forall_mem_cons.mpr ⟨ok98, List.forall_mem_cons.mpr ⟨ok97, List.forall_mem_cons.mpr ⟨ok96, fun _ h => absurd h List.not_mem_nil⟩⟩⟩) (by decide +kernel)
set_option maxRecDepth 1000000 in
def an100 : List (Nat × List (Nat × An)) := [(35, [(2, ([((0, 1, 0, (0, [])), 0, 2147483647)], ([], [], []), [], [], [], 0, true))])]
set_option maxRecDepth 1000000 in
theorem ok100 : SmOK rgT sm100 := vfy_sp (T := [sm96]) (AN := an100) (g := 1051) (List.forall_mem_cons.mpr ⟨ok96, fun _ h => absurd h List.not_mem_nil⟩) (by decide +kernel)
