/-! Printed by wip/ai/tab.py. -/
set_option maxRecDepth 1000000 in
def an77 : List (Nat × List (Nat × An)) := []
set_option maxRecDepth 1000000 in
theorem ok77 : SmOK rgT sm77 := vfy_sp (T := [sm76, sm75, sm71, sm55]) (AN := an77) (g := 163) (List.forall_mem_cons.mpr ⟨ok76, List.forall_mem_cons.mpr ⟨ok75, List.forall_mem_cons.mpr ⟨ok71, List.forall_mem_cons.mpr ⟨ok55, fun _ h => absurd h List.not_mem_nil⟩⟩⟩⟩) (by decide +kernel)
set_option maxRecDepth 1000000 in
def an78 : List (Nat × List (Nat × An)) := [(11, [(16, ([((0, 3, 0, (0, [])), 0, 10)], ([], [], []), [], [], [], 0, false))])]
set_option maxRecDepth 1000000 in
theorem ok78 : SmOK rgT sm78 := vfy_sp (T := []) (AN := an78) (g := 107) (fun _ h => absurd h List.not_mem_nil) (by decide +kernel)
set_option maxRecDepth 1000000 in
def an79 : List (Nat × List (Nat × An)) := [(10, [(32, ([((0, 2, 0, (0, [])), (-1), 9), ((0, 1, 0, (0, [])), (-2147483648), 2147483647)], ([], [], []), [], [], [(0, 50, 0, 10), (0, 51, 0, 110)], 0, false)), (71, ([((0, 3, 0, (0, [])), (-2147483648), 2147483647), ((0, 4, 0, (0, [])), 0, 2147483647)], ([], [], []), [], [], [(0, 51, 0, 110)], 1, true))])]
set_option maxRecDepth 1000000 in
theorem ok79 : SmOK rgT sm79 := vfy_sp (T := [sm78]) (AN := an79) (g := 235) (List.forall_mem_cons.mpr ⟨ok78, fun _ h => absurd h List.not_mem_nil⟩) (by decide +kernel)
set_option maxRecDepth 1000000 in
def an80 : List (Nat × List (Nat × An)) := [(9, [(4, ([((0, 3, 0, (0, [])), 0, 2147483647), ((0, 2, 0, (0, [])), (-2147483648), 2147483647)], ([], [], []), [], [], [], 0, true))])]
set_option maxRecDepth 1000000 in
theorem ok80 : SmOK rgT sm80 := vfy_sp (T := [sm71]) (AN := an80) (g := 96) (List.forall_mem_cons.mpr ⟨ok71, fun _ h => absurd h List.not_mem_nil⟩) (by decide +kernel)
set_option maxRecDepth 1000000 in
def an81 : List (Nat × List (Nat × An)) := [(8, [(18, ([((0, 2, 0, (0, [])), 0, 2147483647)], ([], [], []), [], [], [], 0, true)), (53, ([((0, 2, 0, (0, [])), 0, 2147483647)], ([], [], []), [], [], [], 0, true))])]
set_option maxRecDepth 1000000 in
theorem ok81 : SmOK rgT sm81 := vfy_sp (T := [sm80, sm79, sm55, sm51, sm0]) (AN := an81) (g := 142) (List.forall_mem_cons.mpr ⟨ok80, List.forall_mem_cons.mpr ⟨ok79, List.forall_mem_cons.mpr ⟨ok55, List.forall_mem_cons.mpr ⟨ok51, List.forall_mem_cons.mpr ⟨ok0, fun _ h => absurd h List.not_mem_nil⟩⟩⟩⟩⟩) (by decide +kernel)
set_option maxRecDepth 1000000 in
def an82 : List (Nat × List (Nat × An)) := []
set_option maxRecDepth 1000000 in
theorem ok82 : SmOK rgT sm82 := vfy_sp (T := []) (AN := an82) (g := 81) (fun _ h => absurd h List.not_mem_nil) (by decide +kernel)
set_option maxRecDepth 1000000 in
def an83 : List (Nat × List (Nat × An)) := []
set_option maxRecDepth 1000000 in
theorem ok83 : SmOK rgT sm83 := vfy_sp (T := [sm82, sm81]) (AN := an83) (g := 120) (List.forall_mem_cons.mpr ⟨ok82, List.forall_mem_cons.mpr ⟨ok81, fun _ h => absurd h List.not_mem_nil⟩⟩) (by decide +kernel)
set_option maxRecDepth 1000000 in
def an84 : List (Nat × List (Nat × An)) := [(117, [(15, ([((0, 2, 0, (0, [])), 0, 2147483647), ((0, 1, 0, (0, [])), (-2147483648), 2147483647)], ([], [], []), [], [], [], 0, true))])]
set_option maxRecDepth 1000000 in
theorem ok84 : SmOK rgT sm84 := vfy_sp (T := [sm82, sm81, sm75, sm70, sm55]) (AN := an84) (g := 115) (List.forall_mem_cons.mpr ⟨ok82, List.forall_mem_cons.mpr ⟨ok81, List.forall_mem_cons.mpr ⟨ok75, List.forall_mem_cons.mpr ⟨ok70, List.forall_mem_cons.mpr ⟨ok55, fun _ h => absurd h List.not_mem_nil⟩⟩⟩⟩⟩) (by decide +kernel)
set_option maxRecDepth 1000000 in
def an85 : List (Nat × List (Nat × An)) := [(118, [(4, ([((0, 2, 0, (0, [])), 0, 2147483647), ((0, 1, 0, (0, [])), (-2147483648), 2147483647)], ([], [], []), [], [], [], 0, true))])]
set_option maxRecDepth 1000000 in
theorem ok85 : SmOK rgT sm85 := vfy_sp (T := [sm70, sm55]) (AN := an85) (g := 117) (List.forall_mem_cons.mpr ⟨ok70, List.forall_mem_cons.mpr ⟨ok55, fun _ h => absurd h List.not_mem_nil⟩⟩) (by decide +kernel)
set_option maxRecDepth 1000000 in
def an86 : List (Nat × List (Nat × An)) := []
set_option maxRecDepth 1000000 in
theorem ok86 : SmOK rgT sm86 := vfy_sp (T := []) (AN := an86) (g := 400) (fun _ h => absurd h List.not_mem_nil) (by decide +kernel)
set_option maxRecDepth 1000000 in
def an87 : List (Nat × List (Nat × An)) := []
set_option maxRecDepth 1000000 in
theorem ok87 : SmOK rgT sm87 := vfy_sp (T := [sm86]) (AN := an87) (g := 364) (List.forall_mem_cons.mpr ⟨ok86, fun _ h => absurd h List.not_mem_nil⟩) (by decide +kernel)
set_option maxRecDepth 1000000 in
def an88 : List (Nat × List (Nat × An)) := []
set_option maxRecDepth 1000000 in
theorem ok88 : SmOK rgT sm88 := vfy_sp (T := [sm58]) (AN := an88) (g := 116) (List.forall_mem_cons.mpr ⟨ok58, fun _ h => absurd h List.not_mem_nil⟩) (by decide +kernel)
set_option maxRecDepth 1000000 in
def an89 : List (Nat × List (Nat × An)) := []
set_option maxRecDepth 1000000 in
theorem ok89 : SmOK rgT sm89 := vfy_sp (T := [sm59, sm58]) (AN := an89) (g := 122) (List.forall_mem_cons.mpr ⟨ok59, List.forall_mem_cons.mpr ⟨ok58, fun _ h => absurd h List.not_mem_nil⟩⟩) (by decide +kernel)
set_option maxRecDepth 1000000 in
def an90 : List (Nat × List (Nat × An)) := []
set_option maxRecDepth 1000000 in
theorem ok90 : SmOK rgT sm90 := vfy_sp (T := [sm59, sm58, sm55, sm51]) (AN := an90) (g := 129) (List.forall_mem_cons.mpr ⟨ok59, List.forall_mem_cons.mpr ⟨ok58, List.forall_mem_cons.mpr ⟨ok55, List.forall_mem_cons.mpr ⟨ok51, fun _ h => absurd h List.not_mem_nil⟩⟩⟩⟩) (by decide +kernel)
set_option maxRecDepth 1000000 in
def an91 : List (Nat × List (Nat × An)) := [(72, [(4, ([((0, 3, 0, (0, [])), 0, 2147483647), ((0, 2, 0, (0, [])), (-2147483648), 2147483647)], ([], [], []), [], [], [], 0, true))])]
set_option maxRecDepth 1000000 in
theorem ok91 : SmOK rgT sm91 := vfy_sp (T := [sm73]) (AN := an91) (g := 94) (List.forall_mem_cons.mpr ⟨ok73, fun _ h => absurd h List.not_mem_nil⟩) (by decide +kernel)
set_option maxRecDepth 1000000 in
def an92 : List (Nat × List (Nat × An)) := []
set_option maxRecDepth 1000000 in
theorem ok92 : SmOK rgT sm92 := vfy_sp (T := [sm91, sm90, sm59]) (AN := an92) (g := 191) (List.forall_mem_cons.mpr ⟨ok91, List.forall_mem_cons.mpr ⟨ok90, List.forall_mem_cons.mpr ⟨ok59, fun _ h => absurd h List.not_mem_nil⟩⟩⟩) (by decide +kernel)
set_option maxRecDepth 1000000 in
def an93 : List (Nat × List (Nat × An)) := []
set_option maxRecDepth 1000000 in
theorem ok93 : SmOK rgT sm93 := vfy_sp (T := [sm58]) (AN := an93) (g := 107) (List.forall_mem_cons.mpr ⟨ok58, fun _ h => absurd h List.not_mem_nil⟩) (by decide +kernel)
set_option maxRecDepth 1000000 in
def an94 : List (Nat × List (Nat × An)) := []
set_option maxRecDepth 1000000 in
theorem ok94 : SmOK rgT sm94 := vfy_sp (T := [sm93, sm59, sm58]) (AN := an94) (g := 178) (List.forall_mem_cons.mpr ⟨ok93, List.forall_mem_cons.mpr ⟨ok59, List.forall_mem_cons.mpr ⟨ok58, fun _ h => absurd h List.not_mem_nil⟩⟩⟩) (by decide +kernel)
set_option maxRecDepth 1000000 in
def an95 : List (Nat × List (Nat × An)) := []
set_option maxRecDepth 1000000 in
theorem ok95 : SmOK rgT sm95 := vfy_sp (T := [sm59, sm58]) (AN := an95) (g := 79) (List.forall_mem_cons.mpr ⟨ok59, List.forall_mem_cons.mpr ⟨ok58, fun _ h => absurd h List.not_mem_nil⟩⟩) (by decide +kernel)
set_option maxRecDepth 1000000 in
def an96 : List (Nat × List (Nat × An)) := []
set_option maxRecDepth 1000000 in
theorem ok96 : SmOK rgT sm96 := vfy_sp (T := [sm58]) (AN := an96) (g := 502) (List.forall_mem_cons.mpr ⟨ok58, fun _ h => absurd h List.not_mem_nil⟩) (by decide +kernel)
set_option maxRecDepth 1000000 in
def an97 : List (Nat × List (Nat × An)) := [(124, [(44, ([((0, 5, 0, (0, [])), 0, 2147483647), ((0, 3, 0, (0, [])), (-2147483648), 2147483647), ((0, 4, 0, (0, [])), (-2147483648), 2147483647)], ([], [], []), [], [], [], 0, true))])]
set_option maxRecDepth 1000000 in
theorem ok97 : SmOK rgT sm97 := vfy_sp (T := [sm96, sm95, sm60]) (AN := an97) (g := 246) (List.forall_mem_cons.mpr ⟨ok96, List.forall_mem_cons.mpr ⟨ok95, List.forall_mem_cons.mpr ⟨ok60, fun _ h => absurd h List.not_mem_nil⟩⟩⟩) (by decide +kernel)
set_option maxRecDepth 1000000 in
def an98 : List (Nat × List (Nat × An)) := [(125, [(21, ([((0, 3, 0, (0, [])), 0, 2147483647), ((0, 2, 0, (0, [])), (-2147483648), 2147483647)], ([], [], []), [], [], [], 0, true))])]
set_option maxRecDepth 1000000 in
theorem ok98 : SmOK rgT sm98 := vfy_sp (T := [sm95, sm58]) (AN := an98) (g := 135) (List.forall_mem_cons.mpr ⟨ok95, List.forall_mem_cons.mpr ⟨ok58, fun _ h => absurd h List.not_mem_nil⟩⟩) (by decide +kernel)
set_option maxRecDepth 1000000 in
def an99 : List (Nat × List (Nat × An)) := []
set_option maxRecDepth 1000000 in
theorem ok99 : SmOK rgT sm99 := vfy_sp (T := [sm59, sm58]) (AN := an99) (g := 124) (List.forall_mem_cons.mpr ⟨ok59, List.forall_mem_cons.mpr ⟨ok58, fun _ h => absurd h List.not_mem_nil⟩⟩) (by decide +kernel)
set_option maxRecDepth 1000000 in
def an100 : List (Nat × List (Nat × An)) := []
set_option maxRecDepth 1000000 in
theorem ok100 : SmOK rgT sm100 := vfy_sp (T := [sm59, sm58]) (AN := an100) (g := 79) (List.forall_mem_cons.mpr ⟨ok59, List.forall_mem_cons.mpr ⟨ok58, fun _ h => absurd h List.not_mem_nil⟩⟩) (by decide +kernel)
set_option maxRecDepth 1000000 in
def an101 : List (Nat × List (Nat × An)) := []
set_option maxRecDepth 1000000 in
theorem ok101 : SmOK rgT sm101 := vfy_sp (T := [sm58]) (AN := an101) (g := 91) (List.forall_mem_cons.mpr ⟨ok58, fun _ h => absurd h List.not_mem_nil⟩) (by decide +kernel)
set_option maxRecDepth 1000000 in
def an102 : List (Nat × List (Nat × An)) := [(81, [(6, ([((0, 4, 0, (0, [])), 0, 2147483647), ((0, 3, 0, (0, [])), (-2147483648), 2147483647)], ([], [], []), [], [], [], 0, true))])]
set_option maxRecDepth 1000000 in
theorem ok102 : SmOK rgT sm102 := vfy_sp (T := [sm101, sm100, sm58]) (AN := an102) (g := 145) (List.forall_mem_cons.mpr ⟨ok101, List.forall_mem_cons.mpr ⟨ok100, List.forall_mem_cons.mpr ⟨ok58, fun _ h => absurd h List.not_mem_nil⟩⟩⟩) (by decide +kernel)
set_option maxRecDepth 1000000 in
def an103 : List (Nat × List (Nat × An)) := [(18, [(13, ([((0, 3, 0, (0, [])), (-2147483648), 2147483647), ((1, 0, 38, (3, [])), 0, 30)], ([], [], []), [], [], [(0, 39, 0, 29), (0, 38, 3, 3)], 1, true))])]
set_option maxRecDepth 1000000 in
theorem ok103 : SmOK rgT sm103 := vfy_sp (T := [sm102, sm58]) (AN := an103) (g := 103) (List.forall_mem_cons.mpr ⟨ok102, List.forall_mem_cons.mpr ⟨ok58, fun _ h => absurd h List.not_mem_nil⟩⟩) (by decide +kernel)
set_option maxRecDepth 1000000 in
def an104 : List (Nat × List (Nat × An)) := [(19, [(7, ([((0, 3, 0, (0, [])), 0, 2147483647)], ([], [], []), [], [], [(0, 38, 4, 4)], 0, true))])]
set_option maxRecDepth 1000000 in
theorem ok104 : SmOK rgT sm104 := vfy_sp (T := [sm55]) (AN := an104) (g := 127) (List.forall_mem_cons.mpr ⟨ok55, fun _ h => absurd h List.not_mem_nil⟩) (by decide +kernel)
set_option maxRecDepth 1000000 in
def an105 : List (Nat × List (Nat × An)) := [(20, [(5, ([((0, 3, 0, (0, [])), (-2147483648), 2147483647), ((0, 4, 0, (0, [])), 0, 2147483647)], ([], [], []), [], [], [], 1, true))])]
set_option maxRecDepth 1000000 in
theorem ok105 : SmOK rgT sm105 := vfy_sp (T := []) (AN := an105) (g := 104) (fun _ h => absurd h List.not_mem_nil) (by decide +kernel)
set_option maxRecDepth 1000000 in
def an106 : List (Nat × List (Nat × An)) := [(17, [(40, ([((0, 4, 0, (0, [])), (-2147483648), 2147483647), ((0, 6, 0, (0, [])), 0, 2147483647), ((0, 5, 0, (0, [])), 0, 2147483647)], ([], [], []), [], [], [], 1, true)), (60, ([((0, 4, 0, (0, [])), (-2147483648), 2147483647), ((0, 5, 0, (0, [])), 0, 2147483647)], ([], [], []), [], [], [], 1, true))])]
set_option maxRecDepth 1000000 in
theorem ok106 : SmOK rgT sm106 := vfy_sp (T := [sm105, sm104, sm103, sm51]) (AN := an106) (g := 139) (List.forall_mem_cons.mpr ⟨ok105, List.forall_mem_cons.mpr ⟨ok104, List.forall_mem_cons.mpr ⟨ok103, List.forall_mem_cons.mpr ⟨ok51, fun _ h => absurd h List.not_mem_nil⟩⟩⟩⟩) (by decide +kernel)
set_option maxRecDepth 1000000 in
def an107 : List (Nat × List (Nat × An)) := []
set_option maxRecDepth 1000000 in
theorem ok107 : SmOK rgT sm107 := vfy_sp (T := [sm106]) (AN := an107) (g := 93) (List.forall_mem_cons.mpr ⟨ok106, fun _ h => absurd h List.not_mem_nil⟩) (by decide +kernel)
set_option maxRecDepth 1000000 in
def an109 : List (Nat × List (Nat × An)) := []
set_option maxRecDepth 1000000 in
theorem ok109 : SmOK rgT sm109 := vfy_sp (T := []) (AN := an109) (g := 90) (fun _ h => absurd h List.not_mem_nil) (by decide +kernel)
set_option maxRecDepth 1000000 in
def an110 : List (Nat × List (Nat × An)) := []
set_option maxRecDepth 1000000 in
theorem ok110 : SmOK rgT sm110 := vfy_sp (T := [sm109]) (AN := an110) (g := 116) (List.forall_mem_cons.mpr ⟨ok109, fun _ h => absurd h List.not_mem_nil⟩) (by decide +kernel)
set_option maxRecDepth 1000000 in
def an111 : List (Nat × List (Nat × An)) := [(83, [(5, ([((0, 3, 0, (0, [])), 0, 2147483647), ((0, 2, 0, (0, [])), (-2147483648), 2147483647)], ([], [], []), [], [], [], 0, true))])]
set_option maxRecDepth 1000000 in
theorem ok111 : SmOK rgT sm111 := vfy_sp (T := [sm109]) (AN := an111) (g := 121) (List.forall_mem_cons.mpr ⟨ok109, fun _ h => absurd h List.not_mem_nil⟩) (by decide +kernel)
set_option maxRecDepth 1000000 in
def an112 : List (Nat × List (Nat × An)) := []
set_option maxRecDepth 1000000 in
theorem ok112 : SmOK rgT sm112 := vfy_sp (T := [sm111]) (AN := an112) (g := 90) (List.forall_mem_cons.mpr ⟨ok111, fun _ h => absurd h List.not_mem_nil⟩) (by decide +kernel)
set_option maxRecDepth 1000000 in
def an113 : List (Nat × List (Nat × An)) := []
set_option maxRecDepth 1000000 in
theorem ok113 : SmOK rgT sm113 := vfy_sp (T := []) (AN := an113) (g := 85) (fun _ h => absurd h List.not_mem_nil) (by decide +kernel)
set_option maxRecDepth 1000000 in
def an114 : List (Nat × List (Nat × An)) := []
set_option maxRecDepth 1000000 in
theorem ok114 : SmOK rgT sm114 := vfy_sp (T := []) (AN := an114) (g := 256) (fun _ h => absurd h List.not_mem_nil) (by decide +kernel)
set_option maxRecDepth 1000000 in
def an115 : List (Nat × List (Nat × An)) := []
set_option maxRecDepth 1000000 in
theorem ok115 : SmOK rgT sm115 := vfy_sp (T := []) (AN := an115) (g := 84) (fun _ h => absurd h List.not_mem_nil) (by decide +kernel)
set_option maxRecDepth 1000000 in
def an116 : List (Nat × List (Nat × An)) := [(49, [(20, ([((0, 7, 0, (0, [])), 0, 2147483647)], ([], [], []), [], [], [(0, 35, 1, 1)], 0, true))])]
set_option maxRecDepth 1000000 in
theorem ok116 : SmOK rgT sm116 := vfy_sp (T := [sm115, sm114, sm113, sm109]) (AN := an116) (g := 195) (List.forall_mem_cons.mpr ⟨ok115, List.forall_mem_cons.mpr ⟨ok114, List.forall_mem_cons.mpr ⟨ok113, List.forall_mem_cons.mpr ⟨ok109, fun _ h => absurd h List.not_mem_nil⟩⟩⟩⟩) (by decide +kernel)
set_option maxRecDepth 1000000 in
def an117 : List (Nat × List (Nat × An)) := []
set_option maxRecDepth 1000000 in
theorem ok117 : SmOK rgT sm117 := vfy_sp (T := [sm116, sm111]) (AN := an117) (g := 89) (List.forall_mem_cons.mpr ⟨ok116, List.forall_mem_cons.mpr ⟨ok111, fun _ h => absurd h List.not_mem_nil⟩⟩) (by decide +kernel)
set_option maxRecDepth 1000000 in
def an118 : List (Nat × List (Nat × An)) := []
set_option maxRecDepth 1000000 in
theorem ok118 : SmOK rgT sm118 := vfy_sp (T := [sm117]) (AN := an118) (g := 95) (List.forall_mem_cons.mpr ⟨ok117, fun _ h => absurd h List.not_mem_nil⟩) (by decide +kernel)
set_option maxRecDepth 1000000 in
def an119 : List (Nat × List (Nat × An)) := []
set_option maxRecDepth 1000000 in
theorem ok119 : SmOK rgT sm119 := vfy_sp (T := [sm117, sm55]) (AN := an119) (g := 129) (List.forall_mem_cons.mpr ⟨ok117, List.forall_mem_cons.mpr ⟨ok55, fun _ h => absurd h List.not_mem_nil⟩⟩) (by decide +kernel)
set_option maxRecDepth 1000000 in
def an120 : List (Nat × List (Nat × An)) := []
set_option maxRecDepth 1000000 in
theorem ok120 : SmOK rgT sm120 := vfy_sp (T := [sm55]) (AN := an120) (g := 106) (List.forall_mem_cons.mpr ⟨ok55, fun _ h => absurd h List.not_mem_nil⟩) (by decide +kernel)
set_option maxRecDepth 1000000 in
def an121 : List (Nat × List (Nat × An)) := []
set_option maxRecDepth 1000000 in
theorem ok121 : SmOK rgT sm121 := vfy_sp (T := [sm120, sm119, sm70, sm55]) (AN := an121) (g := 197) (List.forall_mem_cons.mpr ⟨ok120, List.forall_mem_cons.mpr ⟨ok119, List.forall_mem_cons.mpr ⟨ok70, List.forall_mem_cons.mpr ⟨ok55, fun _ h => absurd h List.not_mem_nil⟩⟩⟩⟩) (by decide +kernel)
set_option maxRecDepth 1000000 in
def an122 : List (Nat × List (Nat × An)) := []
set_option maxRecDepth 1000000 in
theorem ok122 : SmOK rgT sm122 := vfy_sp (T := [sm119, sm70]) (AN := an122) (g := 125) (List.forall_mem_cons.mpr ⟨ok119, List.forall_mem_cons.mpr ⟨ok70, fun _ h => absurd h List.not_mem_nil⟩⟩) (by decide +kernel)
set_option maxRecDepth 1000000 in
def an123 : List (Nat × List (Nat × An)) := []
set_option maxRecDepth 1000000 in
theorem ok123 : SmOK rgT sm123 := vfy_sp (T := []) (AN := an123) (g := 241) (fun _ h => absurd h List.not_mem_nil) (by decide +kernel)
set_option maxRecDepth 1000000 in
def an124 : List (Nat × List (Nat × An)) := []
set_option maxRecDepth 1000000 in
theorem ok124 : SmOK rgT sm124 := vfy_sp (T := [sm123, sm117, sm70, sm55]) (AN := an124) (g := 216) (List.forall_mem_cons.mpr ⟨ok123, List.forall_mem_cons.mpr ⟨ok117, List.forall_mem_cons.mpr ⟨ok70, List.forall_mem_cons.mpr ⟨ok55, fun _ h => absurd h List.not_mem_nil⟩⟩⟩⟩) (by decide +kernel)
set_option maxRecDepth 1000000 in
def an125 : List (Nat × List (Nat × An)) := []
set_option maxRecDepth 1000000 in
theorem ok125 : SmOK rgT sm125 := vfy_sp (T := [sm123, sm70]) (AN := an125) (g := 174) (List.forall_mem_cons.mpr ⟨ok123, List.forall_mem_cons.mpr ⟨ok70, fun _ h => absurd h List.not_mem_nil⟩⟩) (by decide +kernel)
set_option maxRecDepth 1000000 in
def an126 : List (Nat × List (Nat × An)) := []
set_option maxRecDepth 1000000 in
theorem ok126 : SmOK rgT sm126 := vfy_sp (T := []) (AN := an126) (g := 90) (fun _ h => absurd h List.not_mem_nil) (by decide +kernel)
set_option maxRecDepth 1000000 in
def an127 : List (Nat × List (Nat × An)) := []
set_option maxRecDepth 1000000 in
theorem ok127 : SmOK rgT sm127 := vfy_sp (T := [sm126, sm70]) (AN := an127) (g := 150) (List.forall_mem_cons.mpr ⟨ok126, List.forall_mem_cons.mpr ⟨ok70, fun _ h => absurd h List.not_mem_nil⟩⟩) (by decide +kernel)
set_option maxRecDepth 1000000 in
def an128 : List (Nat × List (Nat × An)) := []
set_option maxRecDepth 1000000 in
theorem ok128 : SmOK rgT sm128 := vfy_sp (T := [sm126]) (AN := an128) (g := 116) (List.forall_mem_cons.mpr ⟨ok126, fun _ h => absurd h List.not_mem_nil⟩) (by decide +kernel)
set_option maxRecDepth 1000000 in
def an129 : List (Nat × List (Nat × An)) := []
set_option maxRecDepth 1000000 in
theorem ok129 : SmOK rgT sm129 := vfy_sp (T := [sm126]) (AN := an129) (g := 89) (List.forall_mem_cons.mpr ⟨ok126, fun _ h => absurd h List.not_mem_nil⟩) (by decide +kernel)
set_option maxRecDepth 1000000 in
def an130 : List (Nat × List (Nat × An)) := [(86, [(13, ([((0, 4, 0, (0, [])), 0, 2147483647), ((0, 3, 0, (0, [])), (-2147483648), 2147483647)], ([], [], []), [], [], [], 0, true))])]
set_option maxRecDepth 1000000 in
theorem ok130 : SmOK rgT sm130 := vfy_sp (T := [sm129, sm126, sm55]) (AN := an130) (g := 108) (List.forall_mem_cons.mpr ⟨ok129, List.forall_mem_cons.mpr ⟨ok126, List.forall_mem_cons.mpr ⟨ok55, fun _ h => absurd h List.not_mem_nil⟩⟩⟩) (by decide +kernel)
set_option maxRecDepth 1000000 in
def an131 : List (Nat × List (Nat × An)) := []
set_option maxRecDepth 1000000 in
theorem ok131 : SmOK rgT sm131 := vfy_sp (T := [sm130]) (AN := an131) (g := 115) (List.forall_mem_cons.mpr ⟨ok130, fun _ h => absurd h List.not_mem_nil⟩) (by decide +kernel)
set_option maxRecDepth 1000000 in
def an132 : List (Nat × List (Nat × An)) := []
set_option maxRecDepth 1000000 in
theorem ok132 : SmOK rgT sm132 := vfy_sp (T := [sm51]) (AN := an132) (g := 102) (List.forall_mem_cons.mpr ⟨ok51, fun _ h => absurd h List.not_mem_nil⟩) (by decide +kernel)
set_option maxRecDepth 1000000 in
def an133 : List (Nat × List (Nat × An)) := [(3, [(2, ([((0, 3, 0, (0, [])), 0, 2147483647)], ([], [], []), [], [], [], 0, true))])]
set_option maxRecDepth 1000000 in
theorem ok133 : SmOK rgT sm133 := vfy_sp (T := [sm132, sm102, sm58, sm51]) (AN := an133) (g := 152) (List.forall_mem_cons.mpr ⟨ok132, List.forall_mem_cons.mpr ⟨ok102, List.forall_mem_cons.mpr ⟨ok58, List.forall_mem_cons.mpr ⟨ok51, fun _ h => absurd h List.not_mem_nil⟩⟩⟩⟩) (by decide +kernel)
set_option maxRecDepth 1000000 in
def an134 : List (Nat × List (Nat × An)) := []
set_option maxRecDepth 1000000 in
theorem ok134 : SmOK rgT sm134 := vfy_sp (T := [sm55]) (AN := an134) (g := 102) (List.forall_mem_cons.mpr ⟨ok55, fun _ h => absurd h List.not_mem_nil⟩) (by decide +kernel)
set_option maxRecDepth 1000000 in
def an135 : List (Nat × List (Nat × An)) := []
set_option maxRecDepth 1000000 in
theorem ok135 : SmOK rgT sm135 := vfy_sp (T := [sm55]) (AN := an135) (g := 200) (List.forall_mem_cons.mpr ⟨ok55, fun _ h => absurd h List.not_mem_nil⟩) (by decide +kernel)
set_option maxRecDepth 1000000 in
def an136 : List (Nat × List (Nat × An)) := []
set_option maxRecDepth 1000000 in
theorem ok136 : SmOK rgT sm136 := vfy_sp (T := [sm135, sm134, sm132, sm120, sm117, sm70, sm55, sm51]) (AN := an136) (g := 152) (List.forall_mem_cons.mpr ⟨ok135, List.forall_mem_cons.mpr ⟨ok134, List.forall_mem_cons.mpr ⟨ok132, List.forall_mem_cons.mpr ⟨ok120, List.forall_mem_cons.mpr ⟨ok117, List.forall_mem_cons.mpr ⟨ok70, List.forall_mem_cons.mpr ⟨ok55, List.forall_mem_cons.mpr ⟨ok51, fun _ h => absurd h List.not_mem_nil⟩⟩⟩⟩⟩⟩⟩⟩) (by decide +kernel)
set_option maxRecDepth 1000000 in
def an137 : List (Nat × List (Nat × An)) := []
set_option maxRecDepth 1000000 in
theorem ok137 : SmOK rgT sm137 := vfy_sp (T := [sm120, sm74, sm65]) (AN := an137) (g := 169) (List.forall_mem_cons.mpr ⟨ok120, List.forall_mem_cons.mpr ⟨ok74, List.forall_mem_cons.mpr ⟨ok65, fun _ h => absurd h List.not_mem_nil⟩⟩⟩) (by decide +kernel)
set_option maxRecDepth 1000000 in
def an138 : List (Nat × List (Nat × An)) := [(0, [(2, ([((0, 2, 0, (0, [])), 0, 2147483647)], ([], [], []), [], [], [], 0, true)), (27, ([((0, 2, 0, (0, [])), 0, 2147483647)], ([], [], []), [], [], [], 0, true)), (76, ([((0, 2, 0, (0, [])), 0, 2147483647)], ([], [], []), [], [], [], 0, true))])]
set_option maxRecDepth 1000000 in
theorem ok138 : SmOK rgT sm138 := vfy_sp (T := [sm137, sm136, sm133, sm130, sm70, sm51]) (AN := an138) (g := 176) (List.forall_mem_cons.mpr ⟨ok137, List.forall_mem_cons.mpr ⟨ok136, List.forall_mem_cons.mpr ⟨ok133, List.forall_mem_cons.mpr ⟨ok130, List.forall_mem_cons.mpr ⟨ok70, List.forall_mem_cons.mpr ⟨ok51, fun _ h => absurd h List.not_mem_nil⟩⟩⟩⟩⟩⟩) (by decide +kernel)
set_option maxRecDepth 1000000 in
def an139 : List (Nat × List (Nat × An)) := [(142, [(33, ([((0, 2, 0, (0, [])), 0, 2147483647)], ([], [], []), [], [], [(0, 1, 5, 5)], 0, true))])]
set_option maxRecDepth 1000000 in
theorem ok139 : SmOK rgT sm139 := vfy_sp (T := [sm138]) (AN := an139) (g := 111) (List.forall_mem_cons.mpr ⟨ok138, fun _ h => absurd h List.not_mem_nil⟩) (by decide +kernel)
set_option maxRecDepth 1000000 in
def an140 : List (Nat × List (Nat × An)) := []
set_option maxRecDepth 1000000 in
theorem ok140 : SmOK rgT sm140 := vfy_sp (T := []) (AN := an140) (g := 94) (fun _ h => absurd h List.not_mem_nil) (by decide +kernel)
set_option maxRecDepth 1000000 in
def an141 : List (Nat × List (Nat × An)) := [(63, [(4, ([((0, 1, 0, (0, [])), (-2147483648), 2147483647), ((0, 2, 0, (0, [])), 0, 2147483647)], ([], [], []), [], [], [], 1, true))])]
set_option maxRecDepth 1000000 in
theorem ok141 : SmOK rgT sm141 := vfy_sp (T := [sm70]) (AN := an141) (g := 95) (List.forall_mem_cons.mpr ⟨ok70, fun _ h => absurd h List.not_mem_nil⟩) (by decide +kernel)
set_option maxRecDepth 1000000 in
def an142 : List (Nat × List (Nat × An)) := [(88, [(42, ([((0, 4, 0, (0, [])), 0, 2147483647), ((0, 3, 0, (0, [])), (-2147483648), 2147483647)], ([], [], []), [], [], [], 0, true))])]
set_option maxRecDepth 1000000 in
theorem ok142 : SmOK rgT sm142 := vfy_sp (T := [sm57]) (AN := an142) (g := 197) (List.forall_mem_cons.mpr ⟨ok57, fun _ h => absurd h List.not_mem_nil⟩) (by decide +kernel)
set_option maxRecDepth 1000000 in
def an143 : List (Nat × List (Nat × An)) := [(144, [(26, ([((0, 3, 0, (0, [])), (-2147483648), 2147483647), ((0, 4, 0, (0, [])), 0, 2147483647)], ([], [], []), [], [], [], 1, true))])]
set_option maxRecDepth 1000000 in
theorem ok143 : SmOK rgT sm143 := vfy_sp (T := [sm142, sm141]) (AN := an143) (g := 138) (List.forall_mem_cons.mpr ⟨ok142, List.forall_mem_cons.mpr ⟨ok141, fun _ h => absurd h List.not_mem_nil⟩⟩) (by decide +kernel)
set_option maxRecDepth 1000000 in
def an144 : List (Nat × List (Nat × An)) := [(53, [(68, ([((0, 4, 0, (0, [])), 0, 2147483647)], ([], [], []), [], [], [], 0, true))])]
set_option maxRecDepth 1000000 in
theorem ok144 : SmOK rgT sm144 := vfy_sp (T := []) (AN := an144) (g := 196) (fun _ h => absurd h List.not_mem_nil) (by decide +kernel)
set_option maxRecDepth 1000000 in
def an145 : List (Nat × List (Nat × An)) := []
set_option maxRecDepth 1000000 in
theorem ok145 : SmOK rgT sm145 := vfy_sp (T := [sm144]) (AN := an145) (g := 67) (List.forall_mem_cons.mpr ⟨ok144, fun _ h => absurd h List.not_mem_nil⟩) (by decide +kernel)
set_option maxRecDepth 1000000 in
def an146 : List (Nat × List (Nat × An)) := []
set_option maxRecDepth 1000000 in
theorem ok146 : SmOK rgT sm146 := vfy_sp (T := []) (AN := an146) (g := 174) (fun _ h => absurd h List.not_mem_nil) (by decide +kernel)
set_option maxRecDepth 1000000 in
def an147 : List (Nat × List (Nat × An)) := []
set_option maxRecDepth 1000000 in
theorem ok147 : SmOK rgT sm147 := vfy_sp (T := [sm146]) (AN := an147) (g := 68) (List.forall_mem_cons.mpr ⟨ok146, fun _ h => absurd h List.not_mem_nil⟩) (by decide +kernel)
set_option maxRecDepth 1000000 in
def an148 : List (Nat × List (Nat × An)) := []
set_option maxRecDepth 1000000 in
theorem ok148 : SmOK rgT sm148 := vfy_sp (T := [sm146]) (AN := an148) (g := 68) (List.forall_mem_cons.mpr ⟨ok146, fun _ h => absurd h List.not_mem_nil⟩) (by decide +kernel)
set_option maxRecDepth 1000000 in
def an149 : List (Nat × List (Nat × An)) := []
set_option maxRecDepth 1000000 in
theorem ok149 : SmOK rgT sm149 := vfy_sp (T := []) (AN := an149) (g := 236) (fun _ h => absurd h List.not_mem_nil) (by decide +kernel)
