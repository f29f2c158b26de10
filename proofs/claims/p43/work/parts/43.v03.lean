/-! Printed by wip/ai/tab.py. -/
set_option maxRecDepth 1000000 in
def an97 : List (Nat × List (Nat × An)) := []
set_option maxRecDepth 1000000 in
theorem ok97 : SmOK rgT sm97 := vfy_sp (T := []) (AN := an97) (g := 82) (fun _ h => absurd h List.not_mem_nil) (by decide +kernel)
set_option maxRecDepth 1000000 in
def an98 : List (Nat × List (Nat × An)) := []
set_option maxRecDepth 1000000 in
theorem ok98 : SmOK rgT sm98 := vfy_sp (T := []) (AN := an98) (g := 82) (fun _ h => absurd h List.not_mem_nil) (by decide +kernel)
set_option maxRecDepth 1000000 in
def an99 : List (Nat × List (Nat × An)) := []
set_option maxRecDepth 1000000 in
theorem ok99 : SmOK rgT sm99 := vfy_sp (T := []) (AN := an99) (g := 85) (fun _ h => absurd h List.not_mem_nil) (by decide +kernel)
set_option maxRecDepth 1000000 in
def an100 : List (Nat × List (Nat × An)) := []
set_option maxRecDepth 1000000 in
theorem ok100 : SmOK rgT sm100 := vfy_sp (T := []) (AN := an100) (g := 84) (fun _ h => absurd h List.not_mem_nil) (by decide +kernel)
set_option maxRecDepth 1000000 in
def an101 : List (Nat × List (Nat × An)) := [(46, [(2, ([((0, 2, 0, (0, [])), 0, 2147483647)], ([], [], []), [], [], [], 0, true))])]
set_option maxRecDepth 1000000 in
theorem ok101 : SmOK rgT sm101 := vfy_sp (T := [sm100, sm99, sm98, sm97]) (AN := an101) (g := 85) (List.forall_mem_cons.mpr ⟨ok100, List.forall_mem_cons.mpr ⟨ok99, List.forall_mem_cons.mpr ⟨ok98, List.forall_mem_cons.mpr ⟨ok97, fun _ h => absurd h List.not_mem_nil⟩⟩⟩⟩) (by decide +kernel)
set_option maxRecDepth 1000000 in
def an102 : List (Nat × List (Nat × An)) := []
set_option maxRecDepth 1000000 in
theorem ok102 : SmOK rgT sm102 := vfy_sp (T := []) (AN := an102) (g := 84) (fun _ h => absurd h List.not_mem_nil) (by decide +kernel)
set_option maxRecDepth 1000000 in
def an103 : List (Nat × List (Nat × An)) := [(45, [(0, ([((1, 0, 55, (11, [])), (-2147483648), 2147483647)], ([], [], []), [], [], [(0, 55, 11, 11)], 0, false))])]
set_option maxRecDepth 1000000 in
theorem ok103 : SmOK rgT sm103 := vfy_sp (T := [sm100, sm99, sm97]) (AN := an103) (g := 97) (List.forall_mem_cons.mpr ⟨ok100, List.forall_mem_cons.mpr ⟨ok99, List.forall_mem_cons.mpr ⟨ok97, fun _ h => absurd h List.not_mem_nil⟩⟩⟩) (by decide +kernel)
set_option maxRecDepth 1000000 in
def an104 : List (Nat × List (Nat × An)) := []
set_option maxRecDepth 1000000 in
theorem ok104 : SmOK rgT sm104 := vfy_sp (T := [sm103, sm101, sm99]) (AN := an104) (g := 99) (List.forall_mem_cons.mpr ⟨ok103, List.forall_mem_cons.mpr ⟨ok101, List.forall_mem_cons.mpr ⟨ok99, fun _ h => absurd h List.not_mem_nil⟩⟩⟩) (by decide +kernel)
set_option maxRecDepth 1000000 in
def an105 : List (Nat × List (Nat × An)) := []
set_option maxRecDepth 1000000 in
theorem ok105 : SmOK rgT sm105 := vfy_sp (T := [sm104, sm102, sm101, sm98, sm97]) (AN := an105) (g := 273) (List.forall_mem_cons.mpr ⟨ok104, List.forall_mem_cons.mpr ⟨ok102, List.forall_mem_cons.mpr ⟨ok101, List.forall_mem_cons.mpr ⟨ok98, List.forall_mem_cons.mpr ⟨ok97, fun _ h => absurd h List.not_mem_nil⟩⟩⟩⟩⟩) (by decide +kernel)
set_option maxRecDepth 1000000 in
def an106 : List (Nat × List (Nat × An)) := []
set_option maxRecDepth 1000000 in
theorem ok106 : SmOK rgT sm106 := vfy_sp (T := [sm103, sm100, sm92]) (AN := an106) (g := 312) (List.forall_mem_cons.mpr ⟨ok103, List.forall_mem_cons.mpr ⟨ok100, List.forall_mem_cons.mpr ⟨ok92, fun _ h => absurd h List.not_mem_nil⟩⟩⟩) (by decide +kernel)
set_option maxRecDepth 1000000 in
def an107 : List (Nat × List (Nat × An)) := []
set_option maxRecDepth 1000000 in
theorem ok107 : SmOK rgT sm107 := vfy_sp (T := [sm102]) (AN := an107) (g := 122) (List.forall_mem_cons.mpr ⟨ok102, fun _ h => absurd h List.not_mem_nil⟩) (by decide +kernel)
set_option maxRecDepth 1000000 in
def an108 : List (Nat × List (Nat × An)) := []
set_option maxRecDepth 1000000 in
theorem ok108 : SmOK rgT sm108 := vfy_sp (T := [sm107, sm106, sm103, sm100]) (AN := an108) (g := 102) (List.forall_mem_cons.mpr ⟨ok107, List.forall_mem_cons.mpr ⟨ok106, List.forall_mem_cons.mpr ⟨ok103, List.forall_mem_cons.mpr ⟨ok100, fun _ h => absurd h List.not_mem_nil⟩⟩⟩⟩) (by decide +kernel)
set_option maxRecDepth 1000000 in
def an109 : List (Nat × List (Nat × An)) := [(27, [(36, ([((0, 1, 0, (0, [])), 0, 2147483647)], ([], [], []), [], [], [], 0, true))])]
set_option maxRecDepth 1000000 in
theorem ok109 : SmOK rgT sm109 := vfy_sp (T := [sm108, sm105, sm101, sm96, sm95, sm91]) (AN := an109) (g := 353) (List.forall_mem_cons.mpr ⟨ok108, List.forall_mem_cons.mpr ⟨ok105, List.forall_mem_cons.mpr ⟨ok101, List.forall_mem_cons.mpr ⟨ok96, List.forall_mem_cons.mpr ⟨ok95, List.forall_mem_cons.mpr ⟨ok91, fun _ h => absurd h List.not_mem_nil⟩⟩⟩⟩⟩⟩) (by decide +kernel)
set_option maxRecDepth 1000000 in
def an110 : List (Nat × List (Nat × An)) := []
set_option maxRecDepth 1000000 in
theorem ok110 : SmOK rgT sm110 := vfy_sp (T := []) (AN := an110) (g := 87) (fun _ h => absurd h List.not_mem_nil) (by decide +kernel)
set_option maxRecDepth 1000000 in
def an111 : List (Nat × List (Nat × An)) := []
set_option maxRecDepth 1000000 in
theorem ok111 : SmOK rgT sm111 := vfy_sp (T := []) (AN := an111) (g := 83) (fun _ h => absurd h List.not_mem_nil) (by decide +kernel)
set_option maxRecDepth 1000000 in
def an112 : List (Nat × List (Nat × An)) := [(28, [(35, ([((0, 3, 0, (0, [])), 0, 2147483647)], ([], [], []), [], [], [], 0, true))])]
set_option maxRecDepth 1000000 in
theorem ok112 : SmOK rgT sm112 := vfy_sp (T := [sm111, sm110]) (AN := an112) (g := 107) (List.forall_mem_cons.mpr ⟨ok111, List.forall_mem_cons.mpr ⟨ok110, fun _ h => absurd h List.not_mem_nil⟩⟩) (by decide +kernel)
set_option maxRecDepth 1000000 in
def an113 : List (Nat × List (Nat × An)) := []
set_option maxRecDepth 1000000 in
theorem ok113 : SmOK rgT sm113 := vfy_sp (T := [sm112, sm110, sm109, sm89]) (AN := an113) (g := 166) (List.forall_mem_cons.mpr ⟨ok112, List.forall_mem_cons.mpr ⟨ok110, List.forall_mem_cons.mpr ⟨ok109, List.forall_mem_cons.mpr ⟨ok89, fun _ h => absurd h List.not_mem_nil⟩⟩⟩⟩) (by decide +kernel)
set_option maxRecDepth 1000000 in
def an114 : List (Nat × List (Nat × An)) := []
set_option maxRecDepth 1000000 in
theorem ok114 : SmOK rgT sm114 := vfy_sp (T := []) (AN := an114) (g := 90) (fun _ h => absurd h List.not_mem_nil) (by decide +kernel)
set_option maxRecDepth 1000000 in
def an115 : List (Nat × List (Nat × An)) := []
set_option maxRecDepth 1000000 in
theorem ok115 : SmOK rgT sm115 := vfy_sp (T := [sm114]) (AN := an115) (g := 116) (List.forall_mem_cons.mpr ⟨ok114, fun _ h => absurd h List.not_mem_nil⟩) (by decide +kernel)
set_option maxRecDepth 1000000 in
def an116 : List (Nat × List (Nat × An)) := [(83, [(5, ([((0, 3, 0, (0, [])), 0, 2147483647), ((0, 2, 0, (0, [])), (-2147483648), 2147483647)], ([], [], []), [], [], [], 0, true))])]
set_option maxRecDepth 1000000 in
theorem ok116 : SmOK rgT sm116 := vfy_sp (T := [sm114]) (AN := an116) (g := 139) (List.forall_mem_cons.mpr ⟨ok114, fun _ h => absurd h List.not_mem_nil⟩) (by decide +kernel)
set_option maxRecDepth 1000000 in
def an117 : List (Nat × List (Nat × An)) := []
set_option maxRecDepth 1000000 in
theorem ok117 : SmOK rgT sm117 := vfy_sp (T := [sm116]) (AN := an117) (g := 90) (List.forall_mem_cons.mpr ⟨ok116, fun _ h => absurd h List.not_mem_nil⟩) (by decide +kernel)
set_option maxRecDepth 1000000 in
def an118 : List (Nat × List (Nat × An)) := []
set_option maxRecDepth 1000000 in
theorem ok118 : SmOK rgT sm118 := vfy_sp (T := []) (AN := an118) (g := 85) (fun _ h => absurd h List.not_mem_nil) (by decide +kernel)
set_option maxRecDepth 1000000 in
def an119 : List (Nat × List (Nat × An)) := []
set_option maxRecDepth 1000000 in
theorem ok119 : SmOK rgT sm119 := vfy_sp (T := []) (AN := an119) (g := 263) (fun _ h => absurd h List.not_mem_nil) (by decide +kernel)
set_option maxRecDepth 1000000 in
def an120 : List (Nat × List (Nat × An)) := []
set_option maxRecDepth 1000000 in
theorem ok120 : SmOK rgT sm120 := vfy_sp (T := []) (AN := an120) (g := 84) (fun _ h => absurd h List.not_mem_nil) (by decide +kernel)
set_option maxRecDepth 1000000 in
def an121 : List (Nat × List (Nat × An)) := [(49, [(20, ([((0, 7, 0, (0, [])), 0, 2147483647)], ([], [], []), [], [], [(0, 35, 1, 1)], 0, true))])]
set_option maxRecDepth 1000000 in
theorem ok121 : SmOK rgT sm121 := vfy_sp (T := [sm120, sm119, sm118, sm114]) (AN := an121) (g := 215) (List.forall_mem_cons.mpr ⟨ok120, List.forall_mem_cons.mpr ⟨ok119, List.forall_mem_cons.mpr ⟨ok118, List.forall_mem_cons.mpr ⟨ok114, fun _ h => absurd h List.not_mem_nil⟩⟩⟩⟩) (by decide +kernel)
set_option maxRecDepth 1000000 in
def an122 : List (Nat × List (Nat × An)) := []
set_option maxRecDepth 1000000 in
theorem ok122 : SmOK rgT sm122 := vfy_sp (T := [sm121, sm116]) (AN := an122) (g := 102) (List.forall_mem_cons.mpr ⟨ok121, List.forall_mem_cons.mpr ⟨ok116, fun _ h => absurd h List.not_mem_nil⟩⟩) (by decide +kernel)
set_option maxRecDepth 1000000 in
def an123 : List (Nat × List (Nat × An)) := []
set_option maxRecDepth 1000000 in
theorem ok123 : SmOK rgT sm123 := vfy_sp (T := [sm122]) (AN := an123) (g := 95) (List.forall_mem_cons.mpr ⟨ok122, fun _ h => absurd h List.not_mem_nil⟩) (by decide +kernel)
set_option maxRecDepth 1000000 in
def an124 : List (Nat × List (Nat × An)) := []
set_option maxRecDepth 1000000 in
theorem ok124 : SmOK rgT sm124 := vfy_sp (T := [sm122, sm32]) (AN := an124) (g := 129) (List.forall_mem_cons.mpr ⟨ok122, List.forall_mem_cons.mpr ⟨ok32, fun _ h => absurd h List.not_mem_nil⟩⟩) (by decide +kernel)
set_option maxRecDepth 1000000 in
def an125 : List (Nat × List (Nat × An)) := []
set_option maxRecDepth 1000000 in
theorem ok125 : SmOK rgT sm125 := vfy_sp (T := [sm39, sm32]) (AN := an125) (g := 75) (List.forall_mem_cons.mpr ⟨ok39, List.forall_mem_cons.mpr ⟨ok32, fun _ h => absurd h List.not_mem_nil⟩⟩) (by decide +kernel)
set_option maxRecDepth 1000000 in
def an126 : List (Nat × List (Nat × An)) := []
set_option maxRecDepth 1000000 in
theorem ok126 : SmOK rgT sm126 := vfy_sp (T := [sm125, sm124, sm48, sm39, sm32]) (AN := an126) (g := 151) (List.forall_mem_cons.mpr ⟨ok125, List.forall_mem_cons.mpr ⟨ok124, List.forall_mem_cons.mpr ⟨ok48, List.forall_mem_cons.mpr ⟨ok39, List.forall_mem_cons.mpr ⟨ok32, fun _ h => absurd h List.not_mem_nil⟩⟩⟩⟩⟩) (by decide +kernel)
set_option maxRecDepth 1000000 in
def an127 : List (Nat × List (Nat × An)) := []
set_option maxRecDepth 1000000 in
theorem ok127 : SmOK rgT sm127 := vfy_sp (T := [sm124, sm48]) (AN := an127) (g := 125) (List.forall_mem_cons.mpr ⟨ok124, List.forall_mem_cons.mpr ⟨ok48, fun _ h => absurd h List.not_mem_nil⟩⟩) (by decide +kernel)
set_option maxRecDepth 1000000 in
def an128 : List (Nat × List (Nat × An)) := []
set_option maxRecDepth 1000000 in
theorem ok128 : SmOK rgT sm128 := vfy_sp (T := []) (AN := an128) (g := 87) (fun _ h => absurd h List.not_mem_nil) (by decide +kernel)
set_option maxRecDepth 1000000 in
def an129 : List (Nat × List (Nat × An)) := []
set_option maxRecDepth 1000000 in
theorem ok129 : SmOK rgT sm129 := vfy_sp (T := [sm128]) (AN := an129) (g := 137) (List.forall_mem_cons.mpr ⟨ok128, fun _ h => absurd h List.not_mem_nil⟩) (by decide +kernel)
set_option maxRecDepth 1000000 in
def an130 : List (Nat × List (Nat × An)) := []
set_option maxRecDepth 1000000 in
theorem ok130 : SmOK rgT sm130 := vfy_sp (T := [sm129, sm122, sm48, sm39, sm32]) (AN := an130) (g := 193) (List.forall_mem_cons.mpr ⟨ok129, List.forall_mem_cons.mpr ⟨ok122, List.forall_mem_cons.mpr ⟨ok48, List.forall_mem_cons.mpr ⟨ok39, List.forall_mem_cons.mpr ⟨ok32, fun _ h => absurd h List.not_mem_nil⟩⟩⟩⟩⟩) (by decide +kernel)
set_option maxRecDepth 1000000 in
def an131 : List (Nat × List (Nat × An)) := []
set_option maxRecDepth 1000000 in
theorem ok131 : SmOK rgT sm131 := vfy_sp (T := [sm129, sm48]) (AN := an131) (g := 174) (List.forall_mem_cons.mpr ⟨ok129, List.forall_mem_cons.mpr ⟨ok48, fun _ h => absurd h List.not_mem_nil⟩⟩) (by decide +kernel)
set_option maxRecDepth 1000000 in
def an132 : List (Nat × List (Nat × An)) := []
set_option maxRecDepth 1000000 in
theorem ok132 : SmOK rgT sm132 := vfy_sp (T := []) (AN := an132) (g := 90) (fun _ h => absurd h List.not_mem_nil) (by decide +kernel)
set_option maxRecDepth 1000000 in
def an133 : List (Nat × List (Nat × An)) := []
set_option maxRecDepth 1000000 in
theorem ok133 : SmOK rgT sm133 := vfy_sp (T := [sm132, sm128, sm48]) (AN := an133) (g := 129) (List.forall_mem_cons.mpr ⟨ok132, List.forall_mem_cons.mpr ⟨ok128, List.forall_mem_cons.mpr ⟨ok48, fun _ h => absurd h List.not_mem_nil⟩⟩⟩) (by decide +kernel)
set_option maxRecDepth 1000000 in
def an134 : List (Nat × List (Nat × An)) := []
set_option maxRecDepth 1000000 in
theorem ok134 : SmOK rgT sm134 := vfy_sp (T := [sm132]) (AN := an134) (g := 116) (List.forall_mem_cons.mpr ⟨ok132, fun _ h => absurd h List.not_mem_nil⟩) (by decide +kernel)
set_option maxRecDepth 1000000 in
def an135 : List (Nat × List (Nat × An)) := []
set_option maxRecDepth 1000000 in
theorem ok135 : SmOK rgT sm135 := vfy_sp (T := [sm132]) (AN := an135) (g := 97) (List.forall_mem_cons.mpr ⟨ok132, fun _ h => absurd h List.not_mem_nil⟩) (by decide +kernel)
set_option maxRecDepth 1000000 in
def an136 : List (Nat × List (Nat × An)) := [(86, [(13, ([((0, 4, 0, (0, [])), 0, 2147483647), ((0, 3, 0, (0, [])), (-2147483648), 2147483647)], ([], [], []), [], [], [], 0, true))])]
set_option maxRecDepth 1000000 in
theorem ok136 : SmOK rgT sm136 := vfy_sp (T := [sm135, sm132, sm32]) (AN := an136) (g := 111) (List.forall_mem_cons.mpr ⟨ok135, List.forall_mem_cons.mpr ⟨ok132, List.forall_mem_cons.mpr ⟨ok32, fun _ h => absurd h List.not_mem_nil⟩⟩⟩) (by decide +kernel)
set_option maxRecDepth 1000000 in
def an137 : List (Nat × List (Nat × An)) := []
set_option maxRecDepth 1000000 in
theorem ok137 : SmOK rgT sm137 := vfy_sp (T := [sm136]) (AN := an137) (g := 115) (List.forall_mem_cons.mpr ⟨ok136, fun _ h => absurd h List.not_mem_nil⟩) (by decide +kernel)
set_option maxRecDepth 1000000 in
def an138 : List (Nat × List (Nat × An)) := []
set_option maxRecDepth 1000000 in
theorem ok138 : SmOK rgT sm138 := vfy_sp (T := [sm28, sm26]) (AN := an138) (g := 71) (List.forall_mem_cons.mpr ⟨ok28, List.forall_mem_cons.mpr ⟨ok26, fun _ h => absurd h List.not_mem_nil⟩⟩) (by decide +kernel)
set_option maxRecDepth 1000000 in
def an139 : List (Nat × List (Nat × An)) := [(3, [(2, ([((0, 3, 0, (0, [])), 0, 2147483647)], ([], [], []), [], [], [], 0, true))])]
set_option maxRecDepth 1000000 in
theorem ok139 : SmOK rgT sm139 := vfy_sp (T := [sm138, sm81, sm52, sm35, sm28]) (AN := an139) (g := 138) (List.forall_mem_cons.mpr ⟨ok138, List.forall_mem_cons.mpr ⟨ok81, List.forall_mem_cons.mpr ⟨ok52, List.forall_mem_cons.mpr ⟨ok35, List.forall_mem_cons.mpr ⟨ok28, fun _ h => absurd h List.not_mem_nil⟩⟩⟩⟩⟩) (by decide +kernel)
set_option maxRecDepth 1000000 in
def an140 : List (Nat × List (Nat × An)) := []
set_option maxRecDepth 1000000 in
theorem ok140 : SmOK rgT sm140 := vfy_sp (T := [sm39, sm32]) (AN := an140) (g := 71) (List.forall_mem_cons.mpr ⟨ok39, List.forall_mem_cons.mpr ⟨ok32, fun _ h => absurd h List.not_mem_nil⟩⟩) (by decide +kernel)
set_option maxRecDepth 1000000 in
def an141 : List (Nat × List (Nat × An)) := []
set_option maxRecDepth 1000000 in
theorem ok141 : SmOK rgT sm141 := vfy_sp (T := [sm39, sm32]) (AN := an141) (g := 108) (List.forall_mem_cons.mpr ⟨ok39, List.forall_mem_cons.mpr ⟨ok32, fun _ h => absurd h List.not_mem_nil⟩⟩) (by decide +kernel)
set_option maxRecDepth 1000000 in
def an142 : List (Nat × List (Nat × An)) := []
set_option maxRecDepth 1000000 in
theorem ok142 : SmOK rgT sm142 := vfy_sp (T := [sm141, sm140, sm138, sm125, sm122, sm48, sm32, sm28]) (AN := an142) (g := 370) (List.forall_mem_cons.mpr ⟨ok141, List.forall_mem_cons.mpr ⟨ok140, List.forall_mem_cons.mpr ⟨ok138, List.forall_mem_cons.mpr ⟨ok125, List.forall_mem_cons.mpr ⟨ok122, List.forall_mem_cons.mpr ⟨ok48, List.forall_mem_cons.mpr ⟨ok32, List.forall_mem_cons.mpr ⟨ok28, fun _ h => absurd h List.not_mem_nil⟩⟩⟩⟩⟩⟩⟩⟩) (by decide +kernel)
set_option maxRecDepth 1000000 in
def an143 : List (Nat × List (Nat × An)) := []
set_option maxRecDepth 1000000 in
theorem ok143 : SmOK rgT sm143 := vfy_sp (T := [sm125, sm53, sm43, sm39]) (AN := an143) (g := 97) (List.forall_mem_cons.mpr ⟨ok125, List.forall_mem_cons.mpr ⟨ok53, List.forall_mem_cons.mpr ⟨ok43, List.forall_mem_cons.mpr ⟨ok39, fun _ h => absurd h List.not_mem_nil⟩⟩⟩⟩) (by decide +kernel)
set_option maxRecDepth 1000000 in
def an144 : List (Nat × List (Nat × An)) := [(0, [(2, ([((0, 2, 0, (0, [])), 0, 2147483647)], ([], [], []), [], [], [], 0, true)), (27, ([((0, 2, 0, (0, [])), 0, 2147483647)], ([], [], []), [], [], [], 0, true)), (76, ([((0, 2, 0, (0, [])), 0, 2147483647)], ([], [], []), [], [], [], 0, true))])]
set_option maxRecDepth 1000000 in
theorem ok144 : SmOK rgT sm144 := vfy_sp (T := [sm143, sm142, sm139, sm136, sm48, sm28, sm26]) (AN := an144) (g := 153) (List.forall_mem_cons.mpr ⟨ok143, List.forall_mem_cons.mpr ⟨ok142, List.forall_mem_cons.mpr ⟨ok139, List.forall_mem_cons.mpr ⟨ok136, List.forall_mem_cons.mpr ⟨ok48, List.forall_mem_cons.mpr ⟨ok28, List.forall_mem_cons.mpr ⟨ok26, fun _ h => absurd h List.not_mem_nil⟩⟩⟩⟩⟩⟩⟩) (by decide +kernel)
set_option maxRecDepth 1000000 in
def an145 : List (Nat × List (Nat × An)) := [(142, [(33, ([((0, 2, 0, (0, [])), 0, 2147483647)], ([], [], []), [], [], [(0, 1, 5, 5)], 0, true))])]
set_option maxRecDepth 1000000 in
theorem ok145 : SmOK rgT sm145 := vfy_sp (T := [sm144]) (AN := an145) (g := 111) (List.forall_mem_cons.mpr ⟨ok144, fun _ h => absurd h List.not_mem_nil⟩) (by decide +kernel)
set_option maxRecDepth 1000000 in
def an146 : List (Nat × List (Nat × An)) := []
set_option maxRecDepth 1000000 in
theorem ok146 : SmOK rgT sm146 := vfy_sp (T := []) (AN := an146) (g := 94) (fun _ h => absurd h List.not_mem_nil) (by decide +kernel)
set_option maxRecDepth 1000000 in
def an147 : List (Nat × List (Nat × An)) := [(63, [(4, ([((0, 1, 0, (0, [])), (-2147483648), 2147483647), ((0, 2, 0, (0, [])), 0, 2147483647)], ([], [], []), [], [], [], 1, true))])]
set_option maxRecDepth 1000000 in
theorem ok147 : SmOK rgT sm147 := vfy_sp (T := [sm48]) (AN := an147) (g := 95) (List.forall_mem_cons.mpr ⟨ok48, fun _ h => absurd h List.not_mem_nil⟩) (by decide +kernel)
set_option maxRecDepth 1000000 in
def an148 : List (Nat × List (Nat × An)) := [(88, [(42, ([((0, 4, 0, (0, [])), 0, 2147483647), ((0, 3, 0, (0, [])), (-2147483648), 2147483647)], ([], [], []), [], [], [], 0, true))])]
set_option maxRecDepth 1000000 in
theorem ok148 : SmOK rgT sm148 := vfy_sp (T := [sm34]) (AN := an148) (g := 197) (List.forall_mem_cons.mpr ⟨ok34, fun _ h => absurd h List.not_mem_nil⟩) (by decide +kernel)
set_option maxRecDepth 1000000 in
def an149 : List (Nat × List (Nat × An)) := [(144, [(26, ([((0, 3, 0, (0, [])), (-2147483648), 2147483647), ((0, 4, 0, (0, [])), 0, 2147483647)], ([], [], []), [], [], [], 1, true))])]
set_option maxRecDepth 1000000 in
theorem ok149 : SmOK rgT sm149 := vfy_sp (T := [sm148, sm147]) (AN := an149) (g := 138) (List.forall_mem_cons.mpr ⟨ok148, List.forall_mem_cons.mpr ⟨ok147, fun _ h => absurd h List.not_mem_nil⟩⟩) (by decide +kernel)
set_option maxRecDepth 1000000 in
def an150 : List (Nat × List (Nat × An)) := []
set_option maxRecDepth 1000000 in
theorem ok150 : SmOK rgT sm150 := vfy_sp (T := []) (AN := an150) (g := 2707) (fun _ h => absurd h List.not_mem_nil) (by decide +kernel)
