/-! Printed by wip/ai/tab.py. -/
set_option maxRecDepth 1000000 in
def an101 : List (Nat × List (Nat × An)) := []
set_option maxRecDepth 1000000 in
theorem ok101 : SmOK rgT sm101 := vfy_sp (T := []) (AN := an101) (g := 82) (fun _ h => absurd h List.not_mem_nil) (by decide +kernel)
set_option maxRecDepth 1000000 in
def an102 : List (Nat × List (Nat × An)) := []
set_option maxRecDepth 1000000 in
theorem ok102 : SmOK rgT sm102 := vfy_sp (T := []) (AN := an102) (g := 82) (fun _ h => absurd h List.not_mem_nil) (by decide +kernel)
set_option maxRecDepth 1000000 in
def an103 : List (Nat × List (Nat × An)) := []
set_option maxRecDepth 1000000 in
theorem ok103 : SmOK rgT sm103 := vfy_sp (T := []) (AN := an103) (g := 85) (fun _ h => absurd h List.not_mem_nil) (by decide +kernel)
set_option maxRecDepth 1000000 in
def an104 : List (Nat × List (Nat × An)) := []
set_option maxRecDepth 1000000 in
theorem ok104 : SmOK rgT sm104 := vfy_sp (T := []) (AN := an104) (g := 84) (fun _ h => absurd h List.not_mem_nil) (by decide +kernel)
set_option maxRecDepth 1000000 in
def an105 : List (Nat × List (Nat × An)) := [(46, [(2, ([((0, 2, 0, (0, [])), 0, 2147483647)], ([], [], []), [], [], [], 0, true))])]
set_option maxRecDepth 1000000 in
theorem ok105 : SmOK rgT sm105 := vfy_sp (T := [sm104, sm103, sm102, sm101]) (AN := an105) (g := 85) (List.forall_mem_cons.mpr ⟨ok104, List.forall_mem_cons.mpr ⟨ok103, List.forall_mem_cons.mpr ⟨ok102, List.forall_mem_cons.mpr ⟨ok101, fun _ h => absurd h List.not_mem_nil⟩⟩⟩⟩) (by decide +kernel)
set_option maxRecDepth 1000000 in
def an106 : List (Nat × List (Nat × An)) := []
set_option maxRecDepth 1000000 in
theorem ok106 : SmOK rgT sm106 := vfy_sp (T := []) (AN := an106) (g := 84) (fun _ h => absurd h List.not_mem_nil) (by decide +kernel)
set_option maxRecDepth 1000000 in
def an107 : List (Nat × List (Nat × An)) := [(45, [(0, ([((1, 0, 55, (11, [])), (-2147483648), 2147483647)], ([], [], []), [], [], [(0, 55, 11, 11)], 0, false))])]
set_option maxRecDepth 1000000 in
theorem ok107 : SmOK rgT sm107 := vfy_sp (T := [sm104, sm103, sm101]) (AN := an107) (g := 97) (List.forall_mem_cons.mpr ⟨ok104, List.forall_mem_cons.mpr ⟨ok103, List.forall_mem_cons.mpr ⟨ok101, fun _ h => absurd h List.not_mem_nil⟩⟩⟩) (by decide +kernel)
set_option maxRecDepth 1000000 in
def an108 : List (Nat × List (Nat × An)) := []
set_option maxRecDepth 1000000 in
theorem ok108 : SmOK rgT sm108 := vfy_sp (T := [sm107, sm105, sm103]) (AN := an108) (g := 99) (List.forall_mem_cons.mpr ⟨ok107, List.forall_mem_cons.mpr ⟨ok105, List.forall_mem_cons.mpr ⟨ok103, fun _ h => absurd h List.not_mem_nil⟩⟩⟩) (by decide +kernel)
set_option maxRecDepth 1000000 in
def an109 : List (Nat × List (Nat × An)) := []
set_option maxRecDepth 1000000 in
theorem ok109 : SmOK rgT sm109 := vfy_sp (T := [sm108, sm106, sm105, sm102, sm101]) (AN := an109) (g := 273) (List.forall_mem_cons.mpr ⟨ok108, List.forall_mem_cons.mpr ⟨ok106, List.forall_mem_cons.mpr ⟨ok105, List.forall_mem_cons.mpr ⟨ok102, List.forall_mem_cons.mpr ⟨ok101, fun _ h => absurd h List.not_mem_nil⟩⟩⟩⟩⟩) (by decide +kernel)
set_option maxRecDepth 1000000 in
def an110 : List (Nat × List (Nat × An)) := []
set_option maxRecDepth 1000000 in
theorem ok110 : SmOK rgT sm110 := vfy_sp (T := [sm107, sm104, sm96]) (AN := an110) (g := 312) (List.forall_mem_cons.mpr ⟨ok107, List.forall_mem_cons.mpr ⟨ok104, List.forall_mem_cons.mpr ⟨ok96, fun _ h => absurd h List.not_mem_nil⟩⟩⟩) (by decide +kernel)
set_option maxRecDepth 1000000 in
def an111 : List (Nat × List (Nat × An)) := []
set_option maxRecDepth 1000000 in
theorem ok111 : SmOK rgT sm111 := vfy_sp (T := [sm106]) (AN := an111) (g := 122) (List.forall_mem_cons.mpr ⟨ok106, fun _ h => absurd h List.not_mem_nil⟩) (by decide +kernel)
set_option maxRecDepth 1000000 in
def an112 : List (Nat × List (Nat × An)) := []
set_option maxRecDepth 1000000 in
theorem ok112 : SmOK rgT sm112 := vfy_sp (T := [sm111, sm110, sm107, sm104]) (AN := an112) (g := 102) (List.forall_mem_cons.mpr ⟨ok111, List.forall_mem_cons.mpr ⟨ok110, List.forall_mem_cons.mpr ⟨ok107, List.forall_mem_cons.mpr ⟨ok104, fun _ h => absurd h List.not_mem_nil⟩⟩⟩⟩) (by decide +kernel)
set_option maxRecDepth 1000000 in
def an113 : List (Nat × List (Nat × An)) := [(27, [(36, ([((0, 1, 0, (0, [])), 0, 2147483647)], ([], [], []), [], [], [], 0, true))])]
set_option maxRecDepth 1000000 in
theorem ok113 : SmOK rgT sm113 := vfy_sp (T := [sm112, sm109, sm105, sm100, sm99, sm95]) (AN := an113) (g := 353) (List.forall_mem_cons.mpr ⟨ok112, List.forall_mem_cons.mpr ⟨ok109, List.forall_mem_cons.mpr ⟨ok105, List.forall_mem_cons.mpr ⟨ok100, List.forall_mem_cons.mpr ⟨ok99, List.forall_mem_cons.mpr ⟨ok95, fun _ h => absurd h List.not_mem_nil⟩⟩⟩⟩⟩⟩) (by decide +kernel)
set_option maxRecDepth 1000000 in
def an114 : List (Nat × List (Nat × An)) := []
set_option maxRecDepth 1000000 in
theorem ok114 : SmOK rgT sm114 := vfy_sp (T := []) (AN := an114) (g := 87) (fun _ h => absurd h List.not_mem_nil) (by decide +kernel)
set_option maxRecDepth 1000000 in
def an115 : List (Nat × List (Nat × An)) := []
set_option maxRecDepth 1000000 in
theorem ok115 : SmOK rgT sm115 := vfy_sp (T := []) (AN := an115) (g := 83) (fun _ h => absurd h List.not_mem_nil) (by decide +kernel)
set_option maxRecDepth 1000000 in
def an116 : List (Nat × List (Nat × An)) := [(28, [(35, ([((0, 3, 0, (0, [])), 0, 2147483647)], ([], [], []), [], [], [], 0, true))])]
set_option maxRecDepth 1000000 in
theorem ok116 : SmOK rgT sm116 := vfy_sp (T := [sm115, sm114]) (AN := an116) (g := 107) (List.forall_mem_cons.mpr ⟨ok115, List.forall_mem_cons.mpr ⟨ok114, fun _ h => absurd h List.not_mem_nil⟩⟩) (by decide +kernel)
set_option maxRecDepth 1000000 in
def an117 : List (Nat × List (Nat × An)) := []
set_option maxRecDepth 1000000 in
theorem ok117 : SmOK rgT sm117 := vfy_sp (T := [sm116, sm114, sm113, sm93]) (AN := an117) (g := 166) (List.forall_mem_cons.mpr ⟨ok116, List.forall_mem_cons.mpr ⟨ok114, List.forall_mem_cons.mpr ⟨ok113, List.forall_mem_cons.mpr ⟨ok93, fun _ h => absurd h List.not_mem_nil⟩⟩⟩⟩) (by decide +kernel)
set_option maxRecDepth 1000000 in
def an118 : List (Nat × List (Nat × An)) := []
set_option maxRecDepth 1000000 in
theorem ok118 : SmOK rgT sm118 := vfy_sp (T := []) (AN := an118) (g := 90) (fun _ h => absurd h List.not_mem_nil) (by decide +kernel)
set_option maxRecDepth 1000000 in
def an119 : List (Nat × List (Nat × An)) := []
set_option maxRecDepth 1000000 in
theorem ok119 : SmOK rgT sm119 := vfy_sp (T := [sm118]) (AN := an119) (g := 116) (List.forall_mem_cons.mpr ⟨ok118, fun _ h => absurd h List.not_mem_nil⟩) (by decide +kernel)
set_option maxRecDepth 1000000 in
def an120 : List (Nat × List (Nat × An)) := [(83, [(5, ([((0, 3, 0, (0, [])), 0, 2147483647), ((0, 2, 0, (0, [])), (-2147483648), 2147483647)], ([], [], []), [], [], [], 0, true))])]
set_option maxRecDepth 1000000 in
theorem ok120 : SmOK rgT sm120 := vfy_sp (T := [sm118]) (AN := an120) (g := 139) (List.forall_mem_cons.mpr ⟨ok118, fun _ h => absurd h List.not_mem_nil⟩) (by decide +kernel)
set_option maxRecDepth 1000000 in
def an121 : List (Nat × List (Nat × An)) := []
set_option maxRecDepth 1000000 in
theorem ok121 : SmOK rgT sm121 := vfy_sp (T := [sm120]) (AN := an121) (g := 90) (List.forall_mem_cons.mpr ⟨ok120, fun _ h => absurd h List.not_mem_nil⟩) (by decide +kernel)
set_option maxRecDepth 1000000 in
def an122 : List (Nat × List (Nat × An)) := []
set_option maxRecDepth 1000000 in
theorem ok122 : SmOK rgT sm122 := vfy_sp (T := []) (AN := an122) (g := 85) (fun _ h => absurd h List.not_mem_nil) (by decide +kernel)
set_option maxRecDepth 1000000 in
def an123 : List (Nat × List (Nat × An)) := []
set_option maxRecDepth 1000000 in
theorem ok123 : SmOK rgT sm123 := vfy_sp (T := []) (AN := an123) (g := 263) (fun _ h => absurd h List.not_mem_nil) (by decide +kernel)
set_option maxRecDepth 1000000 in
def an124 : List (Nat × List (Nat × An)) := []
set_option maxRecDepth 1000000 in
theorem ok124 : SmOK rgT sm124 := vfy_sp (T := []) (AN := an124) (g := 84) (fun _ h => absurd h List.not_mem_nil) (by decide +kernel)
set_option maxRecDepth 1000000 in
def an125 : List (Nat × List (Nat × An)) := [(49, [(20, ([((0, 7, 0, (0, [])), 0, 2147483647)], ([], [], []), [], [], [(0, 35, 1, 1)], 0, true))])]
set_option maxRecDepth 1000000 in
theorem ok125 : SmOK rgT sm125 := vfy_sp (T := [sm124, sm123, sm122, sm118]) (AN := an125) (g := 215) (List.forall_mem_cons.mpr ⟨ok124, List.forall_mem_cons.mpr ⟨ok123, List.forall_mem_cons.mpr ⟨ok122, List.forall_mem_cons.mpr ⟨ok118, fun _ h => absurd h List.not_mem_nil⟩⟩⟩⟩) (by decide +kernel)
set_option maxRecDepth 1000000 in
def an126 : List (Nat × List (Nat × An)) := []
set_option maxRecDepth 1000000 in
theorem ok126 : SmOK rgT sm126 := vfy_sp (T := [sm125, sm120]) (AN := an126) (g := 102) (List.forall_mem_cons.mpr ⟨ok125, List.forall_mem_cons.mpr ⟨ok120, fun _ h => absurd h List.not_mem_nil⟩⟩) (by decide +kernel)
set_option maxRecDepth 1000000 in
def an127 : List (Nat × List (Nat × An)) := []
set_option maxRecDepth 1000000 in
theorem ok127 : SmOK rgT sm127 := vfy_sp (T := [sm126]) (AN := an127) (g := 95) (List.forall_mem_cons.mpr ⟨ok126, fun _ h => absurd h List.not_mem_nil⟩) (by decide +kernel)
set_option maxRecDepth 1000000 in
def an128 : List (Nat × List (Nat × An)) := []
set_option maxRecDepth 1000000 in
theorem ok128 : SmOK rgT sm128 := vfy_sp (T := [sm126, sm36]) (AN := an128) (g := 129) (List.forall_mem_cons.mpr ⟨ok126, List.forall_mem_cons.mpr ⟨ok36, fun _ h => absurd h List.not_mem_nil⟩⟩) (by decide +kernel)
set_option maxRecDepth 1000000 in
def an129 : List (Nat × List (Nat × An)) := []
set_option maxRecDepth 1000000 in
theorem ok129 : SmOK rgT sm129 := vfy_sp (T := [sm43, sm36]) (AN := an129) (g := 75) (List.forall_mem_cons.mpr ⟨ok43, List.forall_mem_cons.mpr ⟨ok36, fun _ h => absurd h List.not_mem_nil⟩⟩) (by decide +kernel)
set_option maxRecDepth 1000000 in
def an130 : List (Nat × List (Nat × An)) := []
set_option maxRecDepth 1000000 in
theorem ok130 : SmOK rgT sm130 := vfy_sp (T := [sm129, sm128, sm52, sm43, sm36]) (AN := an130) (g := 151) (List.forall_mem_cons.mpr ⟨ok129, List.forall_mem_cons.mpr ⟨ok128, List.forall_mem_cons.mpr ⟨ok52, List.forall_mem_cons.mpr ⟨ok43, List.forall_mem_cons.mpr ⟨ok36, fun _ h => absurd h List.not_mem_nil⟩⟩⟩⟩⟩) (by decide +kernel)
set_option maxRecDepth 1000000 in
def an131 : List (Nat × List (Nat × An)) := []
set_option maxRecDepth 1000000 in
theorem ok131 : SmOK rgT sm131 := vfy_sp (T := [sm128, sm52]) (AN := an131) (g := 125) (List.forall_mem_cons.mpr ⟨ok128, List.forall_mem_cons.mpr ⟨ok52, fun _ h => absurd h List.not_mem_nil⟩⟩) (by decide +kernel)
set_option maxRecDepth 1000000 in
def an132 : List (Nat × List (Nat × An)) := []
set_option maxRecDepth 1000000 in
theorem ok132 : SmOK rgT sm132 := vfy_sp (T := []) (AN := an132) (g := 87) (fun _ h => absurd h List.not_mem_nil) (by decide +kernel)
set_option maxRecDepth 1000000 in
def an133 : List (Nat × List (Nat × An)) := []
set_option maxRecDepth 1000000 in
theorem ok133 : SmOK rgT sm133 := vfy_sp (T := [sm132]) (AN := an133) (g := 137) (List.forall_mem_cons.mpr ⟨ok132, fun _ h => absurd h List.not_mem_nil⟩) (by decide +kernel)
set_option maxRecDepth 1000000 in
def an134 : List (Nat × List (Nat × An)) := []
set_option maxRecDepth 1000000 in
theorem ok134 : SmOK rgT sm134 := vfy_sp (T := [sm133, sm126, sm52, sm43, sm36]) (AN := an134) (g := 193) (List.forall_mem_cons.mpr ⟨ok133, List.forall_mem_cons.mpr ⟨ok126, List.forall_mem_cons.mpr ⟨ok52, List.forall_mem_cons.mpr ⟨ok43, List.forall_mem_cons.mpr ⟨ok36, fun _ h => absurd h List.not_mem_nil⟩⟩⟩⟩⟩) (by decide +kernel)
set_option maxRecDepth 1000000 in
def an135 : List (Nat × List (Nat × An)) := []
set_option maxRecDepth 1000000 in
theorem ok135 : SmOK rgT sm135 := vfy_sp (T := [sm133, sm52]) (AN := an135) (g := 174) (List.forall_mem_cons.mpr ⟨ok133, List.forall_mem_cons.mpr ⟨ok52, fun _ h => absurd h List.not_mem_nil⟩⟩) (by decide +kernel)
set_option maxRecDepth 1000000 in
def an136 : List (Nat × List (Nat × An)) := []
set_option maxRecDepth 1000000 in
theorem ok136 : SmOK rgT sm136 := vfy_sp (T := []) (AN := an136) (g := 90) (fun _ h => absurd h List.not_mem_nil) (by decide +kernel)
set_option maxRecDepth 1000000 in
def an137 : List (Nat × List (Nat × An)) := []
set_option maxRecDepth 1000000 in
theorem ok137 : SmOK rgT sm137 := vfy_sp (T := [sm136, sm132, sm52]) (AN := an137) (g := 129) (List.forall_mem_cons.mpr ⟨ok136, List.forall_mem_cons.mpr ⟨ok132, List.forall_mem_cons.mpr ⟨ok52, fun _ h => absurd h List.not_mem_nil⟩⟩⟩) (by decide +kernel)
set_option maxRecDepth 1000000 in
def an138 : List (Nat × List (Nat × An)) := []
set_option maxRecDepth 1000000 in
theorem ok138 : SmOK rgT sm138 := vfy_sp (T := [sm136]) (AN := an138) (g := 116) (List.forall_mem_cons.mpr ⟨ok136, fun _ h => absurd h List.not_mem_nil⟩) (by decide +kernel)
set_option maxRecDepth 1000000 in
def an139 : List (Nat × List (Nat × An)) := []
set_option maxRecDepth 1000000 in
theorem ok139 : SmOK rgT sm139 := vfy_sp (T := [sm136]) (AN := an139) (g := 97) (List.forall_mem_cons.mpr ⟨ok136, fun _ h => absurd h List.not_mem_nil⟩) (by decide +kernel)
set_option maxRecDepth 1000000 in
def an140 : List (Nat × List (Nat × An)) := [(86, [(13, ([((0, 4, 0, (0, [])), 0, 2147483647), ((0, 3, 0, (0, [])), (-2147483648), 2147483647)], ([], [], []), [], [], [], 0, true))])]
set_option maxRecDepth 1000000 in
theorem ok140 : SmOK rgT sm140 := vfy_sp (T := [sm139, sm136, sm36]) (AN := an140) (g := 111) (List.forall_mem_cons.mpr ⟨ok139, List.forall_mem_cons.mpr ⟨ok136, List.forall_mem_cons.mpr ⟨ok36, fun _ h => absurd h List.not_mem_nil⟩⟩⟩) (by decide +kernel)
set_option maxRecDepth 1000000 in
def an141 : List (Nat × List (Nat × An)) := []
set_option maxRecDepth 1000000 in
theorem ok141 : SmOK rgT sm141 := vfy_sp (T := [sm140]) (AN := an141) (g := 115) (List.forall_mem_cons.mpr ⟨ok140, fun _ h => absurd h List.not_mem_nil⟩) (by decide +kernel)
set_option maxRecDepth 1000000 in
def an142 : List (Nat × List (Nat × An)) := []
set_option maxRecDepth 1000000 in
theorem ok142 : SmOK rgT sm142 := vfy_sp (T := [sm32, sm30]) (AN := an142) (g := 71) (List.forall_mem_cons.mpr ⟨ok32, List.forall_mem_cons.mpr ⟨ok30, fun _ h => absurd h List.not_mem_nil⟩⟩) (by decide +kernel)
set_option maxRecDepth 1000000 in
def an143 : List (Nat × List (Nat × An)) := [(3, [(2, ([((0, 3, 0, (0, [])), 0, 2147483647)], ([], [], []), [], [], [], 0, true))])]
set_option maxRecDepth 1000000 in
theorem ok143 : SmOK rgT sm143 := vfy_sp (T := [sm142, sm85, sm56, sm39, sm32]) (AN := an143) (g := 138) (List.forall_mem_cons.mpr ⟨ok142, List.forall_mem_cons.mpr ⟨ok85, List.forall_mem_cons.mpr ⟨ok56, List.forall_mem_cons.mpr ⟨ok39, List.forall_mem_cons.mpr ⟨ok32, fun _ h => absurd h List.not_mem_nil⟩⟩⟩⟩⟩) (by decide +kernel)
set_option maxRecDepth 1000000 in
def an144 : List (Nat × List (Nat × An)) := []
set_option maxRecDepth 1000000 in
theorem ok144 : SmOK rgT sm144 := vfy_sp (T := [sm43, sm36]) (AN := an144) (g := 71) (List.forall_mem_cons.mpr ⟨ok43, List.forall_mem_cons.mpr ⟨ok36, fun _ h => absurd h List.not_mem_nil⟩⟩) (by decide +kernel)
set_option maxRecDepth 1000000 in
def an145 : List (Nat × List (Nat × An)) := []
set_option maxRecDepth 1000000 in
theorem ok145 : SmOK rgT sm145 := vfy_sp (T := [sm43, sm36]) (AN := an145) (g := 108) (List.forall_mem_cons.mpr ⟨ok43, List.forall_mem_cons.mpr ⟨ok36, fun _ h => absurd h List.not_mem_nil⟩⟩) (by decide +kernel)
set_option maxRecDepth 1000000 in
def an146 : List (Nat × List (Nat × An)) := []
set_option maxRecDepth 1000000 in
theorem ok146 : SmOK rgT sm146 := vfy_sp (T := [sm145, sm144, sm142, sm129, sm126, sm52, sm36, sm32]) (AN := an146) (g := 370) (List.forall_mem_cons.mpr ⟨ok145, List.forall_mem_cons.mpr ⟨ok144, List.forall_mem_cons.mpr ⟨ok142, List.forall_mem_cons.mpr ⟨ok129, List.forall_mem_cons.mpr ⟨ok126, List.forall_mem_cons.mpr ⟨ok52, List.forall_mem_cons.mpr ⟨ok36, List.forall_mem_cons.mpr ⟨ok32, fun _ h => absurd h List.not_mem_nil⟩⟩⟩⟩⟩⟩⟩⟩) (by decide +kernel)
set_option maxRecDepth 1000000 in
def an147 : List (Nat × List (Nat × An)) := []
set_option maxRecDepth 1000000 in
theorem ok147 : SmOK rgT sm147 := vfy_sp (T := [sm129, sm57, sm47, sm43]) (AN := an147) (g := 97) (List.forall_mem_cons.mpr ⟨ok129, List.forall_mem_cons.mpr ⟨ok57, List.forall_mem_cons.mpr ⟨ok47, List.forall_mem_cons.mpr ⟨ok43, fun _ h => absurd h List.not_mem_nil⟩⟩⟩⟩) (by decide +kernel)
set_option maxRecDepth 1000000 in
def an148 : List (Nat × List (Nat × An)) := [(0, [(2, ([((0, 2, 0, (0, [])), 0, 2147483647)], ([], [], []), [], [], [], 0, true)), (27, ([((0, 2, 0, (0, [])), 0, 2147483647)], ([], [], []), [], [], [], 0, true)), (76, ([((0, 2, 0, (0, [])), 0, 2147483647)], ([], [], []), [], [], [], 0, true))])]
set_option maxRecDepth 1000000 in
theorem ok148 : SmOK rgT sm148 := vfy_sp (T := [sm147, sm146, sm143, sm140, sm52, sm32, sm30]) (AN := an148) (g := 153) (List.forall_mem_cons.mpr ⟨ok147, List.forall_mem_cons.mpr ⟨ok146, List.forall_mem_cons.mpr ⟨ok143, List.forall_mem_cons.mpr ⟨ok140, List.forall_mem_cons.mpr ⟨ok52, List.forall_mem_cons.mpr ⟨ok32, List.forall_mem_cons.mpr ⟨ok30, fun _ h => absurd h List.not_mem_nil⟩⟩⟩⟩⟩⟩⟩) (by decide +kernel)
set_option maxRecDepth 1000000 in
def an149 : List (Nat × List (Nat × An)) := [(142, [(33, ([((0, 2, 0, (0, [])), 0, 2147483647)], ([], [], []), [], [], [(0, 1, 5, 5)], 0, true))])]
set_option maxRecDepth 1000000 in
theorem ok149 : SmOK rgT sm149 := vfy_sp (T := [sm148]) (AN := an149) (g := 111) (List.forall_mem_cons.mpr ⟨ok148, fun _ h => absurd h List.not_mem_nil⟩) (by decide +kernel)
set_option maxRecDepth 1000000 in
def an150 : List (Nat × List (Nat × An)) := []
set_option maxRecDepth 1000000 in
theorem ok150 : SmOK rgT sm150 := vfy_sp (T := []) (AN := an150) (g := 94) (fun _ h => absurd h List.not_mem_nil) (by decide +kernel)
set_option maxRecDepth 1000000 in
def an151 : List (Nat × List (Nat × An)) := [(63, [(4, ([((0, 1, 0, (0, [])), (-2147483648), 2147483647), ((0, 2, 0, (0, [])), 0, 2147483647)], ([], [], []), [], [], [], 1, true))])]
set_option maxRecDepth 1000000 in
theorem ok151 : SmOK rgT sm151 := vfy_sp (T := [sm52]) (AN := an151) (g := 95) (List.forall_mem_cons.mpr ⟨ok52, fun _ h => absurd h List.not_mem_nil⟩) (by decide +kernel)
set_option maxRecDepth 1000000 in
def an152 : List (Nat × List (Nat × An)) := [(88, [(42, ([((0, 4, 0, (0, [])), 0, 2147483647), ((0, 3, 0, (0, [])), (-2147483648), 2147483647)], ([], [], []), [], [], [], 0, true))])]
set_option maxRecDepth 1000000 in
theorem ok152 : SmOK rgT sm152 := vfy_sp (T := [sm38]) (AN := an152) (g := 197) (List.forall_mem_cons.mpr ⟨ok38, fun _ h => absurd h List.not_mem_nil⟩) (by decide +kernel)
set_option maxRecDepth 1000000 in
def an153 : List (Nat × List (Nat × An)) := [(144, [(26, ([((0, 3, 0, (0, [])), (-2147483648), 2147483647), ((0, 4, 0, (0, [])), 0, 2147483647)], ([], [], []), [], [], [], 1, true))])]
set_option maxRecDepth 1000000 in
theorem ok153 : SmOK rgT sm153 := vfy_sp (T := [sm152, sm151]) (AN := an153) (g := 138) (List.forall_mem_cons.mpr ⟨ok152, List.forall_mem_cons.mpr ⟨ok151, fun _ h => absurd h List.not_mem_nil⟩⟩) (by decide +kernel)
set_option maxRecDepth 1000000 in
def an154 : List (Nat × List (Nat × An)) := []
set_option maxRecDepth 1000000 in
theorem ok154 : SmOK rgT sm154 := vfy_sp (T := []) (AN := an154) (g := 83) (fun _ h => absurd h List.not_mem_nil) (by decide +kernel)
set_option maxRecDepth 1000000 in
def an155 : List (Nat × List (Nat × An)) := []
set_option maxRecDepth 1000000 in
theorem ok155 : SmOK rgT sm155 := vfy_sp (T := []) (AN := an155) (g := 216) (fun _ h => absurd h List.not_mem_nil) (by decide +kernel)
set_option maxRecDepth 1000000 in
def an156 : List (Nat × List (Nat × An)) := []
set_option maxRecDepth 1000000 in
theorem ok156 : SmOK rgT sm156 := vfy_sp (T := []) (AN := an156) (g := 90) (fun _ h => absurd h List.not_mem_nil) (by decide +kernel)
set_option maxRecDepth 1000000 in
def an157 : List (Nat × List (Nat × An)) := [(74, [(13, ([((0, 3, 0, (0, [])), (-2147483648), 2147483647), ((0, 4, 0, (0, [])), 0, 2147483647)], ([], [], []), [], [], [], 1, true))])]
set_option maxRecDepth 1000000 in
theorem ok157 : SmOK rgT sm157 := vfy_sp (T := [sm156]) (AN := an157) (g := 143) (List.forall_mem_cons.mpr ⟨ok156, fun _ h => absurd h List.not_mem_nil⟩) (by decide +kernel)
set_option maxRecDepth 1000000 in
def an158 : List (Nat × List (Nat × An)) := []
set_option maxRecDepth 1000000 in
theorem ok158 : SmOK rgT sm158 := vfy_sp (T := [sm157, sm156]) (AN := an158) (g := 81) (List.forall_mem_cons.mpr ⟨ok157, List.forall_mem_cons.mpr ⟨ok156, fun _ h => absurd h List.not_mem_nil⟩⟩) (by decide +kernel)
set_option maxRecDepth 1000000 in
def an159 : List (Nat × List (Nat × An)) := []
set_option maxRecDepth 1000000 in
theorem ok159 : SmOK rgT sm159 := vfy_sp (T := [sm156]) (AN := an159) (g := 91) (List.forall_mem_cons.mpr ⟨ok156, fun _ h => absurd h List.not_mem_nil⟩) (by decide +kernel)
set_option maxRecDepth 1000000 in
def an160 : List (Nat × List (Nat × An)) := [(81, [(6, ([((0, 4, 0, (0, [])), 0, 2147483647), ((0, 3, 0, (0, [])), (-2147483648), 2147483647)], ([], [], []), [], [], [], 0, true))])]
set_option maxRecDepth 1000000 in
theorem ok160 : SmOK rgT sm160 := vfy_sp (T := [sm159, sm158, sm156]) (AN := an160) (g := 216) (List.forall_mem_cons.mpr ⟨ok159, List.forall_mem_cons.mpr ⟨ok158, List.forall_mem_cons.mpr ⟨ok156, fun _ h => absurd h List.not_mem_nil⟩⟩⟩) (by decide +kernel)
set_option maxRecDepth 1000000 in
def an161 : List (Nat × List (Nat × An)) := []
set_option maxRecDepth 1000000 in
theorem ok161 : SmOK rgT sm161 := vfy_sp (T := []) (AN := an161) (g := 90) (fun _ h => absurd h List.not_mem_nil) (by decide +kernel)
set_option maxRecDepth 1000000 in
def an162 : List (Nat × List (Nat × An)) := []
set_option maxRecDepth 1000000 in
theorem ok162 : SmOK rgT sm162 := vfy_sp (T := []) (AN := an162) (g := 87) (fun _ h => absurd h List.not_mem_nil) (by decide +kernel)
set_option maxRecDepth 1000000 in
def an163 : List (Nat × List (Nat × An)) := []
set_option maxRecDepth 1000000 in
theorem ok163 : SmOK rgT sm163 := vfy_sp (T := []) (AN := an163) (g := 87) (fun _ h => absurd h List.not_mem_nil) (by decide +kernel)
set_option maxRecDepth 1000000 in
def an164 : List (Nat × List (Nat × An)) := []
set_option maxRecDepth 1000000 in
theorem ok164 : SmOK rgT sm164 := vfy_sp (T := [sm163, sm161]) (AN := an164) (g := 71) (List.forall_mem_cons.mpr ⟨ok163, List.forall_mem_cons.mpr ⟨ok161, fun _ h => absurd h List.not_mem_nil⟩⟩) (by decide +kernel)
set_option maxRecDepth 1000000 in
def an165 : List (Nat × List (Nat × An)) := [(3, [(2, ([((0, 3, 0, (0, [])), 0, 2147483647)], ([], [], []), [], [], [], 0, true))])]
set_option maxRecDepth 1000000 in
theorem ok165 : SmOK rgT sm165 := vfy_sp (T := [sm164, sm162, sm161, sm160, sm156]) (AN := an165) (g := 138) (List.forall_mem_cons.mpr ⟨ok164, List.forall_mem_cons.mpr ⟨ok162, List.forall_mem_cons.mpr ⟨ok161, List.forall_mem_cons.mpr ⟨ok160, List.forall_mem_cons.mpr ⟨ok156, fun _ h => absurd h List.not_mem_nil⟩⟩⟩⟩⟩) (by decide +kernel)
set_option maxRecDepth 1000000 in
def an166 : List (Nat × List (Nat × An)) := []
set_option maxRecDepth 1000000 in
theorem ok166 : SmOK rgT sm166 := vfy_sp (T := []) (AN := an166) (g := 90) (fun _ h => absurd h List.not_mem_nil) (by decide +kernel)
set_option maxRecDepth 1000000 in
def an167 : List (Nat × List (Nat × An)) := []
set_option maxRecDepth 1000000 in
theorem ok167 : SmOK rgT sm167 := vfy_sp (T := [sm166]) (AN := an167) (g := 74) (List.forall_mem_cons.mpr ⟨ok166, fun _ h => absurd h List.not_mem_nil⟩) (by decide +kernel)
set_option maxRecDepth 1000000 in
def an168 : List (Nat × List (Nat × An)) := []
set_option maxRecDepth 1000000 in
theorem ok168 : SmOK rgT sm168 := vfy_sp (T := []) (AN := an168) (g := 90) (fun _ h => absurd h List.not_mem_nil) (by decide +kernel)
set_option maxRecDepth 1000000 in
def an169 : List (Nat × List (Nat × An)) := [(83, [(5, ([((0, 3, 0, (0, [])), 0, 2147483647), ((0, 2, 0, (0, [])), (-2147483648), 2147483647)], ([], [], []), [], [], [], 0, true))])]
set_option maxRecDepth 1000000 in
theorem ok169 : SmOK rgT sm169 := vfy_sp (T := [sm168]) (AN := an169) (g := 139) (List.forall_mem_cons.mpr ⟨ok168, fun _ h => absurd h List.not_mem_nil⟩) (by decide +kernel)
set_option maxRecDepth 1000000 in
def an170 : List (Nat × List (Nat × An)) := [(49, [(20, ([((0, 7, 0, (0, [])), 0, 2147483647)], ([], [], []), [], [], [(0, 35, 1, 1)], 0, true))])]
set_option maxRecDepth 1000000 in
theorem ok170 : SmOK rgT sm170 := vfy_sp (T := [sm168, sm124, sm123, sm122]) (AN := an170) (g := 215) (List.forall_mem_cons.mpr ⟨ok168, List.forall_mem_cons.mpr ⟨ok124, List.forall_mem_cons.mpr ⟨ok123, List.forall_mem_cons.mpr ⟨ok122, fun _ h => absurd h List.not_mem_nil⟩⟩⟩⟩) (by decide +kernel)
set_option maxRecDepth 1000000 in
def an171 : List (Nat × List (Nat × An)) := []
set_option maxRecDepth 1000000 in
theorem ok171 : SmOK rgT sm171 := vfy_sp (T := [sm170, sm169]) (AN := an171) (g := 102) (List.forall_mem_cons.mpr ⟨ok170, List.forall_mem_cons.mpr ⟨ok169, fun _ h => absurd h List.not_mem_nil⟩⟩) (by decide +kernel)
set_option maxRecDepth 1000000 in
def an172 : List (Nat × List (Nat × An)) := []
set_option maxRecDepth 1000000 in
theorem ok172 : SmOK rgT sm172 := vfy_sp (T := []) (AN := an172) (g := 87) (fun _ h => absurd h List.not_mem_nil) (by decide +kernel)
set_option maxRecDepth 1000000 in
def an173 : List (Nat × List (Nat × An)) := []
set_option maxRecDepth 1000000 in
theorem ok173 : SmOK rgT sm173 := vfy_sp (T := [sm172, sm166]) (AN := an173) (g := 75) (List.forall_mem_cons.mpr ⟨ok172, List.forall_mem_cons.mpr ⟨ok166, fun _ h => absurd h List.not_mem_nil⟩⟩) (by decide +kernel)
set_option maxRecDepth 1000000 in
def an174 : List (Nat × List (Nat × An)) := []
set_option maxRecDepth 1000000 in
theorem ok174 : SmOK rgT sm174 := vfy_sp (T := [sm172, sm166]) (AN := an174) (g := 71) (List.forall_mem_cons.mpr ⟨ok172, List.forall_mem_cons.mpr ⟨ok166, fun _ h => absurd h List.not_mem_nil⟩⟩) (by decide +kernel)
set_option maxRecDepth 1000000 in
def an175 : List (Nat × List (Nat × An)) := []
set_option maxRecDepth 1000000 in
theorem ok175 : SmOK rgT sm175 := vfy_sp (T := [sm172, sm166]) (AN := an175) (g := 108) (List.forall_mem_cons.mpr ⟨ok172, List.forall_mem_cons.mpr ⟨ok166, fun _ h => absurd h List.not_mem_nil⟩⟩) (by decide +kernel)
set_option maxRecDepth 1000000 in
def an176 : List (Nat × List (Nat × An)) := []
set_option maxRecDepth 1000000 in
theorem ok176 : SmOK rgT sm176 := vfy_sp (T := [sm175, sm174, sm173, sm171, sm167, sm166, sm164, sm161]) (AN := an176) (g := 370) (List.forall_mem_cons.mpr ⟨ok175, List.forall_mem_cons.mpr ⟨ok174, List.forall_mem_cons.mpr ⟨ok173, List.forall_mem_cons.mpr ⟨ok171, List.forall_mem_cons.mpr ⟨ok167, List.forall_mem_cons.mpr ⟨ok166, List.forall_mem_cons.mpr ⟨ok164, List.forall_mem_cons.mpr ⟨ok161, fun _ h => absurd h List.not_mem_nil⟩⟩⟩⟩⟩⟩⟩⟩) (by decide +kernel)
set_option maxRecDepth 1000000 in
def an177 : List (Nat × List (Nat × An)) := []
set_option maxRecDepth 1000000 in
theorem ok177 : SmOK rgT sm177 := vfy_sp (T := []) (AN := an177) (g := 90) (fun _ h => absurd h List.not_mem_nil) (by decide +kernel)
set_option maxRecDepth 1000000 in
def an178 : List (Nat × List (Nat × An)) := []
set_option maxRecDepth 1000000 in
theorem ok178 : SmOK rgT sm178 := vfy_sp (T := [sm177]) (AN := an178) (g := 97) (List.forall_mem_cons.mpr ⟨ok177, fun _ h => absurd h List.not_mem_nil⟩) (by decide +kernel)
set_option maxRecDepth 1000000 in
def an179 : List (Nat × List (Nat × An)) := [(86, [(13, ([((0, 4, 0, (0, [])), 0, 2147483647), ((0, 3, 0, (0, [])), (-2147483648), 2147483647)], ([], [], []), [], [], [], 0, true))])]
set_option maxRecDepth 1000000 in
theorem ok179 : SmOK rgT sm179 := vfy_sp (T := [sm178, sm177, sm166]) (AN := an179) (g := 111) (List.forall_mem_cons.mpr ⟨ok178, List.forall_mem_cons.mpr ⟨ok177, List.forall_mem_cons.mpr ⟨ok166, fun _ h => absurd h List.not_mem_nil⟩⟩⟩) (by decide +kernel)
set_option maxRecDepth 1000000 in
def an180 : List (Nat × List (Nat × An)) := []
set_option maxRecDepth 1000000 in
theorem ok180 : SmOK rgT sm180 := vfy_sp (T := [sm172, sm166]) (AN := an180) (g := 72) (List.forall_mem_cons.mpr ⟨ok172, List.forall_mem_cons.mpr ⟨ok166, fun _ h => absurd h List.not_mem_nil⟩⟩) (by decide +kernel)
set_option maxRecDepth 1000000 in
def an181 : List (Nat × List (Nat × An)) := []
set_option maxRecDepth 1000000 in
theorem ok181 : SmOK rgT sm181 := vfy_sp (T := [sm156]) (AN := an181) (g := 85) (List.forall_mem_cons.mpr ⟨ok156, fun _ h => absurd h List.not_mem_nil⟩) (by decide +kernel)
set_option maxRecDepth 1000000 in
def an182 : List (Nat × List (Nat × An)) := [(70, [(2, ([((0, 3, 0, (0, [])), 0, 2147483647)], ([], [], []), [], [], [], 0, true))])]
set_option maxRecDepth 1000000 in
theorem ok182 : SmOK rgT sm182 := vfy_sp (T := [sm181, sm162]) (AN := an182) (g := 95) (List.forall_mem_cons.mpr ⟨ok181, List.forall_mem_cons.mpr ⟨ok162, fun _ h => absurd h List.not_mem_nil⟩⟩) (by decide +kernel)
set_option maxRecDepth 1000000 in
def an183 : List (Nat × List (Nat × An)) := []
set_option maxRecDepth 1000000 in
theorem ok183 : SmOK rgT sm183 := vfy_sp (T := [sm182, sm180, sm173, sm172]) (AN := an183) (g := 97) (List.forall_mem_cons.mpr ⟨ok182, List.forall_mem_cons.mpr ⟨ok180, List.forall_mem_cons.mpr ⟨ok173, List.forall_mem_cons.mpr ⟨ok172, fun _ h => absurd h List.not_mem_nil⟩⟩⟩⟩) (by decide +kernel)
set_option maxRecDepth 1000000 in
def an184 : List (Nat × List (Nat × An)) := [(0, [(2, ([((0, 2, 0, (0, [])), 0, 2147483647)], ([], [], []), [], [], [], 0, true)), (27, ([((0, 2, 0, (0, [])), 0, 2147483647)], ([], [], []), [], [], [], 0, true)), (76, ([((0, 2, 0, (0, [])), 0, 2147483647)], ([], [], []), [], [], [], 0, true))])]
set_option maxRecDepth 1000000 in
theorem ok184 : SmOK rgT sm184 := vfy_sp (T := [sm183, sm179, sm176, sm167, sm165, sm163, sm161]) (AN := an184) (g := 153) (List.forall_mem_cons.mpr ⟨ok183, List.forall_mem_cons.mpr ⟨ok179, List.forall_mem_cons.mpr ⟨ok176, List.forall_mem_cons.mpr ⟨ok167, List.forall_mem_cons.mpr ⟨ok165, List.forall_mem_cons.mpr ⟨ok163, List.forall_mem_cons.mpr ⟨ok161, fun _ h => absurd h List.not_mem_nil⟩⟩⟩⟩⟩⟩⟩) (by decide +kernel)
set_option maxRecDepth 1000000 in
def an185 : List (Nat × List (Nat × An)) := [(89, [(4, ([((0, 1, 0, (0, [])), (-2147483648), 2147483647), ((0, 2, 0, (0, [])), 0, 2147483647)], ([], [], []), [], [], [], 1, true))])]
set_option maxRecDepth 1000000 in
theorem ok185 : SmOK rgT sm185 := vfy_sp (T := [sm166]) (AN := an185) (g := 86) (List.forall_mem_cons.mpr ⟨ok166, fun _ h => absurd h List.not_mem_nil⟩) (by decide +kernel)
set_option maxRecDepth 1000000 in
def an186 : List (Nat × List (Nat × An)) := []
set_option maxRecDepth 1000000 in
theorem ok186 : SmOK rgT sm186 := vfy_sp (T := []) (AN := an186) (g := 89) (fun _ h => absurd h List.not_mem_nil) (by decide +kernel)
set_option maxRecDepth 1000000 in
def an187 : List (Nat × List (Nat × An)) := [(90, [(4, ([((0, 1, 0, (0, [])), (-2147483648), 2147483647), ((0, 2, 0, (0, [])), 0, 2147483647)], ([], [], []), [], [], [], 1, true))])]
set_option maxRecDepth 1000000 in
theorem ok187 : SmOK rgT sm187 := vfy_sp (T := [sm161]) (AN := an187) (g := 86) (List.forall_mem_cons.mpr ⟨ok161, fun _ h => absurd h List.not_mem_nil⟩) (by decide +kernel)
set_option maxRecDepth 1000000 in
def an188 : List (Nat × List (Nat × An)) := [(151, [(46, ([((0, 3, 0, (0, [])), 0, 2147483647)], ([], [], []), [], [], [], 0, true))])]
set_option maxRecDepth 1000000 in
theorem ok188 : SmOK rgT sm188 := vfy_sp (T := [sm187, sm186, sm185, sm184, sm155]) (AN := an188) (g := 229) (List.forall_mem_cons.mpr ⟨ok187, List.forall_mem_cons.mpr ⟨ok186, List.forall_mem_cons.mpr ⟨ok185, List.forall_mem_cons.mpr ⟨ok184, List.forall_mem_cons.mpr ⟨ok155, fun _ h => absurd h List.not_mem_nil⟩⟩⟩⟩⟩) (by decide +kernel)
set_option maxRecDepth 1000000 in
def an189 : List (Nat × List (Nat × An)) := []
set_option maxRecDepth 1000000 in
theorem ok189 : SmOK rgT sm189 := vfy_sp (T := []) (AN := an189) (g := 216) (fun _ h => absurd h List.not_mem_nil) (by decide +kernel)
set_option maxRecDepth 1000000 in
def an190 : List (Nat × List (Nat × An)) := []
set_option maxRecDepth 1000000 in
theorem ok190 : SmOK rgT sm190 := vfy_sp (T := [sm189]) (AN := an190) (g := 72) (List.forall_mem_cons.mpr ⟨ok189, fun _ h => absurd h List.not_mem_nil⟩) (by decide +kernel)
set_option maxRecDepth 1000000 in
def an191 : List (Nat × List (Nat × An)) := []
set_option maxRecDepth 1000000 in
theorem ok191 : SmOK rgT sm191 := vfy_sp (T := []) (AN := an191) (g := 216) (fun _ h => absurd h List.not_mem_nil) (by decide +kernel)
