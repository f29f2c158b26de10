/-! Printed by wip/ai/tab.py. -/
set_option maxRecDepth 1000000 in
def an103 : List (Nat × List (Nat × An)) := []
set_option maxRecDepth 1000000 in
theorem ok103 : SmOK rgT sm103 := vfy_sp (T := [sm100, sm97, sm89]) (AN := an103) (g := 306) (List.forall_mem_cons.mpr ⟨ok100, List.forall_mem_cons.mpr ⟨ok97, List.forall_mem_cons.mpr ⟨ok89, fun _ h => absurd h List.not_mem_nil⟩⟩⟩) (by decide +kernel)
set_option maxRecDepth 1000000 in
def an104 : List (Nat × List (Nat × An)) := []
set_option maxRecDepth 1000000 in
theorem ok104 : SmOK rgT sm104 := vfy_sp (T := [sm99]) (AN := an104) (g := 114) (List.forall_mem_cons.mpr ⟨ok99, fun _ h => absurd h List.not_mem_nil⟩) (by decide +kernel)
set_option maxRecDepth 1000000 in
def an105 : List (Nat × List (Nat × An)) := []
set_option maxRecDepth 1000000 in
theorem ok105 : SmOK rgT sm105 := vfy_sp (T := [sm104, sm103, sm100, sm97]) (AN := an105) (g := 102) (List.forall_mem_cons.mpr ⟨ok104, List.forall_mem_cons.mpr ⟨ok103, List.forall_mem_cons.mpr ⟨ok100, List.forall_mem_cons.mpr ⟨ok97, fun _ h => absurd h List.not_mem_nil⟩⟩⟩⟩) (by decide +kernel)
set_option maxRecDepth 1000000 in
def an106 : List (Nat × List (Nat × An)) := [(27, [(36, ([((0, 1, 0, (0, [])), 0, 2147483647)], ([], [], []), [], [], [], 0, true))])]
set_option maxRecDepth 1000000 in
theorem ok106 : SmOK rgT sm106 := vfy_sp (T := [sm105, sm102, sm98, sm93, sm92, sm88]) (AN := an106) (g := 214) (List.forall_mem_cons.mpr ⟨ok105, List.forall_mem_cons.mpr ⟨ok102, List.forall_mem_cons.mpr ⟨ok98, List.forall_mem_cons.mpr ⟨ok93, List.forall_mem_cons.mpr ⟨ok92, List.forall_mem_cons.mpr ⟨ok88, fun _ h => absurd h List.not_mem_nil⟩⟩⟩⟩⟩⟩) (by decide +kernel)
set_option maxRecDepth 1000000 in
def an107 : List (Nat × List (Nat × An)) := []
set_option maxRecDepth 1000000 in
theorem ok107 : SmOK rgT sm107 := vfy_sp (T := []) (AN := an107) (g := 87) (fun _ h => absurd h List.not_mem_nil) (by decide +kernel)
set_option maxRecDepth 1000000 in
def an108 : List (Nat × List (Nat × An)) := []
set_option maxRecDepth 1000000 in
theorem ok108 : SmOK rgT sm108 := vfy_sp (T := []) (AN := an108) (g := 83) (fun _ h => absurd h List.not_mem_nil) (by decide +kernel)
set_option maxRecDepth 1000000 in
def an109 : List (Nat × List (Nat × An)) := [(28, [(35, ([((0, 3, 0, (0, [])), 0, 2147483647)], ([], [], []), [], [], [], 0, true))])]
set_option maxRecDepth 1000000 in
theorem ok109 : SmOK rgT sm109 := vfy_sp (T := [sm108, sm107]) (AN := an109) (g := 107) (List.forall_mem_cons.mpr ⟨ok108, List.forall_mem_cons.mpr ⟨ok107, fun _ h => absurd h List.not_mem_nil⟩⟩) (by decide +kernel)
set_option maxRecDepth 1000000 in
def an110 : List (Nat × List (Nat × An)) := []
set_option maxRecDepth 1000000 in
theorem ok110 : SmOK rgT sm110 := vfy_sp (T := [sm109, sm107, sm106, sm86]) (AN := an110) (g := 162) (List.forall_mem_cons.mpr ⟨ok109, List.forall_mem_cons.mpr ⟨ok107, List.forall_mem_cons.mpr ⟨ok106, List.forall_mem_cons.mpr ⟨ok86, fun _ h => absurd h List.not_mem_nil⟩⟩⟩⟩) (by decide +kernel)
set_option maxRecDepth 1000000 in
def an111 : List (Nat × List (Nat × An)) := []
set_option maxRecDepth 1000000 in
theorem ok111 : SmOK rgT sm111 := vfy_sp (T := []) (AN := an111) (g := 90) (fun _ h => absurd h List.not_mem_nil) (by decide +kernel)
set_option maxRecDepth 1000000 in
def an112 : List (Nat × List (Nat × An)) := []
set_option maxRecDepth 1000000 in
theorem ok112 : SmOK rgT sm112 := vfy_sp (T := [sm111]) (AN := an112) (g := 116) (List.forall_mem_cons.mpr ⟨ok111, fun _ h => absurd h List.not_mem_nil⟩) (by decide +kernel)
set_option maxRecDepth 1000000 in
def an113 : List (Nat × List (Nat × An)) := [(83, [(5, ([((0, 3, 0, (0, [])), 0, 2147483647), ((0, 2, 0, (0, [])), (-2147483648), 2147483647)], ([], [], []), [], [], [], 0, true))])]
set_option maxRecDepth 1000000 in
theorem ok113 : SmOK rgT sm113 := vfy_sp (T := [sm111]) (AN := an113) (g := 121) (List.forall_mem_cons.mpr ⟨ok111, fun _ h => absurd h List.not_mem_nil⟩) (by decide +kernel)
set_option maxRecDepth 1000000 in
def an114 : List (Nat × List (Nat × An)) := []
set_option maxRecDepth 1000000 in
theorem ok114 : SmOK rgT sm114 := vfy_sp (T := [sm113]) (AN := an114) (g := 90) (List.forall_mem_cons.mpr ⟨ok113, fun _ h => absurd h List.not_mem_nil⟩) (by decide +kernel)
set_option maxRecDepth 1000000 in
def an115 : List (Nat × List (Nat × An)) := []
set_option maxRecDepth 1000000 in
theorem ok115 : SmOK rgT sm115 := vfy_sp (T := []) (AN := an115) (g := 85) (fun _ h => absurd h List.not_mem_nil) (by decide +kernel)
set_option maxRecDepth 1000000 in
def an116 : List (Nat × List (Nat × An)) := []
set_option maxRecDepth 1000000 in
theorem ok116 : SmOK rgT sm116 := vfy_sp (T := []) (AN := an116) (g := 256) (fun _ h => absurd h List.not_mem_nil) (by decide +kernel)
set_option maxRecDepth 1000000 in
def an117 : List (Nat × List (Nat × An)) := []
set_option maxRecDepth 1000000 in
theorem ok117 : SmOK rgT sm117 := vfy_sp (T := []) (AN := an117) (g := 84) (fun _ h => absurd h List.not_mem_nil) (by decide +kernel)
set_option maxRecDepth 1000000 in
def an118 : List (Nat × List (Nat × An)) := [(49, [(20, ([((0, 7, 0, (0, [])), 0, 2147483647)], ([], [], []), [], [], [(0, 35, 1, 1)], 0, true))])]
set_option maxRecDepth 1000000 in
theorem ok118 : SmOK rgT sm118 := vfy_sp (T := [sm117, sm116, sm115, sm111]) (AN := an118) (g := 195) (List.forall_mem_cons.mpr ⟨ok117, List.forall_mem_cons.mpr ⟨ok116, List.forall_mem_cons.mpr ⟨ok115, List.forall_mem_cons.mpr ⟨ok111, fun _ h => absurd h List.not_mem_nil⟩⟩⟩⟩) (by decide +kernel)
set_option maxRecDepth 1000000 in
def an119 : List (Nat × List (Nat × An)) := []
set_option maxRecDepth 1000000 in
theorem ok119 : SmOK rgT sm119 := vfy_sp (T := [sm118, sm113]) (AN := an119) (g := 89) (List.forall_mem_cons.mpr ⟨ok118, List.forall_mem_cons.mpr ⟨ok113, fun _ h => absurd h List.not_mem_nil⟩⟩) (by decide +kernel)
set_option maxRecDepth 1000000 in
def an120 : List (Nat × List (Nat × An)) := []
set_option maxRecDepth 1000000 in
theorem ok120 : SmOK rgT sm120 := vfy_sp (T := [sm119]) (AN := an120) (g := 95) (List.forall_mem_cons.mpr ⟨ok119, fun _ h => absurd h List.not_mem_nil⟩) (by decide +kernel)
set_option maxRecDepth 1000000 in
def an121 : List (Nat × List (Nat × An)) := []
set_option maxRecDepth 1000000 in
theorem ok121 : SmOK rgT sm121 := vfy_sp (T := [sm119, sm31]) (AN := an121) (g := 129) (List.forall_mem_cons.mpr ⟨ok119, List.forall_mem_cons.mpr ⟨ok31, fun _ h => absurd h List.not_mem_nil⟩⟩) (by decide +kernel)
set_option maxRecDepth 1000000 in
def an122 : List (Nat × List (Nat × An)) := []
set_option maxRecDepth 1000000 in
theorem ok122 : SmOK rgT sm122 := vfy_sp (T := [sm38, sm31]) (AN := an122) (g := 75) (List.forall_mem_cons.mpr ⟨ok38, List.forall_mem_cons.mpr ⟨ok31, fun _ h => absurd h List.not_mem_nil⟩⟩) (by decide +kernel)
set_option maxRecDepth 1000000 in
def an123 : List (Nat × List (Nat × An)) := []
set_option maxRecDepth 1000000 in
theorem ok123 : SmOK rgT sm123 := vfy_sp (T := [sm122, sm121, sm47, sm38, sm31]) (AN := an123) (g := 151) (List.forall_mem_cons.mpr ⟨ok122, List.forall_mem_cons.mpr ⟨ok121, List.forall_mem_cons.mpr ⟨ok47, List.forall_mem_cons.mpr ⟨ok38, List.forall_mem_cons.mpr ⟨ok31, fun _ h => absurd h List.not_mem_nil⟩⟩⟩⟩⟩) (by decide +kernel)
set_option maxRecDepth 1000000 in
def an124 : List (Nat × List (Nat × An)) := []
set_option maxRecDepth 1000000 in
theorem ok124 : SmOK rgT sm124 := vfy_sp (T := [sm121, sm47]) (AN := an124) (g := 125) (List.forall_mem_cons.mpr ⟨ok121, List.forall_mem_cons.mpr ⟨ok47, fun _ h => absurd h List.not_mem_nil⟩⟩) (by decide +kernel)
set_option maxRecDepth 1000000 in
def an125 : List (Nat × List (Nat × An)) := []
set_option maxRecDepth 1000000 in
theorem ok125 : SmOK rgT sm125 := vfy_sp (T := []) (AN := an125) (g := 87) (fun _ h => absurd h List.not_mem_nil) (by decide +kernel)
set_option maxRecDepth 1000000 in
def an126 : List (Nat × List (Nat × An)) := []
set_option maxRecDepth 1000000 in
theorem ok126 : SmOK rgT sm126 := vfy_sp (T := [sm125]) (AN := an126) (g := 137) (List.forall_mem_cons.mpr ⟨ok125, fun _ h => absurd h List.not_mem_nil⟩) (by decide +kernel)
set_option maxRecDepth 1000000 in
def an127 : List (Nat × List (Nat × An)) := []
set_option maxRecDepth 1000000 in
theorem ok127 : SmOK rgT sm127 := vfy_sp (T := [sm126, sm119, sm47, sm38, sm31]) (AN := an127) (g := 193) (List.forall_mem_cons.mpr ⟨ok126, List.forall_mem_cons.mpr ⟨ok119, List.forall_mem_cons.mpr ⟨ok47, List.forall_mem_cons.mpr ⟨ok38, List.forall_mem_cons.mpr ⟨ok31, fun _ h => absurd h List.not_mem_nil⟩⟩⟩⟩⟩) (by decide +kernel)
set_option maxRecDepth 1000000 in
def an128 : List (Nat × List (Nat × An)) := []
set_option maxRecDepth 1000000 in
theorem ok128 : SmOK rgT sm128 := vfy_sp (T := [sm126, sm47]) (AN := an128) (g := 174) (List.forall_mem_cons.mpr ⟨ok126, List.forall_mem_cons.mpr ⟨ok47, fun _ h => absurd h List.not_mem_nil⟩⟩) (by decide +kernel)
set_option maxRecDepth 1000000 in
def an129 : List (Nat × List (Nat × An)) := []
set_option maxRecDepth 1000000 in
theorem ok129 : SmOK rgT sm129 := vfy_sp (T := []) (AN := an129) (g := 90) (fun _ h => absurd h List.not_mem_nil) (by decide +kernel)
set_option maxRecDepth 1000000 in
def an130 : List (Nat × List (Nat × An)) := []
set_option maxRecDepth 1000000 in
theorem ok130 : SmOK rgT sm130 := vfy_sp (T := [sm129, sm125, sm47]) (AN := an130) (g := 127) (List.forall_mem_cons.mpr ⟨ok129, List.forall_mem_cons.mpr ⟨ok125, List.forall_mem_cons.mpr ⟨ok47, fun _ h => absurd h List.not_mem_nil⟩⟩⟩) (by decide +kernel)
set_option maxRecDepth 1000000 in
def an131 : List (Nat × List (Nat × An)) := []
set_option maxRecDepth 1000000 in
theorem ok131 : SmOK rgT sm131 := vfy_sp (T := [sm129]) (AN := an131) (g := 116) (List.forall_mem_cons.mpr ⟨ok129, fun _ h => absurd h List.not_mem_nil⟩) (by decide +kernel)
set_option maxRecDepth 1000000 in
def an132 : List (Nat × List (Nat × An)) := []
set_option maxRecDepth 1000000 in
theorem ok132 : SmOK rgT sm132 := vfy_sp (T := [sm129]) (AN := an132) (g := 89) (List.forall_mem_cons.mpr ⟨ok129, fun _ h => absurd h List.not_mem_nil⟩) (by decide +kernel)
set_option maxRecDepth 1000000 in
def an133 : List (Nat × List (Nat × An)) := [(86, [(13, ([((0, 4, 0, (0, [])), 0, 2147483647), ((0, 3, 0, (0, [])), (-2147483648), 2147483647)], ([], [], []), [], [], [], 0, true))])]
set_option maxRecDepth 1000000 in
theorem ok133 : SmOK rgT sm133 := vfy_sp (T := [sm132, sm129, sm31]) (AN := an133) (g := 108) (List.forall_mem_cons.mpr ⟨ok132, List.forall_mem_cons.mpr ⟨ok129, List.forall_mem_cons.mpr ⟨ok31, fun _ h => absurd h List.not_mem_nil⟩⟩⟩) (by decide +kernel)
set_option maxRecDepth 1000000 in
def an134 : List (Nat × List (Nat × An)) := []
set_option maxRecDepth 1000000 in
theorem ok134 : SmOK rgT sm134 := vfy_sp (T := [sm133]) (AN := an134) (g := 115) (List.forall_mem_cons.mpr ⟨ok133, fun _ h => absurd h List.not_mem_nil⟩) (by decide +kernel)
set_option maxRecDepth 1000000 in
def an135 : List (Nat × List (Nat × An)) := []
set_option maxRecDepth 1000000 in
theorem ok135 : SmOK rgT sm135 := vfy_sp (T := [sm27, sm26]) (AN := an135) (g := 71) (List.forall_mem_cons.mpr ⟨ok27, List.forall_mem_cons.mpr ⟨ok26, fun _ h => absurd h List.not_mem_nil⟩⟩) (by decide +kernel)
set_option maxRecDepth 1000000 in
def an136 : List (Nat × List (Nat × An)) := [(3, [(2, ([((0, 3, 0, (0, [])), 0, 2147483647)], ([], [], []), [], [], [], 0, true))])]
set_option maxRecDepth 1000000 in
theorem ok136 : SmOK rgT sm136 := vfy_sp (T := [sm135, sm78, sm51, sm34, sm26]) (AN := an136) (g := 107) (List.forall_mem_cons.mpr ⟨ok135, List.forall_mem_cons.mpr ⟨ok78, List.forall_mem_cons.mpr ⟨ok51, List.forall_mem_cons.mpr ⟨ok34, List.forall_mem_cons.mpr ⟨ok26, fun _ h => absurd h List.not_mem_nil⟩⟩⟩⟩⟩) (by decide +kernel)
set_option maxRecDepth 1000000 in
def an137 : List (Nat × List (Nat × An)) := []
set_option maxRecDepth 1000000 in
theorem ok137 : SmOK rgT sm137 := vfy_sp (T := [sm38, sm31]) (AN := an137) (g := 71) (List.forall_mem_cons.mpr ⟨ok38, List.forall_mem_cons.mpr ⟨ok31, fun _ h => absurd h List.not_mem_nil⟩⟩) (by decide +kernel)
set_option maxRecDepth 1000000 in
def an138 : List (Nat × List (Nat × An)) := []
set_option maxRecDepth 1000000 in
theorem ok138 : SmOK rgT sm138 := vfy_sp (T := [sm38, sm31]) (AN := an138) (g := 101) (List.forall_mem_cons.mpr ⟨ok38, List.forall_mem_cons.mpr ⟨ok31, fun _ h => absurd h List.not_mem_nil⟩⟩) (by decide +kernel)
set_option maxRecDepth 1000000 in
def an139 : List (Nat × List (Nat × An)) := []
set_option maxRecDepth 1000000 in
theorem ok139 : SmOK rgT sm139 := vfy_sp (T := [sm138, sm137, sm135, sm122, sm119, sm47, sm31, sm26]) (AN := an139) (g := 152) (List.forall_mem_cons.mpr ⟨ok138, List.forall_mem_cons.mpr ⟨ok137, List.forall_mem_cons.mpr ⟨ok135, List.forall_mem_cons.mpr ⟨ok122, List.forall_mem_cons.mpr ⟨ok119, List.forall_mem_cons.mpr ⟨ok47, List.forall_mem_cons.mpr ⟨ok31, List.forall_mem_cons.mpr ⟨ok26, fun _ h => absurd h List.not_mem_nil⟩⟩⟩⟩⟩⟩⟩⟩) (by decide +kernel)
set_option maxRecDepth 1000000 in
def an140 : List (Nat × List (Nat × An)) := []
set_option maxRecDepth 1000000 in
theorem ok140 : SmOK rgT sm140 := vfy_sp (T := [sm122, sm52, sm42, sm38]) (AN := an140) (g := 97) (List.forall_mem_cons.mpr ⟨ok122, List.forall_mem_cons.mpr ⟨ok52, List.forall_mem_cons.mpr ⟨ok42, List.forall_mem_cons.mpr ⟨ok38, fun _ h => absurd h List.not_mem_nil⟩⟩⟩⟩) (by decide +kernel)
set_option maxRecDepth 1000000 in
def an141 : List (Nat × List (Nat × An)) := [(0, [(2, ([((0, 2, 0, (0, [])), 0, 2147483647)], ([], [], []), [], [], [], 0, true)), (27, ([((0, 2, 0, (0, [])), 0, 2147483647)], ([], [], []), [], [], [], 0, true)), (76, ([((0, 2, 0, (0, [])), 0, 2147483647)], ([], [], []), [], [], [], 0, true))])]
set_option maxRecDepth 1000000 in
theorem ok141 : SmOK rgT sm141 := vfy_sp (T := [sm140, sm139, sm136, sm133, sm47, sm27, sm26]) (AN := an141) (g := 153) (List.forall_mem_cons.mpr ⟨ok140, List.forall_mem_cons.mpr ⟨ok139, List.forall_mem_cons.mpr ⟨ok136, List.forall_mem_cons.mpr ⟨ok133, List.forall_mem_cons.mpr ⟨ok47, List.forall_mem_cons.mpr ⟨ok27, List.forall_mem_cons.mpr ⟨ok26, fun _ h => absurd h List.not_mem_nil⟩⟩⟩⟩⟩⟩⟩) (by decide +kernel)
set_option maxRecDepth 1000000 in
def an142 : List (Nat × List (Nat × An)) := [(142, [(33, ([((0, 2, 0, (0, [])), 0, 2147483647)], ([], [], []), [], [], [(0, 1, 5, 5)], 0, true))])]
set_option maxRecDepth 1000000 in
theorem ok142 : SmOK rgT sm142 := vfy_sp (T := [sm141]) (AN := an142) (g := 111) (List.forall_mem_cons.mpr ⟨ok141, fun _ h => absurd h List.not_mem_nil⟩) (by decide +kernel)
set_option maxRecDepth 1000000 in
def an143 : List (Nat × List (Nat × An)) := []
set_option maxRecDepth 1000000 in
theorem ok143 : SmOK rgT sm143 := vfy_sp (T := []) (AN := an143) (g := 94) (fun _ h => absurd h List.not_mem_nil) (by decide +kernel)
set_option maxRecDepth 1000000 in
def an144 : List (Nat × List (Nat × An)) := [(63, [(4, ([((0, 1, 0, (0, [])), (-2147483648), 2147483647), ((0, 2, 0, (0, [])), 0, 2147483647)], ([], [], []), [], [], [], 1, true))])]
set_option maxRecDepth 1000000 in
theorem ok144 : SmOK rgT sm144 := vfy_sp (T := [sm47]) (AN := an144) (g := 95) (List.forall_mem_cons.mpr ⟨ok47, fun _ h => absurd h List.not_mem_nil⟩) (by decide +kernel)
set_option maxRecDepth 1000000 in
def an145 : List (Nat × List (Nat × An)) := [(88, [(42, ([((0, 4, 0, (0, [])), 0, 2147483647), ((0, 3, 0, (0, [])), (-2147483648), 2147483647)], ([], [], []), [], [], [], 0, true))])]
set_option maxRecDepth 1000000 in
theorem ok145 : SmOK rgT sm145 := vfy_sp (T := [sm33]) (AN := an145) (g := 197) (List.forall_mem_cons.mpr ⟨ok33, fun _ h => absurd h List.not_mem_nil⟩) (by decide +kernel)
set_option maxRecDepth 1000000 in
def an146 : List (Nat × List (Nat × An)) := [(144, [(26, ([((0, 3, 0, (0, [])), (-2147483648), 2147483647), ((0, 4, 0, (0, [])), 0, 2147483647)], ([], [], []), [], [], [], 1, true))])]
set_option maxRecDepth 1000000 in
theorem ok146 : SmOK rgT sm146 := vfy_sp (T := [sm145, sm144]) (AN := an146) (g := 138) (List.forall_mem_cons.mpr ⟨ok145, List.forall_mem_cons.mpr ⟨ok144, fun _ h => absurd h List.not_mem_nil⟩⟩) (by decide +kernel)
set_option maxRecDepth 1000000 in
def an147 : List (Nat × List (Nat × An)) := [(53, [(68, ([((0, 4, 0, (0, [])), 0, 2147483647)], ([], [], []), [], [], [], 0, true))])]
set_option maxRecDepth 1000000 in
theorem ok147 : SmOK rgT sm147 := vfy_sp (T := []) (AN := an147) (g := 196) (fun _ h => absurd h List.not_mem_nil) (by decide +kernel)
set_option maxRecDepth 1000000 in
def an148 : List (Nat × List (Nat × An)) := []
set_option maxRecDepth 1000000 in
theorem ok148 : SmOK rgT sm148 := vfy_sp (T := [sm147]) (AN := an148) (g := 67) (List.forall_mem_cons.mpr ⟨ok147, fun _ h => absurd h List.not_mem_nil⟩) (by decide +kernel)
set_option maxRecDepth 1000000 in
def an149 : List (Nat × List (Nat × An)) := []
set_option maxRecDepth 1000000 in
theorem ok149 : SmOK rgT sm149 := vfy_sp (T := []) (AN := an149) (g := 174) (fun _ h => absurd h List.not_mem_nil) (by decide +kernel)
set_option maxRecDepth 1000000 in
def an150 : List (Nat × List (Nat × An)) := []
set_option maxRecDepth 1000000 in
theorem ok150 : SmOK rgT sm150 := vfy_sp (T := [sm149]) (AN := an150) (g := 68) (List.forall_mem_cons.mpr ⟨ok149, fun _ h => absurd h List.not_mem_nil⟩) (by decide +kernel)
set_option maxRecDepth 1000000 in
def an151 : List (Nat × List (Nat × An)) := []
set_option maxRecDepth 1000000 in
theorem ok151 : SmOK rgT sm151 := vfy_sp (T := [sm149]) (AN := an151) (g := 68) (List.forall_mem_cons.mpr ⟨ok149, fun _ h => absurd h List.not_mem_nil⟩) (by decide +kernel)
set_option maxRecDepth 1000000 in
def an152 : List (Nat × List (Nat × An)) := []
set_option maxRecDepth 1000000 in
theorem ok152 : SmOK rgT sm152 := vfy_sp (T := []) (AN := an152) (g := 236) (fun _ h => absurd h List.not_mem_nil) (by decide +kernel)
set_option maxRecDepth 1000000 in
def an153 : List (Nat × List (Nat × An)) := []
set_option maxRecDepth 1000000 in
theorem ok153 : SmOK rgT sm153 := vfy_sp (T := [sm152]) (AN := an153) (g := 69) (List.forall_mem_cons.mpr ⟨ok152, fun _ h => absurd h List.not_mem_nil⟩) (by decide +kernel)
set_option maxRecDepth 1000000 in
def an154 : List (Nat × List (Nat × An)) := []
set_option maxRecDepth 1000000 in
theorem ok154 : SmOK rgT sm154 := vfy_sp (T := []) (AN := an154) (g := 1681) (fun _ h => absurd h List.not_mem_nil) (by decide +kernel)
set_option maxRecDepth 1000000 in
def an155 : List (Nat × List (Nat × An)) := []
set_option maxRecDepth 1000000 in
theorem ok155 : SmOK rgT sm155 := vfy_sp (T := [sm154]) (AN := an155) (g := 65) (List.forall_mem_cons.mpr ⟨ok154, fun _ h => absurd h List.not_mem_nil⟩) (by decide +kernel)
set_option maxRecDepth 1000000 in
def an156 : List (Nat × List (Nat × An)) := []
set_option maxRecDepth 1000000 in
theorem ok156 : SmOK rgT sm156 := vfy_sp (T := []) (AN := an156) (g := 83) (fun _ h => absurd h List.not_mem_nil) (by decide +kernel)
set_option maxRecDepth 1000000 in
def an157 : List (Nat × List (Nat × An)) := []
set_option maxRecDepth 1000000 in
theorem ok157 : SmOK rgT sm157 := vfy_sp (T := []) (AN := an157) (g := 216) (fun _ h => absurd h List.not_mem_nil) (by decide +kernel)
set_option maxRecDepth 1000000 in
def an158 : List (Nat × List (Nat × An)) := []
set_option maxRecDepth 1000000 in
theorem ok158 : SmOK rgT sm158 := vfy_sp (T := []) (AN := an158) (g := 90) (fun _ h => absurd h List.not_mem_nil) (by decide +kernel)
set_option maxRecDepth 1000000 in
def an159 : List (Nat × List (Nat × An)) := [(74, [(13, ([((0, 3, 0, (0, [])), (-2147483648), 2147483647), ((0, 4, 0, (0, [])), 0, 2147483647)], ([], [], []), [], [], [], 1, true))])]
set_option maxRecDepth 1000000 in
theorem ok159 : SmOK rgT sm159 := vfy_sp (T := [sm158]) (AN := an159) (g := 116) (List.forall_mem_cons.mpr ⟨ok158, fun _ h => absurd h List.not_mem_nil⟩) (by decide +kernel)
set_option maxRecDepth 1000000 in
def an160 : List (Nat × List (Nat × An)) := []
set_option maxRecDepth 1000000 in
theorem ok160 : SmOK rgT sm160 := vfy_sp (T := [sm159, sm158]) (AN := an160) (g := 79) (List.forall_mem_cons.mpr ⟨ok159, List.forall_mem_cons.mpr ⟨ok158, fun _ h => absurd h List.not_mem_nil⟩⟩) (by decide +kernel)
set_option maxRecDepth 1000000 in
def an161 : List (Nat × List (Nat × An)) := []
set_option maxRecDepth 1000000 in
theorem ok161 : SmOK rgT sm161 := vfy_sp (T := [sm158]) (AN := an161) (g := 91) (List.forall_mem_cons.mpr ⟨ok158, fun _ h => absurd h List.not_mem_nil⟩) (by decide +kernel)
set_option maxRecDepth 1000000 in
def an162 : List (Nat × List (Nat × An)) := [(81, [(6, ([((0, 4, 0, (0, [])), 0, 2147483647), ((0, 3, 0, (0, [])), (-2147483648), 2147483647)], ([], [], []), [], [], [], 0, true))])]
set_option maxRecDepth 1000000 in
theorem ok162 : SmOK rgT sm162 := vfy_sp (T := [sm161, sm160, sm158]) (AN := an162) (g := 145) (List.forall_mem_cons.mpr ⟨ok161, List.forall_mem_cons.mpr ⟨ok160, List.forall_mem_cons.mpr ⟨ok158, fun _ h => absurd h List.not_mem_nil⟩⟩⟩) (by decide +kernel)
set_option maxRecDepth 1000000 in
def an163 : List (Nat × List (Nat × An)) := []
set_option maxRecDepth 1000000 in
theorem ok163 : SmOK rgT sm163 := vfy_sp (T := []) (AN := an163) (g := 90) (fun _ h => absurd h List.not_mem_nil) (by decide +kernel)
set_option maxRecDepth 1000000 in
def an164 : List (Nat × List (Nat × An)) := []
set_option maxRecDepth 1000000 in
theorem ok164 : SmOK rgT sm164 := vfy_sp (T := []) (AN := an164) (g := 87) (fun _ h => absurd h List.not_mem_nil) (by decide +kernel)
set_option maxRecDepth 1000000 in
def an165 : List (Nat × List (Nat × An)) := []
set_option maxRecDepth 1000000 in
theorem ok165 : SmOK rgT sm165 := vfy_sp (T := []) (AN := an165) (g := 87) (fun _ h => absurd h List.not_mem_nil) (by decide +kernel)
set_option maxRecDepth 1000000 in
def an166 : List (Nat × List (Nat × An)) := []
set_option maxRecDepth 1000000 in
theorem ok166 : SmOK rgT sm166 := vfy_sp (T := [sm165, sm163]) (AN := an166) (g := 71) (List.forall_mem_cons.mpr ⟨ok165, List.forall_mem_cons.mpr ⟨ok163, fun _ h => absurd h List.not_mem_nil⟩⟩) (by decide +kernel)
set_option maxRecDepth 1000000 in
def an167 : List (Nat × List (Nat × An)) := [(3, [(2, ([((0, 3, 0, (0, [])), 0, 2147483647)], ([], [], []), [], [], [], 0, true))])]
set_option maxRecDepth 1000000 in
theorem ok167 : SmOK rgT sm167 := vfy_sp (T := [sm166, sm164, sm163, sm162, sm158]) (AN := an167) (g := 107) (List.forall_mem_cons.mpr ⟨ok166, List.forall_mem_cons.mpr ⟨ok164, List.forall_mem_cons.mpr ⟨ok163, List.forall_mem_cons.mpr ⟨ok162, List.forall_mem_cons.mpr ⟨ok158, fun _ h => absurd h List.not_mem_nil⟩⟩⟩⟩⟩) (by decide +kernel)
set_option maxRecDepth 1000000 in
def an168 : List (Nat × List (Nat × An)) := []
set_option maxRecDepth 1000000 in
theorem ok168 : SmOK rgT sm168 := vfy_sp (T := []) (AN := an168) (g := 90) (fun _ h => absurd h List.not_mem_nil) (by decide +kernel)
set_option maxRecDepth 1000000 in
def an169 : List (Nat × List (Nat × An)) := []
set_option maxRecDepth 1000000 in
theorem ok169 : SmOK rgT sm169 := vfy_sp (T := [sm168]) (AN := an169) (g := 72) (List.forall_mem_cons.mpr ⟨ok168, fun _ h => absurd h List.not_mem_nil⟩) (by decide +kernel)
set_option maxRecDepth 1000000 in
def an170 : List (Nat × List (Nat × An)) := []
set_option maxRecDepth 1000000 in
theorem ok170 : SmOK rgT sm170 := vfy_sp (T := []) (AN := an170) (g := 90) (fun _ h => absurd h List.not_mem_nil) (by decide +kernel)
set_option maxRecDepth 1000000 in
def an171 : List (Nat × List (Nat × An)) := [(83, [(5, ([((0, 3, 0, (0, [])), 0, 2147483647), ((0, 2, 0, (0, [])), (-2147483648), 2147483647)], ([], [], []), [], [], [], 0, true))])]
set_option maxRecDepth 1000000 in
theorem ok171 : SmOK rgT sm171 := vfy_sp (T := [sm170]) (AN := an171) (g := 121) (List.forall_mem_cons.mpr ⟨ok170, fun _ h => absurd h List.not_mem_nil⟩) (by decide +kernel)
set_option maxRecDepth 1000000 in
def an172 : List (Nat × List (Nat × An)) := [(49, [(20, ([((0, 7, 0, (0, [])), 0, 2147483647)], ([], [], []), [], [], [(0, 35, 1, 1)], 0, true))])]
set_option maxRecDepth 1000000 in
theorem ok172 : SmOK rgT sm172 := vfy_sp (T := [sm170, sm117, sm116, sm115]) (AN := an172) (g := 195) (List.forall_mem_cons.mpr ⟨ok170, List.forall_mem_cons.mpr ⟨ok117, List.forall_mem_cons.mpr ⟨ok116, List.forall_mem_cons.mpr ⟨ok115, fun _ h => absurd h List.not_mem_nil⟩⟩⟩⟩) (by decide +kernel)
set_option maxRecDepth 1000000 in
def an173 : List (Nat × List (Nat × An)) := []
set_option maxRecDepth 1000000 in
theorem ok173 : SmOK rgT sm173 := vfy_sp (T := [sm172, sm171]) (AN := an173) (g := 89) (List.forall_mem_cons.mpr ⟨ok172, List.forall_mem_cons.mpr ⟨ok171, fun _ h => absurd h List.not_mem_nil⟩⟩) (by decide +kernel)
set_option maxRecDepth 1000000 in
def an174 : List (Nat × List (Nat × An)) := []
set_option maxRecDepth 1000000 in
theorem ok174 : SmOK rgT sm174 := vfy_sp (T := []) (AN := an174) (g := 87) (fun _ h => absurd h List.not_mem_nil) (by decide +kernel)
set_option maxRecDepth 1000000 in
def an175 : List (Nat × List (Nat × An)) := []
set_option maxRecDepth 1000000 in
theorem ok175 : SmOK rgT sm175 := vfy_sp (T := [sm174, sm168]) (AN := an175) (g := 75) (List.forall_mem_cons.mpr ⟨ok174, List.forall_mem_cons.mpr ⟨ok168, fun _ h => absurd h List.not_mem_nil⟩⟩) (by decide +kernel)
set_option maxRecDepth 1000000 in
def an176 : List (Nat × List (Nat × An)) := []
set_option maxRecDepth 1000000 in
theorem ok176 : SmOK rgT sm176 := vfy_sp (T := [sm174, sm168]) (AN := an176) (g := 71) (List.forall_mem_cons.mpr ⟨ok174, List.forall_mem_cons.mpr ⟨ok168, fun _ h => absurd h List.not_mem_nil⟩⟩) (by decide +kernel)
set_option maxRecDepth 1000000 in
def an177 : List (Nat × List (Nat × An)) := []
set_option maxRecDepth 1000000 in
theorem ok177 : SmOK rgT sm177 := vfy_sp (T := [sm174, sm168]) (AN := an177) (g := 101) (List.forall_mem_cons.mpr ⟨ok174, List.forall_mem_cons.mpr ⟨ok168, fun _ h => absurd h List.not_mem_nil⟩⟩) (by decide +kernel)
set_option maxRecDepth 1000000 in
def an178 : List (Nat × List (Nat × An)) := []
set_option maxRecDepth 1000000 in
theorem ok178 : SmOK rgT sm178 := vfy_sp (T := [sm177, sm176, sm175, sm173, sm169, sm168, sm166, sm163]) (AN := an178) (g := 152) (List.forall_mem_cons.mpr ⟨ok177, List.forall_mem_cons.mpr ⟨ok176, List.forall_mem_cons.mpr ⟨ok175, List.forall_mem_cons.mpr ⟨ok173, List.forall_mem_cons.mpr ⟨ok169, List.forall_mem_cons.mpr ⟨ok168, List.forall_mem_cons.mpr ⟨ok166, List.forall_mem_cons.mpr ⟨ok163, fun _ h => absurd h List.not_mem_nil⟩⟩⟩⟩⟩⟩⟩⟩) (by decide +kernel)
set_option maxRecDepth 1000000 in
def an179 : List (Nat × List (Nat × An)) := []
set_option maxRecDepth 1000000 in
theorem ok179 : SmOK rgT sm179 := vfy_sp (T := []) (AN := an179) (g := 90) (fun _ h => absurd h List.not_mem_nil) (by decide +kernel)
set_option maxRecDepth 1000000 in
def an180 : List (Nat × List (Nat × An)) := []
set_option maxRecDepth 1000000 in
theorem ok180 : SmOK rgT sm180 := vfy_sp (T := [sm179]) (AN := an180) (g := 89) (List.forall_mem_cons.mpr ⟨ok179, fun _ h => absurd h List.not_mem_nil⟩) (by decide +kernel)
