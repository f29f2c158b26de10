/-! Printed by wip/ai/tab.py. -/
set_option maxRecDepth 1000000 in
def an93 : List (Nat × List (Nat × An)) := []
set_option maxRecDepth 1000000 in
theorem ok93 : SmOK rgT sm93 := vfy_sp (T := []) (AN := an93) (g := 138) (fun _ h => absurd h List.not_mem_nil) (by decide +kernel)
set_option maxRecDepth 1000000 in
def an102 : List (Nat × List (Nat × An)) := []
set_option maxRecDepth 1000000 in
theorem ok102 : SmOK rgT sm102 := vfy_sp (T := []) (AN := an102) (g := 138) (fun _ h => absurd h List.not_mem_nil) (by decide +kernel)
set_option maxRecDepth 1000000 in
def an103 : List (Nat × List (Nat × An)) := []
set_option maxRecDepth 1000000 in
theorem ok103 : SmOK rgT sm103 := vfy_sp (T := [sm44]) (AN := an103) (g := 144) (List.forall_mem_cons.mpr ⟨ok44, fun _ h => absurd h List.not_mem_nil⟩) (by decide +kernel)
set_option maxRecDepth 1000000 in
def an104 : List (Nat × List (Nat × An)) := [(72, [(4, ([((0, 3, 0, (0, [])), 0, 2147483647), ((0, 2, 0, (0, [])), (-2147483648), 2147483647)], ([], [], []), [], [], [], 0, true))])]
set_option maxRecDepth 1000000 in
theorem ok104 : SmOK rgT sm104 := vfy_sp (T := [sm30]) (AN := an104) (g := 94) (List.forall_mem_cons.mpr ⟨ok30, fun _ h => absurd h List.not_mem_nil⟩) (by decide +kernel)
set_option maxRecDepth 1000000 in
def an105 : List (Nat × List (Nat × An)) := []
set_option maxRecDepth 1000000 in
theorem ok105 : SmOK rgT sm105 := vfy_sp (T := [sm104, sm44]) (AN := an105) (g := 943) (List.forall_mem_cons.mpr ⟨ok104, List.forall_mem_cons.mpr ⟨ok44, fun _ h => absurd h List.not_mem_nil⟩⟩) (by decide +kernel)
set_option maxRecDepth 1000000 in
def an106 : List (Nat × List (Nat × An)) := []
set_option maxRecDepth 1000000 in
theorem ok106 : SmOK rgT sm106 := vfy_sp (T := [sm44]) (AN := an106) (g := 314) (List.forall_mem_cons.mpr ⟨ok44, fun _ h => absurd h List.not_mem_nil⟩) (by decide +kernel)
set_option maxRecDepth 1000000 in
def an107 : List (Nat × List (Nat × An)) := []
set_option maxRecDepth 1000000 in
theorem ok107 : SmOK rgT sm107 := vfy_sp (T := [sm44]) (AN := an107) (g := 139) (List.forall_mem_cons.mpr ⟨ok44, fun _ h => absurd h List.not_mem_nil⟩) (by decide +kernel)
set_option maxRecDepth 1000000 in
def an108 : List (Nat × List (Nat × An)) := []
set_option maxRecDepth 1000000 in
theorem ok108 : SmOK rgT sm108 := vfy_sp (T := []) (AN := an108) (g := 630) (fun _ h => absurd h List.not_mem_nil) (by decide +kernel)
set_option maxRecDepth 1000000 in
def an110 : List (Nat × List (Nat × An)) := [(124, [(44, ([((0, 5, 0, (0, [])), 0, 2147483647), ((0, 3, 0, (0, [])), (-2147483648), 2147483647), ((0, 4, 0, (0, [])), (-2147483648), 2147483647)], ([], [], []), [(9, 0, (0, []), (0, [])), (9, 16, (0, []), (0, [])), (9, 32, (0, []), (0, [])), (9, 48, (0, []), (0, [])), (9, 64, (0, []), (0, [])), (11, 64, (0, []), (0, []))], [], [], 0, true))])]
set_option maxRecDepth 1000000 in
theorem ok110 : SmOK rgT sm110 := vfy_sp (T := [sm108, sm107, sm91]) (AN := an110) (g := 246) (List.forall_mem_cons.mpr ⟨ok108, List.forall_mem_cons.mpr ⟨ok107, List.forall_mem_cons.mpr ⟨ok91, fun _ h => absurd h List.not_mem_nil⟩⟩⟩) (by decide +kernel)
set_option maxRecDepth 1000000 in
def an111 : List (Nat × List (Nat × An)) := [(125, [(21, ([((0, 3, 0, (0, [])), 0, 2147483647), ((0, 2, 0, (0, [])), (-2147483648), 2147483647)], ([], [], []), [], [], [], 0, true))])]
set_option maxRecDepth 1000000 in
theorem ok111 : SmOK rgT sm111 := vfy_sp (T := [sm107]) (AN := an111) (g := 182) (List.forall_mem_cons.mpr ⟨ok107, fun _ h => absurd h List.not_mem_nil⟩) (by decide +kernel)
set_option maxRecDepth 1000000 in
def an112 : List (Nat × List (Nat × An)) := []
set_option maxRecDepth 1000000 in
theorem ok112 : SmOK rgT sm112 := vfy_sp (T := [sm44]) (AN := an112) (g := 221) (List.forall_mem_cons.mpr ⟨ok44, fun _ h => absurd h List.not_mem_nil⟩) (by decide +kernel)
set_option maxRecDepth 1000000 in
def an113 : List (Nat × List (Nat × An)) := [(18, [(13, ([((0, 3, 0, (0, [])), (-2147483648), 2147483647), ((1, 0, 38, (3, [])), 0, 30)], ([], [], []), [], [], [(0, 39, 0, 29), (0, 38, 3, 3)], 1, true))])]
set_option maxRecDepth 1000000 in
theorem ok113 : SmOK rgT sm113 := vfy_sp (T := [sm47]) (AN := an113) (g := 191) (List.forall_mem_cons.mpr ⟨ok47, fun _ h => absurd h List.not_mem_nil⟩) (by decide +kernel)
set_option maxRecDepth 1000000 in
def an114 : List (Nat × List (Nat × An)) := [(19, [(7, ([((0, 3, 0, (0, [])), 0, 2147483647)], ([], [], []), [], [], [(0, 38, 4, 4)], 0, true))])]
set_option maxRecDepth 1000000 in
theorem ok114 : SmOK rgT sm114 := vfy_sp (T := []) (AN := an114) (g := 196) (fun _ h => absurd h List.not_mem_nil) (by decide +kernel)
set_option maxRecDepth 1000000 in
def an115 : List (Nat × List (Nat × An)) := [(20, [(5, ([((0, 3, 0, (0, [])), (-2147483648), 2147483647), ((0, 4, 0, (0, [])), 0, 2147483647)], ([], [], []), [], [], [], 1, true))])]
set_option maxRecDepth 1000000 in
theorem ok115 : SmOK rgT sm115 := vfy_sp (T := []) (AN := an115) (g := 110) (fun _ h => absurd h List.not_mem_nil) (by decide +kernel)
set_option maxRecDepth 1000000 in
def an116 : List (Nat × List (Nat × An)) := [(17, [(40, ([((0, 4, 0, (0, [])), (-2147483648), 2147483647), ((0, 6, 0, (0, [])), 0, 2147483647), ((0, 5, 0, (0, [])), 0, 2147483647)], ([], [], []), [], [], [], 1, true)), (60, ([((0, 4, 0, (0, [])), (-2147483648), 2147483647), ((0, 5, 0, (0, [])), 0, 2147483647)], ([], [], []), [], [], [], 1, true))])]
set_option maxRecDepth 1000000 in
theorem ok116 : SmOK rgT sm116 := vfy_sp (T := [sm115, sm114, sm113]) (AN := an116) (g := 331) (List.forall_mem_cons.mpr ⟨ok115, List.forall_mem_cons.mpr ⟨ok114, List.forall_mem_cons.mpr ⟨ok113, fun _ h => absurd h List.not_mem_nil⟩⟩⟩) (by decide +kernel)
set_option maxRecDepth 1000000 in
def an117 : List (Nat × List (Nat × An)) := []
set_option maxRecDepth 1000000 in
theorem ok117 : SmOK rgT sm117 := vfy_sp (T := [sm116]) (AN := an117) (g := 93) (List.forall_mem_cons.mpr ⟨ok116, fun _ h => absurd h List.not_mem_nil⟩) (by decide +kernel)
set_option maxRecDepth 1000000 in
def an119 : List (Nat × List (Nat × An)) := []
set_option maxRecDepth 1000000 in
theorem ok119 : SmOK rgT sm119 := vfy_sp (T := []) (AN := an119) (g := 138) (fun _ h => absurd h List.not_mem_nil) (by decide +kernel)
set_option maxRecDepth 1000000 in
def an121 : List (Nat × List (Nat × An)) := []
set_option maxRecDepth 1000000 in
theorem ok121 : SmOK rgT sm121 := vfy_sp (T := [sm40]) (AN := an121) (g := 95) (List.forall_mem_cons.mpr ⟨ok40, fun _ h => absurd h List.not_mem_nil⟩) (by decide +kernel)
set_option maxRecDepth 1000000 in
def an137 : List (Nat × List (Nat × An)) := []
set_option maxRecDepth 1000000 in
theorem ok137 : SmOK rgT sm137 := vfy_sp (T := []) (AN := an137) (g := 94) (fun _ h => absurd h List.not_mem_nil) (by decide +kernel)
set_option maxRecDepth 1000000 in
def an138 : List (Nat × List (Nat × An)) := [(63, [(4, ([((0, 1, 0, (0, [])), (-2147483648), 2147483647), ((0, 2, 0, (0, [])), 0, 2147483647)], ([], [], []), [], [], [], 1, true))])]
set_option maxRecDepth 1000000 in
theorem ok138 : SmOK rgT sm138 := vfy_sp (T := []) (AN := an138) (g := 141) (fun _ h => absurd h List.not_mem_nil) (by decide +kernel)
set_option maxRecDepth 1000000 in
def an139 : List (Nat × List (Nat × An)) := [(88, [(42, ([((0, 4, 0, (0, [])), 0, 2147483647), ((0, 3, 0, (0, [])), (-2147483648), 2147483647)], ([], [], []), [], [], [], 0, true))])]
set_option maxRecDepth 1000000 in
theorem ok139 : SmOK rgT sm139 := vfy_sp (T := [sm55]) (AN := an139) (g := 197) (List.forall_mem_cons.mpr ⟨ok55, fun _ h => absurd h List.not_mem_nil⟩) (by decide +kernel)
set_option maxRecDepth 1000000 in
def an140 : List (Nat × List (Nat × An)) := [(144, [(26, ([((0, 3, 0, (0, [])), (-2147483648), 2147483647), ((0, 4, 0, (0, [])), 0, 2147483647)], ([], [], []), [], [], [], 1, true))])]
set_option maxRecDepth 1000000 in
theorem ok140 : SmOK rgT sm140 := vfy_sp (T := [sm139, sm138]) (AN := an140) (g := 138) (List.forall_mem_cons.mpr ⟨ok139, List.forall_mem_cons.mpr ⟨ok138, fun _ h => absurd h List.not_mem_nil⟩⟩) (by decide +kernel)
set_option maxRecDepth 1000000 in
def an141 : List (Nat × List (Nat × An)) := [(53, [(68, ([((0, 4, 0, (0, [])), 0, 2147483647)], ([], [], []), [], [], [], 0, true))])]
set_option maxRecDepth 1000000 in
theorem ok141 : SmOK rgT sm141 := vfy_sp (T := []) (AN := an141) (g := 196) (fun _ h => absurd h List.not_mem_nil) (by decide +kernel)
set_option maxRecDepth 1000000 in
def an142 : List (Nat × List (Nat × An)) := []
set_option maxRecDepth 1000000 in
theorem ok142 : SmOK rgT sm142 := vfy_sp (T := [sm141]) (AN := an142) (g := 67) (List.forall_mem_cons.mpr ⟨ok141, fun _ h => absurd h List.not_mem_nil⟩) (by decide +kernel)
set_option maxRecDepth 1000000 in
def an143 : List (Nat × List (Nat × An)) := []
set_option maxRecDepth 1000000 in
theorem ok143 : SmOK rgT sm143 := vfy_sp (T := []) (AN := an143) (g := 174) (fun _ h => absurd h List.not_mem_nil) (by decide +kernel)
set_option maxRecDepth 1000000 in
def an144 : List (Nat × List (Nat × An)) := []
set_option maxRecDepth 1000000 in
theorem ok144 : SmOK rgT sm144 := vfy_sp (T := [sm143]) (AN := an144) (g := 68) (List.forall_mem_cons.mpr ⟨ok143, fun _ h => absurd h List.not_mem_nil⟩) (by decide +kernel)
set_option maxRecDepth 1000000 in
def an145 : List (Nat × List (Nat × An)) := []
set_option maxRecDepth 1000000 in
theorem ok145 : SmOK rgT sm145 := vfy_sp (T := [sm143]) (AN := an145) (g := 68) (List.forall_mem_cons.mpr ⟨ok143, fun _ h => absurd h List.not_mem_nil⟩) (by decide +kernel)
set_option maxRecDepth 1000000 in
def an146 : List (Nat × List (Nat × An)) := []
set_option maxRecDepth 1000000 in
theorem ok146 : SmOK rgT sm146 := vfy_sp (T := []) (AN := an146) (g := 238) (fun _ h => absurd h List.not_mem_nil) (by decide +kernel)
set_option maxRecDepth 1000000 in
def an147 : List (Nat × List (Nat × An)) := []
set_option maxRecDepth 1000000 in
theorem ok147 : SmOK rgT sm147 := vfy_sp (T := [sm146]) (AN := an147) (g := 69) (List.forall_mem_cons.mpr ⟨ok146, fun _ h => absurd h List.not_mem_nil⟩) (by decide +kernel)
set_option maxRecDepth 1000000 in
def an148 : List (Nat × List (Nat × An)) := []
set_option maxRecDepth 1000000 in
theorem ok148 : SmOK rgT sm148 := vfy_sp (T := []) (AN := an148) (g := 2707) (fun _ h => absurd h List.not_mem_nil) (by decide +kernel)
