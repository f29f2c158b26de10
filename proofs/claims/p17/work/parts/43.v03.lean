/-! Printed by wip/ai/tab.py. -/
set_option maxRecDepth 1000000 in
def an113 : List (Nat × List (Nat × An)) := [(83, [(5, ([((0, 3, 0, (0, [])), 0, 2147483647), ((0, 2, 0, (0, [])), (-2147483648), 2147483647)], ([], [], []), [], [], [], 0, true))])]
set_option maxRecDepth 1000000 in
theorem ok113 : SmOK rgT sm113 := vfy_sp (T := []) (AN := an113) (g := 209) (fun _ h => absurd h List.not_mem_nil) (by decide +kernel)
set_option maxRecDepth 1000000 in
def an114 : List (Nat × List (Nat × An)) := []
set_option maxRecDepth 1000000 in
theorem ok114 : SmOK rgT sm114 := vfy_sp (T := [sm113]) (AN := an114) (g := 90) (List.forall_mem_cons.mpr ⟨ok113, fun _ h => absurd h List.not_mem_nil⟩) (by decide +kernel)
set_option maxRecDepth 1000000 in
def an115 : List (Nat × List (Nat × An)) := []
set_option maxRecDepth 1000000 in
theorem ok115 : SmOK rgT sm115 := vfy_sp (T := []) (AN := an115) (g := 85) (fun _ h => absurd h List.not_mem_nil) (by decide +kernel)
set_option maxRecDepth 1000000 in
def an116 : List (Nat × List (Nat × An)) := []
set_option maxRecDepth 1000000 in
theorem ok116 : SmOK rgT sm116 := vfy_sp (T := []) (AN := an116) (g := 256) (fun _ h => absurd h List.not_mem_nil) (by decide +kernel)
set_option maxRecDepth 1000000 in
def an117 : List (Nat × List (Nat × An)) := []
set_option maxRecDepth 1000000 in
theorem ok117 : SmOK rgT sm117 := vfy_sp (T := []) (AN := an117) (g := 84) (fun _ h => absurd h List.not_mem_nil) (by decide +kernel)
set_option maxRecDepth 1000000 in
def an118 : List (Nat × List (Nat × An)) := [(49, [(20, ([((0, 7, 0, (0, [])), 0, 2147483647)], ([], [], []), [], [], [(0, 35, 1, 1)], 0, true))])]
set_option maxRecDepth 1000000 in
theorem ok118 : SmOK rgT sm118 := vfy_sp (T := [sm117, sm116, sm115]) (AN := an118) (g := 325) (List.forall_mem_cons.mpr ⟨ok117, List.forall_mem_cons.mpr ⟨ok116, List.forall_mem_cons.mpr ⟨ok115, fun _ h => absurd h List.not_mem_nil⟩⟩⟩) (by decide +kernel)
set_option maxRecDepth 1000000 in
def an119 : List (Nat × List (Nat × An)) := []
set_option maxRecDepth 1000000 in
theorem ok119 : SmOK rgT sm119 := vfy_sp (T := [sm118, sm113]) (AN := an119) (g := 89) (List.forall_mem_cons.mpr ⟨ok118, List.forall_mem_cons.mpr ⟨ok113, fun _ h => absurd h List.not_mem_nil⟩⟩) (by decide +kernel)
set_option maxRecDepth 1000000 in
def an120 : List (Nat × List (Nat × An)) := []
set_option maxRecDepth 1000000 in
theorem ok120 : SmOK rgT sm120 := vfy_sp (T := [sm119]) (AN := an120) (g := 95) (List.forall_mem_cons.mpr ⟨ok119, fun _ h => absurd h List.not_mem_nil⟩) (by decide +kernel)
set_option maxRecDepth 1000000 in
def an121 : List (Nat × List (Nat × An)) := []
set_option maxRecDepth 1000000 in
theorem ok121 : SmOK rgT sm121 := vfy_sp (T := [sm119]) (AN := an121) (g := 351) (List.forall_mem_cons.mpr ⟨ok119, fun _ h => absurd h List.not_mem_nil⟩) (by decide +kernel)
set_option maxRecDepth 1000000 in
def an122 : List (Nat × List (Nat × An)) := []
set_option maxRecDepth 1000000 in
theorem ok122 : SmOK rgT sm122 := vfy_sp (T := []) (AN := an122) (g := 180) (fun _ h => absurd h List.not_mem_nil) (by decide +kernel)
set_option maxRecDepth 1000000 in
def an123 : List (Nat × List (Nat × An)) := []
set_option maxRecDepth 1000000 in
theorem ok123 : SmOK rgT sm123 := vfy_sp (T := [sm122, sm121, sm44]) (AN := an123) (g := 219) (List.forall_mem_cons.mpr ⟨ok122, List.forall_mem_cons.mpr ⟨ok121, List.forall_mem_cons.mpr ⟨ok44, fun _ h => absurd h List.not_mem_nil⟩⟩⟩) (by decide +kernel)
set_option maxRecDepth 1000000 in
def an124 : List (Nat × List (Nat × An)) := []
set_option maxRecDepth 1000000 in
theorem ok124 : SmOK rgT sm124 := vfy_sp (T := [sm121, sm44]) (AN := an124) (g := 125) (List.forall_mem_cons.mpr ⟨ok121, List.forall_mem_cons.mpr ⟨ok44, fun _ h => absurd h List.not_mem_nil⟩⟩) (by decide +kernel)
set_option maxRecDepth 1000000 in
def an125 : List (Nat × List (Nat × An)) := []
set_option maxRecDepth 1000000 in
theorem ok125 : SmOK rgT sm125 := vfy_sp (T := []) (AN := an125) (g := 241) (fun _ h => absurd h List.not_mem_nil) (by decide +kernel)
set_option maxRecDepth 1000000 in
def an126 : List (Nat × List (Nat × An)) := []
set_option maxRecDepth 1000000 in
theorem ok126 : SmOK rgT sm126 := vfy_sp (T := [sm125, sm119, sm44]) (AN := an126) (g := 282) (List.forall_mem_cons.mpr ⟨ok125, List.forall_mem_cons.mpr ⟨ok119, List.forall_mem_cons.mpr ⟨ok44, fun _ h => absurd h List.not_mem_nil⟩⟩⟩) (by decide +kernel)
set_option maxRecDepth 1000000 in
def an127 : List (Nat × List (Nat × An)) := []
set_option maxRecDepth 1000000 in
theorem ok127 : SmOK rgT sm127 := vfy_sp (T := [sm125, sm44]) (AN := an127) (g := 174) (List.forall_mem_cons.mpr ⟨ok125, List.forall_mem_cons.mpr ⟨ok44, fun _ h => absurd h List.not_mem_nil⟩⟩) (by decide +kernel)
set_option maxRecDepth 1000000 in
def an128 : List (Nat × List (Nat × An)) := []
set_option maxRecDepth 1000000 in
theorem ok128 : SmOK rgT sm128 := vfy_sp (T := [sm44]) (AN := an128) (g := 216) (List.forall_mem_cons.mpr ⟨ok44, fun _ h => absurd h List.not_mem_nil⟩) (by decide +kernel)
set_option maxRecDepth 1000000 in
def an129 : List (Nat × List (Nat × An)) := []
set_option maxRecDepth 1000000 in
theorem ok129 : SmOK rgT sm129 := vfy_sp (T := []) (AN := an129) (g := 138) (fun _ h => absurd h List.not_mem_nil) (by decide +kernel)
set_option maxRecDepth 1000000 in
def an130 : List (Nat × List (Nat × An)) := []
set_option maxRecDepth 1000000 in
theorem ok130 : SmOK rgT sm130 := vfy_sp (T := []) (AN := an130) (g := 185) (fun _ h => absurd h List.not_mem_nil) (by decide +kernel)
set_option maxRecDepth 1000000 in
def an131 : List (Nat × List (Nat × An)) := [(86, [(13, ([((0, 4, 0, (0, [])), 0, 2147483647), ((0, 3, 0, (0, [])), (-2147483648), 2147483647)], ([], [], []), [], [], [], 0, true))])]
set_option maxRecDepth 1000000 in
theorem ok131 : SmOK rgT sm131 := vfy_sp (T := [sm130]) (AN := an131) (g := 352) (List.forall_mem_cons.mpr ⟨ok130, fun _ h => absurd h List.not_mem_nil⟩) (by decide +kernel)
set_option maxRecDepth 1000000 in
def an132 : List (Nat × List (Nat × An)) := []
set_option maxRecDepth 1000000 in
theorem ok132 : SmOK rgT sm132 := vfy_sp (T := [sm131]) (AN := an132) (g := 115) (List.forall_mem_cons.mpr ⟨ok131, fun _ h => absurd h List.not_mem_nil⟩) (by decide +kernel)
set_option maxRecDepth 1000000 in
def an134 : List (Nat × List (Nat × An)) := [(3, [(2, ([((0, 3, 0, (0, [])), 0, 2147483647)], ([], [], []), [(9, 320, (0, []), (0, [])), (9, 352, (0, []), (0, []))], [], [], 0, true))])]
set_option maxRecDepth 1000000 in
theorem ok134 : SmOK rgT sm134 := vfy_sp (T := [sm80]) (AN := an134) (g := 778) (List.forall_mem_cons.mpr ⟨ok80, fun _ h => absurd h List.not_mem_nil⟩) (by decide +kernel)
set_option maxRecDepth 1000000 in
def an135 : List (Nat × List (Nat × An)) := []
set_option maxRecDepth 1000000 in
theorem ok135 : SmOK rgT sm135 := vfy_sp (T := []) (AN := an135) (g := 254) (fun _ h => absurd h List.not_mem_nil) (by decide +kernel)
set_option maxRecDepth 1000000 in
def an136 : List (Nat × List (Nat × An)) := []
set_option maxRecDepth 1000000 in
theorem ok136 : SmOK rgT sm136 := vfy_sp (T := [sm135, sm122, sm119, sm44]) (AN := an136) (g := 1372) (List.forall_mem_cons.mpr ⟨ok135, List.forall_mem_cons.mpr ⟨ok122, List.forall_mem_cons.mpr ⟨ok119, List.forall_mem_cons.mpr ⟨ok44, fun _ h => absurd h List.not_mem_nil⟩⟩⟩⟩) (by decide +kernel)
set_option maxRecDepth 1000000 in
def an138 : List (Nat × List (Nat × An)) := []
set_option maxRecDepth 1000000 in
theorem ok138 : SmOK rgT sm138 := vfy_sp (T := [sm122, sm49]) (AN := an138) (g := 409) (List.forall_mem_cons.mpr ⟨ok122, List.forall_mem_cons.mpr ⟨ok49, fun _ h => absurd h List.not_mem_nil⟩⟩) (by decide +kernel)
set_option maxRecDepth 1000000 in
def an140 : List (Nat × List (Nat × An)) := [(0, [(2, ([((0, 2, 0, (0, [])), 0, 2147483647)], ([], [], []), [(9, 320, (0, []), (0, [])), (9, 352, (0, []), (0, []))], [], [], 0, true)), (27, ([((0, 2, 0, (0, [])), 0, 2147483647)], ([], [], []), [(9, 320, (0, []), (0, [])), (9, 352, (0, []), (0, []))], [], [], 0, true)), (76, ([((0, 2, 0, (0, [])), 0, 2147483647)], ([], [], []), [(9, 320, (0, []), (0, [])), (9, 352, (0, []), (0, []))], [], [], 0, true))])]
set_option maxRecDepth 1000000 in
theorem ok140 : SmOK rgT sm140 := vfy_sp (T := [sm138, sm136, sm134, sm131, sm44]) (AN := an140) (g := 198) (List.forall_mem_cons.mpr ⟨ok138, List.forall_mem_cons.mpr ⟨ok136, List.forall_mem_cons.mpr ⟨ok134, List.forall_mem_cons.mpr ⟨ok131, List.forall_mem_cons.mpr ⟨ok44, fun _ h => absurd h List.not_mem_nil⟩⟩⟩⟩⟩) (by decide +kernel)
set_option maxRecDepth 1000000 in
def an142 : List (Nat × List (Nat × An)) := [(142, [(33, ([((0, 2, 0, (0, [])), 0, 2147483647)], ([], [], []), [(9, 320, (0, []), (0, [])), (9, 352, (0, []), (0, []))], [], [(0, 1, 5, 5)], 0, true))])]
set_option maxRecDepth 1000000 in
theorem ok142 : SmOK rgT sm142 := vfy_sp (T := [sm140]) (AN := an142) (g := 111) (List.forall_mem_cons.mpr ⟨ok140, fun _ h => absurd h List.not_mem_nil⟩) (by decide +kernel)
set_option maxRecDepth 1000000 in
def an143 : List (Nat × List (Nat × An)) := []
set_option maxRecDepth 1000000 in
theorem ok143 : SmOK rgT sm143 := vfy_sp (T := []) (AN := an143) (g := 94) (fun _ h => absurd h List.not_mem_nil) (by decide +kernel)
set_option maxRecDepth 1000000 in
def an144 : List (Nat × List (Nat × An)) := [(63, [(4, ([((0, 1, 0, (0, [])), (-2147483648), 2147483647), ((0, 2, 0, (0, [])), 0, 2147483647)], ([], [], []), [], [], [], 1, true))])]
set_option maxRecDepth 1000000 in
theorem ok144 : SmOK rgT sm144 := vfy_sp (T := [sm44]) (AN := an144) (g := 95) (List.forall_mem_cons.mpr ⟨ok44, fun _ h => absurd h List.not_mem_nil⟩) (by decide +kernel)
set_option maxRecDepth 1000000 in
def an145 : List (Nat × List (Nat × An)) := [(88, [(42, ([((0, 4, 0, (0, [])), 0, 2147483647), ((0, 3, 0, (0, [])), (-2147483648), 2147483647)], ([], [], []), [], [], [], 0, true))])]
set_option maxRecDepth 1000000 in
theorem ok145 : SmOK rgT sm145 := vfy_sp (T := [sm33]) (AN := an145) (g := 197) (List.forall_mem_cons.mpr ⟨ok33, fun _ h => absurd h List.not_mem_nil⟩) (by decide +kernel)
set_option maxRecDepth 1000000 in
def an146 : List (Nat × List (Nat × An)) := [(144, [(26, ([((0, 3, 0, (0, [])), (-2147483648), 2147483647), ((0, 4, 0, (0, [])), 0, 2147483647)], ([], [], []), [], [], [], 1, true))])]
set_option maxRecDepth 1000000 in
theorem ok146 : SmOK rgT sm146 := vfy_sp (T := [sm145, sm144]) (AN := an146) (g := 138) (List.forall_mem_cons.mpr ⟨ok145, List.forall_mem_cons.mpr ⟨ok144, fun _ h => absurd h List.not_mem_nil⟩⟩) (by decide +kernel)
set_option maxRecDepth 1000000 in
def an147 : List (Nat × List (Nat × An)) := [(53, [(68, ([((0, 4, 0, (0, [])), 0, 2147483647)], ([], [], []), [], [], [], 0, true))])]
set_option maxRecDepth 1000000 in
theorem ok147 : SmOK rgT sm147 := vfy_sp (T := []) (AN := an147) (g := 196) (fun _ h => absurd h List.not_mem_nil) (by decide +kernel)
set_option maxRecDepth 1000000 in
def an148 : List (Nat × List (Nat × An)) := []
set_option maxRecDepth 1000000 in
theorem ok148 : SmOK rgT sm148 := vfy_sp (T := [sm147]) (AN := an148) (g := 67) (List.forall_mem_cons.mpr ⟨ok147, fun _ h => absurd h List.not_mem_nil⟩) (by decide +kernel)
set_option maxRecDepth 1000000 in
def an149 : List (Nat × List (Nat × An)) := []
set_option maxRecDepth 1000000 in
theorem ok149 : SmOK rgT sm149 := vfy_sp (T := []) (AN := an149) (g := 174) (fun _ h => absurd h List.not_mem_nil) (by decide +kernel)
set_option maxRecDepth 1000000 in
def an150 : List (Nat × List (Nat × An)) := []
set_option maxRecDepth 1000000 in
theorem ok150 : SmOK rgT sm150 := vfy_sp (T := [sm149]) (AN := an150) (g := 68) (List.forall_mem_cons.mpr ⟨ok149, fun _ h => absurd h List.not_mem_nil⟩) (by decide +kernel)
set_option maxRecDepth 1000000 in
def an151 : List (Nat × List (Nat × An)) := []
set_option maxRecDepth 1000000 in
theorem ok151 : SmOK rgT sm151 := vfy_sp (T := [sm149]) (AN := an151) (g := 68) (List.forall_mem_cons.mpr ⟨ok149, fun _ h => absurd h List.not_mem_nil⟩) (by decide +kernel)
set_option maxRecDepth 1000000 in
def an152 : List (Nat × List (Nat × An)) := []
set_option maxRecDepth 1000000 in
theorem ok152 : SmOK rgT sm152 := vfy_sp (T := []) (AN := an152) (g := 236) (fun _ h => absurd h List.not_mem_nil) (by decide +kernel)
