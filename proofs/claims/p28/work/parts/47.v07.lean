/-! Printed by wip/ai/tab.py. -/
set_option maxRecDepth 1000000 in
def an181 : List (Nat × List (Nat × An)) := []
set_option maxRecDepth 1000000 in
theorem ok181 : SmOK rgT sm181 := vfy_sp (T := []) (AN := an181) (g := 180) (fun _ h => absurd h List.not_mem_nil) (by decide +kernel)
set_option maxRecDepth 1000000 in
def an182 : List (Nat × List (Nat × An)) := []
set_option maxRecDepth 1000000 in
theorem ok182 : SmOK rgT sm182 := vfy_sp (T := []) (AN := an182) (g := 531) (fun _ h => absurd h List.not_mem_nil) (by decide +kernel)
set_option maxRecDepth 1000000 in
def an183 : List (Nat × List (Nat × An)) := []
set_option maxRecDepth 1000000 in
theorem ok183 : SmOK rgT sm183 := vfy_sp (T := []) (AN := an183) (g := 265) (fun _ h => absurd h List.not_mem_nil) (by decide +kernel)
set_option maxRecDepth 1000000 in
def an184 : List (Nat × List (Nat × An)) := []
set_option maxRecDepth 1000000 in
theorem ok184 : SmOK rgT sm184 := vfy_sp (T := []) (AN := an184) (g := 400) (fun _ h => absurd h List.not_mem_nil) (by decide +kernel)
set_option maxRecDepth 1000000 in
def an185 : List (Nat × List (Nat × An)) := [(188, [(34, ([((0, 3, 0, (0, [])), 0, 2147483647)], ([], [], []), [], [], [], 0, true))])]
set_option maxRecDepth 1000000 in
theorem ok185 : SmOK rgT sm185 := vfy_sp (T := []) (AN := an185) (g := 237) (fun _ h => absurd h List.not_mem_nil) (by decide +kernel)
set_option maxRecDepth 1000000 in
def an186 : List (Nat × List (Nat × An)) := [(189, [(54, ([((0, 6, 0, (0, [])), 0, 2147483647), ((0, 4, 0, (0, [])), (-2147483648), 2147483647), ((0, 5, 0, (0, [])), (-2147483648), 2147483647)], ([], [], []), [], [], [], 0, true))])]
set_option maxRecDepth 1000000 in
theorem ok186 : SmOK rgT sm186 := vfy_sp (T := [sm185]) (AN := an186) (g := 1059) (List.forall_mem_cons.mpr ⟨ok185, fun _ h => absurd h List.not_mem_nil⟩) (by decide +kernel)
set_option maxRecDepth 1000000 in
def an187 : List (Nat × List (Nat × An)) := []
set_option maxRecDepth 1000000 in
theorem ok187 : SmOK rgT sm187 := vfy_sp (T := [sm2]) (AN := an187) (g := 72) (List.forall_mem_cons.mpr ⟨ok2, fun _ h => absurd h List.not_mem_nil⟩) (by decide +kernel)
set_option maxRecDepth 1000000 in
def an188 : List (Nat × List (Nat × An)) := []
set_option maxRecDepth 1000000 in
theorem ok188 : SmOK rgT sm188 := vfy_sp (T := [sm187]) (AN := an188) (g := 126) (List.forall_mem_cons.mpr ⟨ok187, fun _ h => absurd h List.not_mem_nil⟩) (by decide +kernel)
set_option maxRecDepth 1000000 in
def an189 : List (Nat × List (Nat × An)) := [(194, [(8, ([((0, 2, 0, (0, [])), 0, 2147483647), ((0, 1, 0, (0, [])), (-2147483648), 2147483647)], ([], [], []), [], [], [], 0, true))])]
set_option maxRecDepth 1000000 in
theorem ok189 : SmOK rgT sm189 := vfy_sp (T := [sm187, sm185]) (AN := an189) (g := 277) (List.forall_mem_cons.mpr ⟨ok187, List.forall_mem_cons.mpr ⟨ok185, fun _ h => absurd h List.not_mem_nil⟩⟩) (by decide +kernel)
set_option maxRecDepth 1000000 in
def an190 : List (Nat × List (Nat × An)) := [(195, [(4, ([((0, 2, 0, (0, [])), 0, 2147483647), ((0, 1, 0, (0, [])), (-2147483648), 2147483647)], ([], [], []), [], [], [], 0, true))])]
set_option maxRecDepth 1000000 in
theorem ok190 : SmOK rgT sm190 := vfy_sp (T := []) (AN := an190) (g := 223) (fun _ h => absurd h List.not_mem_nil) (by decide +kernel)
set_option maxRecDepth 1000000 in
def an191 : List (Nat × List (Nat × An)) := []
set_option maxRecDepth 1000000 in
theorem ok191 : SmOK rgT sm191 := vfy_sp (T := []) (AN := an191) (g := 238) (fun _ h => absurd h List.not_mem_nil) (by decide +kernel)
set_option maxRecDepth 1000000 in
def an192 : List (Nat × List (Nat × An)) := [(197, [(50, ([((0, 6, 0, (0, [])), 0, 2147483647)], ([], [], []), [], [], [], 0, true))])]
set_option maxRecDepth 1000000 in
theorem ok192 : SmOK rgT sm192 := vfy_sp (T := [sm191]) (AN := an192) (g := 198) (List.forall_mem_cons.mpr ⟨ok191, fun _ h => absurd h List.not_mem_nil⟩) (by decide +kernel)
set_option maxRecDepth 1000000 in
def an193 : List (Nat × List (Nat × An)) := []
set_option maxRecDepth 1000000 in
theorem ok193 : SmOK rgT sm193 := vfy_sp (T := []) (AN := an193) (g := 178) (fun _ h => absurd h List.not_mem_nil) (by decide +kernel)
set_option maxRecDepth 1000000 in
def an194 : List (Nat × List (Nat × An)) := []
set_option maxRecDepth 1000000 in
theorem ok194 : SmOK rgT sm194 := vfy_sp (T := []) (AN := an194) (g := 312) (fun _ h => absurd h List.not_mem_nil) (by decide +kernel)
set_option maxRecDepth 1000000 in
def an195 : List (Nat × List (Nat × An)) := [(200, [(183, ([((0, 7, 0, (0, [])), 0, 2147483647), ((0, 6, 0, (0, [])), (-2147483648), 2147483647)], ([], [], []), [], [], [], 0, true))])]
set_option maxRecDepth 1000000 in
theorem ok195 : SmOK rgT sm195 := vfy_sp (T := []) (AN := an195) (g := 813) (fun _ h => absurd h List.not_mem_nil) (by decide +kernel)
set_option maxRecDepth 1000000 in
def an196 : List (Nat × List (Nat × An)) := []
set_option maxRecDepth 1000000 in
theorem ok196 : SmOK rgT sm196 := vfy_sp (T := []) (AN := an196) (g := 214) (fun _ h => absurd h List.not_mem_nil) (by decide +kernel)
set_option maxRecDepth 1000000 in
def an197 : List (Nat × List (Nat × An)) := [(202, [(38, ([((0, 5, 0, (0, [])), 0, 2147483647), ((0, 3, 0, (0, [])), (-2147483648), 2147483647), ((0, 4, 0, (0, [])), (-2147483648), 2147483647)], ([], [], []), [], [], [], 0, true))])]
set_option maxRecDepth 1000000 in
theorem ok197 : SmOK rgT sm197 := vfy_sp (T := [sm178]) (AN := an197) (g := 636) (List.forall_mem_cons.mpr ⟨ok178, fun _ h => absurd h List.not_mem_nil⟩) (by decide +kernel)
set_option maxRecDepth 1000000 in
def an198 : List (Nat × List (Nat × An)) := [(203, [(15, ([((0, 3, 0, (0, [])), 0, 2147483647), ((0, 2, 0, (0, [])), (-2147483648), 2147483647)], ([], [], []), [], [], [], 0, true))])]
set_option maxRecDepth 1000000 in
theorem ok198 : SmOK rgT sm198 := vfy_sp (T := []) (AN := an198) (g := 177) (fun _ h => absurd h List.not_mem_nil) (by decide +kernel)
set_option maxRecDepth 1000000 in
def an199 : List (Nat × List (Nat × An)) := []
set_option maxRecDepth 1000000 in
theorem ok199 : SmOK rgT sm199 := vfy_sp (T := []) (AN := an199) (g := 155) (fun _ h => absurd h List.not_mem_nil) (by decide +kernel)
set_option maxRecDepth 1000000 in
def an200 : List (Nat × List (Nat × An)) := [(205, [(4, ([((0, 2, 0, (0, [])), (-1), 29), ((0, 3, 0, (0, [])), 0, 2147483647)], ([], [], []), [(8, 66, (0, [(0, 1)]), (0, []))], [], [], 1, true))])]
set_option maxRecDepth 1000000 in
theorem ok200 : SmOK rgT sm200 := vfy_sp (T := []) (AN := an200) (g := 217) (fun _ h => absurd h List.not_mem_nil) (by decide +kernel)
set_option maxRecDepth 1000000 in
def an201 : List (Nat × List (Nat × An)) := [(206, [(13, ([((0, 2, 0, (0, [])), 0, 2147483647)], ([], [], []), [], [], [], 0, true)), (34, ([((0, 2, 0, (0, [])), 0, 2147483647)], ([], [], []), [], [], [], 0, true)), (107, ([((0, 2, 0, (0, [])), (-2147483648), 2147483647), ((0, 3, 0, (0, [])), (-2147483648), 2147483647), ((0, 4, 0, (0, [])), 0, 2147483647)], ([], [], []), [], [], [], 2, true)), (124, ([((0, 5, 0, (0, [])), 0, 2147483647), ((0, 2, 0, (0, [])), (-2147483648), 2147483647)], ([], [], []), [], [], [], 0, true)), (268, ([((0, 5, 0, (0, [])), (-1), 29), ((0, 2, 0, (0, [])), (-2147483648), 2147483647), ((1, 7, 66, (0, [])), 0, 30)], ([], [], []), [(8, 66, (0, [(0, 1)]), (0, []))], [], [(0, 75, 0, 29)], 2, false)), (353, ([((0, 4, 0, (0, [])), 0, 2147483647)], ([], [], []), [], [], [], 0, true))])]
set_option maxRecDepth 1000000 in
theorem ok201 : SmOK rgT sm201 := vfy_sp (T := [sm200]) (AN := an201) (g := 461) (List.forall_mem_cons.mpr ⟨ok200, fun _ h => absurd h List.not_mem_nil⟩) (by decide +kernel)
set_option maxRecDepth 1000000 in
def an203 : List (Nat × List (Nat × An)) := []
set_option maxRecDepth 1000000 in
theorem ok203 : SmOK rgT sm203 := vfy_sp (T := []) (AN := an203) (g := 142) (fun _ h => absurd h List.not_mem_nil) (by decide +kernel)
set_option maxRecDepth 1000000 in
def an204 : List (Nat × List (Nat × An)) := [(227, [(4, ([((0, 2, 0, (0, [])), (-1), 11), ((0, 3, 0, (0, [])), 0, 2147483647)], ([((-1), [(0, (-1)), (1001, 1)])], [], []), [], [], [], 1, true))])]
set_option maxRecDepth 1000000 in
theorem ok204 : SmOK rgT sm204 := vfy_sp (T := []) (AN := an204) (g := 188) (fun _ h => absurd h List.not_mem_nil) (by decide +kernel)
set_option maxRecDepth 1000000 in
def an206 : List (Nat × List (Nat × An)) := []
set_option maxRecDepth 1000000 in
theorem ok206 : SmOK rgT sm206 := vfy_sp (T := [sm204, sm_worked]) (AN := an206) (g := 574) (List.forall_mem_cons.mpr ⟨ok204, List.forall_mem_cons.mpr ⟨ok_worked, fun _ h => absurd h List.not_mem_nil⟩⟩) (by decide +kernel)
