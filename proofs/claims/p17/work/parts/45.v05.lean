/-! Printed by wip/ai/tab.py. -/
set_option maxRecDepth 1000000 in
def an174 : List (Nat × List (Nat × An)) := []
set_option maxRecDepth 1000000 in
theorem ok174 : SmOK rgT sm174 := vfy_sp (T := [sm173, sm167]) (AN := an174) (g := 409) (List.forall_mem_cons.mpr ⟨ok173, List.forall_mem_cons.mpr ⟨ok167, fun _ h => absurd h List.not_mem_nil⟩⟩) (by decide +kernel)
set_option maxRecDepth 1000000 in
def an175 : List (Nat × List (Nat × An)) := [(0, [(2, ([((0, 2, 0, (0, [])), 0, 2147483647)], ([], [], []), [], [], [], 0, true)), (27, ([((0, 2, 0, (0, [])), 0, 2147483647)], ([], [], []), [], [], [], 0, true)), (76, ([((0, 2, 0, (0, [])), 0, 2147483647)], ([], [], []), [], [], [], 0, true))])]
set_option maxRecDepth 1000000 in
theorem ok175 : SmOK rgT sm175 := vfy_sp (T := [sm174, sm171, sm169, sm163, sm162]) (AN := an175) (g := 198) (List.forall_mem_cons.mpr ⟨ok174, List.forall_mem_cons.mpr ⟨ok171, List.forall_mem_cons.mpr ⟨ok169, List.forall_mem_cons.mpr ⟨ok163, List.forall_mem_cons.mpr ⟨ok162, fun _ h => absurd h List.not_mem_nil⟩⟩⟩⟩⟩) (by decide +kernel)
set_option maxRecDepth 1000000 in
def an176 : List (Nat × List (Nat × An)) := [(89, [(4, ([((0, 1, 0, (0, [])), (-2147483648), 2147483647), ((0, 2, 0, (0, [])), 0, 2147483647)], ([], [], []), [], [], [], 1, true))])]
set_option maxRecDepth 1000000 in
theorem ok176 : SmOK rgT sm176 := vfy_sp (T := []) (AN := an176) (g := 108) (fun _ h => absurd h List.not_mem_nil) (by decide +kernel)
set_option maxRecDepth 1000000 in
def an177 : List (Nat × List (Nat × An)) := []
set_option maxRecDepth 1000000 in
theorem ok177 : SmOK rgT sm177 := vfy_sp (T := []) (AN := an177) (g := 87) (fun _ h => absurd h List.not_mem_nil) (by decide +kernel)
set_option maxRecDepth 1000000 in
def an178 : List (Nat × List (Nat × An)) := [(90, [(4, ([((0, 1, 0, (0, [])), (-2147483648), 2147483647), ((0, 2, 0, (0, [])), 0, 2147483647)], ([], [], []), [], [], [], 1, true))])]
set_option maxRecDepth 1000000 in
theorem ok178 : SmOK rgT sm178 := vfy_sp (T := []) (AN := an178) (g := 108) (fun _ h => absurd h List.not_mem_nil) (by decide +kernel)
set_option maxRecDepth 1000000 in
def an179 : List (Nat × List (Nat × An)) := [(151, [(46, ([((0, 3, 0, (0, [])), 0, 2147483647)], ([], [], []), [], [], [], 0, true))])]
set_option maxRecDepth 1000000 in
theorem ok179 : SmOK rgT sm179 := vfy_sp (T := [sm178, sm177, sm176, sm175, sm157]) (AN := an179) (g := 229) (List.forall_mem_cons.mpr ⟨ok178, List.forall_mem_cons.mpr ⟨ok177, List.forall_mem_cons.mpr ⟨ok176, List.forall_mem_cons.mpr ⟨ok175, List.forall_mem_cons.mpr ⟨ok157, fun _ h => absurd h List.not_mem_nil⟩⟩⟩⟩⟩) (by decide +kernel)
set_option maxRecDepth 1000000 in
def an180 : List (Nat × List (Nat × An)) := [(73, [(4, ([((0, 1, 0, (0, [])), (-2147483648), 2147483647), ((0, 2, 0, (0, [])), 0, 2147483647)], ([], [], []), [], [], [], 1, true))])]
set_option maxRecDepth 1000000 in
theorem ok180 : SmOK rgT sm180 := vfy_sp (T := []) (AN := an180) (g := 118) (fun _ h => absurd h List.not_mem_nil) (by decide +kernel)
set_option maxRecDepth 1000000 in
def an181 : List (Nat × List (Nat × An)) := [(80, [(4, ([((0, 2, 0, (0, [])), 0, 2147483647), ((0, 1, 0, (0, [])), (-2147483648), 2147483647)], ([], [], []), [], [], [], 0, true))])]
set_option maxRecDepth 1000000 in
theorem ok181 : SmOK rgT sm181 := vfy_sp (T := [sm78]) (AN := an181) (g := 93) (List.forall_mem_cons.mpr ⟨ok78, fun _ h => absurd h List.not_mem_nil⟩) (by decide +kernel)
set_option maxRecDepth 1000000 in
def an182 : List (Nat × List (Nat × An)) := []
set_option maxRecDepth 1000000 in
theorem ok182 : SmOK rgT sm182 := vfy_sp (T := [sm181, sm180, sm144, sm35, sm33]) (AN := an182) (g := 155) (List.forall_mem_cons.mpr ⟨ok181, List.forall_mem_cons.mpr ⟨ok180, List.forall_mem_cons.mpr ⟨ok144, List.forall_mem_cons.mpr ⟨ok35, List.forall_mem_cons.mpr ⟨ok33, fun _ h => absurd h List.not_mem_nil⟩⟩⟩⟩⟩) (by decide +kernel)
set_option maxRecDepth 1000000 in
def an183 : List (Nat × List (Nat × An)) := []
set_option maxRecDepth 1000000 in
theorem ok183 : SmOK rgT sm183 := vfy_sp (T := []) (AN := an183) (g := 154) (fun _ h => absurd h List.not_mem_nil) (by decide +kernel)
set_option maxRecDepth 1000000 in
def an184 : List (Nat × List (Nat × An)) := []
set_option maxRecDepth 1000000 in
theorem ok184 : SmOK rgT sm184 := vfy_sp (T := []) (AN := an184) (g := 154) (fun _ h => absurd h List.not_mem_nil) (by decide +kernel)
set_option maxRecDepth 1000000 in
def an185 : List (Nat × List (Nat × An)) := [(178, [(4, ([((0, 3, 0, (0, [])), 0, 2147483647), ((0, 2, 0, (0, [])), (-2147483648), 2147483647)], ([], [], []), [], [], [], 0, true))])]
set_option maxRecDepth 1000000 in
theorem ok185 : SmOK rgT sm185 := vfy_sp (T := []) (AN := an185) (g := 103) (fun _ h => absurd h List.not_mem_nil) (by decide +kernel)
set_option maxRecDepth 1000000 in
def an186 : List (Nat × List (Nat × An)) := [(179, [(5, ([((0, 4, 0, (0, [])), 0, 2147483647), ((0, 3, 0, (0, [])), (-2147483648), 2147483647)], ([], [], []), [], [], [], 0, true))])]
set_option maxRecDepth 1000000 in
theorem ok186 : SmOK rgT sm186 := vfy_sp (T := []) (AN := an186) (g := 186) (fun _ h => absurd h List.not_mem_nil) (by decide +kernel)
set_option maxRecDepth 1000000 in
def an187 : List (Nat × List (Nat × An)) := []
set_option maxRecDepth 1000000 in
theorem ok187 : SmOK rgT sm187 := vfy_sp (T := [sm186, sm185]) (AN := an187) (g := 166) (List.forall_mem_cons.mpr ⟨ok186, List.forall_mem_cons.mpr ⟨ok185, fun _ h => absurd h List.not_mem_nil⟩⟩) (by decide +kernel)
set_option maxRecDepth 1000000 in
def an188 : List (Nat × List (Nat × An)) := [(181, [(68, ([((0, 5, 0, (0, [])), 0, 2147483647)], ([], [], []), [], [], [], 0, true)), (147, ([((0, 5, 0, (0, [])), 0, 2147483647)], ([], [], []), [], [], [], 0, true))])]
set_option maxRecDepth 1000000 in
theorem ok188 : SmOK rgT sm188 := vfy_sp (T := []) (AN := an188) (g := 265) (fun _ h => absurd h List.not_mem_nil) (by decide +kernel)
set_option maxRecDepth 1000000 in
def an189 : List (Nat × List (Nat × An)) := []
set_option maxRecDepth 1000000 in
theorem ok189 : SmOK rgT sm189 := vfy_sp (T := []) (AN := an189) (g := 175) (fun _ h => absurd h List.not_mem_nil) (by decide +kernel)
set_option maxRecDepth 1000000 in
def an190 : List (Nat × List (Nat × An)) := []
set_option maxRecDepth 1000000 in
theorem ok190 : SmOK rgT sm190 := vfy_sp (T := []) (AN := an190) (g := 481) (fun _ h => absurd h List.not_mem_nil) (by decide +kernel)
set_option maxRecDepth 1000000 in
def an191 : List (Nat × List (Nat × An)) := []
set_option maxRecDepth 1000000 in
theorem ok191 : SmOK rgT sm191 := vfy_sp (T := []) (AN := an191) (g := 204) (fun _ h => absurd h List.not_mem_nil) (by decide +kernel)
set_option maxRecDepth 1000000 in
def an192 : List (Nat × List (Nat × An)) := []
set_option maxRecDepth 1000000 in
theorem ok192 : SmOK rgT sm192 := vfy_sp (T := []) (AN := an192) (g := 273) (fun _ h => absurd h List.not_mem_nil) (by decide +kernel)
set_option maxRecDepth 1000000 in
def an194 : List (Nat × List (Nat × An)) := [(188, [(34, ([((0, 3, 0, (0, [])), 0, 2147483647)], ([], [], []), [(9, 320, (0, []), (0, [])), (9, 352, (0, []), (0, []))], [], [], 0, true))])]
set_option maxRecDepth 1000000 in
theorem ok194 : SmOK rgT sm194 := vfy_sp (T := []) (AN := an194) (g := 151) (fun _ h => absurd h List.not_mem_nil) (by decide +kernel)
set_option maxRecDepth 1000000 in
def an196 : List (Nat × List (Nat × An)) := [(189, [(54, ([((0, 6, 0, (0, [])), 0, 2147483647), ((0, 4, 0, (0, [])), (-2147483648), 2147483647), ((0, 5, 0, (0, [])), (-2147483648), 2147483647)], ([], [], []), [(9, 320, (0, []), (0, [])), (9, 352, (0, []), (0, []))], [], [], 0, true))])]
set_option maxRecDepth 1000000 in
theorem ok196 : SmOK rgT sm196 := vfy_sp (T := [sm194]) (AN := an196) (g := 516) (List.forall_mem_cons.mpr ⟨ok194, fun _ h => absurd h List.not_mem_nil⟩) (by decide +kernel)
set_option maxRecDepth 1000000 in
def an197 : List (Nat × List (Nat × An)) := []
set_option maxRecDepth 1000000 in
theorem ok197 : SmOK rgT sm197 := vfy_sp (T := [sm2]) (AN := an197) (g := 72) (List.forall_mem_cons.mpr ⟨ok2, fun _ h => absurd h List.not_mem_nil⟩) (by decide +kernel)
set_option maxRecDepth 1000000 in
def an198 : List (Nat × List (Nat × An)) := []
set_option maxRecDepth 1000000 in
theorem ok198 : SmOK rgT sm198 := vfy_sp (T := [sm197]) (AN := an198) (g := 126) (List.forall_mem_cons.mpr ⟨ok197, fun _ h => absurd h List.not_mem_nil⟩) (by decide +kernel)
set_option maxRecDepth 1000000 in
def an200 : List (Nat × List (Nat × An)) := [(194, [(8, ([((0, 2, 0, (0, [])), 0, 2147483647), ((0, 1, 0, (0, [])), (-2147483648), 2147483647)], ([], [], []), [(9, 320, (0, []), (0, [])), (9, 352, (0, []), (0, []))], [], [], 0, true))])]
set_option maxRecDepth 1000000 in
theorem ok200 : SmOK rgT sm200 := vfy_sp (T := [sm197, sm194]) (AN := an200) (g := 201) (List.forall_mem_cons.mpr ⟨ok197, List.forall_mem_cons.mpr ⟨ok194, fun _ h => absurd h List.not_mem_nil⟩⟩) (by decide +kernel)
set_option maxRecDepth 1000000 in
def an201 : List (Nat × List (Nat × An)) := [(195, [(4, ([((0, 1, 0, (0, [])), (-2147483648), 2147483647), ((0, 2, 0, (0, [])), 0, 2147483647)], ([], [], []), [], [], [], 1, true))])]
set_option maxRecDepth 1000000 in
theorem ok201 : SmOK rgT sm201 := vfy_sp (T := []) (AN := an201) (g := 163) (fun _ h => absurd h List.not_mem_nil) (by decide +kernel)
set_option maxRecDepth 1000000 in
def an202 : List (Nat × List (Nat × An)) := []
set_option maxRecDepth 1000000 in
theorem ok202 : SmOK rgT sm202 := vfy_sp (T := []) (AN := an202) (g := 175) (fun _ h => absurd h List.not_mem_nil) (by decide +kernel)
set_option maxRecDepth 1000000 in
def an204 : List (Nat × List (Nat × An)) := [(200, [(183, ([((0, 7, 0, (0, [])), 0, 2147483647), ((0, 6, 0, (0, [])), (-2147483648), 2147483647)], ([], [], []), [(9, 320, (0, []), (0, [])), (9, 352, (0, []), (0, []))], [], [], 0, true))])]
set_option maxRecDepth 1000000 in
theorem ok204 : SmOK rgT sm204 := vfy_sp (T := []) (AN := an204) (g := 566) (fun _ h => absurd h List.not_mem_nil) (by decide +kernel)
set_option maxRecDepth 1000000 in
def an206 : List (Nat × List (Nat × An)) := []
set_option maxRecDepth 1000000 in
theorem ok206 : SmOK rgT sm206 := vfy_sp (T := []) (AN := an206) (g := 214) (fun _ h => absurd h List.not_mem_nil) (by decide +kernel)
set_option maxRecDepth 1000000 in
def an208 : List (Nat × List (Nat × An)) := [(202, [(38, ([((0, 5, 0, (0, [])), 0, 2147483647), ((0, 3, 0, (0, [])), (-2147483648), 2147483647), ((0, 4, 0, (0, [])), (-2147483648), 2147483647)], ([], [], []), [(9, 320, (0, []), (0, [])), (9, 352, (0, []), (0, []))], [], [], 0, true))])]
set_option maxRecDepth 1000000 in
theorem ok208 : SmOK rgT sm208 := vfy_sp (T := [sm186]) (AN := an208) (g := 611) (List.forall_mem_cons.mpr ⟨ok186, fun _ h => absurd h List.not_mem_nil⟩) (by decide +kernel)
set_option maxRecDepth 1000000 in
def an209 : List (Nat × List (Nat × An)) := [(203, [(15, ([((0, 2, 0, (0, [])), (-2147483648), 2147483647), ((0, 3, 0, (0, [])), 0, 2147483647)], ([], [], []), [], [], [], 1, true))])]
set_option maxRecDepth 1000000 in
theorem ok209 : SmOK rgT sm209 := vfy_sp (T := []) (AN := an209) (g := 165) (fun _ h => absurd h List.not_mem_nil) (by decide +kernel)
set_option maxRecDepth 1000000 in
def an210 : List (Nat × List (Nat × An)) := []
set_option maxRecDepth 1000000 in
theorem ok210 : SmOK rgT sm210 := vfy_sp (T := []) (AN := an210) (g := 152) (fun _ h => absurd h List.not_mem_nil) (by decide +kernel)
set_option maxRecDepth 1000000 in
def an211 : List (Nat × List (Nat × An)) := [(205, [(4, ([((0, 2, 0, (0, [])), (-1), 29), ((0, 3, 0, (0, [])), 0, 2147483647)], ([], [], []), [(8, 66, (0, [(0, 1)]), (0, []))], [], [], 1, true))])]
set_option maxRecDepth 1000000 in
theorem ok211 : SmOK rgT sm211 := vfy_sp (T := []) (AN := an211) (g := 199) (fun _ h => absurd h List.not_mem_nil) (by decide +kernel)
set_option maxRecDepth 1000000 in
def an212 : List (Nat × List (Nat × An)) := [(206, [(13, ([((0, 2, 0, (0, [])), 0, 2147483647)], ([], [], []), [], [], [], 0, true)), (34, ([((0, 2, 0, (0, [])), 0, 2147483647)], ([], [], []), [], [], [], 0, true)), (107, ([((0, 2, 0, (0, [])), (-2147483648), 2147483647), ((0, 3, 0, (0, [])), (-2147483648), 2147483647), ((0, 4, 0, (0, [])), 0, 2147483647)], ([], [], []), [], [], [], 2, true)), (124, ([((0, 5, 0, (0, [])), 0, 2147483647), ((0, 2, 0, (0, [])), (-2147483648), 2147483647)], ([], [], []), [], [], [], 0, true)), (268, ([((0, 5, 0, (0, [])), (-1), 29), ((0, 2, 0, (0, [])), (-2147483648), 2147483647), ((1, 7, 66, (0, [])), 0, 30)], ([], [], []), [(8, 66, (0, [(0, 1)]), (0, []))], [], [(0, 75, 0, 29)], 2, false)), (353, ([((0, 4, 0, (0, [])), 0, 2147483647)], ([], [], []), [], [], [], 0, true))])]
set_option maxRecDepth 1000000 in
theorem ok212 : SmOK rgT sm212 := vfy_sp (T := [sm211]) (AN := an212) (g := 428) (List.forall_mem_cons.mpr ⟨ok211, fun _ h => absurd h List.not_mem_nil⟩) (by decide +kernel)
set_option maxRecDepth 1000000 in
def an213 : List (Nat × List (Nat × An)) := []
set_option maxRecDepth 1000000 in
theorem ok213 : SmOK rgT sm213 := vfy_sp (T := []) (AN := an213) (g := 492) (fun _ h => absurd h List.not_mem_nil) (by decide +kernel)
set_option maxRecDepth 1000000 in
def an214 : List (Nat × List (Nat × An)) := []
set_option maxRecDepth 1000000 in
theorem ok214 : SmOK rgT sm214 := vfy_sp (T := []) (AN := an214) (g := 94) (fun _ h => absurd h List.not_mem_nil) (by decide +kernel)
set_option maxRecDepth 1000000 in
def an215 : List (Nat × List (Nat × An)) := []
set_option maxRecDepth 1000000 in
theorem ok215 : SmOK rgT sm215 := vfy_sp (T := []) (AN := an215) (g := 244) (fun _ h => absurd h List.not_mem_nil) (by decide +kernel)
