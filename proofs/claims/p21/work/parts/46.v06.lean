/-! Printed by wip/ai/tab.py. -/
set_option maxRecDepth 1000000 in
noncomputable def an169 : List (Nat × List (Nat × An)) := []
set_option maxRecDepth 1000000 in
theorem ok169 : SmOK rgT sm169 := vfy_sp (T := []) (AN := an169) (g := 193) (fun _ h => absurd h List.not_mem_nil) (by decide +kernel)
set_option maxRecDepth 1000000 in
noncomputable def an170 : List (Nat × List (Nat × An)) := [(86, [(13, ([((0, 4, 0, (0, [])), 0, 2147483647), ((0, 3, 0, (0, [])), (-2147483648), 2147483647)], ([], [], []), [], [], [], 0, true))])]
set_option maxRecDepth 1000000 in
theorem ok170 : SmOK rgT sm170 := vfy_sp (T := [sm169]) (AN := an170) (g := 361) (List.forall_mem_cons.mpr ⟨ok169, fun _ h => absurd h List.not_mem_nil⟩) (by decide +kernel)
set_option maxRecDepth 1000000 in
noncomputable def an171 : List (Nat × List (Nat × An)) := []
set_option maxRecDepth 1000000 in
theorem ok171 : SmOK rgT sm171 := vfy_sp (T := []) (AN := an171) (g := 141) (fun _ h => absurd h List.not_mem_nil) (by decide +kernel)
set_option maxRecDepth 1000000 in
noncomputable def an172 : List (Nat × List (Nat × An)) := [(70, [(2, ([((0, 3, 0, (0, [])), 0, 2147483647)], ([], [], []), [], [], [], 0, true))])]
set_option maxRecDepth 1000000 in
theorem ok172 : SmOK rgT sm172 := vfy_sp (T := [sm171]) (AN := an172) (g := 141) (List.forall_mem_cons.mpr ⟨ok171, fun _ h => absurd h List.not_mem_nil⟩) (by decide +kernel)
set_option maxRecDepth 1000000 in
noncomputable def an173 : List (Nat × List (Nat × An)) := []
set_option maxRecDepth 1000000 in
theorem ok173 : SmOK rgT sm173 := vfy_sp (T := [sm172]) (AN := an173) (g := 1024) (List.forall_mem_cons.mpr ⟨ok172, fun _ h => absurd h List.not_mem_nil⟩) (by decide +kernel)
set_option maxRecDepth 1000000 in
noncomputable def an174 : List (Nat × List (Nat × An)) := [(0, [(2, ([((0, 2, 0, (0, [])), 0, 2147483647)], ([], [], []), [], [], [], 0, true)), (27, ([((0, 2, 0, (0, [])), 0, 2147483647)], ([], [], []), [], [], [], 0, true)), (76, ([((0, 2, 0, (0, [])), 0, 2147483647)], ([], [], []), [], [], [], 0, true))])]
set_option maxRecDepth 1000000 in
theorem ok174 : SmOK rgT sm174 := vfy_sp (T := [sm173, sm170, sm168, sm163, sm162]) (AN := an174) (g := 225) (List.forall_mem_cons.mpr ⟨ok173, List.forall_mem_cons.mpr ⟨ok170, List.forall_mem_cons.mpr ⟨ok168, List.forall_mem_cons.mpr ⟨ok163, List.forall_mem_cons.mpr ⟨ok162, fun _ h => absurd h List.not_mem_nil⟩⟩⟩⟩⟩) (by decide +kernel)
set_option maxRecDepth 1000000 in
noncomputable def an175 : List (Nat × List (Nat × An)) := [(89, [(4, ([((0, 1, 0, (0, [])), (-2147483648), 2147483647), ((0, 2, 0, (0, [])), 0, 2147483647)], ([], [], []), [], [], [], 1, true))])]
set_option maxRecDepth 1000000 in
theorem ok175 : SmOK rgT sm175 := vfy_sp (T := []) (AN := an175) (g := 108) (fun _ h => absurd h List.not_mem_nil) (by decide +kernel)
set_option maxRecDepth 1000000 in
noncomputable def an176 : List (Nat × List (Nat × An)) := []
set_option maxRecDepth 1000000 in
theorem ok176 : SmOK rgT sm176 := vfy_sp (T := []) (AN := an176) (g := 89) (fun _ h => absurd h List.not_mem_nil) (by decide +kernel)
set_option maxRecDepth 1000000 in
noncomputable def an177 : List (Nat × List (Nat × An)) := [(90, [(4, ([((0, 1, 0, (0, [])), (-2147483648), 2147483647), ((0, 2, 0, (0, [])), 0, 2147483647)], ([], [], []), [], [], [], 1, true))])]
set_option maxRecDepth 1000000 in
theorem ok177 : SmOK rgT sm177 := vfy_sp (T := []) (AN := an177) (g := 108) (fun _ h => absurd h List.not_mem_nil) (by decide +kernel)
set_option maxRecDepth 1000000 in
noncomputable def an178 : List (Nat × List (Nat × An)) := [(151, [(46, ([((0, 3, 0, (0, [])), 0, 2147483647)], ([], [], []), [], [], [(0, 23, 5, 5)], 0, true))])]
set_option maxRecDepth 1000000 in
theorem ok178 : SmOK rgT sm178 := vfy_sp (T := [sm177, sm176, sm175, sm174]) (AN := an178) (g := 541) (List.forall_mem_cons.mpr ⟨ok177, List.forall_mem_cons.mpr ⟨ok176, List.forall_mem_cons.mpr ⟨ok175, List.forall_mem_cons.mpr ⟨ok174, fun _ h => absurd h List.not_mem_nil⟩⟩⟩⟩) (by decide +kernel)
set_option maxRecDepth 1000000 in
noncomputable def an179 : List (Nat × List (Nat × An)) := [(73, [(4, ([((0, 1, 0, (0, [])), (-2147483648), 2147483647), ((0, 2, 0, (0, [])), 0, 2147483647)], ([], [], []), [], [], [], 1, true))])]
set_option maxRecDepth 1000000 in
theorem ok179 : SmOK rgT sm179 := vfy_sp (T := []) (AN := an179) (g := 124) (fun _ h => absurd h List.not_mem_nil) (by decide +kernel)
set_option maxRecDepth 1000000 in
noncomputable def an180 : List (Nat × List (Nat × An)) := [(80, [(4, ([((0, 2, 0, (0, [])), 0, 2147483647), ((0, 1, 0, (0, [])), (-2147483648), 2147483647)], ([], [], []), [], [], [], 0, true))])]
set_option maxRecDepth 1000000 in
theorem ok180 : SmOK rgT sm180 := vfy_sp (T := [sm116]) (AN := an180) (g := 93) (List.forall_mem_cons.mpr ⟨ok116, fun _ h => absurd h List.not_mem_nil⟩) (by decide +kernel)
set_option maxRecDepth 1000000 in
noncomputable def an181 : List (Nat × List (Nat × An)) := []
set_option maxRecDepth 1000000 in
theorem ok181 : SmOK rgT sm181 := vfy_sp (T := [sm180, sm179, sm146, sm90, sm56]) (AN := an181) (g := 157) (List.forall_mem_cons.mpr ⟨ok180, List.forall_mem_cons.mpr ⟨ok179, List.forall_mem_cons.mpr ⟨ok146, List.forall_mem_cons.mpr ⟨ok90, List.forall_mem_cons.mpr ⟨ok56, fun _ h => absurd h List.not_mem_nil⟩⟩⟩⟩⟩) (by decide +kernel)
set_option maxRecDepth 1000000 in
noncomputable def an185 : List (Nat × List (Nat × An)) := [(178, [(4, ([((0, 3, 0, (0, [])), 0, 2147483647), ((0, 2, 0, (0, [])), (-2147483648), 2147483647)], ([], [], []), [], [], [], 0, true))])]
set_option maxRecDepth 1000000 in
theorem ok185 : SmOK rgT sm185 := vfy_sp (T := []) (AN := an185) (g := 109) (fun _ h => absurd h List.not_mem_nil) (by decide +kernel)
set_option maxRecDepth 1000000 in
noncomputable def an186 : List (Nat × List (Nat × An)) := [(179, [(5, ([((0, 4, 0, (0, [])), 0, 2147483647), ((0, 3, 0, (0, [])), (-2147483648), 2147483647)], ([], [], []), [], [], [], 0, true))])]
set_option maxRecDepth 1000000 in
theorem ok186 : SmOK rgT sm186 := vfy_sp (T := []) (AN := an186) (g := 198) (fun _ h => absurd h List.not_mem_nil) (by decide +kernel)
set_option maxRecDepth 1000000 in
noncomputable def an187 : List (Nat × List (Nat × An)) := []
set_option maxRecDepth 1000000 in
theorem ok187 : SmOK rgT sm187 := vfy_sp (T := [sm186, sm185]) (AN := an187) (g := 181) (List.forall_mem_cons.mpr ⟨ok186, List.forall_mem_cons.mpr ⟨ok185, fun _ h => absurd h List.not_mem_nil⟩⟩) (by decide +kernel)
set_option maxRecDepth 1000000 in
noncomputable def an188 : List (Nat × List (Nat × An)) := []
set_option maxRecDepth 1000000 in
theorem ok188 : SmOK rgT sm188 := vfy_sp (T := []) (AN := an188) (g := 180) (fun _ h => absurd h List.not_mem_nil) (by decide +kernel)
set_option maxRecDepth 1000000 in
noncomputable def an197 : List (Nat × List (Nat × An)) := []
set_option maxRecDepth 1000000 in
theorem ok197 : SmOK rgT sm197 := vfy_sp (T := []) (AN := an197) (g := 300) (fun _ h => absurd h List.not_mem_nil) (by decide +kernel)
set_option maxRecDepth 1000000 in
noncomputable def an204 : List (Nat × List (Nat × An)) := [(206, [(34, ([((0, 2, 0, (0, [])), 0, 10)], ([], [], []), [], [], [(0, 75, 0, 0)], 0, true)), (107, ([((0, 4, 0, (0, [])), 0, 1000), ((0, 2, 0, (0, [])), (-2147483648), 2147483647), ((0, 3, 0, (0, [])), (-2147483648), 2147483647), ((1, 9, 2005, (0, [])), 30, 30), ((1, 9, 2007, (0, [])), 30, 30)], ([], [], []), [], [], [(0, 75, 29, 29), (0, 75, 28, 28), (0, 75, 27, 27), (0, 75, 26, 26), (0, 75, 25, 25), (0, 75, 24, 24), (0, 75, 23, 23), (0, 75, 22, 22), (0, 75, 21, 21), (0, 75, 20, 20), (0, 75, 19, 19), (0, 75, 18, 18), (0, 75, 17, 17), (0, 75, 16, 16), (0, 75, 15, 15), (0, 75, 14, 14), (0, 75, 13, 13), (0, 75, 12, 12), (0, 75, 11, 11), (0, 75, 10, 10), (0, 75, 9, 9), (0, 75, 8, 8), (0, 75, 7, 7), (0, 75, 6, 6), (0, 75, 5, 5), (0, 75, 4, 4), (0, 75, 3, 3), (0, 75, 2, 2), (0, 75, 1, 1)], 0, true)), (124, ([((0, 5, 0, (0, [])), 0, 2147483647), ((0, 2, 0, (0, [])), (-2147483648), 2147483647)], ([], [], []), [], [], [], 0, true)), (268, ([((0, 5, 0, (0, [])), (-1), 29), ((0, 2, 0, (0, [])), (-2147483648), 2147483647), ((1, 7, 66, (0, [])), 0, 30)], ([], [], []), [(8, 66, (0, [(0, 1)]), (0, []))], [], [(0, 66, 567, 567), (0, 75, 29, 29), (0, 75, 28, 28), (0, 75, 27, 27), (0, 75, 26, 26), (0, 75, 25, 25), (0, 75, 24, 24), (0, 75, 23, 23), (0, 75, 22, 22), (0, 75, 21, 21), (0, 75, 20, 20), (0, 75, 19, 19), (0, 75, 18, 18), (0, 75, 17, 17), (0, 75, 16, 16), (0, 75, 15, 15), (0, 75, 14, 14), (0, 75, 13, 13), (0, 75, 12, 12), (0, 75, 11, 11), (0, 75, 10, 10), (0, 75, 9, 9), (0, 75, 8, 8), (0, 75, 7, 7), (0, 75, 6, 6), (0, 75, 5, 5), (0, 75, 4, 4), (0, 75, 3, 3), (0, 75, 2, 2), (0, 75, 1, 1)], 2, false))])]
set_option maxRecDepth 1000000 in
theorem ok204 : SmOK rgT sm204 := vfy_sp (T := [sm33]) (AN := an204) (g := 1625) (List.forall_mem_cons.mpr ⟨ok33, fun _ h => absurd h List.not_mem_nil⟩) (by decide +kernel)
set_option maxRecDepth 1000000 in
noncomputable def an206 : List (Nat × List (Nat × An)) := []
set_option maxRecDepth 1000000 in
theorem ok206 : SmOK rgT sm206 := vfy_sp (T := []) (AN := an206) (g := 142) (fun _ h => absurd h List.not_mem_nil) (by decide +kernel)
set_option maxRecDepth 1000000 in
noncomputable def an209 : List (Nat × List (Nat × An)) := []
set_option maxRecDepth 1000000 in
theorem ok209 : SmOK rgT sm209 := vfy_sp (T := [sm47]) (AN := an209) (g := 95) (List.forall_mem_cons.mpr ⟨ok47, fun _ h => absurd h List.not_mem_nil⟩) (by decide +kernel)
set_option maxRecDepth 1000000 in
noncomputable def an217 : List (Nat × List (Nat × An)) := [(242, [(16, ([((0, 4, 0, (0, [])), 0, 2147483647), ((0, 3, 0, (0, [])), (-2147483648), 2147483647)], ([], [], []), [], [], [], 0, true))])]
set_option maxRecDepth 1000000 in
theorem ok217 : SmOK rgT sm217 := vfy_sp (T := []) (AN := an217) (g := 205) (fun _ h => absurd h List.not_mem_nil) (by decide +kernel)
set_option maxRecDepth 1000000 in
noncomputable def an219 : List (Nat × List (Nat × An)) := [(245, [(6, ([((0, 2, 0, (0, [])), (-1), 29), ((1, 7, 66, (0, [])), 0, 30)], ([], [], []), [(8, 66, (0, [(0, 1)]), (0, []))], [], [(0, 66, 16, 47), (0, 66, 306, 575)], 1, false))])]
set_option maxRecDepth 1000000 in
theorem ok219 : SmOK rgT sm219 := vfy_sp (T := [sm33]) (AN := an219) (g := 153) (List.forall_mem_cons.mpr ⟨ok33, fun _ h => absurd h List.not_mem_nil⟩) (by decide +kernel)
set_option maxRecDepth 1000000 in
noncomputable def an220 : List (Nat × List (Nat × An)) := [(246, [(71, ([((0, 3, 0, (0, [])), 0, 2147483647)], ([], [], []), [], [], [], 0, true))])]
set_option maxRecDepth 1000000 in
theorem ok220 : SmOK rgT sm220 := vfy_sp (T := [sm36]) (AN := an220) (g := 213) (List.forall_mem_cons.mpr ⟨ok36, fun _ h => absurd h List.not_mem_nil⟩) (by decide +kernel)
set_option maxRecDepth 1000000 in
noncomputable def an221 : List (Nat × List (Nat × An)) := [(247, [(2, ([((0, 1, 0, (0, [])), 0, 2147483647)], ([], [], []), [], [], [], 0, true)), (49, ([((0, 1, 0, (0, [])), 0, 2147483647)], ([], [], []), [], [], [], 0, true)), (72, ([((0, 1, 0, (0, [])), 0, 2147483647)], ([], [], []), [], [], [], 0, true)), (125, ([((0, 1, 0, (0, [])), 0, 2147483647)], ([], [], []), [], [], [], 0, true))])]
set_option maxRecDepth 1000000 in
theorem ok221 : SmOK rgT sm221 := vfy_sp (T := [sm220, sm219, sm217, sm47, sm36]) (AN := an221) (g := 792) (List.forall_mem_cons.mpr ⟨ok220, List.forall_mem_cons.mpr ⟨ok219, List.forall_mem_cons.mpr ⟨ok217, List.forall_mem_cons.mpr ⟨ok47, List.forall_mem_cons.mpr ⟨ok36, fun _ h => absurd h List.not_mem_nil⟩⟩⟩⟩⟩) (by decide +kernel)
set_option maxRecDepth 1000000 in
noncomputable def an223 : List (Nat × List (Nat × An)) := [(253, [(71, ([((0, 4, 0, (0, [])), 0, 2147483647)], ([], [], []), [], [], [], 0, true))])]
set_option maxRecDepth 1000000 in
theorem ok223 : SmOK rgT sm223 := vfy_sp (T := []) (AN := an223) (g := 205) (fun _ h => absurd h List.not_mem_nil) (by decide +kernel)
