/-! Printed by wip/ai/tab.py. -/
set_option maxRecDepth 1000000 in
def an272 : List (Nat × List (Nat × An)) := []
set_option maxRecDepth 1000000 in
theorem ok272 : SmOK rgT sm272 := vfy_sp (T := [sm271]) (AN := an272) (g := 65) (List.forall_mem_cons.mpr ⟨ok271, fun _ h => absurd h List.not_mem_nil⟩) (by decide +kernel)
set_option maxRecDepth 1000000 in
def an273 : List (Nat × List (Nat × An)) := []
set_option maxRecDepth 1000000 in
theorem ok273 : SmOK rgT sm273 := vfy_sp (T := []) (AN := an273) (g := 83) (fun _ h => absurd h List.not_mem_nil) (by decide +kernel)
set_option maxRecDepth 1000000 in
def an274 : List (Nat × List (Nat × An)) := []
set_option maxRecDepth 1000000 in
theorem ok274 : SmOK rgT sm274 := vfy_sp (T := []) (AN := an274) (g := 84) (fun _ h => absurd h List.not_mem_nil) (by decide +kernel)
set_option maxRecDepth 1000000 in
def an275 : List (Nat × List (Nat × An)) := []
set_option maxRecDepth 1000000 in
theorem ok275 : SmOK rgT sm275 := vfy_sp (T := []) (AN := an275) (g := 84) (fun _ h => absurd h List.not_mem_nil) (by decide +kernel)
set_option maxRecDepth 1000000 in
def an276 : List (Nat × List (Nat × An)) := []
set_option maxRecDepth 1000000 in
theorem ok276 : SmOK rgT sm276 := vfy_sp (T := []) (AN := an276) (g := 84) (fun _ h => absurd h List.not_mem_nil) (by decide +kernel)
set_option maxRecDepth 1000000 in
def an277 : List (Nat × List (Nat × An)) := []
set_option maxRecDepth 1000000 in
theorem ok277 : SmOK rgT sm277 := vfy_sp (T := []) (AN := an277) (g := 84) (fun _ h => absurd h List.not_mem_nil) (by decide +kernel)
set_option maxRecDepth 1000000 in
def an278 : List (Nat × List (Nat × An)) := []
set_option maxRecDepth 1000000 in
theorem ok278 : SmOK rgT sm278 := vfy_sp (T := []) (AN := an278) (g := 84) (fun _ h => absurd h List.not_mem_nil) (by decide +kernel)
set_option maxRecDepth 1000000 in
def an279 : List (Nat × List (Nat × An)) := []
set_option maxRecDepth 1000000 in
theorem ok279 : SmOK rgT sm279 := vfy_sp (T := [sm278, sm277, sm276, sm275, sm274]) (AN := an279) (g := 96) (List.forall_mem_cons.mpr ⟨ok278, List.forall_mem_cons.mpr ⟨ok277, List.forall_mem_cons.mpr ⟨ok276, List.forall_mem_cons.mpr ⟨ok275, List.forall_mem_cons.mpr ⟨ok274, fun _ h => absurd h List.not_mem_nil⟩⟩⟩⟩⟩) (by decide +kernel)
set_option maxRecDepth 1000000 in
def an280 : List (Nat × List (Nat × An)) := []
set_option maxRecDepth 1000000 in
theorem ok280 : SmOK rgT sm280 := vfy_sp (T := []) (AN := an280) (g := 90) (fun _ h => absurd h List.not_mem_nil) (by decide +kernel)
set_option maxRecDepth 1000000 in
def an281 : List (Nat × List (Nat × An)) := [(74, [(13, ([((0, 3, 0, (0, [])), (-2147483648), 2147483647), ((0, 4, 0, (0, [])), 0, 2147483647)], ([], [], []), [], [], [], 1, true))])]
set_option maxRecDepth 1000000 in
theorem ok281 : SmOK rgT sm281 := vfy_sp (T := [sm280]) (AN := an281) (g := 116) (List.forall_mem_cons.mpr ⟨ok280, fun _ h => absurd h List.not_mem_nil⟩) (by decide +kernel)
set_option maxRecDepth 1000000 in
def an282 : List (Nat × List (Nat × An)) := []
set_option maxRecDepth 1000000 in
theorem ok282 : SmOK rgT sm282 := vfy_sp (T := [sm281, sm280]) (AN := an282) (g := 79) (List.forall_mem_cons.mpr ⟨ok281, List.forall_mem_cons.mpr ⟨ok280, fun _ h => absurd h List.not_mem_nil⟩⟩) (by decide +kernel)
set_option maxRecDepth 1000000 in
def an283 : List (Nat × List (Nat × An)) := []
set_option maxRecDepth 1000000 in
theorem ok283 : SmOK rgT sm283 := vfy_sp (T := [sm280]) (AN := an283) (g := 91) (List.forall_mem_cons.mpr ⟨ok280, fun _ h => absurd h List.not_mem_nil⟩) (by decide +kernel)
set_option maxRecDepth 1000000 in
def an284 : List (Nat × List (Nat × An)) := [(81, [(6, ([((0, 4, 0, (0, [])), 0, 2147483647), ((0, 3, 0, (0, [])), (-2147483648), 2147483647)], ([], [], []), [], [], [], 0, true))])]
set_option maxRecDepth 1000000 in
theorem ok284 : SmOK rgT sm284 := vfy_sp (T := [sm283, sm282, sm280]) (AN := an284) (g := 145) (List.forall_mem_cons.mpr ⟨ok283, List.forall_mem_cons.mpr ⟨ok282, List.forall_mem_cons.mpr ⟨ok280, fun _ h => absurd h List.not_mem_nil⟩⟩⟩) (by decide +kernel)
set_option maxRecDepth 1000000 in
def an285 : List (Nat × List (Nat × An)) := []
set_option maxRecDepth 1000000 in
theorem ok285 : SmOK rgT sm285 := vfy_sp (T := []) (AN := an285) (g := 90) (fun _ h => absurd h List.not_mem_nil) (by decide +kernel)
set_option maxRecDepth 1000000 in
def an286 : List (Nat × List (Nat × An)) := []
set_option maxRecDepth 1000000 in
theorem ok286 : SmOK rgT sm286 := vfy_sp (T := []) (AN := an286) (g := 87) (fun _ h => absurd h List.not_mem_nil) (by decide +kernel)
set_option maxRecDepth 1000000 in
def an287 : List (Nat × List (Nat × An)) := []
set_option maxRecDepth 1000000 in
theorem ok287 : SmOK rgT sm287 := vfy_sp (T := []) (AN := an287) (g := 87) (fun _ h => absurd h List.not_mem_nil) (by decide +kernel)
set_option maxRecDepth 1000000 in
def an288 : List (Nat × List (Nat × An)) := []
set_option maxRecDepth 1000000 in
theorem ok288 : SmOK rgT sm288 := vfy_sp (T := [sm287, sm285]) (AN := an288) (g := 71) (List.forall_mem_cons.mpr ⟨ok287, List.forall_mem_cons.mpr ⟨ok285, fun _ h => absurd h List.not_mem_nil⟩⟩) (by decide +kernel)
set_option maxRecDepth 1000000 in
def an289 : List (Nat × List (Nat × An)) := [(3, [(2, ([((0, 3, 0, (0, [])), 0, 2147483647)], ([], [], []), [], [], [], 0, true))])]
set_option maxRecDepth 1000000 in
theorem ok289 : SmOK rgT sm289 := vfy_sp (T := [sm288, sm286, sm285, sm284, sm280]) (AN := an289) (g := 107) (List.forall_mem_cons.mpr ⟨ok288, List.forall_mem_cons.mpr ⟨ok286, List.forall_mem_cons.mpr ⟨ok285, List.forall_mem_cons.mpr ⟨ok284, List.forall_mem_cons.mpr ⟨ok280, fun _ h => absurd h List.not_mem_nil⟩⟩⟩⟩⟩) (by decide +kernel)
set_option maxRecDepth 1000000 in
def an290 : List (Nat × List (Nat × An)) := []
set_option maxRecDepth 1000000 in
theorem ok290 : SmOK rgT sm290 := vfy_sp (T := []) (AN := an290) (g := 90) (fun _ h => absurd h List.not_mem_nil) (by decide +kernel)
set_option maxRecDepth 1000000 in
def an291 : List (Nat × List (Nat × An)) := []
set_option maxRecDepth 1000000 in
theorem ok291 : SmOK rgT sm291 := vfy_sp (T := [sm290]) (AN := an291) (g := 72) (List.forall_mem_cons.mpr ⟨ok290, fun _ h => absurd h List.not_mem_nil⟩) (by decide +kernel)
set_option maxRecDepth 1000000 in
def an292 : List (Nat × List (Nat × An)) := []
set_option maxRecDepth 1000000 in
theorem ok292 : SmOK rgT sm292 := vfy_sp (T := []) (AN := an292) (g := 90) (fun _ h => absurd h List.not_mem_nil) (by decide +kernel)
set_option maxRecDepth 1000000 in
def an293 : List (Nat × List (Nat × An)) := [(83, [(5, ([((0, 3, 0, (0, [])), 0, 2147483647), ((0, 2, 0, (0, [])), (-2147483648), 2147483647)], ([], [], []), [], [], [], 0, true))])]
set_option maxRecDepth 1000000 in
theorem ok293 : SmOK rgT sm293 := vfy_sp (T := [sm292]) (AN := an293) (g := 121) (List.forall_mem_cons.mpr ⟨ok292, fun _ h => absurd h List.not_mem_nil⟩) (by decide +kernel)
set_option maxRecDepth 1000000 in
def an294 : List (Nat × List (Nat × An)) := [(49, [(20, ([((0, 7, 0, (0, [])), 0, 2147483647)], ([], [], []), [], [], [(0, 35, 1, 1)], 0, true))])]
set_option maxRecDepth 1000000 in
theorem ok294 : SmOK rgT sm294 := vfy_sp (T := [sm292, sm236, sm235, sm234]) (AN := an294) (g := 195) (List.forall_mem_cons.mpr ⟨ok292, List.forall_mem_cons.mpr ⟨ok236, List.forall_mem_cons.mpr ⟨ok235, List.forall_mem_cons.mpr ⟨ok234, fun _ h => absurd h List.not_mem_nil⟩⟩⟩⟩) (by decide +kernel)
set_option maxRecDepth 1000000 in
def an295 : List (Nat × List (Nat × An)) := []
set_option maxRecDepth 1000000 in
theorem ok295 : SmOK rgT sm295 := vfy_sp (T := [sm294, sm293]) (AN := an295) (g := 89) (List.forall_mem_cons.mpr ⟨ok294, List.forall_mem_cons.mpr ⟨ok293, fun _ h => absurd h List.not_mem_nil⟩⟩) (by decide +kernel)
set_option maxRecDepth 1000000 in
def an296 : List (Nat × List (Nat × An)) := []
set_option maxRecDepth 1000000 in
theorem ok296 : SmOK rgT sm296 := vfy_sp (T := []) (AN := an296) (g := 87) (fun _ h => absurd h List.not_mem_nil) (by decide +kernel)
set_option maxRecDepth 1000000 in
def an297 : List (Nat × List (Nat × An)) := []
set_option maxRecDepth 1000000 in
theorem ok297 : SmOK rgT sm297 := vfy_sp (T := [sm296, sm290]) (AN := an297) (g := 75) (List.forall_mem_cons.mpr ⟨ok296, List.forall_mem_cons.mpr ⟨ok290, fun _ h => absurd h List.not_mem_nil⟩⟩) (by decide +kernel)
set_option maxRecDepth 1000000 in
def an298 : List (Nat × List (Nat × An)) := []
set_option maxRecDepth 1000000 in
theorem ok298 : SmOK rgT sm298 := vfy_sp (T := [sm296, sm290]) (AN := an298) (g := 71) (List.forall_mem_cons.mpr ⟨ok296, List.forall_mem_cons.mpr ⟨ok290, fun _ h => absurd h List.not_mem_nil⟩⟩) (by decide +kernel)
set_option maxRecDepth 1000000 in
def an299 : List (Nat × List (Nat × An)) := []
set_option maxRecDepth 1000000 in
theorem ok299 : SmOK rgT sm299 := vfy_sp (T := [sm296, sm290]) (AN := an299) (g := 101) (List.forall_mem_cons.mpr ⟨ok296, List.forall_mem_cons.mpr ⟨ok290, fun _ h => absurd h List.not_mem_nil⟩⟩) (by decide +kernel)
set_option maxRecDepth 1000000 in
def an300 : List (Nat × List (Nat × An)) := []
set_option maxRecDepth 1000000 in
theorem ok300 : SmOK rgT sm300 := vfy_sp (T := [sm299, sm298, sm297, sm295, sm291, sm290, sm288, sm285]) (AN := an300) (g := 152) (List.forall_mem_cons.mpr ⟨ok299, List.forall_mem_cons.mpr ⟨ok298, List.forall_mem_cons.mpr ⟨ok297, List.forall_mem_cons.mpr ⟨ok295, List.forall_mem_cons.mpr ⟨ok291, List.forall_mem_cons.mpr ⟨ok290, List.forall_mem_cons.mpr ⟨ok288, List.forall_mem_cons.mpr ⟨ok285, fun _ h => absurd h List.not_mem_nil⟩⟩⟩⟩⟩⟩⟩⟩) (by decide +kernel)
set_option maxRecDepth 1000000 in
def an301 : List (Nat × List (Nat × An)) := []
set_option maxRecDepth 1000000 in
theorem ok301 : SmOK rgT sm301 := vfy_sp (T := []) (AN := an301) (g := 90) (fun _ h => absurd h List.not_mem_nil) (by decide +kernel)
set_option maxRecDepth 1000000 in
def an302 : List (Nat × List (Nat × An)) := []
set_option maxRecDepth 1000000 in
theorem ok302 : SmOK rgT sm302 := vfy_sp (T := [sm301]) (AN := an302) (g := 89) (List.forall_mem_cons.mpr ⟨ok301, fun _ h => absurd h List.not_mem_nil⟩) (by decide +kernel)
set_option maxRecDepth 1000000 in
def an303 : List (Nat × List (Nat × An)) := [(86, [(13, ([((0, 4, 0, (0, [])), 0, 2147483647), ((0, 3, 0, (0, [])), (-2147483648), 2147483647)], ([], [], []), [], [], [], 0, true))])]
set_option maxRecDepth 1000000 in
theorem ok303 : SmOK rgT sm303 := vfy_sp (T := [sm302, sm301, sm290]) (AN := an303) (g := 108) (List.forall_mem_cons.mpr ⟨ok302, List.forall_mem_cons.mpr ⟨ok301, List.forall_mem_cons.mpr ⟨ok290, fun _ h => absurd h List.not_mem_nil⟩⟩⟩) (by decide +kernel)
set_option maxRecDepth 1000000 in
def an304 : List (Nat × List (Nat × An)) := []
set_option maxRecDepth 1000000 in
theorem ok304 : SmOK rgT sm304 := vfy_sp (T := [sm296, sm290]) (AN := an304) (g := 72) (List.forall_mem_cons.mpr ⟨ok296, List.forall_mem_cons.mpr ⟨ok290, fun _ h => absurd h List.not_mem_nil⟩⟩) (by decide +kernel)
set_option maxRecDepth 1000000 in
def an305 : List (Nat × List (Nat × An)) := []
set_option maxRecDepth 1000000 in
theorem ok305 : SmOK rgT sm305 := vfy_sp (T := [sm280]) (AN := an305) (g := 81) (List.forall_mem_cons.mpr ⟨ok280, fun _ h => absurd h List.not_mem_nil⟩) (by decide +kernel)
set_option maxRecDepth 1000000 in
def an306 : List (Nat × List (Nat × An)) := [(70, [(2, ([((0, 3, 0, (0, [])), 0, 2147483647)], ([], [], []), [], [], [], 0, true))])]
set_option maxRecDepth 1000000 in
theorem ok306 : SmOK rgT sm306 := vfy_sp (T := [sm305, sm286]) (AN := an306) (g := 95) (List.forall_mem_cons.mpr ⟨ok305, List.forall_mem_cons.mpr ⟨ok286, fun _ h => absurd h List.not_mem_nil⟩⟩) (by decide +kernel)
set_option maxRecDepth 1000000 in
def an307 : List (Nat × List (Nat × An)) := []
set_option maxRecDepth 1000000 in
theorem ok307 : SmOK rgT sm307 := vfy_sp (T := [sm306, sm304, sm297, sm296]) (AN := an307) (g := 97) (List.forall_mem_cons.mpr ⟨ok306, List.forall_mem_cons.mpr ⟨ok304, List.forall_mem_cons.mpr ⟨ok297, List.forall_mem_cons.mpr ⟨ok296, fun _ h => absurd h List.not_mem_nil⟩⟩⟩⟩) (by decide +kernel)
set_option maxRecDepth 1000000 in
def an308 : List (Nat × List (Nat × An)) := [(0, [(2, ([((0, 2, 0, (0, [])), 0, 2147483647)], ([], [], []), [], [], [], 0, true)), (27, ([((0, 2, 0, (0, [])), 0, 2147483647)], ([], [], []), [], [], [], 0, true)), (76, ([((0, 2, 0, (0, [])), 0, 2147483647)], ([], [], []), [], [], [], 0, true))])]
set_option maxRecDepth 1000000 in
theorem ok308 : SmOK rgT sm308 := vfy_sp (T := [sm307, sm303, sm300, sm291, sm289, sm287, sm285]) (AN := an308) (g := 153) (List.forall_mem_cons.mpr ⟨ok307, List.forall_mem_cons.mpr ⟨ok303, List.forall_mem_cons.mpr ⟨ok300, List.forall_mem_cons.mpr ⟨ok291, List.forall_mem_cons.mpr ⟨ok289, List.forall_mem_cons.mpr ⟨ok287, List.forall_mem_cons.mpr ⟨ok285, fun _ h => absurd h List.not_mem_nil⟩⟩⟩⟩⟩⟩⟩) (by decide +kernel)
set_option maxRecDepth 1000000 in
def an309 : List (Nat × List (Nat × An)) := [(89, [(4, ([((0, 1, 0, (0, [])), (-2147483648), 2147483647), ((0, 2, 0, (0, [])), 0, 2147483647)], ([], [], []), [], [], [], 1, true))])]
set_option maxRecDepth 1000000 in
theorem ok309 : SmOK rgT sm309 := vfy_sp (T := [sm290]) (AN := an309) (g := 86) (List.forall_mem_cons.mpr ⟨ok290, fun _ h => absurd h List.not_mem_nil⟩) (by decide +kernel)
set_option maxRecDepth 1000000 in
def an310 : List (Nat × List (Nat × An)) := []
set_option maxRecDepth 1000000 in
theorem ok310 : SmOK rgT sm310 := vfy_sp (T := []) (AN := an310) (g := 87) (fun _ h => absurd h List.not_mem_nil) (by decide +kernel)
set_option maxRecDepth 1000000 in
def an311 : List (Nat × List (Nat × An)) := [(90, [(4, ([((0, 1, 0, (0, [])), (-2147483648), 2147483647), ((0, 2, 0, (0, [])), 0, 2147483647)], ([], [], []), [], [], [], 1, true))])]
set_option maxRecDepth 1000000 in
theorem ok311 : SmOK rgT sm311 := vfy_sp (T := [sm285]) (AN := an311) (g := 86) (List.forall_mem_cons.mpr ⟨ok285, fun _ h => absurd h List.not_mem_nil⟩) (by decide +kernel)
set_option maxRecDepth 1000000 in
def an312 : List (Nat × List (Nat × An)) := [(151, [(46, ([((0, 3, 0, (0, [])), 0, 2147483647)], ([], [], []), [], [], [], 0, true))])]
set_option maxRecDepth 1000000 in
theorem ok312 : SmOK rgT sm312 := vfy_sp (T := [sm311, sm310, sm309, sm308, sm279]) (AN := an312) (g := 229) (List.forall_mem_cons.mpr ⟨ok311, List.forall_mem_cons.mpr ⟨ok310, List.forall_mem_cons.mpr ⟨ok309, List.forall_mem_cons.mpr ⟨ok308, List.forall_mem_cons.mpr ⟨ok279, fun _ h => absurd h List.not_mem_nil⟩⟩⟩⟩⟩) (by decide +kernel)
set_option maxRecDepth 1000000 in
def an313 : List (Nat × List (Nat × An)) := []
set_option maxRecDepth 1000000 in
theorem ok313 : SmOK rgT sm313 := vfy_sp (T := []) (AN := an313) (g := 84) (fun _ h => absurd h List.not_mem_nil) (by decide +kernel)
set_option maxRecDepth 1000000 in
def an314 : List (Nat × List (Nat × An)) := []
set_option maxRecDepth 1000000 in
theorem ok314 : SmOK rgT sm314 := vfy_sp (T := []) (AN := an314) (g := 84) (fun _ h => absurd h List.not_mem_nil) (by decide +kernel)
set_option maxRecDepth 1000000 in
def an315 : List (Nat × List (Nat × An)) := []
set_option maxRecDepth 1000000 in
theorem ok315 : SmOK rgT sm315 := vfy_sp (T := []) (AN := an315) (g := 84) (fun _ h => absurd h List.not_mem_nil) (by decide +kernel)
set_option maxRecDepth 1000000 in
def an316 : List (Nat × List (Nat × An)) := []
set_option maxRecDepth 1000000 in
theorem ok316 : SmOK rgT sm316 := vfy_sp (T := []) (AN := an316) (g := 84) (fun _ h => absurd h List.not_mem_nil) (by decide +kernel)
set_option maxRecDepth 1000000 in
def an317 : List (Nat × List (Nat × An)) := []
set_option maxRecDepth 1000000 in
theorem ok317 : SmOK rgT sm317 := vfy_sp (T := []) (AN := an317) (g := 84) (fun _ h => absurd h List.not_mem_nil) (by decide +kernel)
set_option maxRecDepth 1000000 in
def an318 : List (Nat × List (Nat × An)) := []
set_option maxRecDepth 1000000 in
theorem ok318 : SmOK rgT sm318 := vfy_sp (T := [sm317, sm316, sm315, sm314, sm313]) (AN := an318) (g := 96) (List.forall_mem_cons.mpr ⟨ok317, List.forall_mem_cons.mpr ⟨ok316, List.forall_mem_cons.mpr ⟨ok315, List.forall_mem_cons.mpr ⟨ok314, List.forall_mem_cons.mpr ⟨ok313, fun _ h => absurd h List.not_mem_nil⟩⟩⟩⟩⟩) (by decide +kernel)
set_option maxRecDepth 1000000 in
def an319 : List (Nat × List (Nat × An)) := []
set_option maxRecDepth 1000000 in
theorem ok319 : SmOK rgT sm319 := vfy_sp (T := [sm318]) (AN := an319) (g := 72) (List.forall_mem_cons.mpr ⟨ok318, fun _ h => absurd h List.not_mem_nil⟩) (by decide +kernel)
set_option maxRecDepth 1000000 in
def an320 : List (Nat × List (Nat × An)) := []
set_option maxRecDepth 1000000 in
theorem ok320 : SmOK rgT sm320 := vfy_sp (T := []) (AN := an320) (g := 84) (fun _ h => absurd h List.not_mem_nil) (by decide +kernel)
set_option maxRecDepth 1000000 in
def an321 : List (Nat × List (Nat × An)) := []
set_option maxRecDepth 1000000 in
theorem ok321 : SmOK rgT sm321 := vfy_sp (T := []) (AN := an321) (g := 84) (fun _ h => absurd h List.not_mem_nil) (by decide +kernel)
set_option maxRecDepth 1000000 in
def an322 : List (Nat × List (Nat × An)) := []
set_option maxRecDepth 1000000 in
theorem ok322 : SmOK rgT sm322 := vfy_sp (T := []) (AN := an322) (g := 84) (fun _ h => absurd h List.not_mem_nil) (by decide +kernel)
set_option maxRecDepth 1000000 in
def an323 : List (Nat × List (Nat × An)) := []
set_option maxRecDepth 1000000 in
theorem ok323 : SmOK rgT sm323 := vfy_sp (T := []) (AN := an323) (g := 84) (fun _ h => absurd h List.not_mem_nil) (by decide +kernel)
set_option maxRecDepth 1000000 in
def an324 : List (Nat × List (Nat × An)) := []
set_option maxRecDepth 1000000 in
theorem ok324 : SmOK rgT sm324 := vfy_sp (T := []) (AN := an324) (g := 84) (fun _ h => absurd h List.not_mem_nil) (by decide +kernel)
set_option maxRecDepth 1000000 in
def an325 : List (Nat × List (Nat × An)) := []
set_option maxRecDepth 1000000 in
theorem ok325 : SmOK rgT sm325 := vfy_sp (T := [sm324, sm323, sm322, sm321, sm320]) (AN := an325) (g := 96) (List.forall_mem_cons.mpr ⟨ok324, List.forall_mem_cons.mpr ⟨ok323, List.forall_mem_cons.mpr ⟨ok322, List.forall_mem_cons.mpr ⟨ok321, List.forall_mem_cons.mpr ⟨ok320, fun _ h => absurd h List.not_mem_nil⟩⟩⟩⟩⟩) (by decide +kernel)
set_option maxRecDepth 1000000 in
def an326 : List (Nat × List (Nat × An)) := []
set_option maxRecDepth 1000000 in
theorem ok326 : SmOK rgT sm326 := vfy_sp (T := [sm325]) (AN := an326) (g := 83) (List.forall_mem_cons.mpr ⟨ok325, fun _ h => absurd h List.not_mem_nil⟩) (by decide +kernel)
set_option maxRecDepth 1000000 in
def an327 : List (Nat × List (Nat × An)) := [(73, [(4, ([((0, 1, 0, (0, [])), (-2147483648), 2147483647), ((0, 2, 0, (0, [])), 0, 2147483647)], ([], [], []), [], [], [], 1, true))])]
set_option maxRecDepth 1000000 in
theorem ok327 : SmOK rgT sm327 := vfy_sp (T := [sm148]) (AN := an327) (g := 96) (List.forall_mem_cons.mpr ⟨ok148, fun _ h => absurd h List.not_mem_nil⟩) (by decide +kernel)
set_option maxRecDepth 1000000 in
def an328 : List (Nat × List (Nat × An)) := [(80, [(4, ([((0, 2, 0, (0, [])), 0, 2147483647), ((0, 1, 0, (0, [])), (-2147483648), 2147483647)], ([], [], []), [], [], [], 0, true))])]
set_option maxRecDepth 1000000 in
theorem ok328 : SmOK rgT sm328 := vfy_sp (T := [sm195]) (AN := an328) (g := 93) (List.forall_mem_cons.mpr ⟨ok195, fun _ h => absurd h List.not_mem_nil⟩) (by decide +kernel)
set_option maxRecDepth 1000000 in
def an329 : List (Nat × List (Nat × An)) := []
set_option maxRecDepth 1000000 in
theorem ok329 : SmOK rgT sm329 := vfy_sp (T := [sm328, sm327, sm263, sm153, sm150]) (AN := an329) (g := 155) (List.forall_mem_cons.mpr ⟨ok328, List.forall_mem_cons.mpr ⟨ok327, List.forall_mem_cons.mpr ⟨ok263, List.forall_mem_cons.mpr ⟨ok153, List.forall_mem_cons.mpr ⟨ok150, fun _ h => absurd h List.not_mem_nil⟩⟩⟩⟩⟩) (by decide +kernel)
set_option maxRecDepth 1000000 in
def an330 : List (Nat × List (Nat × An)) := [(175, [(67, ([((0, 5, 0, (0, [])), 0, 2147483647)], ([], [], []), [], [], [], 0, true))])]
set_option maxRecDepth 1000000 in
theorem ok330 : SmOK rgT sm330 := vfy_sp (T := []) (AN := an330) (g := 221) (fun _ h => absurd h List.not_mem_nil) (by decide +kernel)
set_option maxRecDepth 1000000 in
def an331 : List (Nat × List (Nat × An)) := []
set_option maxRecDepth 1000000 in
theorem ok331 : SmOK rgT sm331 := vfy_sp (T := []) (AN := an331) (g := 154) (fun _ h => absurd h List.not_mem_nil) (by decide +kernel)
set_option maxRecDepth 1000000 in
def an332 : List (Nat × List (Nat × An)) := []
set_option maxRecDepth 1000000 in
theorem ok332 : SmOK rgT sm332 := vfy_sp (T := []) (AN := an332) (g := 154) (fun _ h => absurd h List.not_mem_nil) (by decide +kernel)
set_option maxRecDepth 1000000 in
def an333 : List (Nat × List (Nat × An)) := [(178, [(4, ([((0, 3, 0, (0, [])), 0, 2147483647), ((0, 2, 0, (0, [])), (-2147483648), 2147483647)], ([], [], []), [], [], [], 0, true))])]
set_option maxRecDepth 1000000 in
theorem ok333 : SmOK rgT sm333 := vfy_sp (T := []) (AN := an333) (g := 103) (fun _ h => absurd h List.not_mem_nil) (by decide +kernel)
set_option maxRecDepth 1000000 in
def an334 : List (Nat × List (Nat × An)) := [(179, [(5, ([((0, 4, 0, (0, [])), 0, 2147483647), ((0, 3, 0, (0, [])), (-2147483648), 2147483647)], ([], [], []), [], [], [], 0, true))])]
set_option maxRecDepth 1000000 in
theorem ok334 : SmOK rgT sm334 := vfy_sp (T := []) (AN := an334) (g := 186) (fun _ h => absurd h List.not_mem_nil) (by decide +kernel)
set_option maxRecDepth 1000000 in
def an335 : List (Nat × List (Nat × An)) := []
set_option maxRecDepth 1000000 in
theorem ok335 : SmOK rgT sm335 := vfy_sp (T := [sm334, sm333]) (AN := an335) (g := 166) (List.forall_mem_cons.mpr ⟨ok334, List.forall_mem_cons.mpr ⟨ok333, fun _ h => absurd h List.not_mem_nil⟩⟩) (by decide +kernel)
set_option maxRecDepth 1000000 in
def an336 : List (Nat × List (Nat × An)) := [(181, [(68, ([((0, 5, 0, (0, [])), 0, 2147483647)], ([], [], []), [], [], [], 0, true)), (147, ([((0, 5, 0, (0, [])), 0, 2147483647)], ([], [], []), [], [], [], 0, true))])]
set_option maxRecDepth 1000000 in
theorem ok336 : SmOK rgT sm336 := vfy_sp (T := []) (AN := an336) (g := 265) (fun _ h => absurd h List.not_mem_nil) (by decide +kernel)
set_option maxRecDepth 1000000 in
def an337 : List (Nat × List (Nat × An)) := []
set_option maxRecDepth 1000000 in
theorem ok337 : SmOK rgT sm337 := vfy_sp (T := []) (AN := an337) (g := 175) (fun _ h => absurd h List.not_mem_nil) (by decide +kernel)
set_option maxRecDepth 1000000 in
def an338 : List (Nat × List (Nat × An)) := []
set_option maxRecDepth 1000000 in
theorem ok338 : SmOK rgT sm338 := vfy_sp (T := []) (AN := an338) (g := 481) (fun _ h => absurd h List.not_mem_nil) (by decide +kernel)
set_option maxRecDepth 1000000 in
def an339 : List (Nat × List (Nat × An)) := []
set_option maxRecDepth 1000000 in
theorem ok339 : SmOK rgT sm339 := vfy_sp (T := []) (AN := an339) (g := 204) (fun _ h => absurd h List.not_mem_nil) (by decide +kernel)
set_option maxRecDepth 1000000 in
def an340 : List (Nat × List (Nat × An)) := []
set_option maxRecDepth 1000000 in
theorem ok340 : SmOK rgT sm340 := vfy_sp (T := []) (AN := an340) (g := 273) (fun _ h => absurd h List.not_mem_nil) (by decide +kernel)
set_option maxRecDepth 1000000 in
def an341 : List (Nat × List (Nat × An)) := [(188, [(34, ([((0, 3, 0, (0, [])), 0, 2147483647)], ([], [], []), [], [], [], 0, true))])]
set_option maxRecDepth 1000000 in
theorem ok341 : SmOK rgT sm341 := vfy_sp (T := []) (AN := an341) (g := 151) (fun _ h => absurd h List.not_mem_nil) (by decide +kernel)
set_option maxRecDepth 1000000 in
def an342 : List (Nat × List (Nat × An)) := [(189, [(54, ([((0, 6, 0, (0, [])), 0, 2147483647), ((0, 4, 0, (0, [])), (-2147483648), 2147483647), ((0, 5, 0, (0, [])), (-2147483648), 2147483647)], ([], [], []), [], [], [], 0, true))])]
set_option maxRecDepth 1000000 in
theorem ok342 : SmOK rgT sm342 := vfy_sp (T := [sm341]) (AN := an342) (g := 516) (List.forall_mem_cons.mpr ⟨ok341, fun _ h => absurd h List.not_mem_nil⟩) (by decide +kernel)
set_option maxRecDepth 1000000 in
def an343 : List (Nat × List (Nat × An)) := []
set_option maxRecDepth 1000000 in
theorem ok343 : SmOK rgT sm343 := vfy_sp (T := [sm22]) (AN := an343) (g := 72) (List.forall_mem_cons.mpr ⟨ok22, fun _ h => absurd h List.not_mem_nil⟩) (by decide +kernel)
set_option maxRecDepth 1000000 in
def an344 : List (Nat × List (Nat × An)) := []
set_option maxRecDepth 1000000 in
theorem ok344 : SmOK rgT sm344 := vfy_sp (T := [sm343]) (AN := an344) (g := 126) (List.forall_mem_cons.mpr ⟨ok343, fun _ h => absurd h List.not_mem_nil⟩) (by decide +kernel)
set_option maxRecDepth 1000000 in
def an345 : List (Nat × List (Nat × An)) := [(194, [(8, ([((0, 2, 0, (0, [])), 0, 2147483647), ((0, 1, 0, (0, [])), (-2147483648), 2147483647)], ([], [], []), [], [], [], 0, true))])]
set_option maxRecDepth 1000000 in
theorem ok345 : SmOK rgT sm345 := vfy_sp (T := [sm343, sm341]) (AN := an345) (g := 201) (List.forall_mem_cons.mpr ⟨ok343, List.forall_mem_cons.mpr ⟨ok341, fun _ h => absurd h List.not_mem_nil⟩⟩) (by decide +kernel)
set_option maxRecDepth 1000000 in
def an346 : List (Nat × List (Nat × An)) := [(195, [(4, ([((0, 1, 0, (0, [])), (-2147483648), 2147483647), ((0, 2, 0, (0, [])), 0, 2147483647)], ([], [], []), [], [], [], 1, true))])]
set_option maxRecDepth 1000000 in
theorem ok346 : SmOK rgT sm346 := vfy_sp (T := []) (AN := an346) (g := 163) (fun _ h => absurd h List.not_mem_nil) (by decide +kernel)
set_option maxRecDepth 1000000 in
def an347 : List (Nat × List (Nat × An)) := []
set_option maxRecDepth 1000000 in
theorem ok347 : SmOK rgT sm347 := vfy_sp (T := []) (AN := an347) (g := 272) (fun _ h => absurd h List.not_mem_nil) (by decide +kernel)
set_option maxRecDepth 1000000 in
def an348 : List (Nat × List (Nat × An)) := [(197, [(50, ([((0, 6, 0, (0, [])), 0, 2147483647)], ([], [], []), [], [], [], 0, true))])]
set_option maxRecDepth 1000000 in
theorem ok348 : SmOK rgT sm348 := vfy_sp (T := [sm347]) (AN := an348) (g := 198) (List.forall_mem_cons.mpr ⟨ok347, fun _ h => absurd h List.not_mem_nil⟩) (by decide +kernel)
set_option maxRecDepth 1000000 in
def an349 : List (Nat × List (Nat × An)) := []
set_option maxRecDepth 1000000 in
theorem ok349 : SmOK rgT sm349 := vfy_sp (T := []) (AN := an349) (g := 175) (fun _ h => absurd h List.not_mem_nil) (by decide +kernel)
set_option maxRecDepth 1000000 in
def an350 : List (Nat × List (Nat × An)) := []
set_option maxRecDepth 1000000 in
theorem ok350 : SmOK rgT sm350 := vfy_sp (T := []) (AN := an350) (g := 273) (fun _ h => absurd h List.not_mem_nil) (by decide +kernel)
set_option maxRecDepth 1000000 in
def an351 : List (Nat × List (Nat × An)) := [(200, [(183, ([((0, 7, 0, (0, [])), 0, 2147483647), ((0, 6, 0, (0, [])), (-2147483648), 2147483647)], ([], [], []), [], [], [], 0, true))])]
set_option maxRecDepth 1000000 in
theorem ok351 : SmOK rgT sm351 := vfy_sp (T := []) (AN := an351) (g := 566) (fun _ h => absurd h List.not_mem_nil) (by decide +kernel)
set_option maxRecDepth 1000000 in
def an352 : List (Nat × List (Nat × An)) := []
set_option maxRecDepth 1000000 in
theorem ok352 : SmOK rgT sm352 := vfy_sp (T := []) (AN := an352) (g := 214) (fun _ h => absurd h List.not_mem_nil) (by decide +kernel)
