/-! Printed by wip/ai/tab.py. -/
set_option maxRecDepth 1000000 in
def an242 : List (Nat × List (Nat × An)) := [(206, [(13, ([((0, 2, 0, (0, [])), 0, 2147483647)], ([], [], []), [], [], [], 0, true)), (34, ([((0, 2, 0, (0, [])), 0, 2147483647)], ([], [], []), [], [], [], 0, true)), (107, ([((0, 2, 0, (0, [])), (-2147483648), 2147483647), ((0, 3, 0, (0, [])), (-2147483648), 2147483647), ((0, 4, 0, (0, [])), 0, 2147483647)], ([], [], []), [], [], [], 2, true)), (124, ([((0, 5, 0, (0, [])), 0, 2147483647), ((0, 2, 0, (0, [])), (-2147483648), 2147483647)], ([], [], []), [], [], [], 0, true)), (268, ([((0, 5, 0, (0, [])), (-1), 29), ((0, 2, 0, (0, [])), (-2147483648), 2147483647), ((1, 7, 66, (0, [])), 0, 30)], ([], [], []), [(8, 66, (0, [(0, 1)]), (0, []))], [], [(0, 75, 0, 29)], 2, false)), (353, ([((0, 4, 0, (0, [])), 0, 2147483647)], ([], [], []), [], [], [], 0, true))])]
set_option maxRecDepth 1000000 in
theorem ok242 : SmOK rgT sm242 := vfy_sp (T := [sm241]) (AN := an242) (g := 428) (List.forall_mem_cons.mpr ⟨ok241, fun _ h => absurd h List.not_mem_nil⟩) (by decide +kernel)
set_option maxRecDepth 1000000 in
def an243 : List (Nat × List (Nat × An)) := []
set_option maxRecDepth 1000000 in
theorem ok243 : SmOK rgT sm243 := vfy_sp (T := []) (AN := an243) (g := 492) (fun _ h => absurd h List.not_mem_nil) (by decide +kernel)
set_option maxRecDepth 1000000 in
def an244 : List (Nat × List (Nat × An)) := []
set_option maxRecDepth 1000000 in
theorem ok244 : SmOK rgT sm244 := vfy_sp (T := []) (AN := an244) (g := 94) (fun _ h => absurd h List.not_mem_nil) (by decide +kernel)
set_option maxRecDepth 1000000 in
def an245 : List (Nat × List (Nat × An)) := []
set_option maxRecDepth 1000000 in
theorem ok245 : SmOK rgT sm245 := vfy_sp (T := []) (AN := an245) (g := 244) (fun _ h => absurd h List.not_mem_nil) (by decide +kernel)
set_option maxRecDepth 1000000 in
def an246 : List (Nat × List (Nat × An)) := []
set_option maxRecDepth 1000000 in
theorem ok246 : SmOK rgT sm246 := vfy_sp (T := []) (AN := an246) (g := 310) (fun _ h => absurd h List.not_mem_nil) (by decide +kernel)
set_option maxRecDepth 1000000 in
def an247 : List (Nat × List (Nat × An)) := []
set_option maxRecDepth 1000000 in
theorem ok247 : SmOK rgT sm247 := vfy_sp (T := [sm246, sm245]) (AN := an247) (g := 232) (List.forall_mem_cons.mpr ⟨ok246, List.forall_mem_cons.mpr ⟨ok245, fun _ h => absurd h List.not_mem_nil⟩⟩) (by decide +kernel)
set_option maxRecDepth 1000000 in
def an248 : List (Nat × List (Nat × An)) := []
set_option maxRecDepth 1000000 in
theorem ok248 : SmOK rgT sm248 := vfy_sp (T := [sm247, sm20, sm14, sm8, sm7]) (AN := an248) (g := 415) (List.forall_mem_cons.mpr ⟨ok247, List.forall_mem_cons.mpr ⟨ok20, List.forall_mem_cons.mpr ⟨ok14, List.forall_mem_cons.mpr ⟨ok8, List.forall_mem_cons.mpr ⟨ok7, fun _ h => absurd h List.not_mem_nil⟩⟩⟩⟩⟩) (by decide +kernel)
set_option maxRecDepth 1000000 in
def an249 : List (Nat × List (Nat × An)) := []
set_option maxRecDepth 1000000 in
theorem ok249 : SmOK rgT sm249 := vfy_sp (T := [sm248]) (AN := an249) (g := 211) (List.forall_mem_cons.mpr ⟨ok248, fun _ h => absurd h List.not_mem_nil⟩) (by decide +kernel)
set_option maxRecDepth 1000000 in
def an250 : List (Nat × List (Nat × An)) := []
set_option maxRecDepth 1000000 in
theorem ok250 : SmOK rgT sm250 := vfy_sp (T := []) (AN := an250) (g := 142) (fun _ h => absurd h List.not_mem_nil) (by decide +kernel)
set_option maxRecDepth 1000000 in
def an251 : List (Nat × List (Nat × An)) := [(227, [(4, ([((0, 2, 0, (0, [])), (-1), 11), ((0, 3, 0, (0, [])), 0, 2147483647)], ([((-1), [(0, (-1)), (1001, 1)])], [], []), [], [], [], 1, true))])]
set_option maxRecDepth 1000000 in
theorem ok251 : SmOK rgT sm251 := vfy_sp (T := []) (AN := an251) (g := 179) (fun _ h => absurd h List.not_mem_nil) (by decide +kernel)
set_option maxRecDepth 1000000 in
def an252 : List (Nat × List (Nat × An)) := []
set_option maxRecDepth 1000000 in
theorem ok252 : SmOK rgT sm252 := vfy_sp (T := [sm251]) (AN := an252) (g := 102) (List.forall_mem_cons.mpr ⟨ok251, fun _ h => absurd h List.not_mem_nil⟩) (by decide +kernel)
set_option maxRecDepth 1000000 in
def an254 : List (Nat × List (Nat × An)) := []
set_option maxRecDepth 1000000 in
theorem ok254 : SmOK rgT sm254 := vfy_sp (T := [sm251, sm_worked]) (AN := an254) (g := 571) (List.forall_mem_cons.mpr ⟨ok251, List.forall_mem_cons.mpr ⟨ok_worked, fun _ h => absurd h List.not_mem_nil⟩⟩) (by decide +kernel)
set_option maxRecDepth 1000000 in
def an255 : List (Nat × List (Nat × An)) := []
set_option maxRecDepth 1000000 in
theorem ok255 : SmOK rgT sm255 := vfy_sp (T := [sm254]) (AN := an255) (g := 95) (List.forall_mem_cons.mpr ⟨ok254, fun _ h => absurd h List.not_mem_nil⟩) (by decide +kernel)
set_option maxRecDepth 1000000 in
def an256 : List (Nat × List (Nat × An)) := []
set_option maxRecDepth 1000000 in
theorem ok256 : SmOK rgT sm256 := vfy_sp (T := [sm254]) (AN := an256) (g := 625) (List.forall_mem_cons.mpr ⟨ok254, fun _ h => absurd h List.not_mem_nil⟩) (by decide +kernel)
set_option maxRecDepth 1000000 in
def an257 : List (Nat × List (Nat × An)) := []
set_option maxRecDepth 1000000 in
theorem ok257 : SmOK rgT sm257 := vfy_sp (T := [sm256]) (AN := an257) (g := 368) (List.forall_mem_cons.mpr ⟨ok256, fun _ h => absurd h List.not_mem_nil⟩) (by decide +kernel)
set_option maxRecDepth 1000000 in
def an258 : List (Nat × List (Nat × An)) := []
set_option maxRecDepth 1000000 in
theorem ok258 : SmOK rgT sm258 := vfy_sp (T := [sm256]) (AN := an258) (g := 173) (List.forall_mem_cons.mpr ⟨ok256, fun _ h => absurd h List.not_mem_nil⟩) (by decide +kernel)
set_option maxRecDepth 1000000 in
def an259 : List (Nat × List (Nat × An)) := []
set_option maxRecDepth 1000000 in
theorem ok259 : SmOK rgT sm259 := vfy_sp (T := [sm254]) (AN := an259) (g := 338) (List.forall_mem_cons.mpr ⟨ok254, fun _ h => absurd h List.not_mem_nil⟩) (by decide +kernel)
set_option maxRecDepth 1000000 in
def an260 : List (Nat × List (Nat × An)) := []
set_option maxRecDepth 1000000 in
theorem ok260 : SmOK rgT sm260 := vfy_sp (T := []) (AN := an260) (g := 227) (fun _ h => absurd h List.not_mem_nil) (by decide +kernel)
set_option maxRecDepth 1000000 in
def an261 : List (Nat × List (Nat × An)) := []
set_option maxRecDepth 1000000 in
theorem ok261 : SmOK rgT sm261 := vfy_sp (T := []) (AN := an261) (g := 170) (fun _ h => absurd h List.not_mem_nil) (by decide +kernel)
set_option maxRecDepth 1000000 in
def an262 : List (Nat × List (Nat × An)) := []
set_option maxRecDepth 1000000 in
theorem ok262 : SmOK rgT sm262 := vfy_sp (T := []) (AN := an262) (g := 159) (fun _ h => absurd h List.not_mem_nil) (by decide +kernel)
set_option maxRecDepth 1000000 in
def an263 : List (Nat × List (Nat × An)) := [(242, [(16, ([((0, 4, 0, (0, [])), 0, 2147483647), ((0, 3, 0, (0, [])), (-2147483648), 2147483647)], ([], [], []), [], [], [], 0, true))])]
set_option maxRecDepth 1000000 in
theorem ok263 : SmOK rgT sm263 := vfy_sp (T := []) (AN := an263) (g := 194) (fun _ h => absurd h List.not_mem_nil) (by decide +kernel)
set_option maxRecDepth 1000000 in
def an264 : List (Nat × List (Nat × An)) := []
set_option maxRecDepth 1000000 in
theorem ok264 : SmOK rgT sm264 := vfy_sp (T := [sm263]) (AN := an264) (g := 132) (List.forall_mem_cons.mpr ⟨ok263, fun _ h => absurd h List.not_mem_nil⟩) (by decide +kernel)
set_option maxRecDepth 1000000 in
def an265 : List (Nat × List (Nat × An)) := [(245, [(6, ([((0, 2, 0, (0, [])), (-1), 29), ((1, 7, 66, (0, [])), 0, 30)], ([], [], []), [(8, 66, (0, [(0, 1)]), (0, []))], [], [(0, 66, 16, 47), (0, 66, 306, 575)], 1, false))])]
set_option maxRecDepth 1000000 in
theorem ok265 : SmOK rgT sm265 := vfy_sp (T := [sm241]) (AN := an265) (g := 153) (List.forall_mem_cons.mpr ⟨ok241, fun _ h => absurd h List.not_mem_nil⟩) (by decide +kernel)
set_option maxRecDepth 1000000 in
def an266 : List (Nat × List (Nat × An)) := [(246, [(71, ([((0, 3, 0, (0, [])), 0, 2147483647)], ([], [], []), [], [], [], 0, true))])]
set_option maxRecDepth 1000000 in
theorem ok266 : SmOK rgT sm266 := vfy_sp (T := []) (AN := an266) (g := 297) (fun _ h => absurd h List.not_mem_nil) (by decide +kernel)
set_option maxRecDepth 1000000 in
def an267 : List (Nat × List (Nat × An)) := [(247, [(2, ([((0, 1, 0, (0, [])), 0, 2147483647)], ([], [], []), [], [], [], 0, true)), (49, ([((0, 1, 0, (0, [])), 0, 2147483647)], ([], [], []), [], [], [], 0, true)), (72, ([((0, 1, 0, (0, [])), 0, 2147483647)], ([], [], []), [], [], [], 0, true)), (125, ([((0, 1, 0, (0, [])), 0, 2147483647)], ([], [], []), [], [], [], 0, true))])]
set_option maxRecDepth 1000000 in
theorem ok267 : SmOK rgT sm267 := vfy_sp (T := [sm266, sm265, sm263, sm254]) (AN := an267) (g := 662) (List.forall_mem_cons.mpr ⟨ok266, List.forall_mem_cons.mpr ⟨ok265, List.forall_mem_cons.mpr ⟨ok263, List.forall_mem_cons.mpr ⟨ok254, fun _ h => absurd h List.not_mem_nil⟩⟩⟩⟩) (by decide +kernel)
set_option maxRecDepth 1000000 in
def an268 : List (Nat × List (Nat × An)) := [(248, [(34, ([((0, 2, 0, (0, [])), 0, 60), ((1, 0, 66, (0, [])), 0, 999)], ([(999, [(0, 1), (1, (-1)), (1000, (-1))])], [], []), [], [], [(0, 66, 0, 0)], 0, true))])]
set_option maxRecDepth 1000000 in
theorem ok268 : SmOK rgT sm268 := vfy_sp (T := [sm267]) (AN := an268) (g := 113) (List.forall_mem_cons.mpr ⟨ok267, fun _ h => absurd h List.not_mem_nil⟩) (by decide +kernel)
set_option maxRecDepth 1000000 in
def an269 : List (Nat × List (Nat × An)) := []
set_option maxRecDepth 1000000 in
theorem ok269 : SmOK rgT sm269 := vfy_sp (T := []) (AN := an269) (g := 105) (fun _ h => absurd h List.not_mem_nil) (by decide +kernel)
set_option maxRecDepth 1000000 in
def an270 : List (Nat × List (Nat × An)) := [(253, [(71, ([((0, 4, 0, (0, [])), 0, 2147483647)], ([], [], []), [], [], [], 0, true))])]
set_option maxRecDepth 1000000 in
theorem ok270 : SmOK rgT sm270 := vfy_sp (T := []) (AN := an270) (g := 205) (fun _ h => absurd h List.not_mem_nil) (by decide +kernel)
set_option maxRecDepth 1000000 in
def an271 : List (Nat × List (Nat × An)) := []
set_option maxRecDepth 1000000 in
theorem ok271 : SmOK rgT sm271 := vfy_sp (T := []) (AN := an271) (g := 236) (fun _ h => absurd h List.not_mem_nil) (by decide +kernel)
set_option maxRecDepth 1000000 in
def an272 : List (Nat × List (Nat × An)) := []
set_option maxRecDepth 1000000 in
theorem ok272 : SmOK rgT sm272 := vfy_sp (T := []) (AN := an272) (g := 247) (fun _ h => absurd h List.not_mem_nil) (by decide +kernel)
