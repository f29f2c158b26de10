/-! Printed by wip/ai/tab.py. -/
set_option maxRecDepth 1000000 in
def an239 : List (Nat × List (Nat × An)) := [(206, [(13, ([((0, 2, 0, (0, [])), 0, 2147483647)], ([], [], []), [], [], [], 0, true)), (34, ([((0, 2, 0, (0, [])), 0, 2147483647)], ([], [], []), [], [], [], 0, true)), (107, ([((0, 2, 0, (0, [])), (-2147483648), 2147483647), ((0, 3, 0, (0, [])), (-2147483648), 2147483647), ((0, 4, 0, (0, [])), 0, 2147483647)], ([], [], []), [], [], [], 2, true)), (124, ([((0, 5, 0, (0, [])), 0, 2147483647), ((0, 2, 0, (0, [])), (-2147483648), 2147483647)], ([], [], []), [], [], [], 0, true)), (268, ([((0, 5, 0, (0, [])), (-1), 29), ((0, 2, 0, (0, [])), (-2147483648), 2147483647), ((1, 7, 66, (0, [])), 0, 30)], ([], [], []), [(8, 66, (0, [(0, 1)]), (0, []))], [], [(0, 75, 0, 29)], 2, false)), (353, ([((0, 4, 0, (0, [])), 0, 2147483647)], ([], [], []), [], [], [], 0, true))])]
set_option maxRecDepth 1000000 in
theorem ok239 : SmOK rgT sm239 := vfy_sp (T := [sm238]) (AN := an239) (g := 428) (List.forall_mem_cons.mpr ⟨ok238, fun _ h => absurd h List.not_mem_nil⟩) (by decide +kernel)
set_option maxRecDepth 1000000 in
def an240 : List (Nat × List (Nat × An)) := []
set_option maxRecDepth 1000000 in
theorem ok240 : SmOK rgT sm240 := vfy_sp (T := []) (AN := an240) (g := 244) (fun _ h => absurd h List.not_mem_nil) (by decide +kernel)
set_option maxRecDepth 1000000 in
def an241 : List (Nat × List (Nat × An)) := []
set_option maxRecDepth 1000000 in
theorem ok241 : SmOK rgT sm241 := vfy_sp (T := []) (AN := an241) (g := 310) (fun _ h => absurd h List.not_mem_nil) (by decide +kernel)
set_option maxRecDepth 1000000 in
def an242 : List (Nat × List (Nat × An)) := []
set_option maxRecDepth 1000000 in
theorem ok242 : SmOK rgT sm242 := vfy_sp (T := [sm241, sm240]) (AN := an242) (g := 232) (List.forall_mem_cons.mpr ⟨ok241, List.forall_mem_cons.mpr ⟨ok240, fun _ h => absurd h List.not_mem_nil⟩⟩) (by decide +kernel)
set_option maxRecDepth 1000000 in
def an243 : List (Nat × List (Nat × An)) := []
set_option maxRecDepth 1000000 in
theorem ok243 : SmOK rgT sm243 := vfy_sp (T := [sm242, sm20, sm14, sm8, sm7]) (AN := an243) (g := 415) (List.forall_mem_cons.mpr ⟨ok242, List.forall_mem_cons.mpr ⟨ok20, List.forall_mem_cons.mpr ⟨ok14, List.forall_mem_cons.mpr ⟨ok8, List.forall_mem_cons.mpr ⟨ok7, fun _ h => absurd h List.not_mem_nil⟩⟩⟩⟩⟩) (by decide +kernel)
set_option maxRecDepth 1000000 in
def an244 : List (Nat × List (Nat × An)) := []
set_option maxRecDepth 1000000 in
theorem ok244 : SmOK rgT sm244 := vfy_sp (T := [sm243]) (AN := an244) (g := 211) (List.forall_mem_cons.mpr ⟨ok243, fun _ h => absurd h List.not_mem_nil⟩) (by decide +kernel)
set_option maxRecDepth 1000000 in
def an245 : List (Nat × List (Nat × An)) := []
set_option maxRecDepth 1000000 in
theorem ok245 : SmOK rgT sm245 := vfy_sp (T := []) (AN := an245) (g := 142) (fun _ h => absurd h List.not_mem_nil) (by decide +kernel)
set_option maxRecDepth 1000000 in
def an246 : List (Nat × List (Nat × An)) := [(227, [(4, ([((0, 2, 0, (0, [])), (-1), 11), ((0, 3, 0, (0, [])), 0, 2147483647)], ([((-1), [(0, (-1)), (1001, 1)])], [], []), [], [], [], 1, true))])]
set_option maxRecDepth 1000000 in
theorem ok246 : SmOK rgT sm246 := vfy_sp (T := []) (AN := an246) (g := 179) (fun _ h => absurd h List.not_mem_nil) (by decide +kernel)
set_option maxRecDepth 1000000 in
def an247 : List (Nat × List (Nat × An)) := []
set_option maxRecDepth 1000000 in
theorem ok247 : SmOK rgT sm247 := vfy_sp (T := [sm246]) (AN := an247) (g := 102) (List.forall_mem_cons.mpr ⟨ok246, fun _ h => absurd h List.not_mem_nil⟩) (by decide +kernel)
set_option maxRecDepth 1000000 in
def an249 : List (Nat × List (Nat × An)) := []
set_option maxRecDepth 1000000 in
theorem ok249 : SmOK rgT sm249 := vfy_sp (T := [sm246, sm_worked]) (AN := an249) (g := 571) (List.forall_mem_cons.mpr ⟨ok246, List.forall_mem_cons.mpr ⟨ok_worked, fun _ h => absurd h List.not_mem_nil⟩⟩) (by decide +kernel)
set_option maxRecDepth 1000000 in
def an250 : List (Nat × List (Nat × An)) := []
set_option maxRecDepth 1000000 in
theorem ok250 : SmOK rgT sm250 := vfy_sp (T := [sm249]) (AN := an250) (g := 95) (List.forall_mem_cons.mpr ⟨ok249, fun _ h => absurd h List.not_mem_nil⟩) (by decide +kernel)
set_option maxRecDepth 1000000 in
def an251 : List (Nat × List (Nat × An)) := []
set_option maxRecDepth 1000000 in
theorem ok251 : SmOK rgT sm251 := vfy_sp (T := [sm249]) (AN := an251) (g := 625) (List.forall_mem_cons.mpr ⟨ok249, fun _ h => absurd h List.not_mem_nil⟩) (by decide +kernel)
set_option maxRecDepth 1000000 in
def an252 : List (Nat × List (Nat × An)) := []
set_option maxRecDepth 1000000 in
theorem ok252 : SmOK rgT sm252 := vfy_sp (T := [sm251]) (AN := an252) (g := 368) (List.forall_mem_cons.mpr ⟨ok251, fun _ h => absurd h List.not_mem_nil⟩) (by decide +kernel)
set_option maxRecDepth 1000000 in
def an253 : List (Nat × List (Nat × An)) := []
set_option maxRecDepth 1000000 in
theorem ok253 : SmOK rgT sm253 := vfy_sp (T := [sm251]) (AN := an253) (g := 173) (List.forall_mem_cons.mpr ⟨ok251, fun _ h => absurd h List.not_mem_nil⟩) (by decide +kernel)
set_option maxRecDepth 1000000 in
def an254 : List (Nat × List (Nat × An)) := []
set_option maxRecDepth 1000000 in
theorem ok254 : SmOK rgT sm254 := vfy_sp (T := [sm249]) (AN := an254) (g := 338) (List.forall_mem_cons.mpr ⟨ok249, fun _ h => absurd h List.not_mem_nil⟩) (by decide +kernel)
set_option maxRecDepth 1000000 in
def an255 : List (Nat × List (Nat × An)) := []
set_option maxRecDepth 1000000 in
theorem ok255 : SmOK rgT sm255 := vfy_sp (T := []) (AN := an255) (g := 227) (fun _ h => absurd h List.not_mem_nil) (by decide +kernel)
set_option maxRecDepth 1000000 in
def an256 : List (Nat × List (Nat × An)) := []
set_option maxRecDepth 1000000 in
theorem ok256 : SmOK rgT sm256 := vfy_sp (T := []) (AN := an256) (g := 170) (fun _ h => absurd h List.not_mem_nil) (by decide +kernel)
set_option maxRecDepth 1000000 in
def an257 : List (Nat × List (Nat × An)) := []
set_option maxRecDepth 1000000 in
theorem ok257 : SmOK rgT sm257 := vfy_sp (T := []) (AN := an257) (g := 159) (fun _ h => absurd h List.not_mem_nil) (by decide +kernel)
set_option maxRecDepth 1000000 in
def an258 : List (Nat × List (Nat × An)) := [(242, [(16, ([((0, 4, 0, (0, [])), 0, 2147483647), ((0, 3, 0, (0, [])), (-2147483648), 2147483647)], ([], [], []), [], [], [], 0, true))])]
set_option maxRecDepth 1000000 in
theorem ok258 : SmOK rgT sm258 := vfy_sp (T := []) (AN := an258) (g := 194) (fun _ h => absurd h List.not_mem_nil) (by decide +kernel)
set_option maxRecDepth 1000000 in
def an259 : List (Nat × List (Nat × An)) := []
set_option maxRecDepth 1000000 in
theorem ok259 : SmOK rgT sm259 := vfy_sp (T := [sm258]) (AN := an259) (g := 132) (List.forall_mem_cons.mpr ⟨ok258, fun _ h => absurd h List.not_mem_nil⟩) (by decide +kernel)
set_option maxRecDepth 1000000 in
def an260 : List (Nat × List (Nat × An)) := [(245, [(6, ([((0, 2, 0, (0, [])), (-1), 29), ((1, 7, 66, (0, [])), 0, 30)], ([], [], []), [(8, 66, (0, [(0, 1)]), (0, []))], [], [(0, 66, 16, 47), (0, 66, 306, 575)], 1, false))])]
set_option maxRecDepth 1000000 in
theorem ok260 : SmOK rgT sm260 := vfy_sp (T := [sm238]) (AN := an260) (g := 153) (List.forall_mem_cons.mpr ⟨ok238, fun _ h => absurd h List.not_mem_nil⟩) (by decide +kernel)
set_option maxRecDepth 1000000 in
def an261 : List (Nat × List (Nat × An)) := [(246, [(71, ([((0, 3, 0, (0, [])), 0, 2147483647)], ([], [], []), [], [], [], 0, true))])]
set_option maxRecDepth 1000000 in
theorem ok261 : SmOK rgT sm261 := vfy_sp (T := []) (AN := an261) (g := 297) (fun _ h => absurd h List.not_mem_nil) (by decide +kernel)
set_option maxRecDepth 1000000 in
def an262 : List (Nat × List (Nat × An)) := [(247, [(2, ([((0, 1, 0, (0, [])), 0, 2147483647)], ([], [], []), [], [], [], 0, true)), (49, ([((0, 1, 0, (0, [])), 0, 2147483647)], ([], [], []), [], [], [], 0, true)), (72, ([((0, 1, 0, (0, [])), 0, 2147483647)], ([], [], []), [], [], [], 0, true)), (125, ([((0, 1, 0, (0, [])), 0, 2147483647)], ([], [], []), [], [], [], 0, true))])]
set_option maxRecDepth 1000000 in
theorem ok262 : SmOK rgT sm262 := vfy_sp (T := [sm261, sm260, sm258, sm249]) (AN := an262) (g := 662) (List.forall_mem_cons.mpr ⟨ok261, List.forall_mem_cons.mpr ⟨ok260, List.forall_mem_cons.mpr ⟨ok258, List.forall_mem_cons.mpr ⟨ok249, fun _ h => absurd h List.not_mem_nil⟩⟩⟩⟩) (by decide +kernel)
set_option maxRecDepth 1000000 in
def an263 : List (Nat × List (Nat × An)) := [(248, [(34, ([((0, 2, 0, (0, [])), 0, 60), ((1, 0, 66, (0, [])), 0, 999)], ([(999, [(0, 1), (1, (-1)), (1000, (-1))])], [], []), [], [], [(0, 66, 0, 0)], 0, true))])]
set_option maxRecDepth 1000000 in
theorem ok263 : SmOK rgT sm263 := vfy_sp (T := [sm262]) (AN := an263) (g := 113) (List.forall_mem_cons.mpr ⟨ok262, fun _ h => absurd h List.not_mem_nil⟩) (by decide +kernel)
set_option maxRecDepth 1000000 in
def an264 : List (Nat × List (Nat × An)) := []
set_option maxRecDepth 1000000 in
theorem ok264 : SmOK rgT sm264 := vfy_sp (T := []) (AN := an264) (g := 105) (fun _ h => absurd h List.not_mem_nil) (by decide +kernel)
set_option maxRecDepth 1000000 in
def an265 : List (Nat × List (Nat × An)) := [(253, [(71, ([((0, 4, 0, (0, [])), 0, 2147483647)], ([], [], []), [], [], [], 0, true))])]
set_option maxRecDepth 1000000 in
theorem ok265 : SmOK rgT sm265 := vfy_sp (T := []) (AN := an265) (g := 205) (fun _ h => absurd h List.not_mem_nil) (by decide +kernel)
set_option maxRecDepth 1000000 in
def an266 : List (Nat × List (Nat × An)) := []
set_option maxRecDepth 1000000 in
theorem ok266 : SmOK rgT sm266 := vfy_sp (T := []) (AN := an266) (g := 236) (fun _ h => absurd h List.not_mem_nil) (by decide +kernel)
set_option maxRecDepth 1000000 in
def an267 : List (Nat × List (Nat × An)) := []
set_option maxRecDepth 1000000 in
theorem ok267 : SmOK rgT sm267 := vfy_sp (T := []) (AN := an267) (g := 247) (fun _ h => absurd h List.not_mem_nil) (by decide +kernel)
set_option maxRecDepth 1000000 in
def an268 : List (Nat × List (Nat × An)) := [(257, [(113, ([((0, 6, 0, (0, [])), 0, 2147483647)], ([], [], []), [], [], [], 0, true)), (150, ([((0, 6, 0, (0, [])), 0, 2147483647)], ([], [], []), [], [], [], 0, true))])]
set_option maxRecDepth 1000000 in
theorem ok268 : SmOK rgT sm268 := vfy_sp (T := []) (AN := an268) (g := 237) (fun _ h => absurd h List.not_mem_nil) (by decide +kernel)
set_option maxRecDepth 1000000 in
def an269 : List (Nat × List (Nat × An)) := [(258, [(14, ([((0, 4, 0, (0, [])), (-1), 3), ((0, 2, 0, (0, [])), (-1), 3)], ([], [], []), [], [], [], 0, false)), (45, ([((0, 4, 0, (0, [])), 0, 2147483647), ((0, 3, 0, (0, [])), (-2147483648), 2147483647)], ([], [], []), [], [], [], 0, true))])]
set_option maxRecDepth 1000000 in
theorem ok269 : SmOK rgT sm269 := vfy_sp (T := []) (AN := an269) (g := 285) (fun _ h => absurd h List.not_mem_nil) (by decide +kernel)
