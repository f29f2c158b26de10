/-! Printed by wip/ai/tab.py. -/
set_option maxRecDepth 1000000 in
def an230 : List (Nat × List (Nat × An)) := []
set_option maxRecDepth 1000000 in
theorem ok230 : SmOK rgT sm230 := vfy_sp (T := []) (AN := an230) (g := 492) (fun _ h => absurd h List.not_mem_nil) (by decide +kernel)
set_option maxRecDepth 1000000 in
def an231 : List (Nat × List (Nat × An)) := []
set_option maxRecDepth 1000000 in
theorem ok231 : SmOK rgT sm231 := vfy_sp (T := []) (AN := an231) (g := 94) (fun _ h => absurd h List.not_mem_nil) (by decide +kernel)
set_option maxRecDepth 1000000 in
def an232 : List (Nat × List (Nat × An)) := []
set_option maxRecDepth 1000000 in
theorem ok232 : SmOK rgT sm232 := vfy_sp (T := []) (AN := an232) (g := 244) (fun _ h => absurd h List.not_mem_nil) (by decide +kernel)
set_option maxRecDepth 1000000 in
def an233 : List (Nat × List (Nat × An)) := []
set_option maxRecDepth 1000000 in
theorem ok233 : SmOK rgT sm233 := vfy_sp (T := []) (AN := an233) (g := 310) (fun _ h => absurd h List.not_mem_nil) (by decide +kernel)
set_option maxRecDepth 1000000 in
def an234 : List (Nat × List (Nat × An)) := []
set_option maxRecDepth 1000000 in
theorem ok234 : SmOK rgT sm234 := vfy_sp (T := [sm233, sm232]) (AN := an234) (g := 232) (List.forall_mem_cons.mpr ⟨ok233, List.forall_mem_cons.mpr ⟨ok232, fun _ h => absurd h List.not_mem_nil⟩⟩) (by decide +kernel)
set_option maxRecDepth 1000000 in
def an235 : List (Nat × List (Nat × An)) := []
set_option maxRecDepth 1000000 in
theorem ok235 : SmOK rgT sm235 := vfy_sp (T := [sm234, sm20, sm14, sm8, sm7]) (AN := an235) (g := 415) (List.forall_mem_cons.mpr ⟨ok234, List.forall_mem_cons.mpr ⟨ok20, List.forall_mem_cons.mpr ⟨ok14, List.forall_mem_cons.mpr ⟨ok8, List.forall_mem_cons.mpr ⟨ok7, fun _ h => absurd h List.not_mem_nil⟩⟩⟩⟩⟩) (by decide +kernel)
set_option maxRecDepth 1000000 in
def an236 : List (Nat × List (Nat × An)) := []
set_option maxRecDepth 1000000 in
theorem ok236 : SmOK rgT sm236 := vfy_sp (T := [sm235]) (AN := an236) (g := 211) (List.forall_mem_cons.mpr ⟨ok235, fun _ h => absurd h List.not_mem_nil⟩) (by decide +kernel)
set_option maxRecDepth 1000000 in
def an237 : List (Nat × List (Nat × An)) := []
set_option maxRecDepth 1000000 in
theorem ok237 : SmOK rgT sm237 := vfy_sp (T := []) (AN := an237) (g := 142) (fun _ h => absurd h List.not_mem_nil) (by decide +kernel)
set_option maxRecDepth 1000000 in
def an238 : List (Nat × List (Nat × An)) := [(227, [(4, ([((0, 2, 0, (0, [])), (-1), 11), ((0, 3, 0, (0, [])), 0, 2147483647)], ([((-1), [(0, (-1)), (1001, 1)])], [], []), [], [], [], 1, true))])]
set_option maxRecDepth 1000000 in
theorem ok238 : SmOK rgT sm238 := vfy_sp (T := []) (AN := an238) (g := 179) (fun _ h => absurd h List.not_mem_nil) (by decide +kernel)
set_option maxRecDepth 1000000 in
def an239 : List (Nat × List (Nat × An)) := []
set_option maxRecDepth 1000000 in
theorem ok239 : SmOK rgT sm239 := vfy_sp (T := [sm238]) (AN := an239) (g := 102) (List.forall_mem_cons.mpr ⟨ok238, fun _ h => absurd h List.not_mem_nil⟩) (by decide +kernel)
set_option maxRecDepth 1000000 in
def an241 : List (Nat × List (Nat × An)) := []
set_option maxRecDepth 1000000 in
theorem ok241 : SmOK rgT sm241 := vfy_sp (T := [sm238, sm_worked]) (AN := an241) (g := 571) (List.forall_mem_cons.mpr ⟨ok238, List.forall_mem_cons.mpr ⟨ok_worked, fun _ h => absurd h List.not_mem_nil⟩⟩) (by decide +kernel)
set_option maxRecDepth 1000000 in
def an242 : List (Nat × List (Nat × An)) := []
set_option maxRecDepth 1000000 in
theorem ok242 : SmOK rgT sm242 := vfy_sp (T := [sm241]) (AN := an242) (g := 95) (List.forall_mem_cons.mpr ⟨ok241, fun _ h => absurd h List.not_mem_nil⟩) (by decide +kernel)
set_option maxRecDepth 1000000 in
def an243 : List (Nat × List (Nat × An)) := []
set_option maxRecDepth 1000000 in
theorem ok243 : SmOK rgT sm243 := vfy_sp (T := [sm241]) (AN := an243) (g := 625) (List.forall_mem_cons.mpr ⟨ok241, fun _ h => absurd h List.not_mem_nil⟩) (by decide +kernel)
set_option maxRecDepth 1000000 in
def an244 : List (Nat × List (Nat × An)) := []
set_option maxRecDepth 1000000 in
theorem ok244 : SmOK rgT sm244 := vfy_sp (T := [sm243]) (AN := an244) (g := 368) (List.forall_mem_cons.mpr ⟨ok243, fun _ h => absurd h List.not_mem_nil⟩) (by decide +kernel)
set_option maxRecDepth 1000000 in
def an245 : List (Nat × List (Nat × An)) := []
set_option maxRecDepth 1000000 in
theorem ok245 : SmOK rgT sm245 := vfy_sp (T := [sm243]) (AN := an245) (g := 173) (List.forall_mem_cons.mpr ⟨ok243, fun _ h => absurd h List.not_mem_nil⟩) (by decide +kernel)
set_option maxRecDepth 1000000 in
def an246 : List (Nat × List (Nat × An)) := []
set_option maxRecDepth 1000000 in
theorem ok246 : SmOK rgT sm246 := vfy_sp (T := [sm241]) (AN := an246) (g := 338) (List.forall_mem_cons.mpr ⟨ok241, fun _ h => absurd h List.not_mem_nil⟩) (by decide +kernel)
set_option maxRecDepth 1000000 in
def an247 : List (Nat × List (Nat × An)) := []
set_option maxRecDepth 1000000 in
theorem ok247 : SmOK rgT sm247 := vfy_sp (T := []) (AN := an247) (g := 227) (fun _ h => absurd h List.not_mem_nil) (by decide +kernel)
set_option maxRecDepth 1000000 in
def an248 : List (Nat × List (Nat × An)) := []
set_option maxRecDepth 1000000 in
theorem ok248 : SmOK rgT sm248 := vfy_sp (T := []) (AN := an248) (g := 170) (fun _ h => absurd h List.not_mem_nil) (by decide +kernel)
set_option maxRecDepth 1000000 in
def an249 : List (Nat × List (Nat × An)) := []
set_option maxRecDepth 1000000 in
theorem ok249 : SmOK rgT sm249 := vfy_sp (T := []) (AN := an249) (g := 159) (fun _ h => absurd h List.not_mem_nil) (by decide +kernel)
set_option maxRecDepth 1000000 in
def an250 : List (Nat × List (Nat × An)) := [(242, [(16, ([((0, 4, 0, (0, [])), 0, 2147483647), ((0, 3, 0, (0, [])), (-2147483648), 2147483647)], ([], [], []), [], [], [], 0, true))])]
set_option maxRecDepth 1000000 in
theorem ok250 : SmOK rgT sm250 := vfy_sp (T := []) (AN := an250) (g := 194) (fun _ h => absurd h List.not_mem_nil) (by decide +kernel)
set_option maxRecDepth 1000000 in
def an251 : List (Nat × List (Nat × An)) := []
set_option maxRecDepth 1000000 in
theorem ok251 : SmOK rgT sm251 := vfy_sp (T := [sm250]) (AN := an251) (g := 132) (List.forall_mem_cons.mpr ⟨ok250, fun _ h => absurd h List.not_mem_nil⟩) (by decide +kernel)
set_option maxRecDepth 1000000 in
def an252 : List (Nat × List (Nat × An)) := [(245, [(6, ([((0, 2, 0, (0, [])), (-1), 29), ((1, 7, 66, (0, [])), 0, 30)], ([], [], []), [(8, 66, (0, [(0, 1)]), (0, []))], [], [(0, 66, 16, 47), (0, 66, 306, 575)], 1, false))])]
set_option maxRecDepth 1000000 in
theorem ok252 : SmOK rgT sm252 := vfy_sp (T := [sm228]) (AN := an252) (g := 153) (List.forall_mem_cons.mpr ⟨ok228, fun _ h => absurd h List.not_mem_nil⟩) (by decide +kernel)
set_option maxRecDepth 1000000 in
def an253 : List (Nat × List (Nat × An)) := [(246, [(71, ([((0, 3, 0, (0, [])), 0, 2147483647)], ([], [], []), [], [], [], 0, true))])]
set_option maxRecDepth 1000000 in
theorem ok253 : SmOK rgT sm253 := vfy_sp (T := []) (AN := an253) (g := 297) (fun _ h => absurd h List.not_mem_nil) (by decide +kernel)
set_option maxRecDepth 1000000 in
def an254 : List (Nat × List (Nat × An)) := [(247, [(2, ([((0, 1, 0, (0, [])), 0, 2147483647)], ([], [], []), [], [], [], 0, true)), (49, ([((0, 1, 0, (0, [])), 0, 2147483647)], ([], [], []), [], [], [], 0, true)), (72, ([((0, 1, 0, (0, [])), 0, 2147483647)], ([], [], []), [], [], [], 0, true)), (125, ([((0, 1, 0, (0, [])), 0, 2147483647)], ([], [], []), [], [], [], 0, true))])]
set_option maxRecDepth 1000000 in
theorem ok254 : SmOK rgT sm254 := vfy_sp (T := [sm253, sm252, sm250, sm241]) (AN := an254) (g := 662) (List.forall_mem_cons.mpr ⟨ok253, List.forall_mem_cons.mpr ⟨ok252, List.forall_mem_cons.mpr ⟨ok250, List.forall_mem_cons.mpr ⟨ok241, fun _ h => absurd h List.not_mem_nil⟩⟩⟩⟩) (by decide +kernel)
set_option maxRecDepth 1000000 in
def an255 : List (Nat × List (Nat × An)) := [(248, [(34, ([((0, 2, 0, (0, [])), 0, 60), ((1, 0, 66, (0, [])), 0, 999)], ([(0, [(0, (-1)), (1000, 1)]), (0, [(0, 1), (1, (-1)), (1001, 1)]), (0, [(0, (-1)), (1, 1), (1001, (-1))])], [], []), [], [], [(0, 66, 0, 0)], 0, true))])]
set_option maxRecDepth 1000000 in
theorem ok255 : SmOK rgT sm255 := vfy_sp (T := [sm254]) (AN := an255) (g := 113) (List.forall_mem_cons.mpr ⟨ok254, fun _ h => absurd h List.not_mem_nil⟩) (by decide +kernel)
set_option maxRecDepth 1000000 in
def an256 : List (Nat × List (Nat × An)) := []
set_option maxRecDepth 1000000 in
theorem ok256 : SmOK rgT sm256 := vfy_sp (T := []) (AN := an256) (g := 105) (fun _ h => absurd h List.not_mem_nil) (by decide +kernel)
set_option maxRecDepth 1000000 in
def an257 : List (Nat × List (Nat × An)) := [(253, [(71, ([((0, 4, 0, (0, [])), 0, 2147483647)], ([], [], []), [], [], [], 0, true))])]
set_option maxRecDepth 1000000 in
theorem ok257 : SmOK rgT sm257 := vfy_sp (T := []) (AN := an257) (g := 205) (fun _ h => absurd h List.not_mem_nil) (by decide +kernel)
set_option maxRecDepth 1000000 in
def an258 : List (Nat × List (Nat × An)) := []
set_option maxRecDepth 1000000 in
theorem ok258 : SmOK rgT sm258 := vfy_sp (T := []) (AN := an258) (g := 236) (fun _ h => absurd h List.not_mem_nil) (by decide +kernel)
set_option maxRecDepth 1000000 in
def an259 : List (Nat × List (Nat × An)) := []
set_option maxRecDepth 1000000 in
theorem ok259 : SmOK rgT sm259 := vfy_sp (T := []) (AN := an259) (g := 247) (fun _ h => absurd h List.not_mem_nil) (by decide +kernel)
set_option maxRecDepth 1000000 in
def an260 : List (Nat × List (Nat × An)) := [(257, [(113, ([((0, 6, 0, (0, [])), 0, 2147483647)], ([], [], []), [], [], [], 0, true)), (150, ([((0, 6, 0, (0, [])), 0, 2147483647)], ([], [], []), [], [], [], 0, true))])]
set_option maxRecDepth 1000000 in
theorem ok260 : SmOK rgT sm260 := vfy_sp (T := []) (AN := an260) (g := 237) (fun _ h => absurd h List.not_mem_nil) (by decide +kernel)
set_option maxRecDepth 1000000 in
def an261 : List (Nat × List (Nat × An)) := [(258, [(14, ([((0, 4, 0, (0, [])), (-1), 3), ((0, 2, 0, (0, [])), (-1), 3)], ([], [], []), [], [], [], 0, false)), (45, ([((0, 4, 0, (0, [])), 0, 2147483647), ((0, 3, 0, (0, [])), (-2147483648), 2147483647)], ([], [], []), [], [], [], 0, true))])]
set_option maxRecDepth 1000000 in
theorem ok261 : SmOK rgT sm261 := vfy_sp (T := []) (AN := an261) (g := 285) (fun _ h => absurd h List.not_mem_nil) (by decide +kernel)
