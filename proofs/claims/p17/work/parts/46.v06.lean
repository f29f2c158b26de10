/-! Printed by wip/ai/tab.py. -/
set_option maxRecDepth 1000000 in
def an216 : List (Nat × List (Nat × An)) := []
set_option maxRecDepth 1000000 in
theorem ok216 : SmOK rgT sm216 := vfy_sp (T := []) (AN := an216) (g := 310) (fun _ h => absurd h List.not_mem_nil) (by decide +kernel)
set_option maxRecDepth 1000000 in
def an217 : List (Nat × List (Nat × An)) := []
set_option maxRecDepth 1000000 in
theorem ok217 : SmOK rgT sm217 := vfy_sp (T := [sm216, sm215]) (AN := an217) (g := 232) (List.forall_mem_cons.mpr ⟨ok216, List.forall_mem_cons.mpr ⟨ok215, fun _ h => absurd h List.not_mem_nil⟩⟩) (by decide +kernel)
set_option maxRecDepth 1000000 in
def an218 : List (Nat × List (Nat × An)) := []
set_option maxRecDepth 1000000 in
theorem ok218 : SmOK rgT sm218 := vfy_sp (T := [sm217, sm20, sm14, sm8, sm7]) (AN := an218) (g := 415) (List.forall_mem_cons.mpr ⟨ok217, List.forall_mem_cons.mpr ⟨ok20, List.forall_mem_cons.mpr ⟨ok14, List.forall_mem_cons.mpr ⟨ok8, List.forall_mem_cons.mpr ⟨ok7, fun _ h => absurd h List.not_mem_nil⟩⟩⟩⟩⟩) (by decide +kernel)
set_option maxRecDepth 1000000 in
def an219 : List (Nat × List (Nat × An)) := []
set_option maxRecDepth 1000000 in
theorem ok219 : SmOK rgT sm219 := vfy_sp (T := [sm218]) (AN := an219) (g := 211) (List.forall_mem_cons.mpr ⟨ok218, fun _ h => absurd h List.not_mem_nil⟩) (by decide +kernel)
set_option maxRecDepth 1000000 in
def an220 : List (Nat × List (Nat × An)) := []
set_option maxRecDepth 1000000 in
theorem ok220 : SmOK rgT sm220 := vfy_sp (T := []) (AN := an220) (g := 142) (fun _ h => absurd h List.not_mem_nil) (by decide +kernel)
set_option maxRecDepth 1000000 in
def an221 : List (Nat × List (Nat × An)) := [(227, [(4, ([((0, 2, 0, (0, [])), (-1), 11), ((0, 3, 0, (0, [])), 0, 2147483647)], ([((-1), [(0, (-1)), (1001, 1)])], [], []), [], [], [], 1, true))])]
set_option maxRecDepth 1000000 in
theorem ok221 : SmOK rgT sm221 := vfy_sp (T := []) (AN := an221) (g := 179) (fun _ h => absurd h List.not_mem_nil) (by decide +kernel)
set_option maxRecDepth 1000000 in
def an222 : List (Nat × List (Nat × An)) := []
set_option maxRecDepth 1000000 in
theorem ok222 : SmOK rgT sm222 := vfy_sp (T := [sm221]) (AN := an222) (g := 102) (List.forall_mem_cons.mpr ⟨ok221, fun _ h => absurd h List.not_mem_nil⟩) (by decide +kernel)
set_option maxRecDepth 1000000 in
def an224 : List (Nat × List (Nat × An)) := []
set_option maxRecDepth 1000000 in
theorem ok224 : SmOK rgT sm224 := vfy_sp (T := [sm221, sm_worked]) (AN := an224) (g := 571) (List.forall_mem_cons.mpr ⟨ok221, List.forall_mem_cons.mpr ⟨ok_worked, fun _ h => absurd h List.not_mem_nil⟩⟩) (by decide +kernel)
set_option maxRecDepth 1000000 in
def an225 : List (Nat × List (Nat × An)) := []
set_option maxRecDepth 1000000 in
theorem ok225 : SmOK rgT sm225 := vfy_sp (T := [sm224]) (AN := an225) (g := 95) (List.forall_mem_cons.mpr ⟨ok224, fun _ h => absurd h List.not_mem_nil⟩) (by decide +kernel)
set_option maxRecDepth 1000000 in
def an226 : List (Nat × List (Nat × An)) := []
set_option maxRecDepth 1000000 in
theorem ok226 : SmOK rgT sm226 := vfy_sp (T := [sm224]) (AN := an226) (g := 625) (List.forall_mem_cons.mpr ⟨ok224, fun _ h => absurd h List.not_mem_nil⟩) (by decide +kernel)
set_option maxRecDepth 1000000 in
def an227 : List (Nat × List (Nat × An)) := []
set_option maxRecDepth 1000000 in
theorem ok227 : SmOK rgT sm227 := vfy_sp (T := [sm226]) (AN := an227) (g := 368) (List.forall_mem_cons.mpr ⟨ok226, fun _ h => absurd h List.not_mem_nil⟩) (by decide +kernel)
set_option maxRecDepth 1000000 in
def an228 : List (Nat × List (Nat × An)) := []
set_option maxRecDepth 1000000 in
theorem ok228 : SmOK rgT sm228 := vfy_sp (T := [sm226]) (AN := an228) (g := 173) (List.forall_mem_cons.mpr ⟨ok226, fun _ h => absurd h List.not_mem_nil⟩) (by decide +kernel)
set_option maxRecDepth 1000000 in
def an229 : List (Nat × List (Nat × An)) := []
set_option maxRecDepth 1000000 in
theorem ok229 : SmOK rgT sm229 := vfy_sp (T := [sm224]) (AN := an229) (g := 338) (List.forall_mem_cons.mpr ⟨ok224, fun _ h => absurd h List.not_mem_nil⟩) (by decide +kernel)
set_option maxRecDepth 1000000 in
def an230 : List (Nat × List (Nat × An)) := []
set_option maxRecDepth 1000000 in
theorem ok230 : SmOK rgT sm230 := vfy_sp (T := []) (AN := an230) (g := 227) (fun _ h => absurd h List.not_mem_nil) (by decide +kernel)
set_option maxRecDepth 1000000 in
def an231 : List (Nat × List (Nat × An)) := []
set_option maxRecDepth 1000000 in
theorem ok231 : SmOK rgT sm231 := vfy_sp (T := []) (AN := an231) (g := 170) (fun _ h => absurd h List.not_mem_nil) (by decide +kernel)
set_option maxRecDepth 1000000 in
def an232 : List (Nat × List (Nat × An)) := []
set_option maxRecDepth 1000000 in
theorem ok232 : SmOK rgT sm232 := vfy_sp (T := []) (AN := an232) (g := 159) (fun _ h => absurd h List.not_mem_nil) (by decide +kernel)
set_option maxRecDepth 1000000 in
def an233 : List (Nat × List (Nat × An)) := [(242, [(16, ([((0, 4, 0, (0, [])), 0, 2147483647), ((0, 3, 0, (0, [])), (-2147483648), 2147483647)], ([], [], []), [], [], [], 0, true))])]
set_option maxRecDepth 1000000 in
theorem ok233 : SmOK rgT sm233 := vfy_sp (T := []) (AN := an233) (g := 194) (fun _ h => absurd h List.not_mem_nil) (by decide +kernel)
set_option maxRecDepth 1000000 in
def an234 : List (Nat × List (Nat × An)) := []
set_option maxRecDepth 1000000 in
theorem ok234 : SmOK rgT sm234 := vfy_sp (T := [sm233]) (AN := an234) (g := 132) (List.forall_mem_cons.mpr ⟨ok233, fun _ h => absurd h List.not_mem_nil⟩) (by decide +kernel)
set_option maxRecDepth 1000000 in
def an235 : List (Nat × List (Nat × An)) := [(245, [(6, ([((0, 2, 0, (0, [])), (-1), 29), ((1, 7, 66, (0, [])), 0, 30)], ([], [], []), [(8, 66, (0, [(0, 1)]), (0, []))], [], [(0, 66, 16, 47), (0, 66, 306, 575)], 1, false))])]
set_option maxRecDepth 1000000 in
theorem ok235 : SmOK rgT sm235 := vfy_sp (T := [sm211]) (AN := an235) (g := 153) (List.forall_mem_cons.mpr ⟨ok211, fun _ h => absurd h List.not_mem_nil⟩) (by decide +kernel)
set_option maxRecDepth 1000000 in
def an236 : List (Nat × List (Nat × An)) := [(245, [(6, ([((0, 2, 0, (0, [])), (-1), 29), ((1, 7, 66, (0, [])), 0, 30)], ([], [], []), [(8, 66, (0, [(0, 1)]), (0, [])), (9, 320, (0, []), (0, [])), (9, 352, (0, []), (0, []))], [], [(0, 66, 16, 47), (0, 66, 306, 575)], 1, false))])]
set_option maxRecDepth 1000000 in
theorem ok236 : SmOK rgT sm236 := vfy_sp (T := [sm211]) (AN := an236) (g := 153) (List.forall_mem_cons.mpr ⟨ok211, fun _ h => absurd h List.not_mem_nil⟩) (by decide +kernel)
set_option maxRecDepth 1000000 in
def an237 : List (Nat × List (Nat × An)) := [(246, [(71, ([((0, 3, 0, (0, [])), 0, 2147483647)], ([], [], []), [], [], [], 0, true))])]
set_option maxRecDepth 1000000 in
theorem ok237 : SmOK rgT sm237 := vfy_sp (T := []) (AN := an237) (g := 297) (fun _ h => absurd h List.not_mem_nil) (by decide +kernel)
set_option maxRecDepth 1000000 in
def an238 : List (Nat × List (Nat × An)) := [(246, [(71, ([((0, 3, 0, (0, [])), 0, 2147483647)], ([], [], []), [(9, 320, (0, []), (0, [])), (9, 352, (0, []), (0, []))], [], [], 0, true))])]
set_option maxRecDepth 1000000 in
theorem ok238 : SmOK rgT sm238 := vfy_sp (T := []) (AN := an238) (g := 297) (fun _ h => absurd h List.not_mem_nil) (by decide +kernel)
set_option maxRecDepth 1000000 in
def an239 : List (Nat × List (Nat × An)) := [(247, [(2, ([((0, 1, 0, (0, [])), 0, 2147483647)], ([], [], []), [], [], [], 0, true)), (49, ([((0, 1, 0, (0, [])), 0, 2147483647)], ([], [], []), [], [], [], 0, true)), (72, ([((0, 1, 0, (0, [])), 0, 2147483647)], ([], [], []), [], [], [], 0, true)), (125, ([((0, 1, 0, (0, [])), 0, 2147483647)], ([], [], []), [], [], [], 0, true))])]
set_option maxRecDepth 1000000 in
theorem ok239 : SmOK rgT sm239 := vfy_sp (T := [sm237, sm235, sm233, sm224]) (AN := an239) (g := 662) (List.forall_mem_cons.mpr ⟨ok237, List.forall_mem_cons.mpr ⟨ok235, List.forall_mem_cons.mpr ⟨ok233, List.forall_mem_cons.mpr ⟨ok224, fun _ h => absurd h List.not_mem_nil⟩⟩⟩⟩) (by decide +kernel)
set_option maxRecDepth 1000000 in
def an240 : List (Nat × List (Nat × An)) := [(247, [(2, ([((0, 1, 0, (0, [])), 0, 2147483647)], ([], [], []), [(9, 320, (0, []), (0, [])), (9, 352, (0, []), (0, []))], [], [], 0, true)), (49, ([((0, 1, 0, (0, [])), 0, 2147483647)], ([], [], []), [(9, 320, (0, []), (0, [])), (9, 352, (0, []), (0, []))], [], [], 0, true)), (72, ([((0, 1, 0, (0, [])), 0, 2147483647)], ([], [], []), [(9, 320, (0, []), (0, [])), (9, 352, (0, []), (0, []))], [], [], 0, true)), (125, ([((0, 1, 0, (0, [])), 0, 2147483647)], ([], [], []), [(9, 320, (0, []), (0, [])), (9, 352, (0, []), (0, []))], [], [], 0, true))])]
set_option maxRecDepth 1000000 in
theorem ok240 : SmOK rgT sm240 := vfy_sp (T := [sm238, sm236, sm233, sm224]) (AN := an240) (g := 662) (List.forall_mem_cons.mpr ⟨ok238, List.forall_mem_cons.mpr ⟨ok236, List.forall_mem_cons.mpr ⟨ok233, List.forall_mem_cons.mpr ⟨ok224, fun _ h => absurd h List.not_mem_nil⟩⟩⟩⟩) (by decide +kernel)
set_option maxRecDepth 1000000 in
def an242 : List (Nat × List (Nat × An)) := [(248, [(34, ([((0, 2, 0, (0, [])), 0, 60), ((1, 0, 66, (0, [])), 0, 999)], ([(999, [(0, 1), (1, (-1)), (1000, (-1))])], [], []), [(9, 320, (0, []), (0, [])), (9, 352, (0, []), (0, []))], [], [(0, 66, 0, 0)], 0, true))])]
set_option maxRecDepth 1000000 in
theorem ok242 : SmOK rgT sm242 := vfy_sp (T := [sm240]) (AN := an242) (g := 113) (List.forall_mem_cons.mpr ⟨ok240, fun _ h => absurd h List.not_mem_nil⟩) (by decide +kernel)
set_option maxRecDepth 1000000 in
def an243 : List (Nat × List (Nat × An)) := []
set_option maxRecDepth 1000000 in
theorem ok243 : SmOK rgT sm243 := vfy_sp (T := []) (AN := an243) (g := 105) (fun _ h => absurd h List.not_mem_nil) (by decide +kernel)
set_option maxRecDepth 1000000 in
def an244 : List (Nat × List (Nat × An)) := [(253, [(71, ([((0, 4, 0, (0, [])), 0, 2147483647)], ([], [], []), [], [], [], 0, true))])]
set_option maxRecDepth 1000000 in
theorem ok244 : SmOK rgT sm244 := vfy_sp (T := []) (AN := an244) (g := 205) (fun _ h => absurd h List.not_mem_nil) (by decide +kernel)
set_option maxRecDepth 1000000 in
def an245 : List (Nat × List (Nat × An)) := []
set_option maxRecDepth 1000000 in
theorem ok245 : SmOK rgT sm245 := vfy_sp (T := []) (AN := an245) (g := 236) (fun _ h => absurd h List.not_mem_nil) (by decide +kernel)
set_option maxRecDepth 1000000 in
def an246 : List (Nat × List (Nat × An)) := []
set_option maxRecDepth 1000000 in
theorem ok246 : SmOK rgT sm246 := vfy_sp (T := []) (AN := an246) (g := 247) (fun _ h => absurd h List.not_mem_nil) (by decide +kernel)
