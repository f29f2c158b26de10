/-! Printed by wip/ai/tab.py. -/
set_option maxRecDepth 1000000 in
def an224 : List (Nat × List (Nat × An)) := []
set_option maxRecDepth 1000000 in
theorem ok224 : SmOK rgT sm224 := vfy_sp (T := []) (AN := an224) (g := 492) (fun _ h => absurd h List.not_mem_nil) (by decide +kernel)
set_option maxRecDepth 1000000 in
def an225 : List (Nat × List (Nat × An)) := []
set_option maxRecDepth 1000000 in
theorem ok225 : SmOK rgT sm225 := vfy_sp (T := []) (AN := an225) (g := 94) (fun _ h => absurd h List.not_mem_nil) (by decide +kernel)
set_option maxRecDepth 1000000 in
def an226 : List (Nat × List (Nat × An)) := []
set_option maxRecDepth 1000000 in
theorem ok226 : SmOK rgT sm226 := vfy_sp (T := []) (AN := an226) (g := 244) (fun _ h => absurd h List.not_mem_nil) (by decide +kernel)
set_option maxRecDepth 1000000 in
def an227 : List (Nat × List (Nat × An)) := []
set_option maxRecDepth 1000000 in
theorem ok227 : SmOK rgT sm227 := vfy_sp (T := []) (AN := an227) (g := 310) (fun _ h => absurd h List.not_mem_nil) (by decide +kernel)
set_option maxRecDepth 1000000 in
def an228 : List (Nat × List (Nat × An)) := []
set_option maxRecDepth 1000000 in
theorem ok228 : SmOK rgT sm228 := vfy_sp (T := [sm227, sm226]) (AN := an228) (g := 232) (List.forall_mem_cons.mpr ⟨ok227, List.forall_mem_cons.mpr ⟨ok226, fun _ h => absurd h List.not_mem_nil⟩⟩) (by decide +kernel)
set_option maxRecDepth 1000000 in
def an229 : List (Nat × List (Nat × An)) := []
set_option maxRecDepth 1000000 in
theorem ok229 : SmOK rgT sm229 := vfy_sp (T := [sm228, sm20, sm14, sm8, sm7]) (AN := an229) (g := 415) (List.forall_mem_cons.mpr ⟨ok228, List.forall_mem_cons.mpr ⟨ok20, List.forall_mem_cons.mpr ⟨ok14, List.forall_mem_cons.mpr ⟨ok8, List.forall_mem_cons.mpr ⟨ok7, fun _ h => absurd h List.not_mem_nil⟩⟩⟩⟩⟩) (by decide +kernel)
set_option maxRecDepth 1000000 in
def an230 : List (Nat × List (Nat × An)) := []
set_option maxRecDepth 1000000 in
theorem ok230 : SmOK rgT sm230 := vfy_sp (T := [sm229]) (AN := an230) (g := 211) (List.forall_mem_cons.mpr ⟨ok229, fun _ h => absurd h List.not_mem_nil⟩) (by decide +kernel)
set_option maxRecDepth 1000000 in
def an231 : List (Nat × List (Nat × An)) := []
set_option maxRecDepth 1000000 in
theorem ok231 : SmOK rgT sm231 := vfy_sp (T := []) (AN := an231) (g := 142) (fun _ h => absurd h List.not_mem_nil) (by decide +kernel)
set_option maxRecDepth 1000000 in
def an232 : List (Nat × List (Nat × An)) := [(227, [(4, ([((0, 2, 0, (0, [])), (-1), 11), ((0, 3, 0, (0, [])), 0, 2147483647)], ([((-1), [(0, (-1)), (1001, 1)])], [], []), [], [], [], 1, true))])]
set_option maxRecDepth 1000000 in
theorem ok232 : SmOK rgT sm232 := vfy_sp (T := []) (AN := an232) (g := 179) (fun _ h => absurd h List.not_mem_nil) (by decide +kernel)
set_option maxRecDepth 1000000 in
def an233 : List (Nat × List (Nat × An)) := []
set_option maxRecDepth 1000000 in
theorem ok233 : SmOK rgT sm233 := vfy_sp (T := [sm232]) (AN := an233) (g := 102) (List.forall_mem_cons.mpr ⟨ok232, fun _ h => absurd h List.not_mem_nil⟩) (by decide +kernel)
set_option maxRecDepth 1000000 in
def an235 : List (Nat × List (Nat × An)) := []
set_option maxRecDepth 1000000 in
theorem ok235 : SmOK rgT sm235 := vfy_sp (T := [sm232, sm_worked]) (AN := an235) (g := 571) (List.forall_mem_cons.mpr ⟨ok232, List.forall_mem_cons.mpr ⟨ok_worked, fun _ h => absurd h List.not_mem_nil⟩⟩) (by decide +kernel)
set_option maxRecDepth 1000000 in
def an236 : List (Nat × List (Nat × An)) := []
set_option maxRecDepth 1000000 in
theorem ok236 : SmOK rgT sm236 := vfy_sp (T := [sm235]) (AN := an236) (g := 95) (List.forall_mem_cons.mpr ⟨ok235, fun _ h => absurd h List.not_mem_nil⟩) (by decide +kernel)
set_option maxRecDepth 1000000 in
def an237 : List (Nat × List (Nat × An)) := []
set_option maxRecDepth 1000000 in
theorem ok237 : SmOK rgT sm237 := vfy_sp (T := [sm235]) (AN := an237) (g := 625) (List.forall_mem_cons.mpr ⟨ok235, fun _ h => absurd h List.not_mem_nil⟩) (by decide +kernel)
set_option maxRecDepth 1000000 in
def an238 : List (Nat × List (Nat × An)) := []
set_option maxRecDepth 1000000 in
theorem ok238 : SmOK rgT sm238 := vfy_sp (T := [sm237]) (AN := an238) (g := 368) (List.forall_mem_cons.mpr ⟨ok237, fun _ h => absurd h List.not_mem_nil⟩) (by decide +kernel)
set_option maxRecDepth 1000000 in
def an239 : List (Nat × List (Nat × An)) := []
set_option maxRecDepth 1000000 in
theorem ok239 : SmOK rgT sm239 := vfy_sp (T := [sm237]) (AN := an239) (g := 173) (List.forall_mem_cons.mpr ⟨ok237, fun _ h => absurd h List.not_mem_nil⟩) (by decide +kernel)
set_option maxRecDepth 1000000 in
def an240 : List (Nat × List (Nat × An)) := []
set_option maxRecDepth 1000000 in
theorem ok240 : SmOK rgT sm240 := vfy_sp (T := [sm235]) (AN := an240) (g := 338) (List.forall_mem_cons.mpr ⟨ok235, fun _ h => absurd h List.not_mem_nil⟩) (by decide +kernel)
set_option maxRecDepth 1000000 in
def an241 : List (Nat × List (Nat × An)) := []
set_option maxRecDepth 1000000 in
theorem ok241 : SmOK rgT sm241 := vfy_sp (T := []) (AN := an241) (g := 227) (fun _ h => absurd h List.not_mem_nil) (by decide +kernel)
set_option maxRecDepth 1000000 in
def an242 : List (Nat × List (Nat × An)) := []
set_option maxRecDepth 1000000 in
theorem ok242 : SmOK rgT sm242 := vfy_sp (T := []) (AN := an242) (g := 170) (fun _ h => absurd h List.not_mem_nil) (by decide +kernel)
set_option maxRecDepth 1000000 in
def an243 : List (Nat × List (Nat × An)) := []
set_option maxRecDepth 1000000 in
theorem ok243 : SmOK rgT sm243 := vfy_sp (T := []) (AN := an243) (g := 159) (fun _ h => absurd h List.not_mem_nil) (by decide +kernel)
set_option maxRecDepth 1000000 in
def an244 : List (Nat × List (Nat × An)) := [(242, [(16, ([((0, 4, 0, (0, [])), 0, 2147483647), ((0, 3, 0, (0, [])), (-2147483648), 2147483647)], ([], [], []), [], [], [], 0, true))])]
set_option maxRecDepth 1000000 in
theorem ok244 : SmOK rgT sm244 := vfy_sp (T := []) (AN := an244) (g := 194) (fun _ h => absurd h List.not_mem_nil) (by decide +kernel)
set_option maxRecDepth 1000000 in
def an245 : List (Nat × List (Nat × An)) := []
set_option maxRecDepth 1000000 in
theorem ok245 : SmOK rgT sm245 := vfy_sp (T := [sm244]) (AN := an245) (g := 132) (List.forall_mem_cons.mpr ⟨ok244, fun _ h => absurd h List.not_mem_nil⟩) (by decide +kernel)
set_option maxRecDepth 1000000 in
def an246 : List (Nat × List (Nat × An)) := [(245, [(6, ([((0, 2, 0, (0, [])), (-1), 29), ((1, 7, 66, (0, [])), 0, 30)], ([], [], []), [(8, 66, (0, [(0, 1)]), (0, []))], [], [(0, 66, 16, 47), (0, 66, 306, 575)], 1, false))])]
set_option maxRecDepth 1000000 in
theorem ok246 : SmOK rgT sm246 := vfy_sp (T := [sm222]) (AN := an246) (g := 153) (List.forall_mem_cons.mpr ⟨ok222, fun _ h => absurd h List.not_mem_nil⟩) (by decide +kernel)
set_option maxRecDepth 1000000 in
def an247 : List (Nat × List (Nat × An)) := [(246, [(71, ([((0, 3, 0, (0, [])), 0, 2147483647)], ([], [], []), [], [], [], 0, true))])]
set_option maxRecDepth 1000000 in
theorem ok247 : SmOK rgT sm247 := vfy_sp (T := []) (AN := an247) (g := 297) (fun _ h => absurd h List.not_mem_nil) (by decide +kernel)
set_option maxRecDepth 1000000 in
def an248 : List (Nat × List (Nat × An)) := [(247, [(2, ([((0, 1, 0, (0, [])), 0, 2147483647)], ([], [], []), [], [], [], 0, true)), (49, ([((0, 1, 0, (0, [])), 0, 2147483647)], ([], [], []), [], [], [], 0, true)), (72, ([((0, 1, 0, (0, [])), 0, 2147483647)], ([], [], []), [], [], [], 0, true)), (125, ([((0, 1, 0, (0, [])), 0, 2147483647)], ([], [], []), [], [], [], 0, true))])]
set_option maxRecDepth 1000000 in
theorem ok248 : SmOK rgT sm248 := vfy_sp (T := [sm247, sm246, sm244, sm235]) (AN := an248) (g := 662) (List.forall_mem_cons.mpr ⟨ok247, List.forall_mem_cons.mpr ⟨ok246, List.forall_mem_cons.mpr ⟨ok244, List.forall_mem_cons.mpr ⟨ok235, fun _ h => absurd h List.not_mem_nil⟩⟩⟩⟩) (by decide +kernel)
set_option maxRecDepth 1000000 in
def an249 : List (Nat × List (Nat × An)) := [(248, [(34, ([((0, 2, 0, (0, [])), 0, 60), ((1, 0, 66, (0, [])), 0, 999)], ([(999, [(0, 1), (1, (-1)), (1000, (-1))])], [], []), [], [], [(0, 66, 0, 0)], 0, true))])]
set_option maxRecDepth 1000000 in
theorem ok249 : SmOK rgT sm249 := vfy_sp (T := [sm248]) (AN := an249) (g := 113) (List.forall_mem_cons.mpr ⟨ok248, fun _ h => absurd h List.not_mem_nil⟩) (by decide +kernel)
set_option maxRecDepth 1000000 in
def an250 : List (Nat × List (Nat × An)) := []
set_option maxRecDepth 1000000 in
theorem ok250 : SmOK rgT sm250 := vfy_sp (T := []) (AN := an250) (g := 105) (fun _ h => absurd h List.not_mem_nil) (by decide +kernel)
set_option maxRecDepth 1000000 in
def an251 : List (Nat × List (Nat × An)) := [(257, [(113, ([((0, 6, 0, (0, [])), 0, 2147483647)], ([], [], []), [], [], [], 0, true)), (150, ([((0, 6, 0, (0, [])), 0, 2147483647)], ([], [], []), [], [], [], 0, true))])]
set_option maxRecDepth 1000000 in
theorem ok251 : SmOK rgT sm251 := vfy_sp (T := []) (AN := an251) (g := 237) (fun _ h => absurd h List.not_mem_nil) (by decide +kernel)
set_option maxRecDepth 1000000 in
def an252 : List (Nat × List (Nat × An)) := [(258, [(14, ([((0, 4, 0, (0, [])), (-1), 3), ((0, 2, 0, (0, [])), (-1), 3)], ([], [], []), [], [], [], 0, false)), (45, ([((0, 4, 0, (0, [])), 0, 2147483647), ((0, 3, 0, (0, [])), (-2147483648), 2147483647)], ([], [], []), [], [], [], 0, true))])]
set_option maxRecDepth 1000000 in
theorem ok252 : SmOK rgT sm252 := vfy_sp (T := []) (AN := an252) (g := 285) (fun _ h => absurd h List.not_mem_nil) (by decide +kernel)
set_option maxRecDepth 1000000 in
def an253 : List (Nat × List (Nat × An)) := []
set_option maxRecDepth 1000000 in
theorem ok253 : SmOK rgT sm253 := vfy_sp (T := []) (AN := an253) (g := 81) (fun _ h => absurd h List.not_mem_nil) (by decide +kernel)
set_option maxRecDepth 1000000 in
def an254 : List (Nat × List (Nat × An)) := [(261, [(61, ([((0, 3, 0, (0, [])), 0, 30), ((1, 0, 66, (0, [])), 0, 1999)], ([(999, [(0, 1), (1, (-1))])], [], []), [], [], [(0, 66, 0, 0)], 0, true)), (93, ([((0, 4, 0, (0, [])), 0, 2147483647)], ([], [], []), [], [], [(0, 83, 0, 58)], 0, true)), (138, ([((0, 4, 0, (0, [])), 0, 2147483647)], ([], [], []), [], [], [(0, 83, 1, 59)], 0, true)), (202, ([((0, 3, 0, (0, [])), 0, 2147483647)], ([], [], []), [], [], [], 0, true))])]
set_option maxRecDepth 1000000 in
theorem ok254 : SmOK rgT sm254 := vfy_sp (T := [sm248, sm_setAside_68_66, sm_setAside_67_66, sm_setAside_66_68]) (AN := an254) (g := 444) (List.forall_mem_cons.mpr ⟨ok248, List.forall_mem_cons.mpr ⟨ok_setAside_68_66, List.forall_mem_cons.mpr ⟨ok_setAside_67_66, List.forall_mem_cons.mpr ⟨ok_setAside_66_68, fun _ h => absurd h List.not_mem_nil⟩⟩⟩⟩) (by decide +kernel)
