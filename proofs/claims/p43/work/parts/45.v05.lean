/-! Printed by wip/ai/tab.py. -/
set_option maxRecDepth 1000000 in
def an211 : List (Nat × List (Nat × An)) := []
set_option maxRecDepth 1000000 in
theorem ok211 : SmOK rgT sm211 := vfy_sp (T := []) (AN := an211) (g := 238) (fun _ h => absurd h List.not_mem_nil) (by decide +kernel)
set_option maxRecDepth 1000000 in
def an212 : List (Nat × List (Nat × An)) := [(197, [(50, ([((0, 6, 0, (0, [])), 0, 2147483647)], ([], [], []), [], [], [], 0, true))])]
set_option maxRecDepth 1000000 in
theorem ok212 : SmOK rgT sm212 := vfy_sp (T := [sm211]) (AN := an212) (g := 198) (List.forall_mem_cons.mpr ⟨ok211, fun _ h => absurd h List.not_mem_nil⟩) (by decide +kernel)
set_option maxRecDepth 1000000 in
def an213 : List (Nat × List (Nat × An)) := []
set_option maxRecDepth 1000000 in
theorem ok213 : SmOK rgT sm213 := vfy_sp (T := []) (AN := an213) (g := 178) (fun _ h => absurd h List.not_mem_nil) (by decide +kernel)
set_option maxRecDepth 1000000 in
def an214 : List (Nat × List (Nat × An)) := []
set_option maxRecDepth 1000000 in
theorem ok214 : SmOK rgT sm214 := vfy_sp (T := []) (AN := an214) (g := 312) (fun _ h => absurd h List.not_mem_nil) (by decide +kernel)
set_option maxRecDepth 1000000 in
def an215 : List (Nat × List (Nat × An)) := [(200, [(183, ([((0, 7, 0, (0, [])), 0, 2147483647), ((0, 6, 0, (0, [])), (-2147483648), 2147483647)], ([], [], []), [], [], [], 0, true))])]
set_option maxRecDepth 1000000 in
theorem ok215 : SmOK rgT sm215 := vfy_sp (T := []) (AN := an215) (g := 813) (fun _ h => absurd h List.not_mem_nil) (by decide +kernel)
set_option maxRecDepth 1000000 in
def an216 : List (Nat × List (Nat × An)) := []
set_option maxRecDepth 1000000 in
theorem ok216 : SmOK rgT sm216 := vfy_sp (T := []) (AN := an216) (g := 214) (fun _ h => absurd h List.not_mem_nil) (by decide +kernel)
set_option maxRecDepth 1000000 in
def an217 : List (Nat × List (Nat × An)) := [(202, [(38, ([((0, 5, 0, (0, [])), 0, 2147483647), ((0, 3, 0, (0, [])), (-2147483648), 2147483647), ((0, 4, 0, (0, [])), (-2147483648), 2147483647)], ([], [], []), [], [], [], 0, true))])]
set_option maxRecDepth 1000000 in
theorem ok217 : SmOK rgT sm217 := vfy_sp (T := [sm198]) (AN := an217) (g := 636) (List.forall_mem_cons.mpr ⟨ok198, fun _ h => absurd h List.not_mem_nil⟩) (by decide +kernel)
set_option maxRecDepth 1000000 in
def an218 : List (Nat × List (Nat × An)) := [(203, [(15, ([((0, 2, 0, (0, [])), (-2147483648), 2147483647), ((0, 3, 0, (0, [])), 0, 2147483647)], ([], [], []), [], [], [], 1, true))])]
set_option maxRecDepth 1000000 in
theorem ok218 : SmOK rgT sm218 := vfy_sp (T := []) (AN := an218) (g := 177) (fun _ h => absurd h List.not_mem_nil) (by decide +kernel)
set_option maxRecDepth 1000000 in
def an219 : List (Nat × List (Nat × An)) := []
set_option maxRecDepth 1000000 in
theorem ok219 : SmOK rgT sm219 := vfy_sp (T := []) (AN := an219) (g := 155) (fun _ h => absurd h List.not_mem_nil) (by decide +kernel)
set_option maxRecDepth 1000000 in
def an220 : List (Nat × List (Nat × An)) := [(205, [(4, ([((0, 2, 0, (0, [])), (-1), 29), ((0, 3, 0, (0, [])), 0, 2147483647)], ([], [], []), [(8, 66, (0, [(0, 1)]), (0, []))], [], [], 1, true))])]
set_option maxRecDepth 1000000 in
theorem ok220 : SmOK rgT sm220 := vfy_sp (T := []) (AN := an220) (g := 217) (fun _ h => absurd h List.not_mem_nil) (by decide +kernel)
set_option maxRecDepth 1000000 in
def an221 : List (Nat × List (Nat × An)) := [(206, [(13, ([((0, 2, 0, (0, [])), 0, 2147483647)], ([], [], []), [], [], [], 0, true)), (34, ([((0, 2, 0, (0, [])), 0, 2147483647)], ([], [], []), [], [], [], 0, true)), (107, ([((0, 2, 0, (0, [])), (-2147483648), 2147483647), ((0, 3, 0, (0, [])), (-2147483648), 2147483647), ((0, 4, 0, (0, [])), 0, 2147483647)], ([], [], []), [], [], [], 2, true)), (124, ([((0, 5, 0, (0, [])), 0, 2147483647), ((0, 2, 0, (0, [])), (-2147483648), 2147483647)], ([], [], []), [], [], [], 0, true)), (268, ([((0, 5, 0, (0, [])), (-1), 29), ((0, 2, 0, (0, [])), (-2147483648), 2147483647), ((1, 7, 66, (0, [])), 0, 30)], ([], [], []), [(8, 66, (0, [(0, 1)]), (0, []))], [], [(0, 75, 0, 29)], 2, false)), (353, ([((0, 4, 0, (0, [])), 0, 2147483647)], ([], [], []), [], [], [], 0, true))])]
set_option maxRecDepth 1000000 in
theorem ok221 : SmOK rgT sm221 := vfy_sp (T := [sm220]) (AN := an221) (g := 461) (List.forall_mem_cons.mpr ⟨ok220, fun _ h => absurd h List.not_mem_nil⟩) (by decide +kernel)
set_option maxRecDepth 1000000 in
def an222 : List (Nat × List (Nat × An)) := []
set_option maxRecDepth 1000000 in
theorem ok222 : SmOK rgT sm222 := vfy_sp (T := []) (AN := an222) (g := 492) (fun _ h => absurd h List.not_mem_nil) (by decide +kernel)
set_option maxRecDepth 1000000 in
def an223 : List (Nat × List (Nat × An)) := []
set_option maxRecDepth 1000000 in
theorem ok223 : SmOK rgT sm223 := vfy_sp (T := []) (AN := an223) (g := 94) (fun _ h => absurd h List.not_mem_nil) (by decide +kernel)
set_option maxRecDepth 1000000 in
def an224 : List (Nat × List (Nat × An)) := []
set_option maxRecDepth 1000000 in
theorem ok224 : SmOK rgT sm224 := vfy_sp (T := []) (AN := an224) (g := 278) (fun _ h => absurd h List.not_mem_nil) (by decide +kernel)
set_option maxRecDepth 1000000 in
def an225 : List (Nat × List (Nat × An)) := []
set_option maxRecDepth 1000000 in
theorem ok225 : SmOK rgT sm225 := vfy_sp (T := []) (AN := an225) (g := 356) (fun _ h => absurd h List.not_mem_nil) (by decide +kernel)
set_option maxRecDepth 1000000 in
def an226 : List (Nat × List (Nat × An)) := []
set_option maxRecDepth 1000000 in
theorem ok226 : SmOK rgT sm226 := vfy_sp (T := [sm225, sm224]) (AN := an226) (g := 232) (List.forall_mem_cons.mpr ⟨ok225, List.forall_mem_cons.mpr ⟨ok224, fun _ h => absurd h List.not_mem_nil⟩⟩) (by decide +kernel)
set_option maxRecDepth 1000000 in
def an227 : List (Nat × List (Nat × An)) := []
set_option maxRecDepth 1000000 in
theorem ok227 : SmOK rgT sm227 := vfy_sp (T := [sm226, sm20, sm14, sm8, sm7]) (AN := an227) (g := 415) (List.forall_mem_cons.mpr ⟨ok226, List.forall_mem_cons.mpr ⟨ok20, List.forall_mem_cons.mpr ⟨ok14, List.forall_mem_cons.mpr ⟨ok8, List.forall_mem_cons.mpr ⟨ok7, fun _ h => absurd h List.not_mem_nil⟩⟩⟩⟩⟩) (by decide +kernel)
set_option maxRecDepth 1000000 in
def an228 : List (Nat × List (Nat × An)) := []
set_option maxRecDepth 1000000 in
theorem ok228 : SmOK rgT sm228 := vfy_sp (T := [sm227]) (AN := an228) (g := 211) (List.forall_mem_cons.mpr ⟨ok227, fun _ h => absurd h List.not_mem_nil⟩) (by decide +kernel)
set_option maxRecDepth 1000000 in
def an229 : List (Nat × List (Nat × An)) := []
set_option maxRecDepth 1000000 in
theorem ok229 : SmOK rgT sm229 := vfy_sp (T := []) (AN := an229) (g := 142) (fun _ h => absurd h List.not_mem_nil) (by decide +kernel)
set_option maxRecDepth 1000000 in
def an230 : List (Nat × List (Nat × An)) := [(227, [(4, ([((0, 2, 0, (0, [])), (-1), 11), ((0, 3, 0, (0, [])), 0, 2147483647)], ([((-1), [(0, (-1)), (1001, 1)])], [], []), [], [], [], 1, true))])]
set_option maxRecDepth 1000000 in
theorem ok230 : SmOK rgT sm230 := vfy_sp (T := []) (AN := an230) (g := 188) (fun _ h => absurd h List.not_mem_nil) (by decide +kernel)
set_option maxRecDepth 1000000 in
def an231 : List (Nat × List (Nat × An)) := []
set_option maxRecDepth 1000000 in
theorem ok231 : SmOK rgT sm231 := vfy_sp (T := [sm230]) (AN := an231) (g := 102) (List.forall_mem_cons.mpr ⟨ok230, fun _ h => absurd h List.not_mem_nil⟩) (by decide +kernel)
set_option maxRecDepth 1000000 in
def an233 : List (Nat × List (Nat × An)) := []
set_option maxRecDepth 1000000 in
theorem ok233 : SmOK rgT sm233 := vfy_sp (T := [sm230, sm_worked]) (AN := an233) (g := 574) (List.forall_mem_cons.mpr ⟨ok230, List.forall_mem_cons.mpr ⟨ok_worked, fun _ h => absurd h List.not_mem_nil⟩⟩) (by decide +kernel)
set_option maxRecDepth 1000000 in
def an234 : List (Nat × List (Nat × An)) := []
set_option maxRecDepth 1000000 in
theorem ok234 : SmOK rgT sm234 := vfy_sp (T := [sm233]) (AN := an234) (g := 95) (List.forall_mem_cons.mpr ⟨ok233, fun _ h => absurd h List.not_mem_nil⟩) (by decide +kernel)
set_option maxRecDepth 1000000 in
def an235 : List (Nat × List (Nat × An)) := []
set_option maxRecDepth 1000000 in
theorem ok235 : SmOK rgT sm235 := vfy_sp (T := [sm233]) (AN := an235) (g := 625) (List.forall_mem_cons.mpr ⟨ok233, fun _ h => absurd h List.not_mem_nil⟩) (by decide +kernel)
set_option maxRecDepth 1000000 in
def an236 : List (Nat × List (Nat × An)) := []
set_option maxRecDepth 1000000 in
theorem ok236 : SmOK rgT sm236 := vfy_sp (T := [sm235]) (AN := an236) (g := 612) (List.forall_mem_cons.mpr ⟨ok235, fun _ h => absurd h List.not_mem_nil⟩) (by decide +kernel)
