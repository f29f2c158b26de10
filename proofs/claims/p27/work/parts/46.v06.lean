/-! Printed by wip/ai/tab.py. -/
set_option maxRecDepth 1000000 in
def an198 : List (Nat × List (Nat × An)) := [(203, [(15, ([((0, 3, 0, (0, [])), 0, 2147483647), ((0, 2, 0, (0, [])), (-2147483648), 2147483647)], ([], [], []), [], [], [], 0, true))])]
set_option maxRecDepth 1000000 in
theorem ok198 : SmOK rgT sm198 := vfy_sp (T := []) (AN := an198) (g := 165) (fun _ h => absurd h List.not_mem_nil) (by decide +kernel)
set_option maxRecDepth 1000000 in
def an199 : List (Nat × List (Nat × An)) := []
set_option maxRecDepth 1000000 in
theorem ok199 : SmOK rgT sm199 := vfy_sp (T := []) (AN := an199) (g := 152) (fun _ h => absurd h List.not_mem_nil) (by decide +kernel)
set_option maxRecDepth 1000000 in
def an200 : List (Nat × List (Nat × An)) := [(205, [(4, ([((0, 2, 0, (0, [])), (-1), 29), ((0, 3, 0, (0, [])), 0, 2147483647)], ([], [], []), [(8, 66, (0, [(0, 1)]), (0, []))], [], [], 1, true))])]
set_option maxRecDepth 1000000 in
theorem ok200 : SmOK rgT sm200 := vfy_sp (T := []) (AN := an200) (g := 199) (fun _ h => absurd h List.not_mem_nil) (by decide +kernel)
set_option maxRecDepth 1000000 in
def an201 : List (Nat × List (Nat × An)) := [(206, [(13, ([((0, 2, 0, (0, [])), 0, 2147483647)], ([], [], []), [], [], [], 0, true)), (34, ([((0, 2, 0, (0, [])), 0, 2147483647)], ([], [], []), [], [], [], 0, true)), (107, ([((0, 2, 0, (0, [])), (-2147483648), 2147483647), ((0, 3, 0, (0, [])), (-2147483648), 2147483647), ((0, 4, 0, (0, [])), 0, 2147483647)], ([], [], []), [], [], [], 2, true)), (124, ([((0, 5, 0, (0, [])), 0, 2147483647), ((0, 2, 0, (0, [])), (-2147483648), 2147483647)], ([], [], []), [], [], [], 0, true)), (268, ([((0, 5, 0, (0, [])), (-1), 29), ((0, 2, 0, (0, [])), (-2147483648), 2147483647), ((1, 7, 66, (0, [])), 0, 30)], ([], [], []), [(8, 66, (0, [(0, 1)]), (0, []))], [], [(0, 75, 0, 29)], 2, false)), (353, ([((0, 4, 0, (0, [])), 0, 2147483647)], ([], [], []), [], [], [], 0, true))])]
set_option maxRecDepth 1000000 in
theorem ok201 : SmOK rgT sm201 := vfy_sp (T := [sm200]) (AN := an201) (g := 428) (List.forall_mem_cons.mpr ⟨ok200, fun _ h => absurd h List.not_mem_nil⟩) (by decide +kernel)
set_option maxRecDepth 1000000 in
def an203 : List (Nat × List (Nat × An)) := [(227, [(4, ([((0, 2, 0, (0, [])), (-1), 11), ((0, 3, 0, (0, [])), 0, 2147483647)], ([((-1), [(0, (-1)), (1001, 1)])], [], []), [], [], [], 1, true))])]
set_option maxRecDepth 1000000 in
theorem ok203 : SmOK rgT sm203 := vfy_sp (T := []) (AN := an203) (g := 179) (fun _ h => absurd h List.not_mem_nil) (by decide +kernel)
set_option maxRecDepth 1000000 in
def an204 : List (Nat × List (Nat × An)) := []
set_option maxRecDepth 1000000 in
theorem ok204 : SmOK rgT sm204 := vfy_sp (T := [sm203]) (AN := an204) (g := 102) (List.forall_mem_cons.mpr ⟨ok203, fun _ h => absurd h List.not_mem_nil⟩) (by decide +kernel)
set_option maxRecDepth 1000000 in
def an206 : List (Nat × List (Nat × An)) := []
set_option maxRecDepth 1000000 in
theorem ok206 : SmOK rgT sm206 := vfy_sp (T := [sm203, sm_worked]) (AN := an206) (g := 571) (List.forall_mem_cons.mpr ⟨ok203, List.forall_mem_cons.mpr ⟨ok_worked, fun _ h => absurd h List.not_mem_nil⟩⟩) (by decide +kernel)
set_option maxRecDepth 1000000 in
def an207 : List (Nat × List (Nat × An)) := []
set_option maxRecDepth 1000000 in
theorem ok207 : SmOK rgT sm207 := vfy_sp (T := [sm206]) (AN := an207) (g := 95) (List.forall_mem_cons.mpr ⟨ok206, fun _ h => absurd h List.not_mem_nil⟩) (by decide +kernel)
set_option maxRecDepth 1000000 in
def an208 : List (Nat × List (Nat × An)) := []
set_option maxRecDepth 1000000 in
theorem ok208 : SmOK rgT sm208 := vfy_sp (T := [sm206]) (AN := an208) (g := 625) (List.forall_mem_cons.mpr ⟨ok206, fun _ h => absurd h List.not_mem_nil⟩) (by decide +kernel)
set_option maxRecDepth 1000000 in
def an209 : List (Nat × List (Nat × An)) := []
set_option maxRecDepth 1000000 in
theorem ok209 : SmOK rgT sm209 := vfy_sp (T := [sm208]) (AN := an209) (g := 368) (List.forall_mem_cons.mpr ⟨ok208, fun _ h => absurd h List.not_mem_nil⟩) (by decide +kernel)
set_option maxRecDepth 1000000 in
def an210 : List (Nat × List (Nat × An)) := []
set_option maxRecDepth 1000000 in
theorem ok210 : SmOK rgT sm210 := vfy_sp (T := [sm208]) (AN := an210) (g := 173) (List.forall_mem_cons.mpr ⟨ok208, fun _ h => absurd h List.not_mem_nil⟩) (by decide +kernel)
set_option maxRecDepth 1000000 in
def an211 : List (Nat × List (Nat × An)) := []
set_option maxRecDepth 1000000 in
theorem ok211 : SmOK rgT sm211 := vfy_sp (T := [sm206]) (AN := an211) (g := 338) (List.forall_mem_cons.mpr ⟨ok206, fun _ h => absurd h List.not_mem_nil⟩) (by decide +kernel)
set_option maxRecDepth 1000000 in
def an212 : List (Nat × List (Nat × An)) := []
set_option maxRecDepth 1000000 in
theorem ok212 : SmOK rgT sm212 := vfy_sp (T := []) (AN := an212) (g := 227) (fun _ h => absurd h List.not_mem_nil) (by decide +kernel)
set_option maxRecDepth 1000000 in
def an213 : List (Nat × List (Nat × An)) := []
set_option maxRecDepth 1000000 in
theorem ok213 : SmOK rgT sm213 := vfy_sp (T := []) (AN := an213) (g := 170) (fun _ h => absurd h List.not_mem_nil) (by decide +kernel)
set_option maxRecDepth 1000000 in
def an214 : List (Nat × List (Nat × An)) := []
set_option maxRecDepth 1000000 in
theorem ok214 : SmOK rgT sm214 := vfy_sp (T := []) (AN := an214) (g := 159) (fun _ h => absurd h List.not_mem_nil) (by decide +kernel)
set_option maxRecDepth 1000000 in
def an215 : List (Nat × List (Nat × An)) := [(242, [(16, ([((0, 4, 0, (0, [])), 0, 2147483647), ((0, 3, 0, (0, [])), (-2147483648), 2147483647)], ([], [], []), [], [], [], 0, true))])]
set_option maxRecDepth 1000000 in
theorem ok215 : SmOK rgT sm215 := vfy_sp (T := []) (AN := an215) (g := 194) (fun _ h => absurd h List.not_mem_nil) (by decide +kernel)
set_option maxRecDepth 1000000 in
def an216 : List (Nat × List (Nat × An)) := []
set_option maxRecDepth 1000000 in
theorem ok216 : SmOK rgT sm216 := vfy_sp (T := [sm215]) (AN := an216) (g := 132) (List.forall_mem_cons.mpr ⟨ok215, fun _ h => absurd h List.not_mem_nil⟩) (by decide +kernel)
set_option maxRecDepth 1000000 in
def an217 : List (Nat × List (Nat × An)) := [(245, [(6, ([((0, 2, 0, (0, [])), (-1), 29), ((1, 7, 66, (0, [])), 0, 30)], ([], [], []), [(8, 66, (0, [(0, 1)]), (0, []))], [], [(0, 66, 16, 47), (0, 66, 306, 575)], 1, false))])]
set_option maxRecDepth 1000000 in
theorem ok217 : SmOK rgT sm217 := vfy_sp (T := [sm200]) (AN := an217) (g := 153) (List.forall_mem_cons.mpr ⟨ok200, fun _ h => absurd h List.not_mem_nil⟩) (by decide +kernel)
set_option maxRecDepth 1000000 in
def an218 : List (Nat × List (Nat × An)) := [(246, [(71, ([((0, 3, 0, (0, [])), 0, 2147483647)], ([], [], []), [], [], [], 0, true))])]
set_option maxRecDepth 1000000 in
theorem ok218 : SmOK rgT sm218 := vfy_sp (T := []) (AN := an218) (g := 297) (fun _ h => absurd h List.not_mem_nil) (by decide +kernel)
set_option maxRecDepth 1000000 in
def an219 : List (Nat × List (Nat × An)) := [(247, [(2, ([((0, 1, 0, (0, [])), 0, 2147483647)], ([], [], []), [], [], [], 0, true)), (49, ([((0, 1, 0, (0, [])), 0, 2147483647)], ([], [], []), [], [], [], 0, true)), (72, ([((0, 1, 0, (0, [])), 0, 2147483647)], ([], [], []), [], [], [], 0, true)), (125, ([((0, 1, 0, (0, [])), 0, 2147483647)], ([], [], []), [], [], [], 0, true))])]
set_option maxRecDepth 1000000 in
theorem ok219 : SmOK rgT sm219 := vfy_sp (T := [sm218, sm217, sm215, sm206]) (AN := an219) (g := 662) (List.forall_mem_cons.mpr ⟨ok218, List.forall_mem_cons.mpr ⟨ok217, List.forall_mem_cons.mpr ⟨ok215, List.forall_mem_cons.mpr ⟨ok206, fun _ h => absurd h List.not_mem_nil⟩⟩⟩⟩) (by decide +kernel)
set_option maxRecDepth 1000000 in
def an220 : List (Nat × List (Nat × An)) := [(248, [(34, ([((0, 2, 0, (0, [])), 0, 60), ((1, 0, 66, (0, [])), 0, 999)], ([(999, [(0, 1), (1, (-1)), (1000, (-1))])], [], []), [], [], [(0, 66, 0, 0)], 0, true))])]
set_option maxRecDepth 1000000 in
theorem ok220 : SmOK rgT sm220 := vfy_sp (T := [sm219]) (AN := an220) (g := 113) (List.forall_mem_cons.mpr ⟨ok219, fun _ h => absurd h List.not_mem_nil⟩) (by decide +kernel)
set_option maxRecDepth 1000000 in
def an221 : List (Nat × List (Nat × An)) := []
set_option maxRecDepth 1000000 in
theorem ok221 : SmOK rgT sm221 := vfy_sp (T := []) (AN := an221) (g := 105) (fun _ h => absurd h List.not_mem_nil) (by decide +kernel)
set_option maxRecDepth 1000000 in
def an222 : List (Nat × List (Nat × An)) := [(253, [(71, ([((0, 4, 0, (0, [])), 0, 2147483647)], ([], [], []), [], [], [], 0, true))])]
set_option maxRecDepth 1000000 in
theorem ok222 : SmOK rgT sm222 := vfy_sp (T := []) (AN := an222) (g := 205) (fun _ h => absurd h List.not_mem_nil) (by decide +kernel)
set_option maxRecDepth 1000000 in
def an223 : List (Nat × List (Nat × An)) := []
set_option maxRecDepth 1000000 in
theorem ok223 : SmOK rgT sm223 := vfy_sp (T := []) (AN := an223) (g := 236) (fun _ h => absurd h List.not_mem_nil) (by decide +kernel)
set_option maxRecDepth 1000000 in
def an224 : List (Nat × List (Nat × An)) := []
set_option maxRecDepth 1000000 in
theorem ok224 : SmOK rgT sm224 := vfy_sp (T := []) (AN := an224) (g := 247) (fun _ h => absurd h List.not_mem_nil) (by decide +kernel)
set_option maxRecDepth 1000000 in
def an225 : List (Nat × List (Nat × An)) := [(257, [(113, ([((0, 6, 0, (0, [])), 0, 2147483647)], ([], [], []), [], [], [], 0, true)), (150, ([((0, 6, 0, (0, [])), 0, 2147483647)], ([], [], []), [], [], [], 0, true))])]
set_option maxRecDepth 1000000 in
theorem ok225 : SmOK rgT sm225 := vfy_sp (T := []) (AN := an225) (g := 237) (fun _ h => absurd h List.not_mem_nil) (by decide +kernel)
set_option maxRecDepth 1000000 in
def an226 : List (Nat × List (Nat × An)) := [(258, [(14, ([((0, 4, 0, (0, [])), (-1), 3), ((0, 2, 0, (0, [])), (-1), 3)], ([], [], []), [], [], [], 0, false)), (45, ([((0, 4, 0, (0, [])), 0, 2147483647), ((0, 3, 0, (0, [])), (-2147483648), 2147483647)], ([], [], []), [], [], [], 0, true))])]
set_option maxRecDepth 1000000 in
theorem ok226 : SmOK rgT sm226 := vfy_sp (T := []) (AN := an226) (g := 285) (fun _ h => absurd h List.not_mem_nil) (by decide +kernel)
set_option maxRecDepth 1000000 in
def an227 : List (Nat × List (Nat × An)) := []
set_option maxRecDepth 1000000 in
theorem ok227 : SmOK rgT sm227 := vfy_sp (T := []) (AN := an227) (g := 81) (fun _ h => absurd h List.not_mem_nil) (by decide +kernel)
set_option maxRecDepth 1000000 in
def an229 : List (Nat × List (Nat × An)) := [(261, [(61, ([((0, 3, 0, (0, [])), 0, 30), ((1, 0, 66, (0, [])), 0, 1999)], ([(999, [(0, 1), (1, (-1))])], [], []), [], [], [(0, 66, 0, 0)], 0, true)), (93, ([((0, 4, 0, (0, [])), 0, 2147483647)], ([], [], []), [], [], [(0, 83, 0, 58)], 0, true)), (138, ([((0, 4, 0, (0, [])), 0, 2147483647)], ([], [], []), [], [], [(0, 83, 1, 59)], 0, true)), (202, ([((0, 3, 0, (0, [])), 0, 2147483647)], ([], [], []), [], [], [], 0, true))])]
set_option maxRecDepth 1000000 in
theorem ok229 : SmOK rgT sm229 := vfy_sp (T := [sm219, sm_setAside_68_66r, sm_setAside_67_66, sm_setAside_66_68r]) (AN := an229) (g := 444) (List.forall_mem_cons.mpr ⟨ok219, List.forall_mem_cons.mpr ⟨ok_setAside_68_66r, List.forall_mem_cons.mpr ⟨ok_setAside_67_66, List.forall_mem_cons.mpr ⟨ok_setAside_66_68r, fun _ h => absurd h List.not_mem_nil⟩⟩⟩⟩) (by decide +kernel)
set_option maxRecDepth 1000000 in
def an230 : List (Nat × List (Nat × An)) := [(264, [(88, ([((0, 2, 0, (0, [])), (-2147483648), 2147483647), ((0, 3, 0, (0, [])), 0, 2147483647)], ([], [], []), [], [], [], 1, true)), (160, ([((0, 3, 0, (0, [])), 0, 2147483647), ((0, 2, 0, (0, [])), (-2147483648), 2147483647)], ([], [], []), [], [], [], 0, true)), (257, ([((0, 2, 0, (0, [])), (-2147483648), 2147483647), ((0, 3, 0, (0, [])), 0, 2147483647)], ([], [], []), [], [], [], 1, true))])]
set_option maxRecDepth 1000000 in
theorem ok230 : SmOK rgT sm230 := vfy_sp (T := [sm178]) (AN := an230) (g := 291) (List.forall_mem_cons.mpr ⟨ok178, fun _ h => absurd h List.not_mem_nil⟩) (by decide +kernel)
set_option maxRecDepth 1000000 in
def an232 : List (Nat × List (Nat × An)) := []
set_option maxRecDepth 1000000 in
theorem ok232 : SmOK rgT sm232 := vfy_sp (T := []) (AN := an232) (g := 216) (fun _ h => absurd h List.not_mem_nil) (by decide +kernel)
set_option maxRecDepth 1000000 in
def an233 : List (Nat × List (Nat × An)) := []
set_option maxRecDepth 1000000 in
theorem ok233 : SmOK rgT sm233 := vfy_sp (T := []) (AN := an233) (g := 216) (fun _ h => absurd h List.not_mem_nil) (by decide +kernel)
