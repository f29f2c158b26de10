/-! Printed by wip/ai/tab.py. -/
set_option maxRecDepth 1000000 in
def an211 : List (Nat × List (Nat × An)) := []
set_option maxRecDepth 1000000 in
theorem ok211 : SmOK rgT sm211 := vfy_sp (T := []) (AN := an211) (g := 492) (fun _ h => absurd h List.not_mem_nil) (by decide +kernel)
set_option maxRecDepth 1000000 in
def an212 : List (Nat × List (Nat × An)) := []
set_option maxRecDepth 1000000 in
theorem ok212 : SmOK rgT sm212 := vfy_sp (T := []) (AN := an212) (g := 94) (fun _ h => absurd h List.not_mem_nil) (by decide +kernel)
set_option maxRecDepth 1000000 in
def an213 : List (Nat × List (Nat × An)) := []
set_option maxRecDepth 1000000 in
theorem ok213 : SmOK rgT sm213 := vfy_sp (T := []) (AN := an213) (g := 244) (fun _ h => absurd h List.not_mem_nil) (by decide +kernel)
set_option maxRecDepth 1000000 in
def an214 : List (Nat × List (Nat × An)) := []
set_option maxRecDepth 1000000 in
theorem ok214 : SmOK rgT sm214 := vfy_sp (T := []) (AN := an214) (g := 310) (fun _ h => absurd h List.not_mem_nil) (by decide +kernel)
set_option maxRecDepth 1000000 in
def an215 : List (Nat × List (Nat × An)) := []
set_option maxRecDepth 1000000 in
theorem ok215 : SmOK rgT sm215 := vfy_sp (T := [sm214, sm213]) (AN := an215) (g := 232) (List.forall_mem_cons.mpr ⟨ok214, List.forall_mem_cons.mpr ⟨ok213, fun _ h => absurd h List.not_mem_nil⟩⟩) (by decide +kernel)
set_option maxRecDepth 1000000 in
def an216 : List (Nat × List (Nat × An)) := []
set_option maxRecDepth 1000000 in
theorem ok216 : SmOK rgT sm216 := vfy_sp (T := [sm215, sm20, sm14, sm8, sm7]) (AN := an216) (g := 415) (List.forall_mem_cons.mpr ⟨ok215, List.forall_mem_cons.mpr ⟨ok20, List.forall_mem_cons.mpr ⟨ok14, List.forall_mem_cons.mpr ⟨ok8, List.forall_mem_cons.mpr ⟨ok7, fun _ h => absurd h List.not_mem_nil⟩⟩⟩⟩⟩) (by decide +kernel)
set_option maxRecDepth 1000000 in
def an217 : List (Nat × List (Nat × An)) := []
set_option maxRecDepth 1000000 in
theorem ok217 : SmOK rgT sm217 := vfy_sp (T := [sm216]) (AN := an217) (g := 211) (List.forall_mem_cons.mpr ⟨ok216, fun _ h => absurd h List.not_mem_nil⟩) (by decide +kernel)
set_option maxRecDepth 1000000 in
def an218 : List (Nat × List (Nat × An)) := []
set_option maxRecDepth 1000000 in
theorem ok218 : SmOK rgT sm218 := vfy_sp (T := []) (AN := an218) (g := 142) (fun _ h => absurd h List.not_mem_nil) (by decide +kernel)
set_option maxRecDepth 1000000 in
def an219 : List (Nat × List (Nat × An)) := []
set_option maxRecDepth 1000000 in
theorem ok219 : SmOK rgT sm219 := vfy_sp (T := [sm41]) (AN := an219) (g := 102) (List.forall_mem_cons.mpr ⟨ok41, fun _ h => absurd h List.not_mem_nil⟩) (by decide +kernel)
set_option maxRecDepth 1000000 in
def an221 : List (Nat × List (Nat × An)) := []
set_option maxRecDepth 1000000 in
theorem ok221 : SmOK rgT sm221 := vfy_sp (T := [sm42]) (AN := an221) (g := 95) (List.forall_mem_cons.mpr ⟨ok42, fun _ h => absurd h List.not_mem_nil⟩) (by decide +kernel)
set_option maxRecDepth 1000000 in
def an222 : List (Nat × List (Nat × An)) := []
set_option maxRecDepth 1000000 in
theorem ok222 : SmOK rgT sm222 := vfy_sp (T := [sm42]) (AN := an222) (g := 625) (List.forall_mem_cons.mpr ⟨ok42, fun _ h => absurd h List.not_mem_nil⟩) (by decide +kernel)
set_option maxRecDepth 1000000 in
def an223 : List (Nat × List (Nat × An)) := []
set_option maxRecDepth 1000000 in
theorem ok223 : SmOK rgT sm223 := vfy_sp (T := [sm222]) (AN := an223) (g := 368) (List.forall_mem_cons.mpr ⟨ok222, fun _ h => absurd h List.not_mem_nil⟩) (by decide +kernel)
set_option maxRecDepth 1000000 in
def an224 : List (Nat × List (Nat × An)) := []
set_option maxRecDepth 1000000 in
theorem ok224 : SmOK rgT sm224 := vfy_sp (T := [sm222]) (AN := an224) (g := 173) (List.forall_mem_cons.mpr ⟨ok222, fun _ h => absurd h List.not_mem_nil⟩) (by decide +kernel)
set_option maxRecDepth 1000000 in
def an225 : List (Nat × List (Nat × An)) := []
set_option maxRecDepth 1000000 in
theorem ok225 : SmOK rgT sm225 := vfy_sp (T := [sm42]) (AN := an225) (g := 338) (List.forall_mem_cons.mpr ⟨ok42, fun _ h => absurd h List.not_mem_nil⟩) (by decide +kernel)
set_option maxRecDepth 1000000 in
def an226 : List (Nat × List (Nat × An)) := []
set_option maxRecDepth 1000000 in
theorem ok226 : SmOK rgT sm226 := vfy_sp (T := []) (AN := an226) (g := 227) (fun _ h => absurd h List.not_mem_nil) (by decide +kernel)
set_option maxRecDepth 1000000 in
def an227 : List (Nat × List (Nat × An)) := []
set_option maxRecDepth 1000000 in
theorem ok227 : SmOK rgT sm227 := vfy_sp (T := []) (AN := an227) (g := 170) (fun _ h => absurd h List.not_mem_nil) (by decide +kernel)
set_option maxRecDepth 1000000 in
def an228 : List (Nat × List (Nat × An)) := []
set_option maxRecDepth 1000000 in
theorem ok228 : SmOK rgT sm228 := vfy_sp (T := []) (AN := an228) (g := 159) (fun _ h => absurd h List.not_mem_nil) (by decide +kernel)
set_option maxRecDepth 1000000 in
def an229 : List (Nat × List (Nat × An)) := []
set_option maxRecDepth 1000000 in
theorem ok229 : SmOK rgT sm229 := vfy_sp (T := [sm39]) (AN := an229) (g := 132) (List.forall_mem_cons.mpr ⟨ok39, fun _ h => absurd h List.not_mem_nil⟩) (by decide +kernel)
set_option maxRecDepth 1000000 in
def an230 : List (Nat × List (Nat × An)) := [(247, [(2, ([((0, 1, 0, (0, [])), 0, 2147483647)], ([], [], []), [], [], [], 0, true)), (49, ([((0, 1, 0, (0, [])), 0, 2147483647)], ([], [], []), [], [], [], 0, true)), (72, ([((0, 1, 0, (0, [])), 0, 2147483647)], ([], [], []), [], [], [], 0, true)), (125, ([((0, 1, 0, (0, [])), 0, 2147483647)], ([], [], []), [], [], [], 0, true))])]
set_option maxRecDepth 1000000 in
theorem ok230 : SmOK rgT sm230 := vfy_sp (T := [sm42, sm40, sm39, sm31]) (AN := an230) (g := 662) (List.forall_mem_cons.mpr ⟨ok42, List.forall_mem_cons.mpr ⟨ok40, List.forall_mem_cons.mpr ⟨ok39, List.forall_mem_cons.mpr ⟨ok31, fun _ h => absurd h List.not_mem_nil⟩⟩⟩⟩) (by decide +kernel)
set_option maxRecDepth 1000000 in
def an232 : List (Nat × List (Nat × An)) := []
set_option maxRecDepth 1000000 in
theorem ok232 : SmOK rgT sm232 := vfy_sp (T := []) (AN := an232) (g := 105) (fun _ h => absurd h List.not_mem_nil) (by decide +kernel)
set_option maxRecDepth 1000000 in
def an233 : List (Nat × List (Nat × An)) := [(253, [(71, ([((0, 4, 0, (0, [])), 0, 2147483647)], ([], [], []), [], [], [], 0, true))])]
set_option maxRecDepth 1000000 in
theorem ok233 : SmOK rgT sm233 := vfy_sp (T := []) (AN := an233) (g := 205) (fun _ h => absurd h List.not_mem_nil) (by decide +kernel)
set_option maxRecDepth 1000000 in
def an234 : List (Nat × List (Nat × An)) := []
set_option maxRecDepth 1000000 in
theorem ok234 : SmOK rgT sm234 := vfy_sp (T := []) (AN := an234) (g := 236) (fun _ h => absurd h List.not_mem_nil) (by decide +kernel)
set_option maxRecDepth 1000000 in
def an235 : List (Nat × List (Nat × An)) := []
set_option maxRecDepth 1000000 in
theorem ok235 : SmOK rgT sm235 := vfy_sp (T := []) (AN := an235) (g := 247) (fun _ h => absurd h List.not_mem_nil) (by decide +kernel)
set_option maxRecDepth 1000000 in
def an236 : List (Nat × List (Nat × An)) := [(257, [(113, ([((0, 6, 0, (0, [])), 0, 2147483647)], ([], [], []), [], [], [], 0, true)), (150, ([((0, 6, 0, (0, [])), 0, 2147483647)], ([], [], []), [], [], [], 0, true))])]
set_option maxRecDepth 1000000 in
theorem ok236 : SmOK rgT sm236 := vfy_sp (T := []) (AN := an236) (g := 237) (fun _ h => absurd h List.not_mem_nil) (by decide +kernel)
set_option maxRecDepth 1000000 in
def an237 : List (Nat × List (Nat × An)) := [(258, [(14, ([((0, 4, 0, (0, [])), (-1), 3), ((0, 2, 0, (0, [])), (-1), 3)], ([], [], []), [], [], [], 0, false)), (45, ([((0, 4, 0, (0, [])), 0, 2147483647), ((0, 3, 0, (0, [])), (-2147483648), 2147483647)], ([], [], []), [], [], [], 0, true))])]
set_option maxRecDepth 1000000 in
theorem ok237 : SmOK rgT sm237 := vfy_sp (T := []) (AN := an237) (g := 285) (fun _ h => absurd h List.not_mem_nil) (by decide +kernel)
set_option maxRecDepth 1000000 in
def an238 : List (Nat × List (Nat × An)) := []
set_option maxRecDepth 1000000 in
theorem ok238 : SmOK rgT sm238 := vfy_sp (T := []) (AN := an238) (g := 81) (fun _ h => absurd h List.not_mem_nil) (by decide +kernel)
set_option maxRecDepth 1000000 in
def an240 : List (Nat × List (Nat × An)) := [(261, [(61, ([((0, 3, 0, (0, [])), 0, 30), ((1, 0, 66, (0, [])), 0, 1999)], ([(999, [(0, 1), (1, (-1))])], [], []), [], [], [(0, 66, 0, 0)], 0, true)), (93, ([((0, 4, 0, (0, [])), 0, 2147483647)], ([], [], []), [], [], [(0, 83, 0, 58)], 0, true)), (138, ([((0, 4, 0, (0, [])), 0, 2147483647)], ([], [], []), [], [], [(0, 83, 1, 59)], 0, true)), (202, ([((0, 3, 0, (0, [])), 0, 2147483647)], ([], [], []), [], [], [], 0, true))])]
set_option maxRecDepth 1000000 in
theorem ok240 : SmOK rgT sm240 := vfy_sp (T := [sm230, sm_setAside_68_66r, sm_setAside_67_66, sm_setAside_66_68r]) (AN := an240) (g := 444) (List.forall_mem_cons.mpr ⟨ok230, List.forall_mem_cons.mpr ⟨ok_setAside_68_66r, List.forall_mem_cons.mpr ⟨ok_setAside_67_66, List.forall_mem_cons.mpr ⟨ok_setAside_66_68r, fun _ h => absurd h List.not_mem_nil⟩⟩⟩⟩) (by decide +kernel)
set_option maxRecDepth 1000000 in
def an241 : List (Nat × List (Nat × An)) := [(264, [(88, ([((0, 2, 0, (0, [])), (-2147483648), 2147483647), ((0, 3, 0, (0, [])), 0, 2147483647)], ([], [], []), [], [], [], 1, true)), (160, ([((0, 3, 0, (0, [])), 0, 2147483647), ((0, 2, 0, (0, [])), (-2147483648), 2147483647)], ([], [], []), [], [], [], 0, true)), (257, ([((0, 2, 0, (0, [])), (-2147483648), 2147483647), ((0, 3, 0, (0, [])), 0, 2147483647)], ([], [], []), [], [], [], 1, true))])]
set_option maxRecDepth 1000000 in
theorem ok241 : SmOK rgT sm241 := vfy_sp (T := [sm187]) (AN := an241) (g := 291) (List.forall_mem_cons.mpr ⟨ok187, fun _ h => absurd h List.not_mem_nil⟩) (by decide +kernel)
set_option maxRecDepth 1000000 in
def an243 : List (Nat × List (Nat × An)) := []
set_option maxRecDepth 1000000 in
theorem ok243 : SmOK rgT sm243 := vfy_sp (T := []) (AN := an243) (g := 216) (fun _ h => absurd h List.not_mem_nil) (by decide +kernel)
set_option maxRecDepth 1000000 in
def an244 : List (Nat × List (Nat × An)) := []
set_option maxRecDepth 1000000 in
theorem ok244 : SmOK rgT sm244 := vfy_sp (T := []) (AN := an244) (g := 216) (fun _ h => absurd h List.not_mem_nil) (by decide +kernel)
