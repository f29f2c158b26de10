/-! Printed by wip/ai/tab.py. -/
set_option maxRecDepth 1000000 in
def an202 : List (Nat × List (Nat × An)) := []
set_option maxRecDepth 1000000 in
theorem ok202 : SmOK rgT sm202 := vfy_sp (T := [sm201]) (AN := an202) (g := 93) (List.forall_mem_cons.mpr ⟨ok201, fun _ h => absurd h List.not_mem_nil⟩) (by decide +kernel)
set_option maxRecDepth 1000000 in
def an203 : List (Nat × List (Nat × An)) := [(102, [(3, ([((0, 2, 0, (0, [])), (-2147483648), 2147483647)], ([], [], []), [], [], [], 0, false))])]
set_option maxRecDepth 1000000 in
theorem ok203 : SmOK rgT sm203 := vfy_sp (T := []) (AN := an203) (g := 95) (fun _ h => absurd h List.not_mem_nil) (by decide +kernel)
set_option maxRecDepth 1000000 in
def an204 : List (Nat × List (Nat × An)) := []
set_option maxRecDepth 1000000 in
theorem ok204 : SmOK rgT sm204 := vfy_sp (T := [sm203]) (AN := an204) (g := 99) (List.forall_mem_cons.mpr ⟨ok203, fun _ h => absurd h List.not_mem_nil⟩) (by decide +kernel)
set_option maxRecDepth 1000000 in
def an205 : List (Nat × List (Nat × An)) := []
set_option maxRecDepth 1000000 in
theorem ok205 : SmOK rgT sm205 := vfy_sp (T := []) (AN := an205) (g := 69) (fun _ h => absurd h List.not_mem_nil) (by decide +kernel)
set_option maxRecDepth 1000000 in
def an206 : List (Nat × List (Nat × An)) := []
set_option maxRecDepth 1000000 in
theorem ok206 : SmOK rgT sm206 := vfy_sp (T := [sm205]) (AN := an206) (g := 95) (List.forall_mem_cons.mpr ⟨ok205, fun _ h => absurd h List.not_mem_nil⟩) (by decide +kernel)
set_option maxRecDepth 1000000 in
def an207 : List (Nat × List (Nat × An)) := []
set_option maxRecDepth 1000000 in
theorem ok207 : SmOK rgT sm207 := vfy_sp (T := []) (AN := an207) (g := 93) (fun _ h => absurd h List.not_mem_nil) (by decide +kernel)
set_option maxRecDepth 1000000 in
def an208 : List (Nat × List (Nat × An)) := []
set_option maxRecDepth 1000000 in
theorem ok208 : SmOK rgT sm208 := vfy_sp (T := []) (AN := an208) (g := 81) (fun _ h => absurd h List.not_mem_nil) (by decide +kernel)
set_option maxRecDepth 1000000 in
def an209 : List (Nat × List (Nat × An)) := [(32, [(5, ([((1, 0, 55, (6, [])), (-2147483648), 2147483647)], ([], [], []), [], [], [(0, 55, 6, 6), (0, 55, 8, 8)], 0, true))])]
set_option maxRecDepth 1000000 in
theorem ok209 : SmOK rgT sm209 := vfy_sp (T := [sm208]) (AN := an209) (g := 122) (List.forall_mem_cons.mpr ⟨ok208, fun _ h => absurd h List.not_mem_nil⟩) (by decide +kernel)
set_option maxRecDepth 1000000 in
def an210 : List (Nat × List (Nat × An)) := [(31, [(0, ([((1, 0, 55, (6, [])), (-2147483648), 2147483647)], ([], [], []), [], [], [(0, 55, 6, 6), (0, 55, 8, 8)], 0, true))])]
set_option maxRecDepth 1000000 in
theorem ok210 : SmOK rgT sm210 := vfy_sp (T := [sm208]) (AN := an210) (g := 103) (List.forall_mem_cons.mpr ⟨ok208, fun _ h => absurd h List.not_mem_nil⟩) (by decide +kernel)
set_option maxRecDepth 1000000 in
def an211 : List (Nat × List (Nat × An)) := [(30, [(27, ([((1, 0, 55, (6, [])), (-2147483648), 2147483647)], ([], [], []), [], [], [(0, 55, 6, 6), (0, 55, 8, 8)], 0, true))])]
set_option maxRecDepth 1000000 in
theorem ok211 : SmOK rgT sm211 := vfy_sp (T := [sm210, sm209, sm208]) (AN := an211) (g := 1274) (List.forall_mem_cons.mpr ⟨ok210, List.forall_mem_cons.mpr ⟨ok209, List.forall_mem_cons.mpr ⟨ok208, fun _ h => absurd h List.not_mem_nil⟩⟩⟩) (by decide +kernel)
set_option maxRecDepth 1000000 in
def an212 : List (Nat × List (Nat × An)) := [(35, [(2, ([((0, 1, 0, (0, [])), 0, 2147483647)], ([], [], []), [], [], [], 0, true))])]
set_option maxRecDepth 1000000 in
theorem ok212 : SmOK rgT sm212 := vfy_sp (T := [sm208]) (AN := an212) (g := 857) (List.forall_mem_cons.mpr ⟨ok208, fun _ h => absurd h List.not_mem_nil⟩) (by decide +kernel)
set_option maxRecDepth 1000000 in
def an213 : List (Nat × List (Nat × An)) := []
set_option maxRecDepth 1000000 in
theorem ok213 : SmOK rgT sm213 := vfy_sp (T := []) (AN := an213) (g := 82) (fun _ h => absurd h List.not_mem_nil) (by decide +kernel)
set_option maxRecDepth 1000000 in
def an214 : List (Nat × List (Nat × An)) := []
set_option maxRecDepth 1000000 in
theorem ok214 : SmOK rgT sm214 := vfy_sp (T := []) (AN := an214) (g := 82) (fun _ h => absurd h List.not_mem_nil) (by decide +kernel)
set_option maxRecDepth 1000000 in
def an215 : List (Nat × List (Nat × An)) := []
set_option maxRecDepth 1000000 in
theorem ok215 : SmOK rgT sm215 := vfy_sp (T := []) (AN := an215) (g := 85) (fun _ h => absurd h List.not_mem_nil) (by decide +kernel)
set_option maxRecDepth 1000000 in
def an216 : List (Nat × List (Nat × An)) := []
set_option maxRecDepth 1000000 in
theorem ok216 : SmOK rgT sm216 := vfy_sp (T := []) (AN := an216) (g := 84) (fun _ h => absurd h List.not_mem_nil) (by decide +kernel)
set_option maxRecDepth 1000000 in
def an217 : List (Nat × List (Nat × An)) := [(46, [(2, ([((0, 2, 0, (0, [])), 0, 2147483647)], ([], [], []), [], [], [], 0, true))])]
set_option maxRecDepth 1000000 in
theorem ok217 : SmOK rgT sm217 := vfy_sp (T := [sm216, sm215, sm214, sm213]) (AN := an217) (g := 85) (List.forall_mem_cons.mpr ⟨ok216, List.forall_mem_cons.mpr ⟨ok215, List.forall_mem_cons.mpr ⟨ok214, List.forall_mem_cons.mpr ⟨ok213, fun _ h => absurd h List.not_mem_nil⟩⟩⟩⟩) (by decide +kernel)
set_option maxRecDepth 1000000 in
def an218 : List (Nat × List (Nat × An)) := []
set_option maxRecDepth 1000000 in
theorem ok218 : SmOK rgT sm218 := vfy_sp (T := []) (AN := an218) (g := 84) (fun _ h => absurd h List.not_mem_nil) (by decide +kernel)
set_option maxRecDepth 1000000 in
def an219 : List (Nat × List (Nat × An)) := [(45, [(0, ([((1, 0, 55, (11, [])), (-2147483648), 2147483647)], ([], [], []), [], [], [(0, 55, 11, 11)], 0, false))])]
set_option maxRecDepth 1000000 in
theorem ok219 : SmOK rgT sm219 := vfy_sp (T := [sm216, sm215, sm213]) (AN := an219) (g := 93) (List.forall_mem_cons.mpr ⟨ok216, List.forall_mem_cons.mpr ⟨ok215, List.forall_mem_cons.mpr ⟨ok213, fun _ h => absurd h List.not_mem_nil⟩⟩⟩) (by decide +kernel)
set_option maxRecDepth 1000000 in
def an220 : List (Nat × List (Nat × An)) := []
set_option maxRecDepth 1000000 in
theorem ok220 : SmOK rgT sm220 := vfy_sp (T := [sm219, sm217, sm215]) (AN := an220) (g := 99) (List.forall_mem_cons.mpr ⟨ok219, List.forall_mem_cons.mpr ⟨ok217, List.forall_mem_cons.mpr ⟨ok215, fun _ h => absurd h List.not_mem_nil⟩⟩⟩) (by decide +kernel)
set_option maxRecDepth 1000000 in
def an221 : List (Nat × List (Nat × An)) := []
set_option maxRecDepth 1000000 in
theorem ok221 : SmOK rgT sm221 := vfy_sp (T := [sm220, sm218, sm217, sm214, sm213]) (AN := an221) (g := 161) (List.forall_mem_cons.mpr ⟨ok220, List.forall_mem_cons.mpr ⟨ok218, List.forall_mem_cons.mpr ⟨ok217, List.forall_mem_cons.mpr ⟨ok214, List.forall_mem_cons.mpr ⟨ok213, fun _ h => absurd h List.not_mem_nil⟩⟩⟩⟩⟩) (by decide +kernel)
set_option maxRecDepth 1000000 in
def an222 : List (Nat × List (Nat × An)) := []
set_option maxRecDepth 1000000 in
theorem ok222 : SmOK rgT sm222 := vfy_sp (T := [sm219, sm216, sm208]) (AN := an222) (g := 306) (List.forall_mem_cons.mpr ⟨ok219, List.forall_mem_cons.mpr ⟨ok216, List.forall_mem_cons.mpr ⟨ok208, fun _ h => absurd h List.not_mem_nil⟩⟩⟩) (by decide +kernel)
set_option maxRecDepth 1000000 in
def an223 : List (Nat × List (Nat × An)) := []
set_option maxRecDepth 1000000 in
theorem ok223 : SmOK rgT sm223 := vfy_sp (T := [sm218]) (AN := an223) (g := 114) (List.forall_mem_cons.mpr ⟨ok218, fun _ h => absurd h List.not_mem_nil⟩) (by decide +kernel)
set_option maxRecDepth 1000000 in
def an224 : List (Nat × List (Nat × An)) := []
set_option maxRecDepth 1000000 in
theorem ok224 : SmOK rgT sm224 := vfy_sp (T := [sm223, sm222, sm219, sm216]) (AN := an224) (g := 102) (List.forall_mem_cons.mpr ⟨ok223, List.forall_mem_cons.mpr ⟨ok222, List.forall_mem_cons.mpr ⟨ok219, List.forall_mem_cons.mpr ⟨ok216, fun _ h => absurd h List.not_mem_nil⟩⟩⟩⟩) (by decide +kernel)
set_option maxRecDepth 1000000 in
def an225 : List (Nat × List (Nat × An)) := [(27, [(36, ([((0, 1, 0, (0, [])), 0, 2147483647)], ([], [], []), [], [], [], 0, true))])]
set_option maxRecDepth 1000000 in
theorem ok225 : SmOK rgT sm225 := vfy_sp (T := [sm224, sm221, sm217, sm212, sm211, sm207]) (AN := an225) (g := 214) (List.forall_mem_cons.mpr ⟨ok224, List.forall_mem_cons.mpr ⟨ok221, List.forall_mem_cons.mpr ⟨ok217, List.forall_mem_cons.mpr ⟨ok212, List.forall_mem_cons.mpr ⟨ok211, List.forall_mem_cons.mpr ⟨ok207, fun _ h => absurd h List.not_mem_nil⟩⟩⟩⟩⟩⟩) (by decide +kernel)
set_option maxRecDepth 1000000 in
def an226 : List (Nat × List (Nat × An)) := []
set_option maxRecDepth 1000000 in
theorem ok226 : SmOK rgT sm226 := vfy_sp (T := []) (AN := an226) (g := 87) (fun _ h => absurd h List.not_mem_nil) (by decide +kernel)
set_option maxRecDepth 1000000 in
def an227 : List (Nat × List (Nat × An)) := []
set_option maxRecDepth 1000000 in
theorem ok227 : SmOK rgT sm227 := vfy_sp (T := []) (AN := an227) (g := 83) (fun _ h => absurd h List.not_mem_nil) (by decide +kernel)
set_option maxRecDepth 1000000 in
def an228 : List (Nat × List (Nat × An)) := [(28, [(35, ([((0, 3, 0, (0, [])), 0, 2147483647)], ([], [], []), [], [], [], 0, true))])]
set_option maxRecDepth 1000000 in
theorem ok228 : SmOK rgT sm228 := vfy_sp (T := [sm227, sm226]) (AN := an228) (g := 107) (List.forall_mem_cons.mpr ⟨ok227, List.forall_mem_cons.mpr ⟨ok226, fun _ h => absurd h List.not_mem_nil⟩⟩) (by decide +kernel)
set_option maxRecDepth 1000000 in
def an229 : List (Nat × List (Nat × An)) := []
set_option maxRecDepth 1000000 in
theorem ok229 : SmOK rgT sm229 := vfy_sp (T := [sm228, sm226, sm225, sm205]) (AN := an229) (g := 162) (List.forall_mem_cons.mpr ⟨ok228, List.forall_mem_cons.mpr ⟨ok226, List.forall_mem_cons.mpr ⟨ok225, List.forall_mem_cons.mpr ⟨ok205, fun _ h => absurd h List.not_mem_nil⟩⟩⟩⟩) (by decide +kernel)
set_option maxRecDepth 1000000 in
def an230 : List (Nat × List (Nat × An)) := []
set_option maxRecDepth 1000000 in
theorem ok230 : SmOK rgT sm230 := vfy_sp (T := []) (AN := an230) (g := 90) (fun _ h => absurd h List.not_mem_nil) (by decide +kernel)
set_option maxRecDepth 1000000 in
def an231 : List (Nat × List (Nat × An)) := []
set_option maxRecDepth 1000000 in
theorem ok231 : SmOK rgT sm231 := vfy_sp (T := [sm230]) (AN := an231) (g := 116) (List.forall_mem_cons.mpr ⟨ok230, fun _ h => absurd h List.not_mem_nil⟩) (by decide +kernel)
set_option maxRecDepth 1000000 in
def an232 : List (Nat × List (Nat × An)) := [(83, [(5, ([((0, 3, 0, (0, [])), 0, 2147483647), ((0, 2, 0, (0, [])), (-2147483648), 2147483647)], ([], [], []), [], [], [], 0, true))])]
set_option maxRecDepth 1000000 in
theorem ok232 : SmOK rgT sm232 := vfy_sp (T := [sm230]) (AN := an232) (g := 121) (List.forall_mem_cons.mpr ⟨ok230, fun _ h => absurd h List.not_mem_nil⟩) (by decide +kernel)
set_option maxRecDepth 1000000 in
def an233 : List (Nat × List (Nat × An)) := []
set_option maxRecDepth 1000000 in
theorem ok233 : SmOK rgT sm233 := vfy_sp (T := [sm232]) (AN := an233) (g := 90) (List.forall_mem_cons.mpr ⟨ok232, fun _ h => absurd h List.not_mem_nil⟩) (by decide +kernel)
set_option maxRecDepth 1000000 in
def an234 : List (Nat × List (Nat × An)) := []
set_option maxRecDepth 1000000 in
theorem ok234 : SmOK rgT sm234 := vfy_sp (T := []) (AN := an234) (g := 85) (fun _ h => absurd h List.not_mem_nil) (by decide +kernel)
set_option maxRecDepth 1000000 in
def an235 : List (Nat × List (Nat × An)) := []
set_option maxRecDepth 1000000 in
theorem ok235 : SmOK rgT sm235 := vfy_sp (T := []) (AN := an235) (g := 256) (fun _ h => absurd h List.not_mem_nil) (by decide +kernel)
set_option maxRecDepth 1000000 in
def an236 : List (Nat × List (Nat × An)) := []
set_option maxRecDepth 1000000 in
theorem ok236 : SmOK rgT sm236 := vfy_sp (T := []) (AN := an236) (g := 84) (fun _ h => absurd h List.not_mem_nil) (by decide +kernel)
set_option maxRecDepth 1000000 in
def an237 : List (Nat × List (Nat × An)) := [(49, [(20, ([((0, 7, 0, (0, [])), 0, 2147483647)], ([], [], []), [], [], [(0, 35, 1, 1)], 0, true))])]
set_option maxRecDepth 1000000 in
theorem ok237 : SmOK rgT sm237 := vfy_sp (T := [sm236, sm235, sm234, sm230]) (AN := an237) (g := 195) (List.forall_mem_cons.mpr ⟨ok236, List.forall_mem_cons.mpr ⟨ok235, List.forall_mem_cons.mpr ⟨ok234, List.forall_mem_cons.mpr ⟨ok230, fun _ h => absurd h List.not_mem_nil⟩⟩⟩⟩) (by decide +kernel)
set_option maxRecDepth 1000000 in
def an238 : List (Nat × List (Nat × An)) := []
set_option maxRecDepth 1000000 in
theorem ok238 : SmOK rgT sm238 := vfy_sp (T := [sm237, sm232]) (AN := an238) (g := 89) (List.forall_mem_cons.mpr ⟨ok237, List.forall_mem_cons.mpr ⟨ok232, fun _ h => absurd h List.not_mem_nil⟩⟩) (by decide +kernel)
set_option maxRecDepth 1000000 in
def an239 : List (Nat × List (Nat × An)) := []
set_option maxRecDepth 1000000 in
theorem ok239 : SmOK rgT sm239 := vfy_sp (T := [sm238]) (AN := an239) (g := 95) (List.forall_mem_cons.mpr ⟨ok238, fun _ h => absurd h List.not_mem_nil⟩) (by decide +kernel)
set_option maxRecDepth 1000000 in
def an240 : List (Nat × List (Nat × An)) := []
set_option maxRecDepth 1000000 in
theorem ok240 : SmOK rgT sm240 := vfy_sp (T := [sm238, sm148]) (AN := an240) (g := 129) (List.forall_mem_cons.mpr ⟨ok238, List.forall_mem_cons.mpr ⟨ok148, fun _ h => absurd h List.not_mem_nil⟩⟩) (by decide +kernel)
set_option maxRecDepth 1000000 in
def an241 : List (Nat × List (Nat × An)) := []
set_option maxRecDepth 1000000 in
theorem ok241 : SmOK rgT sm241 := vfy_sp (T := [sm155, sm148]) (AN := an241) (g := 75) (List.forall_mem_cons.mpr ⟨ok155, List.forall_mem_cons.mpr ⟨ok148, fun _ h => absurd h List.not_mem_nil⟩⟩) (by decide +kernel)
set_option maxRecDepth 1000000 in
def an242 : List (Nat × List (Nat × An)) := []
set_option maxRecDepth 1000000 in
theorem ok242 : SmOK rgT sm242 := vfy_sp (T := [sm241, sm240, sm164, sm155, sm148]) (AN := an242) (g := 151) (List.forall_mem_cons.mpr ⟨ok241, List.forall_mem_cons.mpr ⟨ok240, List.forall_mem_cons.mpr ⟨ok164, List.forall_mem_cons.mpr ⟨ok155, List.forall_mem_cons.mpr ⟨ok148, fun _ h => absurd h List.not_mem_nil⟩⟩⟩⟩⟩) (by decide +kernel)
set_option maxRecDepth 1000000 in
def an243 : List (Nat × List (Nat × An)) := []
set_option maxRecDepth 1000000 in
theorem ok243 : SmOK rgT sm243 := vfy_sp (T := [sm240, sm164]) (AN := an243) (g := 125) (List.forall_mem_cons.mpr ⟨ok240, List.forall_mem_cons.mpr ⟨ok164, fun _ h => absurd h List.not_mem_nil⟩⟩) (by decide +kernel)
set_option maxRecDepth 1000000 in
def an244 : List (Nat × List (Nat × An)) := []
set_option maxRecDepth 1000000 in
theorem ok244 : SmOK rgT sm244 := vfy_sp (T := []) (AN := an244) (g := 87) (fun _ h => absurd h List.not_mem_nil) (by decide +kernel)
set_option maxRecDepth 1000000 in
def an245 : List (Nat × List (Nat × An)) := []
set_option maxRecDepth 1000000 in
theorem ok245 : SmOK rgT sm245 := vfy_sp (T := [sm244]) (AN := an245) (g := 137) (List.forall_mem_cons.mpr ⟨ok244, fun _ h => absurd h List.not_mem_nil⟩) (by decide +kernel)
set_option maxRecDepth 1000000 in
def an246 : List (Nat × List (Nat × An)) := []
set_option maxRecDepth 1000000 in
theorem ok246 : SmOK rgT sm246 := vfy_sp (T := [sm245, sm238, sm164, sm155, sm148]) (AN := an246) (g := 193) (List.forall_mem_cons.mpr ⟨ok245, List.forall_mem_cons.mpr ⟨ok238, List.forall_mem_cons.mpr ⟨ok164, List.forall_mem_cons.mpr ⟨ok155, List.forall_mem_cons.mpr ⟨ok148, fun _ h => absurd h List.not_mem_nil⟩⟩⟩⟩⟩) (by decide +kernel)
set_option maxRecDepth 1000000 in
def an247 : List (Nat × List (Nat × An)) := []
set_option maxRecDepth 1000000 in
theorem ok247 : SmOK rgT sm247 := vfy_sp (T := [sm245, sm164]) (AN := an247) (g := 174) (List.forall_mem_cons.mpr ⟨ok245, List.forall_mem_cons.mpr ⟨ok164, fun _ h => absurd h List.not_mem_nil⟩⟩) (by decide +kernel)
set_option maxRecDepth 1000000 in
def an248 : List (Nat × List (Nat × An)) := []
set_option maxRecDepth 1000000 in
theorem ok248 : SmOK rgT sm248 := vfy_sp (T := []) (AN := an248) (g := 90) (fun _ h => absurd h List.not_mem_nil) (by decide +kernel)
set_option maxRecDepth 1000000 in
def an249 : List (Nat × List (Nat × An)) := []
set_option maxRecDepth 1000000 in
theorem ok249 : SmOK rgT sm249 := vfy_sp (T := [sm248, sm244, sm164]) (AN := an249) (g := 127) (List.forall_mem_cons.mpr ⟨ok248, List.forall_mem_cons.mpr ⟨ok244, List.forall_mem_cons.mpr ⟨ok164, fun _ h => absurd h List.not_mem_nil⟩⟩⟩) (by decide +kernel)
set_option maxRecDepth 1000000 in
def an250 : List (Nat × List (Nat × An)) := []
set_option maxRecDepth 1000000 in
theorem ok250 : SmOK rgT sm250 := vfy_sp (T := [sm248]) (AN := an250) (g := 116) (List.forall_mem_cons.mpr ⟨ok248, fun _ h => absurd h List.not_mem_nil⟩) (by decide +kernel)
set_option maxRecDepth 1000000 in
def an251 : List (Nat × List (Nat × An)) := []
set_option maxRecDepth 1000000 in
theorem ok251 : SmOK rgT sm251 := vfy_sp (T := [sm248]) (AN := an251) (g := 89) (List.forall_mem_cons.mpr ⟨ok248, fun _ h => absurd h List.not_mem_nil⟩) (by decide +kernel)
set_option maxRecDepth 1000000 in
def an252 : List (Nat × List (Nat × An)) := [(86, [(13, ([((0, 4, 0, (0, [])), 0, 2147483647), ((0, 3, 0, (0, [])), (-2147483648), 2147483647)], ([], [], []), [], [], [], 0, true))])]
set_option maxRecDepth 1000000 in
theorem ok252 : SmOK rgT sm252 := vfy_sp (T := [sm251, sm248, sm148]) (AN := an252) (g := 108) (List.forall_mem_cons.mpr ⟨ok251, List.forall_mem_cons.mpr ⟨ok248, List.forall_mem_cons.mpr ⟨ok148, fun _ h => absurd h List.not_mem_nil⟩⟩⟩) (by decide +kernel)
set_option maxRecDepth 1000000 in
def an253 : List (Nat × List (Nat × An)) := []
set_option maxRecDepth 1000000 in
theorem ok253 : SmOK rgT sm253 := vfy_sp (T := [sm252]) (AN := an253) (g := 115) (List.forall_mem_cons.mpr ⟨ok252, fun _ h => absurd h List.not_mem_nil⟩) (by decide +kernel)
set_option maxRecDepth 1000000 in
def an254 : List (Nat × List (Nat × An)) := []
set_option maxRecDepth 1000000 in
theorem ok254 : SmOK rgT sm254 := vfy_sp (T := [sm144, sm142]) (AN := an254) (g := 71) (List.forall_mem_cons.mpr ⟨ok144, List.forall_mem_cons.mpr ⟨ok142, fun _ h => absurd h List.not_mem_nil⟩⟩) (by decide +kernel)
set_option maxRecDepth 1000000 in
def an255 : List (Nat × List (Nat × An)) := [(3, [(2, ([((0, 3, 0, (0, [])), 0, 2147483647)], ([], [], []), [], [], [], 0, true))])]
set_option maxRecDepth 1000000 in
theorem ok255 : SmOK rgT sm255 := vfy_sp (T := [sm254, sm197, sm168, sm151, sm144]) (AN := an255) (g := 107) (List.forall_mem_cons.mpr ⟨ok254, List.forall_mem_cons.mpr ⟨ok197, List.forall_mem_cons.mpr ⟨ok168, List.forall_mem_cons.mpr ⟨ok151, List.forall_mem_cons.mpr ⟨ok144, fun _ h => absurd h List.not_mem_nil⟩⟩⟩⟩⟩) (by decide +kernel)
set_option maxRecDepth 1000000 in
def an256 : List (Nat × List (Nat × An)) := []
set_option maxRecDepth 1000000 in
theorem ok256 : SmOK rgT sm256 := vfy_sp (T := [sm155, sm148]) (AN := an256) (g := 71) (List.forall_mem_cons.mpr ⟨ok155, List.forall_mem_cons.mpr ⟨ok148, fun _ h => absurd h List.not_mem_nil⟩⟩) (by decide +kernel)
set_option maxRecDepth 1000000 in
def an257 : List (Nat × List (Nat × An)) := []
set_option maxRecDepth 1000000 in
theorem ok257 : SmOK rgT sm257 := vfy_sp (T := [sm155, sm148]) (AN := an257) (g := 101) (List.forall_mem_cons.mpr ⟨ok155, List.forall_mem_cons.mpr ⟨ok148, fun _ h => absurd h List.not_mem_nil⟩⟩) (by decide +kernel)
set_option maxRecDepth 1000000 in
def an258 : List (Nat × List (Nat × An)) := []
set_option maxRecDepth 1000000 in
theorem ok258 : SmOK rgT sm258 := vfy_sp (T := [sm257, sm256, sm254, sm241, sm238, sm164, sm148, sm144]) (AN := an258) (g := 152) (List.forall_mem_cons.mpr ⟨ok257, List.forall_mem_cons.mpr ⟨ok256, List.forall_mem_cons.mpr ⟨ok254, List.forall_mem_cons.mpr ⟨ok241, List.forall_mem_cons.mpr ⟨ok238, List.forall_mem_cons.mpr ⟨ok164, List.forall_mem_cons.mpr ⟨ok148, List.forall_mem_cons.mpr ⟨ok144, fun _ h => absurd h List.not_mem_nil⟩⟩⟩⟩⟩⟩⟩⟩) (by decide +kernel)
set_option maxRecDepth 1000000 in
def an259 : List (Nat × List (Nat × An)) := []
set_option maxRecDepth 1000000 in
theorem ok259 : SmOK rgT sm259 := vfy_sp (T := [sm241, sm169, sm159, sm155]) (AN := an259) (g := 97) (List.forall_mem_cons.mpr ⟨ok241, List.forall_mem_cons.mpr ⟨ok169, List.forall_mem_cons.mpr ⟨ok159, List.forall_mem_cons.mpr ⟨ok155, fun _ h => absurd h List.not_mem_nil⟩⟩⟩⟩) (by decide +kernel)
set_option maxRecDepth 1000000 in
def an260 : List (Nat × List (Nat × An)) := [(0, [(2, ([((0, 2, 0, (0, [])), 0, 2147483647)], ([], [], []), [], [], [], 0, true)), (27, ([((0, 2, 0, (0, [])), 0, 2147483647)], ([], [], []), [], [], [], 0, true)), (76, ([((0, 2, 0, (0, [])), 0, 2147483647)], ([], [], []), [], [], [], 0, true))])]
set_option maxRecDepth 1000000 in
theorem ok260 : SmOK rgT sm260 := vfy_sp (T := [sm259, sm258, sm255, sm252, sm164, sm144, sm142]) (AN := an260) (g := 153) (List.forall_mem_cons.mpr ⟨ok259, List.forall_mem_cons.mpr ⟨ok258, List.forall_mem_cons.mpr ⟨ok255, List.forall_mem_cons.mpr ⟨ok252, List.forall_mem_cons.mpr ⟨ok164, List.forall_mem_cons.mpr ⟨ok144, List.forall_mem_cons.mpr ⟨ok142, fun _ h => absurd h List.not_mem_nil⟩⟩⟩⟩⟩⟩⟩) (by decide +kernel)
set_option maxRecDepth 1000000 in
def an261 : List (Nat × List (Nat × An)) := [(142, [(33, ([((0, 2, 0, (0, [])), 0, 2147483647)], ([], [], []), [], [], [(0, 1, 5, 5)], 0, true))])]
set_option maxRecDepth 1000000 in
theorem ok261 : SmOK rgT sm261 := vfy_sp (T := [sm260]) (AN := an261) (g := 111) (List.forall_mem_cons.mpr ⟨ok260, fun _ h => absurd h List.not_mem_nil⟩) (by decide +kernel)
set_option maxRecDepth 1000000 in
def an262 : List (Nat × List (Nat × An)) := []
set_option maxRecDepth 1000000 in
theorem ok262 : SmOK rgT sm262 := vfy_sp (T := []) (AN := an262) (g := 94) (fun _ h => absurd h List.not_mem_nil) (by decide +kernel)
set_option maxRecDepth 1000000 in
def an263 : List (Nat × List (Nat × An)) := [(63, [(4, ([((0, 1, 0, (0, [])), (-2147483648), 2147483647), ((0, 2, 0, (0, [])), 0, 2147483647)], ([], [], []), [], [], [], 1, true))])]
set_option maxRecDepth 1000000 in
theorem ok263 : SmOK rgT sm263 := vfy_sp (T := [sm164]) (AN := an263) (g := 95) (List.forall_mem_cons.mpr ⟨ok164, fun _ h => absurd h List.not_mem_nil⟩) (by decide +kernel)
set_option maxRecDepth 1000000 in
def an264 : List (Nat × List (Nat × An)) := [(88, [(42, ([((0, 4, 0, (0, [])), 0, 2147483647), ((0, 3, 0, (0, [])), (-2147483648), 2147483647)], ([], [], []), [], [], [], 0, true))])]
set_option maxRecDepth 1000000 in
theorem ok264 : SmOK rgT sm264 := vfy_sp (T := [sm150]) (AN := an264) (g := 197) (List.forall_mem_cons.mpr ⟨ok150, fun _ h => absurd h List.not_mem_nil⟩) (by decide +kernel)
set_option maxRecDepth 1000000 in
def an265 : List (Nat × List (Nat × An)) := [(144, [(26, ([((0, 3, 0, (0, [])), (-2147483648), 2147483647), ((0, 4, 0, (0, [])), 0, 2147483647)], ([], [], []), [], [], [], 1, true))])]
set_option maxRecDepth 1000000 in
theorem ok265 : SmOK rgT sm265 := vfy_sp (T := [sm264, sm263]) (AN := an265) (g := 138) (List.forall_mem_cons.mpr ⟨ok264, List.forall_mem_cons.mpr ⟨ok263, fun _ h => absurd h List.not_mem_nil⟩⟩) (by decide +kernel)
set_option maxRecDepth 1000000 in
def an266 : List (Nat × List (Nat × An)) := []
set_option maxRecDepth 1000000 in
theorem ok266 : SmOK rgT sm266 := vfy_sp (T := []) (AN := an266) (g := 174) (fun _ h => absurd h List.not_mem_nil) (by decide +kernel)
set_option maxRecDepth 1000000 in
def an267 : List (Nat × List (Nat × An)) := []
set_option maxRecDepth 1000000 in
theorem ok267 : SmOK rgT sm267 := vfy_sp (T := [sm266]) (AN := an267) (g := 68) (List.forall_mem_cons.mpr ⟨ok266, fun _ h => absurd h List.not_mem_nil⟩) (by decide +kernel)
set_option maxRecDepth 1000000 in
def an268 : List (Nat × List (Nat × An)) := []
set_option maxRecDepth 1000000 in
theorem ok268 : SmOK rgT sm268 := vfy_sp (T := [sm266]) (AN := an268) (g := 68) (List.forall_mem_cons.mpr ⟨ok266, fun _ h => absurd h List.not_mem_nil⟩) (by decide +kernel)
set_option maxRecDepth 1000000 in
def an269 : List (Nat × List (Nat × An)) := []
set_option maxRecDepth 1000000 in
theorem ok269 : SmOK rgT sm269 := vfy_sp (T := []) (AN := an269) (g := 236) (fun _ h => absurd h List.not_mem_nil) (by decide +kernel)
set_option maxRecDepth 1000000 in
def an270 : List (Nat × List (Nat × An)) := []
set_option maxRecDepth 1000000 in
theorem ok270 : SmOK rgT sm270 := vfy_sp (T := [sm269]) (AN := an270) (g := 69) (List.forall_mem_cons.mpr ⟨ok269, fun _ h => absurd h List.not_mem_nil⟩) (by decide +kernel)
set_option maxRecDepth 1000000 in
def an271 : List (Nat × List (Nat × An)) := []
set_option maxRecDepth 1000000 in
theorem ok271 : SmOK rgT sm271 := vfy_sp (T := []) (AN := an271) (g := 1681) (fun _ h => absurd h List.not_mem_nil) (by decide +kernel)
