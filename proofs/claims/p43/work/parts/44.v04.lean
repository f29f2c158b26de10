/-! Printed by wip/ai/tab.py. -/
set_option maxRecDepth 1000000 in
def an151 : List (Nat × List (Nat × An)) := []
set_option maxRecDepth 1000000 in
theorem ok151 : SmOK rgT sm151 := vfy_sp (T := [sm150]) (AN := an151) (g := 65) (List.forall_mem_cons.mpr ⟨ok150, fun _ h => absurd h List.not_mem_nil⟩) (by decide +kernel)
set_option maxRecDepth 1000000 in
def an152 : List (Nat × List (Nat × An)) := []
set_option maxRecDepth 1000000 in
theorem ok152 : SmOK rgT sm152 := vfy_sp (T := []) (AN := an152) (g := 83) (fun _ h => absurd h List.not_mem_nil) (by decide +kernel)
set_option maxRecDepth 1000000 in
def an153 : List (Nat × List (Nat × An)) := []
set_option maxRecDepth 1000000 in
theorem ok153 : SmOK rgT sm153 := vfy_sp (T := []) (AN := an153) (g := 216) (fun _ h => absurd h List.not_mem_nil) (by decide +kernel)
set_option maxRecDepth 1000000 in
def an154 : List (Nat × List (Nat × An)) := []
set_option maxRecDepth 1000000 in
theorem ok154 : SmOK rgT sm154 := vfy_sp (T := []) (AN := an154) (g := 90) (fun _ h => absurd h List.not_mem_nil) (by decide +kernel)
set_option maxRecDepth 1000000 in
def an155 : List (Nat × List (Nat × An)) := [(74, [(13, ([((0, 3, 0, (0, [])), (-2147483648), 2147483647), ((0, 4, 0, (0, [])), 0, 2147483647)], ([], [], []), [], [], [], 1, true))])]
set_option maxRecDepth 1000000 in
theorem ok155 : SmOK rgT sm155 := vfy_sp (T := [sm154]) (AN := an155) (g := 143) (List.forall_mem_cons.mpr ⟨ok154, fun _ h => absurd h List.not_mem_nil⟩) (by decide +kernel)
set_option maxRecDepth 1000000 in
def an156 : List (Nat × List (Nat × An)) := []
set_option maxRecDepth 1000000 in
theorem ok156 : SmOK rgT sm156 := vfy_sp (T := [sm155, sm154]) (AN := an156) (g := 81) (List.forall_mem_cons.mpr ⟨ok155, List.forall_mem_cons.mpr ⟨ok154, fun _ h => absurd h List.not_mem_nil⟩⟩) (by decide +kernel)
set_option maxRecDepth 1000000 in
def an157 : List (Nat × List (Nat × An)) := []
set_option maxRecDepth 1000000 in
theorem ok157 : SmOK rgT sm157 := vfy_sp (T := [sm154]) (AN := an157) (g := 91) (List.forall_mem_cons.mpr ⟨ok154, fun _ h => absurd h List.not_mem_nil⟩) (by decide +kernel)
set_option maxRecDepth 1000000 in
def an158 : List (Nat × List (Nat × An)) := [(81, [(6, ([((0, 4, 0, (0, [])), 0, 2147483647), ((0, 3, 0, (0, [])), (-2147483648), 2147483647)], ([], [], []), [], [], [], 0, true))])]
set_option maxRecDepth 1000000 in
theorem ok158 : SmOK rgT sm158 := vfy_sp (T := [sm157, sm156, sm154]) (AN := an158) (g := 216) (List.forall_mem_cons.mpr ⟨ok157, List.forall_mem_cons.mpr ⟨ok156, List.forall_mem_cons.mpr ⟨ok154, fun _ h => absurd h List.not_mem_nil⟩⟩⟩) (by decide +kernel)
set_option maxRecDepth 1000000 in
def an159 : List (Nat × List (Nat × An)) := []
set_option maxRecDepth 1000000 in
theorem ok159 : SmOK rgT sm159 := vfy_sp (T := []) (AN := an159) (g := 90) (fun _ h => absurd h List.not_mem_nil) (by decide +kernel)
set_option maxRecDepth 1000000 in
def an160 : List (Nat × List (Nat × An)) := []
set_option maxRecDepth 1000000 in
theorem ok160 : SmOK rgT sm160 := vfy_sp (T := []) (AN := an160) (g := 87) (fun _ h => absurd h List.not_mem_nil) (by decide +kernel)
set_option maxRecDepth 1000000 in
def an161 : List (Nat × List (Nat × An)) := []
set_option maxRecDepth 1000000 in
theorem ok161 : SmOK rgT sm161 := vfy_sp (T := []) (AN := an161) (g := 87) (fun _ h => absurd h List.not_mem_nil) (by decide +kernel)
set_option maxRecDepth 1000000 in
def an162 : List (Nat × List (Nat × An)) := []
set_option maxRecDepth 1000000 in
theorem ok162 : SmOK rgT sm162 := vfy_sp (T := [sm161, sm159]) (AN := an162) (g := 71) (List.forall_mem_cons.mpr ⟨ok161, List.forall_mem_cons.mpr ⟨ok159, fun _ h => absurd h List.not_mem_nil⟩⟩) (by decide +kernel)
set_option maxRecDepth 1000000 in
def an163 : List (Nat × List (Nat × An)) := [(3, [(2, ([((0, 3, 0, (0, [])), 0, 2147483647)], ([], [], []), [], [], [], 0, true))])]
set_option maxRecDepth 1000000 in
theorem ok163 : SmOK rgT sm163 := vfy_sp (T := [sm162, sm160, sm159, sm158, sm154]) (AN := an163) (g := 138) (List.forall_mem_cons.mpr ⟨ok162, List.forall_mem_cons.mpr ⟨ok160, List.forall_mem_cons.mpr ⟨ok159, List.forall_mem_cons.mpr ⟨ok158, List.forall_mem_cons.mpr ⟨ok154, fun _ h => absurd h List.not_mem_nil⟩⟩⟩⟩⟩) (by decide +kernel)
set_option maxRecDepth 1000000 in
def an164 : List (Nat × List (Nat × An)) := []
set_option maxRecDepth 1000000 in
theorem ok164 : SmOK rgT sm164 := vfy_sp (T := []) (AN := an164) (g := 90) (fun _ h => absurd h List.not_mem_nil) (by decide +kernel)
set_option maxRecDepth 1000000 in
def an165 : List (Nat × List (Nat × An)) := []
set_option maxRecDepth 1000000 in
theorem ok165 : SmOK rgT sm165 := vfy_sp (T := [sm164]) (AN := an165) (g := 74) (List.forall_mem_cons.mpr ⟨ok164, fun _ h => absurd h List.not_mem_nil⟩) (by decide +kernel)
set_option maxRecDepth 1000000 in
def an166 : List (Nat × List (Nat × An)) := []
set_option maxRecDepth 1000000 in
theorem ok166 : SmOK rgT sm166 := vfy_sp (T := []) (AN := an166) (g := 90) (fun _ h => absurd h List.not_mem_nil) (by decide +kernel)
set_option maxRecDepth 1000000 in
def an167 : List (Nat × List (Nat × An)) := [(83, [(5, ([((0, 3, 0, (0, [])), 0, 2147483647), ((0, 2, 0, (0, [])), (-2147483648), 2147483647)], ([], [], []), [], [], [], 0, true))])]
set_option maxRecDepth 1000000 in
theorem ok167 : SmOK rgT sm167 := vfy_sp (T := [sm166]) (AN := an167) (g := 139) (List.forall_mem_cons.mpr ⟨ok166, fun _ h => absurd h List.not_mem_nil⟩) (by decide +kernel)
set_option maxRecDepth 1000000 in
def an168 : List (Nat × List (Nat × An)) := [(49, [(20, ([((0, 7, 0, (0, [])), 0, 2147483647)], ([], [], []), [], [], [(0, 35, 1, 1)], 0, true))])]
set_option maxRecDepth 1000000 in
theorem ok168 : SmOK rgT sm168 := vfy_sp (T := [sm166, sm120, sm119, sm118]) (AN := an168) (g := 215) (List.forall_mem_cons.mpr ⟨ok166, List.forall_mem_cons.mpr ⟨ok120, List.forall_mem_cons.mpr ⟨ok119, List.forall_mem_cons.mpr ⟨ok118, fun _ h => absurd h List.not_mem_nil⟩⟩⟩⟩) (by decide +kernel)
set_option maxRecDepth 1000000 in
def an169 : List (Nat × List (Nat × An)) := []
set_option maxRecDepth 1000000 in
theorem ok169 : SmOK rgT sm169 := vfy_sp (T := [sm168, sm167]) (AN := an169) (g := 102) (List.forall_mem_cons.mpr ⟨ok168, List.forall_mem_cons.mpr ⟨ok167, fun _ h => absurd h List.not_mem_nil⟩⟩) (by decide +kernel)
set_option maxRecDepth 1000000 in
def an170 : List (Nat × List (Nat × An)) := []
set_option maxRecDepth 1000000 in
theorem ok170 : SmOK rgT sm170 := vfy_sp (T := []) (AN := an170) (g := 87) (fun _ h => absurd h List.not_mem_nil) (by decide +kernel)
set_option maxRecDepth 1000000 in
def an171 : List (Nat × List (Nat × An)) := []
set_option maxRecDepth 1000000 in
theorem ok171 : SmOK rgT sm171 := vfy_sp (T := [sm170, sm164]) (AN := an171) (g := 75) (List.forall_mem_cons.mpr ⟨ok170, List.forall_mem_cons.mpr ⟨ok164, fun _ h => absurd h List.not_mem_nil⟩⟩) (by decide +kernel)
set_option maxRecDepth 1000000 in
def an172 : List (Nat × List (Nat × An)) := []
set_option maxRecDepth 1000000 in
theorem ok172 : SmOK rgT sm172 := vfy_sp (T := [sm170, sm164]) (AN := an172) (g := 71) (List.forall_mem_cons.mpr ⟨ok170, List.forall_mem_cons.mpr ⟨ok164, fun _ h => absurd h List.not_mem_nil⟩⟩) (by decide +kernel)
set_option maxRecDepth 1000000 in
def an173 : List (Nat × List (Nat × An)) := []
set_option maxRecDepth 1000000 in
theorem ok173 : SmOK rgT sm173 := vfy_sp (T := [sm170, sm164]) (AN := an173) (g := 108) (List.forall_mem_cons.mpr ⟨ok170, List.forall_mem_cons.mpr ⟨ok164, fun _ h => absurd h List.not_mem_nil⟩⟩) (by decide +kernel)
set_option maxRecDepth 1000000 in
def an174 : List (Nat × List (Nat × An)) := []
set_option maxRecDepth 1000000 in
theorem ok174 : SmOK rgT sm174 := vfy_sp (T := [sm173, sm172, sm171, sm169, sm165, sm164, sm162, sm159]) (AN := an174) (g := 370) (List.forall_mem_cons.mpr ⟨ok173, List.forall_mem_cons.mpr ⟨ok172, List.forall_mem_cons.mpr ⟨ok171, List.forall_mem_cons.mpr ⟨ok169, List.forall_mem_cons.mpr ⟨ok165, List.forall_mem_cons.mpr ⟨ok164, List.forall_mem_cons.mpr ⟨ok162, List.forall_mem_cons.mpr ⟨ok159, fun _ h => absurd h List.not_mem_nil⟩⟩⟩⟩⟩⟩⟩⟩) (by decide +kernel)
set_option maxRecDepth 1000000 in
def an175 : List (Nat × List (Nat × An)) := []
set_option maxRecDepth 1000000 in
theorem ok175 : SmOK rgT sm175 := vfy_sp (T := []) (AN := an175) (g := 90) (fun _ h => absurd h List.not_mem_nil) (by decide +kernel)
set_option maxRecDepth 1000000 in
def an176 : List (Nat × List (Nat × An)) := []
set_option maxRecDepth 1000000 in
theorem ok176 : SmOK rgT sm176 := vfy_sp (T := [sm175]) (AN := an176) (g := 97) (List.forall_mem_cons.mpr ⟨ok175, fun _ h => absurd h List.not_mem_nil⟩) (by decide +kernel)
set_option maxRecDepth 1000000 in
def an177 : List (Nat × List (Nat × An)) := [(86, [(13, ([((0, 4, 0, (0, [])), 0, 2147483647), ((0, 3, 0, (0, [])), (-2147483648), 2147483647)], ([], [], []), [], [], [], 0, true))])]
set_option maxRecDepth 1000000 in
theorem ok177 : SmOK rgT sm177 := vfy_sp (T := [sm176, sm175, sm164]) (AN := an177) (g := 111) (List.forall_mem_cons.mpr ⟨ok176, List.forall_mem_cons.mpr ⟨ok175, List.forall_mem_cons.mpr ⟨ok164, fun _ h => absurd h List.not_mem_nil⟩⟩⟩) (by decide +kernel)
set_option maxRecDepth 1000000 in
def an178 : List (Nat × List (Nat × An)) := []
set_option maxRecDepth 1000000 in
theorem ok178 : SmOK rgT sm178 := vfy_sp (T := [sm170, sm164]) (AN := an178) (g := 72) (List.forall_mem_cons.mpr ⟨ok170, List.forall_mem_cons.mpr ⟨ok164, fun _ h => absurd h List.not_mem_nil⟩⟩) (by decide +kernel)
set_option maxRecDepth 1000000 in
def an179 : List (Nat × List (Nat × An)) := []
set_option maxRecDepth 1000000 in
theorem ok179 : SmOK rgT sm179 := vfy_sp (T := [sm154]) (AN := an179) (g := 85) (List.forall_mem_cons.mpr ⟨ok154, fun _ h => absurd h List.not_mem_nil⟩) (by decide +kernel)
set_option maxRecDepth 1000000 in
def an180 : List (Nat × List (Nat × An)) := [(70, [(2, ([((0, 3, 0, (0, [])), 0, 2147483647)], ([], [], []), [], [], [], 0, true))])]
set_option maxRecDepth 1000000 in
theorem ok180 : SmOK rgT sm180 := vfy_sp (T := [sm179, sm160]) (AN := an180) (g := 95) (List.forall_mem_cons.mpr ⟨ok179, List.forall_mem_cons.mpr ⟨ok160, fun _ h => absurd h List.not_mem_nil⟩⟩) (by decide +kernel)
set_option maxRecDepth 1000000 in
def an181 : List (Nat × List (Nat × An)) := []
set_option maxRecDepth 1000000 in
theorem ok181 : SmOK rgT sm181 := vfy_sp (T := [sm180, sm178, sm171, sm170]) (AN := an181) (g := 97) (List.forall_mem_cons.mpr ⟨ok180, List.forall_mem_cons.mpr ⟨ok178, List.forall_mem_cons.mpr ⟨ok171, List.forall_mem_cons.mpr ⟨ok170, fun _ h => absurd h List.not_mem_nil⟩⟩⟩⟩) (by decide +kernel)
set_option maxRecDepth 1000000 in
def an182 : List (Nat × List (Nat × An)) := [(0, [(2, ([((0, 2, 0, (0, [])), 0, 2147483647)], ([], [], []), [], [], [], 0, true)), (27, ([((0, 2, 0, (0, [])), 0, 2147483647)], ([], [], []), [], [], [], 0, true)), (76, ([((0, 2, 0, (0, [])), 0, 2147483647)], ([], [], []), [], [], [], 0, true))])]
set_option maxRecDepth 1000000 in
theorem ok182 : SmOK rgT sm182 := vfy_sp (T := [sm181, sm177, sm174, sm165, sm163, sm161, sm159]) (AN := an182) (g := 153) (List.forall_mem_cons.mpr ⟨ok181, List.forall_mem_cons.mpr ⟨ok177, List.forall_mem_cons.mpr ⟨ok174, List.forall_mem_cons.mpr ⟨ok165, List.forall_mem_cons.mpr ⟨ok163, List.forall_mem_cons.mpr ⟨ok161, List.forall_mem_cons.mpr ⟨ok159, fun _ h => absurd h List.not_mem_nil⟩⟩⟩⟩⟩⟩⟩) (by decide +kernel)
set_option maxRecDepth 1000000 in
def an183 : List (Nat × List (Nat × An)) := [(89, [(4, ([((0, 1, 0, (0, [])), (-2147483648), 2147483647), ((0, 2, 0, (0, [])), 0, 2147483647)], ([], [], []), [], [], [], 1, true))])]
set_option maxRecDepth 1000000 in
theorem ok183 : SmOK rgT sm183 := vfy_sp (T := [sm164]) (AN := an183) (g := 86) (List.forall_mem_cons.mpr ⟨ok164, fun _ h => absurd h List.not_mem_nil⟩) (by decide +kernel)
set_option maxRecDepth 1000000 in
def an184 : List (Nat × List (Nat × An)) := []
set_option maxRecDepth 1000000 in
theorem ok184 : SmOK rgT sm184 := vfy_sp (T := []) (AN := an184) (g := 89) (fun _ h => absurd h List.not_mem_nil) (by decide +kernel)
set_option maxRecDepth 1000000 in
def an185 : List (Nat × List (Nat × An)) := [(90, [(4, ([((0, 1, 0, (0, [])), (-2147483648), 2147483647), ((0, 2, 0, (0, [])), 0, 2147483647)], ([], [], []), [], [], [], 1, true))])]
set_option maxRecDepth 1000000 in
theorem ok185 : SmOK rgT sm185 := vfy_sp (T := [sm159]) (AN := an185) (g := 86) (List.forall_mem_cons.mpr ⟨ok159, fun _ h => absurd h List.not_mem_nil⟩) (by decide +kernel)
set_option maxRecDepth 1000000 in
def an186 : List (Nat × List (Nat × An)) := [(151, [(46, ([((0, 3, 0, (0, [])), 0, 2147483647)], ([], [], []), [], [], [], 0, true))])]
set_option maxRecDepth 1000000 in
theorem ok186 : SmOK rgT sm186 := vfy_sp (T := [sm185, sm184, sm183, sm182, sm153]) (AN := an186) (g := 229) (List.forall_mem_cons.mpr ⟨ok185, List.forall_mem_cons.mpr ⟨ok184, List.forall_mem_cons.mpr ⟨ok183, List.forall_mem_cons.mpr ⟨ok182, List.forall_mem_cons.mpr ⟨ok153, fun _ h => absurd h List.not_mem_nil⟩⟩⟩⟩⟩) (by decide +kernel)
set_option maxRecDepth 1000000 in
def an187 : List (Nat × List (Nat × An)) := []
set_option maxRecDepth 1000000 in
theorem ok187 : SmOK rgT sm187 := vfy_sp (T := []) (AN := an187) (g := 216) (fun _ h => absurd h List.not_mem_nil) (by decide +kernel)
set_option maxRecDepth 1000000 in
def an188 : List (Nat × List (Nat × An)) := []
set_option maxRecDepth 1000000 in
theorem ok188 : SmOK rgT sm188 := vfy_sp (T := [sm187]) (AN := an188) (g := 72) (List.forall_mem_cons.mpr ⟨ok187, fun _ h => absurd h List.not_mem_nil⟩) (by decide +kernel)
set_option maxRecDepth 1000000 in
def an189 : List (Nat × List (Nat × An)) := []
set_option maxRecDepth 1000000 in
theorem ok189 : SmOK rgT sm189 := vfy_sp (T := []) (AN := an189) (g := 216) (fun _ h => absurd h List.not_mem_nil) (by decide +kernel)
set_option maxRecDepth 1000000 in
def an190 : List (Nat × List (Nat × An)) := []
set_option maxRecDepth 1000000 in
theorem ok190 : SmOK rgT sm190 := vfy_sp (T := [sm189]) (AN := an190) (g := 83) (List.forall_mem_cons.mpr ⟨ok189, fun _ h => absurd h List.not_mem_nil⟩) (by decide +kernel)
set_option maxRecDepth 1000000 in
def an191 : List (Nat × List (Nat × An)) := [(73, [(4, ([((0, 1, 0, (0, [])), (-2147483648), 2147483647), ((0, 2, 0, (0, [])), 0, 2147483647)], ([], [], []), [], [], [], 1, true))])]
set_option maxRecDepth 1000000 in
theorem ok191 : SmOK rgT sm191 := vfy_sp (T := [sm32]) (AN := an191) (g := 102) (List.forall_mem_cons.mpr ⟨ok32, fun _ h => absurd h List.not_mem_nil⟩) (by decide +kernel)
set_option maxRecDepth 1000000 in
def an192 : List (Nat × List (Nat × An)) := [(80, [(4, ([((0, 2, 0, (0, [])), 0, 2147483647), ((0, 1, 0, (0, [])), (-2147483648), 2147483647)], ([], [], []), [], [], [], 0, true))])]
set_option maxRecDepth 1000000 in
theorem ok192 : SmOK rgT sm192 := vfy_sp (T := [sm79]) (AN := an192) (g := 93) (List.forall_mem_cons.mpr ⟨ok79, fun _ h => absurd h List.not_mem_nil⟩) (by decide +kernel)
set_option maxRecDepth 1000000 in
def an193 : List (Nat × List (Nat × An)) := []
set_option maxRecDepth 1000000 in
theorem ok193 : SmOK rgT sm193 := vfy_sp (T := [sm192, sm191, sm147, sm37, sm34]) (AN := an193) (g := 155) (List.forall_mem_cons.mpr ⟨ok192, List.forall_mem_cons.mpr ⟨ok191, List.forall_mem_cons.mpr ⟨ok147, List.forall_mem_cons.mpr ⟨ok37, List.forall_mem_cons.mpr ⟨ok34, fun _ h => absurd h List.not_mem_nil⟩⟩⟩⟩⟩) (by decide +kernel)
set_option maxRecDepth 1000000 in
def an194 : List (Nat × List (Nat × An)) := [(175, [(67, ([((0, 5, 0, (0, [])), 0, 2147483647)], ([], [], []), [], [], [], 0, true))])]
set_option maxRecDepth 1000000 in
theorem ok194 : SmOK rgT sm194 := vfy_sp (T := []) (AN := an194) (g := 221) (fun _ h => absurd h List.not_mem_nil) (by decide +kernel)
set_option maxRecDepth 1000000 in
def an195 : List (Nat × List (Nat × An)) := []
set_option maxRecDepth 1000000 in
theorem ok195 : SmOK rgT sm195 := vfy_sp (T := []) (AN := an195) (g := 154) (fun _ h => absurd h List.not_mem_nil) (by decide +kernel)
set_option maxRecDepth 1000000 in
def an196 : List (Nat × List (Nat × An)) := []
set_option maxRecDepth 1000000 in
theorem ok196 : SmOK rgT sm196 := vfy_sp (T := []) (AN := an196) (g := 154) (fun _ h => absurd h List.not_mem_nil) (by decide +kernel)
set_option maxRecDepth 1000000 in
def an197 : List (Nat × List (Nat × An)) := [(178, [(4, ([((0, 3, 0, (0, [])), 0, 2147483647), ((0, 2, 0, (0, [])), (-2147483648), 2147483647)], ([], [], []), [], [], [], 0, true))])]
set_option maxRecDepth 1000000 in
theorem ok197 : SmOK rgT sm197 := vfy_sp (T := []) (AN := an197) (g := 109) (fun _ h => absurd h List.not_mem_nil) (by decide +kernel)
set_option maxRecDepth 1000000 in
def an198 : List (Nat × List (Nat × An)) := [(179, [(5, ([((0, 4, 0, (0, [])), 0, 2147483647), ((0, 3, 0, (0, [])), (-2147483648), 2147483647)], ([], [], []), [], [], [], 0, true))])]
set_option maxRecDepth 1000000 in
theorem ok198 : SmOK rgT sm198 := vfy_sp (T := []) (AN := an198) (g := 198) (fun _ h => absurd h List.not_mem_nil) (by decide +kernel)
set_option maxRecDepth 1000000 in
def an199 : List (Nat × List (Nat × An)) := []
set_option maxRecDepth 1000000 in
theorem ok199 : SmOK rgT sm199 := vfy_sp (T := [sm198, sm197]) (AN := an199) (g := 181) (List.forall_mem_cons.mpr ⟨ok198, List.forall_mem_cons.mpr ⟨ok197, fun _ h => absurd h List.not_mem_nil⟩⟩) (by decide +kernel)
set_option maxRecDepth 1000000 in
def an200 : List (Nat × List (Nat × An)) := [(181, [(68, ([((0, 5, 0, (0, [])), 0, 2147483647)], ([], [], []), [], [], [], 0, true)), (147, ([((0, 5, 0, (0, [])), 0, 2147483647)], ([], [], []), [], [], [], 0, true))])]
set_option maxRecDepth 1000000 in
theorem ok200 : SmOK rgT sm200 := vfy_sp (T := []) (AN := an200) (g := 265) (fun _ h => absurd h List.not_mem_nil) (by decide +kernel)
set_option maxRecDepth 1000000 in
def an201 : List (Nat × List (Nat × An)) := []
set_option maxRecDepth 1000000 in
theorem ok201 : SmOK rgT sm201 := vfy_sp (T := []) (AN := an201) (g := 180) (fun _ h => absurd h List.not_mem_nil) (by decide +kernel)
set_option maxRecDepth 1000000 in
def an202 : List (Nat × List (Nat × An)) := []
set_option maxRecDepth 1000000 in
theorem ok202 : SmOK rgT sm202 := vfy_sp (T := []) (AN := an202) (g := 531) (fun _ h => absurd h List.not_mem_nil) (by decide +kernel)
set_option maxRecDepth 1000000 in
def an203 : List (Nat × List (Nat × An)) := []
set_option maxRecDepth 1000000 in
theorem ok203 : SmOK rgT sm203 := vfy_sp (T := []) (AN := an203) (g := 265) (fun _ h => absurd h List.not_mem_nil) (by decide +kernel)
set_option maxRecDepth 1000000 in
def an204 : List (Nat × List (Nat × An)) := []
set_option maxRecDepth 1000000 in
theorem ok204 : SmOK rgT sm204 := vfy_sp (T := []) (AN := an204) (g := 400) (fun _ h => absurd h List.not_mem_nil) (by decide +kernel)
set_option maxRecDepth 1000000 in
def an205 : List (Nat × List (Nat × An)) := [(188, [(34, ([((0, 3, 0, (0, [])), 0, 2147483647)], ([], [], []), [], [], [], 0, true))])]
set_option maxRecDepth 1000000 in
theorem ok205 : SmOK rgT sm205 := vfy_sp (T := []) (AN := an205) (g := 237) (fun _ h => absurd h List.not_mem_nil) (by decide +kernel)
set_option maxRecDepth 1000000 in
def an206 : List (Nat × List (Nat × An)) := [(189, [(54, ([((0, 6, 0, (0, [])), 0, 2147483647), ((0, 4, 0, (0, [])), (-2147483648), 2147483647), ((0, 5, 0, (0, [])), (-2147483648), 2147483647)], ([], [], []), [], [], [], 0, true))])]
set_option maxRecDepth 1000000 in
theorem ok206 : SmOK rgT sm206 := vfy_sp (T := [sm205]) (AN := an206) (g := 1059) (List.forall_mem_cons.mpr ⟨ok205, fun _ h => absurd h List.not_mem_nil⟩) (by decide +kernel)
set_option maxRecDepth 1000000 in
def an207 : List (Nat × List (Nat × An)) := []
set_option maxRecDepth 1000000 in
theorem ok207 : SmOK rgT sm207 := vfy_sp (T := [sm2]) (AN := an207) (g := 72) (List.forall_mem_cons.mpr ⟨ok2, fun _ h => absurd h List.not_mem_nil⟩) (by decide +kernel)
set_option maxRecDepth 1000000 in
def an208 : List (Nat × List (Nat × An)) := []
set_option maxRecDepth 1000000 in
theorem ok208 : SmOK rgT sm208 := vfy_sp (T := [sm207]) (AN := an208) (g := 126) (List.forall_mem_cons.mpr ⟨ok207, fun _ h => absurd h List.not_mem_nil⟩) (by decide +kernel)
set_option maxRecDepth 1000000 in
def an209 : List (Nat × List (Nat × An)) := [(194, [(8, ([((0, 2, 0, (0, [])), 0, 2147483647), ((0, 1, 0, (0, [])), (-2147483648), 2147483647)], ([], [], []), [], [], [], 0, true))])]
set_option maxRecDepth 1000000 in
theorem ok209 : SmOK rgT sm209 := vfy_sp (T := [sm207, sm205]) (AN := an209) (g := 277) (List.forall_mem_cons.mpr ⟨ok207, List.forall_mem_cons.mpr ⟨ok205, fun _ h => absurd h List.not_mem_nil⟩⟩) (by decide +kernel)
set_option maxRecDepth 1000000 in
def an210 : List (Nat × List (Nat × An)) := [(195, [(4, ([((0, 1, 0, (0, [])), (-2147483648), 2147483647), ((0, 2, 0, (0, [])), 0, 2147483647)], ([], [], []), [], [], [], 1, true))])]
set_option maxRecDepth 1000000 in
theorem ok210 : SmOK rgT sm210 := vfy_sp (T := []) (AN := an210) (g := 223) (fun _ h => absurd h List.not_mem_nil) (by decide +kernel)
