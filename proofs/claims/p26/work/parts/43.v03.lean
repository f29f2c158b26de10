/-! Printed by wip/ai/tab.py. -/
set_option maxRecDepth 1000000 in
def an150 : List (Nat × List (Nat × An)) := []
set_option maxRecDepth 1000000 in
theorem ok150 : SmOK rgT sm150 := vfy_sp (T := [sm149]) (AN := an150) (g := 69) (List.forall_mem_cons.mpr ⟨ok149, fun _ h => absurd h List.not_mem_nil⟩) (by decide +kernel)
set_option maxRecDepth 1000000 in
def an151 : List (Nat × List (Nat × An)) := []
set_option maxRecDepth 1000000 in
theorem ok151 : SmOK rgT sm151 := vfy_sp (T := []) (AN := an151) (g := 1681) (fun _ h => absurd h List.not_mem_nil) (by decide +kernel)
set_option maxRecDepth 1000000 in
def an152 : List (Nat × List (Nat × An)) := []
set_option maxRecDepth 1000000 in
theorem ok152 : SmOK rgT sm152 := vfy_sp (T := [sm151]) (AN := an152) (g := 65) (List.forall_mem_cons.mpr ⟨ok151, fun _ h => absurd h List.not_mem_nil⟩) (by decide +kernel)
set_option maxRecDepth 1000000 in
def an153 : List (Nat × List (Nat × An)) := []
set_option maxRecDepth 1000000 in
theorem ok153 : SmOK rgT sm153 := vfy_sp (T := []) (AN := an153) (g := 83) (fun _ h => absurd h List.not_mem_nil) (by decide +kernel)
set_option maxRecDepth 1000000 in
def an154 : List (Nat × List (Nat × An)) := []
set_option maxRecDepth 1000000 in
theorem ok154 : SmOK rgT sm154 := vfy_sp (T := []) (AN := an154) (g := 216) (fun _ h => absurd h List.not_mem_nil) (by decide +kernel)
set_option maxRecDepth 1000000 in
def an155 : List (Nat × List (Nat × An)) := []
set_option maxRecDepth 1000000 in
theorem ok155 : SmOK rgT sm155 := vfy_sp (T := []) (AN := an155) (g := 90) (fun _ h => absurd h List.not_mem_nil) (by decide +kernel)
set_option maxRecDepth 1000000 in
def an156 : List (Nat × List (Nat × An)) := [(74, [(13, ([((0, 3, 0, (0, [])), (-2147483648), 2147483647), ((0, 4, 0, (0, [])), 0, 2147483647)], ([], [], []), [], [], [], 1, true))])]
set_option maxRecDepth 1000000 in
theorem ok156 : SmOK rgT sm156 := vfy_sp (T := [sm155]) (AN := an156) (g := 116) (List.forall_mem_cons.mpr ⟨ok155, fun _ h => absurd h List.not_mem_nil⟩) (by decide +kernel)
set_option maxRecDepth 1000000 in
def an157 : List (Nat × List (Nat × An)) := []
set_option maxRecDepth 1000000 in
theorem ok157 : SmOK rgT sm157 := vfy_sp (T := [sm156, sm155]) (AN := an157) (g := 79) (List.forall_mem_cons.mpr ⟨ok156, List.forall_mem_cons.mpr ⟨ok155, fun _ h => absurd h List.not_mem_nil⟩⟩) (by decide +kernel)
set_option maxRecDepth 1000000 in
def an158 : List (Nat × List (Nat × An)) := []
set_option maxRecDepth 1000000 in
theorem ok158 : SmOK rgT sm158 := vfy_sp (T := [sm155]) (AN := an158) (g := 91) (List.forall_mem_cons.mpr ⟨ok155, fun _ h => absurd h List.not_mem_nil⟩) (by decide +kernel)
set_option maxRecDepth 1000000 in
def an159 : List (Nat × List (Nat × An)) := [(81, [(6, ([((0, 4, 0, (0, [])), 0, 2147483647), ((0, 3, 0, (0, [])), (-2147483648), 2147483647)], ([], [], []), [], [], [], 0, true))])]
set_option maxRecDepth 1000000 in
theorem ok159 : SmOK rgT sm159 := vfy_sp (T := [sm158, sm157, sm155]) (AN := an159) (g := 145) (List.forall_mem_cons.mpr ⟨ok158, List.forall_mem_cons.mpr ⟨ok157, List.forall_mem_cons.mpr ⟨ok155, fun _ h => absurd h List.not_mem_nil⟩⟩⟩) (by decide +kernel)
set_option maxRecDepth 1000000 in
def an160 : List (Nat × List (Nat × An)) := []
set_option maxRecDepth 1000000 in
theorem ok160 : SmOK rgT sm160 := vfy_sp (T := []) (AN := an160) (g := 90) (fun _ h => absurd h List.not_mem_nil) (by decide +kernel)
set_option maxRecDepth 1000000 in
def an161 : List (Nat × List (Nat × An)) := []
set_option maxRecDepth 1000000 in
theorem ok161 : SmOK rgT sm161 := vfy_sp (T := [sm160]) (AN := an161) (g := 102) (List.forall_mem_cons.mpr ⟨ok160, fun _ h => absurd h List.not_mem_nil⟩) (by decide +kernel)
set_option maxRecDepth 1000000 in
def an162 : List (Nat × List (Nat × An)) := [(3, [(2, ([((0, 3, 0, (0, [])), 0, 2147483647)], ([], [], []), [], [], [], 0, true))])]
set_option maxRecDepth 1000000 in
theorem ok162 : SmOK rgT sm162 := vfy_sp (T := [sm161, sm160, sm159, sm155]) (AN := an162) (g := 152) (List.forall_mem_cons.mpr ⟨ok161, List.forall_mem_cons.mpr ⟨ok160, List.forall_mem_cons.mpr ⟨ok159, List.forall_mem_cons.mpr ⟨ok155, fun _ h => absurd h List.not_mem_nil⟩⟩⟩⟩) (by decide +kernel)
set_option maxRecDepth 1000000 in
def an163 : List (Nat × List (Nat × An)) := []
set_option maxRecDepth 1000000 in
theorem ok163 : SmOK rgT sm163 := vfy_sp (T := []) (AN := an163) (g := 90) (fun _ h => absurd h List.not_mem_nil) (by decide +kernel)
set_option maxRecDepth 1000000 in
def an164 : List (Nat × List (Nat × An)) := []
set_option maxRecDepth 1000000 in
theorem ok164 : SmOK rgT sm164 := vfy_sp (T := [sm163]) (AN := an164) (g := 72) (List.forall_mem_cons.mpr ⟨ok163, fun _ h => absurd h List.not_mem_nil⟩) (by decide +kernel)
set_option maxRecDepth 1000000 in
def an165 : List (Nat × List (Nat × An)) := []
set_option maxRecDepth 1000000 in
theorem ok165 : SmOK rgT sm165 := vfy_sp (T := []) (AN := an165) (g := 90) (fun _ h => absurd h List.not_mem_nil) (by decide +kernel)
set_option maxRecDepth 1000000 in
def an166 : List (Nat × List (Nat × An)) := [(83, [(5, ([((0, 3, 0, (0, [])), 0, 2147483647), ((0, 2, 0, (0, [])), (-2147483648), 2147483647)], ([], [], []), [], [], [], 0, true))])]
set_option maxRecDepth 1000000 in
theorem ok166 : SmOK rgT sm166 := vfy_sp (T := [sm165]) (AN := an166) (g := 121) (List.forall_mem_cons.mpr ⟨ok165, fun _ h => absurd h List.not_mem_nil⟩) (by decide +kernel)
set_option maxRecDepth 1000000 in
def an167 : List (Nat × List (Nat × An)) := [(49, [(20, ([((0, 7, 0, (0, [])), 0, 2147483647)], ([], [], []), [], [], [(0, 35, 1, 1)], 0, true))])]
set_option maxRecDepth 1000000 in
theorem ok167 : SmOK rgT sm167 := vfy_sp (T := [sm165, sm115, sm114, sm113]) (AN := an167) (g := 195) (List.forall_mem_cons.mpr ⟨ok165, List.forall_mem_cons.mpr ⟨ok115, List.forall_mem_cons.mpr ⟨ok114, List.forall_mem_cons.mpr ⟨ok113, fun _ h => absurd h List.not_mem_nil⟩⟩⟩⟩) (by decide +kernel)
set_option maxRecDepth 1000000 in
def an168 : List (Nat × List (Nat × An)) := []
set_option maxRecDepth 1000000 in
theorem ok168 : SmOK rgT sm168 := vfy_sp (T := [sm167, sm166]) (AN := an168) (g := 89) (List.forall_mem_cons.mpr ⟨ok167, List.forall_mem_cons.mpr ⟨ok166, fun _ h => absurd h List.not_mem_nil⟩⟩) (by decide +kernel)
set_option maxRecDepth 1000000 in
def an169 : List (Nat × List (Nat × An)) := []
set_option maxRecDepth 1000000 in
theorem ok169 : SmOK rgT sm169 := vfy_sp (T := [sm163]) (AN := an169) (g := 106) (List.forall_mem_cons.mpr ⟨ok163, fun _ h => absurd h List.not_mem_nil⟩) (by decide +kernel)
set_option maxRecDepth 1000000 in
def an170 : List (Nat × List (Nat × An)) := []
set_option maxRecDepth 1000000 in
theorem ok170 : SmOK rgT sm170 := vfy_sp (T := [sm163]) (AN := an170) (g := 102) (List.forall_mem_cons.mpr ⟨ok163, fun _ h => absurd h List.not_mem_nil⟩) (by decide +kernel)
set_option maxRecDepth 1000000 in
def an171 : List (Nat × List (Nat × An)) := []
set_option maxRecDepth 1000000 in
theorem ok171 : SmOK rgT sm171 := vfy_sp (T := [sm163]) (AN := an171) (g := 200) (List.forall_mem_cons.mpr ⟨ok163, fun _ h => absurd h List.not_mem_nil⟩) (by decide +kernel)
set_option maxRecDepth 1000000 in
def an172 : List (Nat × List (Nat × An)) := []
set_option maxRecDepth 1000000 in
theorem ok172 : SmOK rgT sm172 := vfy_sp (T := [sm171, sm170, sm169, sm168, sm164, sm163, sm161, sm160]) (AN := an172) (g := 152) (List.forall_mem_cons.mpr ⟨ok171, List.forall_mem_cons.mpr ⟨ok170, List.forall_mem_cons.mpr ⟨ok169, List.forall_mem_cons.mpr ⟨ok168, List.forall_mem_cons.mpr ⟨ok164, List.forall_mem_cons.mpr ⟨ok163, List.forall_mem_cons.mpr ⟨ok161, List.forall_mem_cons.mpr ⟨ok160, fun _ h => absurd h List.not_mem_nil⟩⟩⟩⟩⟩⟩⟩⟩) (by decide +kernel)
set_option maxRecDepth 1000000 in
def an173 : List (Nat × List (Nat × An)) := []
set_option maxRecDepth 1000000 in
theorem ok173 : SmOK rgT sm173 := vfy_sp (T := []) (AN := an173) (g := 90) (fun _ h => absurd h List.not_mem_nil) (by decide +kernel)
set_option maxRecDepth 1000000 in
def an174 : List (Nat × List (Nat × An)) := []
set_option maxRecDepth 1000000 in
theorem ok174 : SmOK rgT sm174 := vfy_sp (T := [sm173]) (AN := an174) (g := 89) (List.forall_mem_cons.mpr ⟨ok173, fun _ h => absurd h List.not_mem_nil⟩) (by decide +kernel)
set_option maxRecDepth 1000000 in
def an175 : List (Nat × List (Nat × An)) := [(86, [(13, ([((0, 4, 0, (0, [])), 0, 2147483647), ((0, 3, 0, (0, [])), (-2147483648), 2147483647)], ([], [], []), [], [], [], 0, true))])]
set_option maxRecDepth 1000000 in
theorem ok175 : SmOK rgT sm175 := vfy_sp (T := [sm174, sm173, sm163]) (AN := an175) (g := 108) (List.forall_mem_cons.mpr ⟨ok174, List.forall_mem_cons.mpr ⟨ok173, List.forall_mem_cons.mpr ⟨ok163, fun _ h => absurd h List.not_mem_nil⟩⟩⟩) (by decide +kernel)
set_option maxRecDepth 1000000 in
def an176 : List (Nat × List (Nat × An)) := []
set_option maxRecDepth 1000000 in
theorem ok176 : SmOK rgT sm176 := vfy_sp (T := [sm163]) (AN := an176) (g := 107) (List.forall_mem_cons.mpr ⟨ok163, fun _ h => absurd h List.not_mem_nil⟩) (by decide +kernel)
set_option maxRecDepth 1000000 in
def an177 : List (Nat × List (Nat × An)) := []
set_option maxRecDepth 1000000 in
theorem ok177 : SmOK rgT sm177 := vfy_sp (T := [sm155]) (AN := an177) (g := 81) (List.forall_mem_cons.mpr ⟨ok155, fun _ h => absurd h List.not_mem_nil⟩) (by decide +kernel)
set_option maxRecDepth 1000000 in
def an178 : List (Nat × List (Nat × An)) := [(70, [(2, ([((0, 3, 0, (0, [])), 0, 2147483647)], ([], [], []), [], [], [], 0, true))])]
set_option maxRecDepth 1000000 in
theorem ok178 : SmOK rgT sm178 := vfy_sp (T := [sm177]) (AN := an178) (g := 141) (List.forall_mem_cons.mpr ⟨ok177, fun _ h => absurd h List.not_mem_nil⟩) (by decide +kernel)
set_option maxRecDepth 1000000 in
def an179 : List (Nat × List (Nat × An)) := []
set_option maxRecDepth 1000000 in
theorem ok179 : SmOK rgT sm179 := vfy_sp (T := [sm178, sm176, sm169]) (AN := an179) (g := 169) (List.forall_mem_cons.mpr ⟨ok178, List.forall_mem_cons.mpr ⟨ok176, List.forall_mem_cons.mpr ⟨ok169, fun _ h => absurd h List.not_mem_nil⟩⟩⟩) (by decide +kernel)
set_option maxRecDepth 1000000 in
def an180 : List (Nat × List (Nat × An)) := [(0, [(2, ([((0, 2, 0, (0, [])), 0, 2147483647)], ([], [], []), [], [], [], 0, true)), (27, ([((0, 2, 0, (0, [])), 0, 2147483647)], ([], [], []), [], [], [], 0, true)), (76, ([((0, 2, 0, (0, [])), 0, 2147483647)], ([], [], []), [], [], [], 0, true))])]
set_option maxRecDepth 1000000 in
theorem ok180 : SmOK rgT sm180 := vfy_sp (T := [sm179, sm175, sm172, sm164, sm162, sm160]) (AN := an180) (g := 176) (List.forall_mem_cons.mpr ⟨ok179, List.forall_mem_cons.mpr ⟨ok175, List.forall_mem_cons.mpr ⟨ok172, List.forall_mem_cons.mpr ⟨ok164, List.forall_mem_cons.mpr ⟨ok162, List.forall_mem_cons.mpr ⟨ok160, fun _ h => absurd h List.not_mem_nil⟩⟩⟩⟩⟩⟩) (by decide +kernel)
set_option maxRecDepth 1000000 in
def an181 : List (Nat × List (Nat × An)) := [(89, [(4, ([((0, 1, 0, (0, [])), (-2147483648), 2147483647), ((0, 2, 0, (0, [])), 0, 2147483647)], ([], [], []), [], [], [], 1, true))])]
set_option maxRecDepth 1000000 in
theorem ok181 : SmOK rgT sm181 := vfy_sp (T := [sm163]) (AN := an181) (g := 86) (List.forall_mem_cons.mpr ⟨ok163, fun _ h => absurd h List.not_mem_nil⟩) (by decide +kernel)
set_option maxRecDepth 1000000 in
def an182 : List (Nat × List (Nat × An)) := []
set_option maxRecDepth 1000000 in
theorem ok182 : SmOK rgT sm182 := vfy_sp (T := []) (AN := an182) (g := 87) (fun _ h => absurd h List.not_mem_nil) (by decide +kernel)
set_option maxRecDepth 1000000 in
def an183 : List (Nat × List (Nat × An)) := [(90, [(4, ([((0, 1, 0, (0, [])), (-2147483648), 2147483647), ((0, 2, 0, (0, [])), 0, 2147483647)], ([], [], []), [], [], [], 1, true))])]
set_option maxRecDepth 1000000 in
theorem ok183 : SmOK rgT sm183 := vfy_sp (T := [sm160]) (AN := an183) (g := 86) (List.forall_mem_cons.mpr ⟨ok160, fun _ h => absurd h List.not_mem_nil⟩) (by decide +kernel)
set_option maxRecDepth 1000000 in
def an184 : List (Nat × List (Nat × An)) := [(151, [(46, ([((0, 3, 0, (0, [])), 0, 2147483647)], ([], [], []), [], [], [], 0, true))])]
set_option maxRecDepth 1000000 in
theorem ok184 : SmOK rgT sm184 := vfy_sp (T := [sm183, sm182, sm181, sm180, sm154]) (AN := an184) (g := 229) (List.forall_mem_cons.mpr ⟨ok183, List.forall_mem_cons.mpr ⟨ok182, List.forall_mem_cons.mpr ⟨ok181, List.forall_mem_cons.mpr ⟨ok180, List.forall_mem_cons.mpr ⟨ok154, fun _ h => absurd h List.not_mem_nil⟩⟩⟩⟩⟩) (by decide +kernel)
set_option maxRecDepth 1000000 in
def an185 : List (Nat × List (Nat × An)) := [(73, [(4, ([((0, 1, 0, (0, [])), (-2147483648), 2147483647), ((0, 2, 0, (0, [])), 0, 2147483647)], ([], [], []), [], [], [], 1, true))])]
set_option maxRecDepth 1000000 in
theorem ok185 : SmOK rgT sm185 := vfy_sp (T := [sm55]) (AN := an185) (g := 96) (List.forall_mem_cons.mpr ⟨ok55, fun _ h => absurd h List.not_mem_nil⟩) (by decide +kernel)
set_option maxRecDepth 1000000 in
def an186 : List (Nat × List (Nat × An)) := [(80, [(4, ([((0, 2, 0, (0, [])), 0, 2147483647), ((0, 1, 0, (0, [])), (-2147483648), 2147483647)], ([], [], []), [], [], [], 0, true))])]
set_option maxRecDepth 1000000 in
theorem ok186 : SmOK rgT sm186 := vfy_sp (T := [sm100]) (AN := an186) (g := 93) (List.forall_mem_cons.mpr ⟨ok100, fun _ h => absurd h List.not_mem_nil⟩) (by decide +kernel)
set_option maxRecDepth 1000000 in
def an187 : List (Nat × List (Nat × An)) := []
set_option maxRecDepth 1000000 in
theorem ok187 : SmOK rgT sm187 := vfy_sp (T := [sm186, sm185, sm141, sm60, sm57]) (AN := an187) (g := 155) (List.forall_mem_cons.mpr ⟨ok186, List.forall_mem_cons.mpr ⟨ok185, List.forall_mem_cons.mpr ⟨ok141, List.forall_mem_cons.mpr ⟨ok60, List.forall_mem_cons.mpr ⟨ok57, fun _ h => absurd h List.not_mem_nil⟩⟩⟩⟩⟩) (by decide +kernel)
set_option maxRecDepth 1000000 in
def an188 : List (Nat × List (Nat × An)) := [(175, [(67, ([((0, 5, 0, (0, [])), 0, 2147483647)], ([], [], []), [], [], [], 0, true))])]
set_option maxRecDepth 1000000 in
theorem ok188 : SmOK rgT sm188 := vfy_sp (T := []) (AN := an188) (g := 221) (fun _ h => absurd h List.not_mem_nil) (by decide +kernel)
set_option maxRecDepth 1000000 in
def an189 : List (Nat × List (Nat × An)) := []
set_option maxRecDepth 1000000 in
theorem ok189 : SmOK rgT sm189 := vfy_sp (T := []) (AN := an189) (g := 154) (fun _ h => absurd h List.not_mem_nil) (by decide +kernel)
set_option maxRecDepth 1000000 in
def an190 : List (Nat × List (Nat × An)) := []
set_option maxRecDepth 1000000 in
theorem ok190 : SmOK rgT sm190 := vfy_sp (T := []) (AN := an190) (g := 154) (fun _ h => absurd h List.not_mem_nil) (by decide +kernel)
set_option maxRecDepth 1000000 in
def an191 : List (Nat × List (Nat × An)) := [(178, [(4, ([((0, 3, 0, (0, [])), 0, 2147483647), ((0, 2, 0, (0, [])), (-2147483648), 2147483647)], ([], [], []), [], [], [], 0, true))])]
set_option maxRecDepth 1000000 in
theorem ok191 : SmOK rgT sm191 := vfy_sp (T := []) (AN := an191) (g := 103) (fun _ h => absurd h List.not_mem_nil) (by decide +kernel)
set_option maxRecDepth 1000000 in
def an192 : List (Nat × List (Nat × An)) := [(179, [(5, ([((0, 4, 0, (0, [])), 0, 2147483647), ((0, 3, 0, (0, [])), (-2147483648), 2147483647)], ([], [], []), [], [], [], 0, true))])]
set_option maxRecDepth 1000000 in
theorem ok192 : SmOK rgT sm192 := vfy_sp (T := []) (AN := an192) (g := 186) (fun _ h => absurd h List.not_mem_nil) (by decide +kernel)
set_option maxRecDepth 1000000 in
def an193 : List (Nat × List (Nat × An)) := []
set_option maxRecDepth 1000000 in
theorem ok193 : SmOK rgT sm193 := vfy_sp (T := [sm192, sm191]) (AN := an193) (g := 166) (List.forall_mem_cons.mpr ⟨ok192, List.forall_mem_cons.mpr ⟨ok191, fun _ h => absurd h List.not_mem_nil⟩⟩) (by decide +kernel)
set_option maxRecDepth 1000000 in
def an194 : List (Nat × List (Nat × An)) := [(181, [(68, ([((0, 5, 0, (0, [])), 0, 2147483647)], ([], [], []), [], [], [], 0, true)), (147, ([((0, 5, 0, (0, [])), 0, 2147483647)], ([], [], []), [], [], [], 0, true))])]
set_option maxRecDepth 1000000 in
theorem ok194 : SmOK rgT sm194 := vfy_sp (T := []) (AN := an194) (g := 265) (fun _ h => absurd h List.not_mem_nil) (by decide +kernel)
set_option maxRecDepth 1000000 in
def an195 : List (Nat × List (Nat × An)) := []
set_option maxRecDepth 1000000 in
theorem ok195 : SmOK rgT sm195 := vfy_sp (T := []) (AN := an195) (g := 175) (fun _ h => absurd h List.not_mem_nil) (by decide +kernel)
set_option maxRecDepth 1000000 in
def an196 : List (Nat × List (Nat × An)) := []
set_option maxRecDepth 1000000 in
theorem ok196 : SmOK rgT sm196 := vfy_sp (T := []) (AN := an196) (g := 481) (fun _ h => absurd h List.not_mem_nil) (by decide +kernel)
set_option maxRecDepth 1000000 in
def an197 : List (Nat × List (Nat × An)) := []
set_option maxRecDepth 1000000 in
theorem ok197 : SmOK rgT sm197 := vfy_sp (T := []) (AN := an197) (g := 204) (fun _ h => absurd h List.not_mem_nil) (by decide +kernel)
set_option maxRecDepth 1000000 in
def an198 : List (Nat × List (Nat × An)) := []
set_option maxRecDepth 1000000 in
theorem ok198 : SmOK rgT sm198 := vfy_sp (T := []) (AN := an198) (g := 273) (fun _ h => absurd h List.not_mem_nil) (by decide +kernel)
set_option maxRecDepth 1000000 in
def an199 : List (Nat × List (Nat × An)) := [(188, [(34, ([((0, 3, 0, (0, [])), 0, 2147483647)], ([], [], []), [], [], [], 0, true))])]
set_option maxRecDepth 1000000 in
theorem ok199 : SmOK rgT sm199 := vfy_sp (T := []) (AN := an199) (g := 151) (fun _ h => absurd h List.not_mem_nil) (by decide +kernel)
set_option maxRecDepth 1000000 in
def an200 : List (Nat × List (Nat × An)) := [(189, [(54, ([((0, 6, 0, (0, [])), 0, 2147483647), ((0, 4, 0, (0, [])), (-2147483648), 2147483647), ((0, 5, 0, (0, [])), (-2147483648), 2147483647)], ([], [], []), [], [], [], 0, true))])]
set_option maxRecDepth 1000000 in
theorem ok200 : SmOK rgT sm200 := vfy_sp (T := [sm199]) (AN := an200) (g := 516) (List.forall_mem_cons.mpr ⟨ok199, fun _ h => absurd h List.not_mem_nil⟩) (by decide +kernel)
set_option maxRecDepth 1000000 in
def an201 : List (Nat × List (Nat × An)) := []
set_option maxRecDepth 1000000 in
theorem ok201 : SmOK rgT sm201 := vfy_sp (T := [sm2]) (AN := an201) (g := 72) (List.forall_mem_cons.mpr ⟨ok2, fun _ h => absurd h List.not_mem_nil⟩) (by decide +kernel)
set_option maxRecDepth 1000000 in
def an202 : List (Nat × List (Nat × An)) := []
set_option maxRecDepth 1000000 in
theorem ok202 : SmOK rgT sm202 := vfy_sp (T := [sm201]) (AN := an202) (g := 126) (List.forall_mem_cons.mpr ⟨ok201, fun _ h => absurd h List.not_mem_nil⟩) (by decide +kernel)
