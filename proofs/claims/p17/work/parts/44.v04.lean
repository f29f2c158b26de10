/-! Printed by wip/ai/tab.py. -/
set_option maxRecDepth 1000000 in
def an153 : List (Nat × List (Nat × An)) := []
set_option maxRecDepth 1000000 in
theorem ok153 : SmOK rgT sm153 := vfy_sp (T := [sm152]) (AN := an153) (g := 69) (List.forall_mem_cons.mpr ⟨ok152, fun _ h => absurd h List.not_mem_nil⟩) (by decide +kernel)
set_option maxRecDepth 1000000 in
def an154 : List (Nat × List (Nat × An)) := []
set_option maxRecDepth 1000000 in
theorem ok154 : SmOK rgT sm154 := vfy_sp (T := []) (AN := an154) (g := 1681) (fun _ h => absurd h List.not_mem_nil) (by decide +kernel)
set_option maxRecDepth 1000000 in
def an155 : List (Nat × List (Nat × An)) := []
set_option maxRecDepth 1000000 in
theorem ok155 : SmOK rgT sm155 := vfy_sp (T := [sm154]) (AN := an155) (g := 65) (List.forall_mem_cons.mpr ⟨ok154, fun _ h => absurd h List.not_mem_nil⟩) (by decide +kernel)
set_option maxRecDepth 1000000 in
def an156 : List (Nat × List (Nat × An)) := []
set_option maxRecDepth 1000000 in
theorem ok156 : SmOK rgT sm156 := vfy_sp (T := []) (AN := an156) (g := 83) (fun _ h => absurd h List.not_mem_nil) (by decide +kernel)
set_option maxRecDepth 1000000 in
def an157 : List (Nat × List (Nat × An)) := []
set_option maxRecDepth 1000000 in
theorem ok157 : SmOK rgT sm157 := vfy_sp (T := []) (AN := an157) (g := 216) (fun _ h => absurd h List.not_mem_nil) (by decide +kernel)
set_option maxRecDepth 1000000 in
def an158 : List (Nat × List (Nat × An)) := []
set_option maxRecDepth 1000000 in
theorem ok158 : SmOK rgT sm158 := vfy_sp (T := []) (AN := an158) (g := 415) (fun _ h => absurd h List.not_mem_nil) (by decide +kernel)
set_option maxRecDepth 1000000 in
def an159 : List (Nat × List (Nat × An)) := []
set_option maxRecDepth 1000000 in
theorem ok159 : SmOK rgT sm159 := vfy_sp (T := [sm158]) (AN := an159) (g := 113) (List.forall_mem_cons.mpr ⟨ok158, fun _ h => absurd h List.not_mem_nil⟩) (by decide +kernel)
set_option maxRecDepth 1000000 in
def an160 : List (Nat × List (Nat × An)) := []
set_option maxRecDepth 1000000 in
theorem ok160 : SmOK rgT sm160 := vfy_sp (T := []) (AN := an160) (g := 337) (fun _ h => absurd h List.not_mem_nil) (by decide +kernel)
set_option maxRecDepth 1000000 in
def an161 : List (Nat × List (Nat × An)) := [(81, [(6, ([((0, 4, 0, (0, [])), 0, 2147483647), ((0, 3, 0, (0, [])), (-2147483648), 2147483647)], ([], [], []), [], [], [], 0, true))])]
set_option maxRecDepth 1000000 in
theorem ok161 : SmOK rgT sm161 := vfy_sp (T := [sm160, sm159]) (AN := an161) (g := 167) (List.forall_mem_cons.mpr ⟨ok160, List.forall_mem_cons.mpr ⟨ok159, fun _ h => absurd h List.not_mem_nil⟩⟩) (by decide +kernel)
set_option maxRecDepth 1000000 in
def an162 : List (Nat × List (Nat × An)) := [(3, [(2, ([((0, 3, 0, (0, [])), 0, 2147483647)], ([], [], []), [], [], [], 0, true))])]
set_option maxRecDepth 1000000 in
theorem ok162 : SmOK rgT sm162 := vfy_sp (T := [sm161]) (AN := an162) (g := 778) (List.forall_mem_cons.mpr ⟨ok161, fun _ h => absurd h List.not_mem_nil⟩) (by decide +kernel)
set_option maxRecDepth 1000000 in
def an163 : List (Nat × List (Nat × An)) := []
set_option maxRecDepth 1000000 in
theorem ok163 : SmOK rgT sm163 := vfy_sp (T := []) (AN := an163) (g := 106) (fun _ h => absurd h List.not_mem_nil) (by decide +kernel)
set_option maxRecDepth 1000000 in
def an164 : List (Nat × List (Nat × An)) := [(83, [(5, ([((0, 3, 0, (0, [])), 0, 2147483647), ((0, 2, 0, (0, [])), (-2147483648), 2147483647)], ([], [], []), [], [], [], 0, true))])]
set_option maxRecDepth 1000000 in
theorem ok164 : SmOK rgT sm164 := vfy_sp (T := []) (AN := an164) (g := 209) (fun _ h => absurd h List.not_mem_nil) (by decide +kernel)
set_option maxRecDepth 1000000 in
def an165 : List (Nat × List (Nat × An)) := [(49, [(20, ([((0, 7, 0, (0, [])), 0, 2147483647)], ([], [], []), [], [], [(0, 35, 1, 1)], 0, true))])]
set_option maxRecDepth 1000000 in
theorem ok165 : SmOK rgT sm165 := vfy_sp (T := [sm117, sm116, sm115]) (AN := an165) (g := 325) (List.forall_mem_cons.mpr ⟨ok117, List.forall_mem_cons.mpr ⟨ok116, List.forall_mem_cons.mpr ⟨ok115, fun _ h => absurd h List.not_mem_nil⟩⟩⟩) (by decide +kernel)
set_option maxRecDepth 1000000 in
def an166 : List (Nat × List (Nat × An)) := []
set_option maxRecDepth 1000000 in
theorem ok166 : SmOK rgT sm166 := vfy_sp (T := [sm165, sm164]) (AN := an166) (g := 89) (List.forall_mem_cons.mpr ⟨ok165, List.forall_mem_cons.mpr ⟨ok164, fun _ h => absurd h List.not_mem_nil⟩⟩) (by decide +kernel)
set_option maxRecDepth 1000000 in
def an167 : List (Nat × List (Nat × An)) := []
set_option maxRecDepth 1000000 in
theorem ok167 : SmOK rgT sm167 := vfy_sp (T := []) (AN := an167) (g := 180) (fun _ h => absurd h List.not_mem_nil) (by decide +kernel)
set_option maxRecDepth 1000000 in
def an168 : List (Nat × List (Nat × An)) := []
set_option maxRecDepth 1000000 in
theorem ok168 : SmOK rgT sm168 := vfy_sp (T := []) (AN := an168) (g := 254) (fun _ h => absurd h List.not_mem_nil) (by decide +kernel)
set_option maxRecDepth 1000000 in
def an169 : List (Nat × List (Nat × An)) := []
set_option maxRecDepth 1000000 in
theorem ok169 : SmOK rgT sm169 := vfy_sp (T := [sm168, sm167, sm166, sm163]) (AN := an169) (g := 1372) (List.forall_mem_cons.mpr ⟨ok168, List.forall_mem_cons.mpr ⟨ok167, List.forall_mem_cons.mpr ⟨ok166, List.forall_mem_cons.mpr ⟨ok163, fun _ h => absurd h List.not_mem_nil⟩⟩⟩⟩) (by decide +kernel)
set_option maxRecDepth 1000000 in
def an170 : List (Nat × List (Nat × An)) := []
set_option maxRecDepth 1000000 in
theorem ok170 : SmOK rgT sm170 := vfy_sp (T := []) (AN := an170) (g := 185) (fun _ h => absurd h List.not_mem_nil) (by decide +kernel)
set_option maxRecDepth 1000000 in
def an171 : List (Nat × List (Nat × An)) := [(86, [(13, ([((0, 4, 0, (0, [])), 0, 2147483647), ((0, 3, 0, (0, [])), (-2147483648), 2147483647)], ([], [], []), [], [], [], 0, true))])]
set_option maxRecDepth 1000000 in
theorem ok171 : SmOK rgT sm171 := vfy_sp (T := [sm170]) (AN := an171) (g := 352) (List.forall_mem_cons.mpr ⟨ok170, fun _ h => absurd h List.not_mem_nil⟩) (by decide +kernel)
set_option maxRecDepth 1000000 in
def an172 : List (Nat × List (Nat × An)) := []
set_option maxRecDepth 1000000 in
theorem ok172 : SmOK rgT sm172 := vfy_sp (T := []) (AN := an172) (g := 137) (fun _ h => absurd h List.not_mem_nil) (by decide +kernel)
set_option maxRecDepth 1000000 in
def an173 : List (Nat × List (Nat × An)) := [(70, [(2, ([((0, 3, 0, (0, [])), 0, 2147483647)], ([], [], []), [], [], [], 0, true))])]
set_option maxRecDepth 1000000 in
theorem ok173 : SmOK rgT sm173 := vfy_sp (T := [sm172]) (AN := an173) (g := 141) (List.forall_mem_cons.mpr ⟨ok172, fun _ h => absurd h List.not_mem_nil⟩) (by decide +kernel)
