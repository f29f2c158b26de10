/-! Printed by wip/ai/tab.py. -/
set_option maxRecDepth 1000000 in
def an156 : List (Nat × List (Nat × An)) := []
set_option maxRecDepth 1000000 in
theorem ok156 : SmOK rgT sm156 := vfy_sp (T := [sm155]) (AN := an156) (g := 65) (List.forall_mem_cons.mpr ⟨ok155, fun _ h => absurd h List.not_mem_nil⟩) (by decide +kernel)
set_option maxRecDepth 1000000 in
def an157 : List (Nat × List (Nat × An)) := []
set_option maxRecDepth 1000000 in
theorem ok157 : SmOK rgT sm157 := vfy_sp (T := []) (AN := an157) (g := 83) (fun _ h => absurd h List.not_mem_nil) (by decide +kernel)
set_option maxRecDepth 1000000 in
def an158 : List (Nat × List (Nat × An)) := []
set_option maxRecDepth 1000000 in
theorem ok158 : SmOK rgT sm158 := vfy_sp (T := []) (AN := an158) (g := 216) (fun _ h => absurd h List.not_mem_nil) (by decide +kernel)
set_option maxRecDepth 1000000 in
def an159 : List (Nat × List (Nat × An)) := [(74, [(13, ([((0, 3, 0, (0, [])), (-2147483648), 2147483647), ((0, 4, 0, (0, [])), 0, 2147483647)], ([], [], []), [], [], [], 1, true))])]
set_option maxRecDepth 1000000 in
theorem ok159 : SmOK rgT sm159 := vfy_sp (T := []) (AN := an159) (g := 325) (fun _ h => absurd h List.not_mem_nil) (by decide +kernel)
set_option maxRecDepth 1000000 in
def an160 : List (Nat × List (Nat × An)) := []
set_option maxRecDepth 1000000 in
theorem ok160 : SmOK rgT sm160 := vfy_sp (T := [sm159]) (AN := an160) (g := 115) (List.forall_mem_cons.mpr ⟨ok159, fun _ h => absurd h List.not_mem_nil⟩) (by decide +kernel)
set_option maxRecDepth 1000000 in
def an161 : List (Nat × List (Nat × An)) := []
set_option maxRecDepth 1000000 in
theorem ok161 : SmOK rgT sm161 := vfy_sp (T := []) (AN := an161) (g := 337) (fun _ h => absurd h List.not_mem_nil) (by decide +kernel)
set_option maxRecDepth 1000000 in
def an162 : List (Nat × List (Nat × An)) := [(81, [(6, ([((0, 4, 0, (0, [])), 0, 2147483647), ((0, 3, 0, (0, [])), (-2147483648), 2147483647)], ([], [], []), [], [], [], 0, true))])]
set_option maxRecDepth 1000000 in
theorem ok162 : SmOK rgT sm162 := vfy_sp (T := [sm161, sm160]) (AN := an162) (g := 238) (List.forall_mem_cons.mpr ⟨ok161, List.forall_mem_cons.mpr ⟨ok160, fun _ h => absurd h List.not_mem_nil⟩⟩) (by decide +kernel)
set_option maxRecDepth 1000000 in
def an163 : List (Nat × List (Nat × An)) := [(3, [(2, ([((0, 3, 0, (0, [])), 0, 2147483647)], ([], [], []), [], [], [], 0, true))])]
set_option maxRecDepth 1000000 in
theorem ok163 : SmOK rgT sm163 := vfy_sp (T := [sm162]) (AN := an163) (g := 986) (List.forall_mem_cons.mpr ⟨ok162, fun _ h => absurd h List.not_mem_nil⟩) (by decide +kernel)
set_option maxRecDepth 1000000 in
def an164 : List (Nat × List (Nat × An)) := []
set_option maxRecDepth 1000000 in
theorem ok164 : SmOK rgT sm164 := vfy_sp (T := []) (AN := an164) (g := 108) (fun _ h => absurd h List.not_mem_nil) (by decide +kernel)
set_option maxRecDepth 1000000 in
def an165 : List (Nat × List (Nat × An)) := [(83, [(5, ([((0, 3, 0, (0, [])), 0, 2147483647), ((0, 2, 0, (0, [])), (-2147483648), 2147483647)], ([], [], []), [], [], [], 0, true))])]
set_option maxRecDepth 1000000 in
theorem ok165 : SmOK rgT sm165 := vfy_sp (T := []) (AN := an165) (g := 231) (fun _ h => absurd h List.not_mem_nil) (by decide +kernel)
set_option maxRecDepth 1000000 in
def an166 : List (Nat × List (Nat × An)) := [(49, [(20, ([((0, 7, 0, (0, [])), 0, 2147483647)], ([], [], []), [], [], [(0, 35, 1, 1)], 0, true))])]
set_option maxRecDepth 1000000 in
theorem ok166 : SmOK rgT sm166 := vfy_sp (T := [sm38, sm37, sm36]) (AN := an166) (g := 345) (List.forall_mem_cons.mpr ⟨ok38, List.forall_mem_cons.mpr ⟨ok37, List.forall_mem_cons.mpr ⟨ok36, fun _ h => absurd h List.not_mem_nil⟩⟩⟩) (by decide +kernel)
set_option maxRecDepth 1000000 in
def an167 : List (Nat × List (Nat × An)) := []
set_option maxRecDepth 1000000 in
theorem ok167 : SmOK rgT sm167 := vfy_sp (T := [sm166, sm165]) (AN := an167) (g := 108) (List.forall_mem_cons.mpr ⟨ok166, List.forall_mem_cons.mpr ⟨ok165, fun _ h => absurd h List.not_mem_nil⟩⟩) (by decide +kernel)
set_option maxRecDepth 1000000 in
def an168 : List (Nat × List (Nat × An)) := []
set_option maxRecDepth 1000000 in
theorem ok168 : SmOK rgT sm168 := vfy_sp (T := []) (AN := an168) (g := 338) (fun _ h => absurd h List.not_mem_nil) (by decide +kernel)
set_option maxRecDepth 1000000 in
def an169 : List (Nat × List (Nat × An)) := []
set_option maxRecDepth 1000000 in
theorem ok169 : SmOK rgT sm169 := vfy_sp (T := [sm168, sm167, sm164]) (AN := an169) (g := 5674) (List.forall_mem_cons.mpr ⟨ok168, List.forall_mem_cons.mpr ⟨ok167, List.forall_mem_cons.mpr ⟨ok164, fun _ h => absurd h List.not_mem_nil⟩⟩⟩) (by decide +kernel)
