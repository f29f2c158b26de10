/-! Printed by wip/ai/tab.py. -/
set_option maxRecDepth 1000000 in
def an149 : List (Nat × List (Nat × An)) := []
set_option maxRecDepth 1000000 in
theorem ok149 : SmOK rgT sm149 := vfy_sp (T := [sm148]) (AN := an149) (g := 65) (List.forall_mem_cons.mpr ⟨ok148, fun _ h => absurd h List.not_mem_nil⟩) (by decide +kernel)
set_option maxRecDepth 1000000 in
def an150 : List (Nat × List (Nat × An)) := []
set_option maxRecDepth 1000000 in
theorem ok150 : SmOK rgT sm150 := vfy_sp (T := []) (AN := an150) (g := 83) (fun _ h => absurd h List.not_mem_nil) (by decide +kernel)
set_option maxRecDepth 1000000 in
def an151 : List (Nat × List (Nat × An)) := []
set_option maxRecDepth 1000000 in
theorem ok151 : SmOK rgT sm151 := vfy_sp (T := []) (AN := an151) (g := 216) (fun _ h => absurd h List.not_mem_nil) (by decide +kernel)
set_option maxRecDepth 1000000 in
def an152 : List (Nat × List (Nat × An)) := [(74, [(13, ([((0, 3, 0, (0, [])), (-2147483648), 2147483647), ((0, 4, 0, (0, [])), 0, 2147483647)], ([], [], []), [], [], [], 1, true))])]
set_option maxRecDepth 1000000 in
theorem ok152 : SmOK rgT sm152 := vfy_sp (T := []) (AN := an152) (g := 325) (fun _ h => absurd h List.not_mem_nil) (by decide +kernel)
set_option maxRecDepth 1000000 in
def an153 : List (Nat × List (Nat × An)) := []
set_option maxRecDepth 1000000 in
theorem ok153 : SmOK rgT sm153 := vfy_sp (T := [sm152]) (AN := an153) (g := 115) (List.forall_mem_cons.mpr ⟨ok152, fun _ h => absurd h List.not_mem_nil⟩) (by decide +kernel)
set_option maxRecDepth 1000000 in
def an154 : List (Nat × List (Nat × An)) := []
set_option maxRecDepth 1000000 in
theorem ok154 : SmOK rgT sm154 := vfy_sp (T := []) (AN := an154) (g := 337) (fun _ h => absurd h List.not_mem_nil) (by decide +kernel)
set_option maxRecDepth 1000000 in
def an155 : List (Nat × List (Nat × An)) := [(81, [(6, ([((0, 4, 0, (0, [])), 0, 2147483647), ((0, 3, 0, (0, [])), (-2147483648), 2147483647)], ([], [], []), [], [], [], 0, true))])]
set_option maxRecDepth 1000000 in
theorem ok155 : SmOK rgT sm155 := vfy_sp (T := [sm154, sm153]) (AN := an155) (g := 238) (List.forall_mem_cons.mpr ⟨ok154, List.forall_mem_cons.mpr ⟨ok153, fun _ h => absurd h List.not_mem_nil⟩⟩) (by decide +kernel)
set_option maxRecDepth 1000000 in
def an156 : List (Nat × List (Nat × An)) := [(3, [(2, ([((0, 3, 0, (0, [])), 0, 2147483647)], ([], [], []), [], [], [], 0, true))])]
set_option maxRecDepth 1000000 in
theorem ok156 : SmOK rgT sm156 := vfy_sp (T := [sm155]) (AN := an156) (g := 986) (List.forall_mem_cons.mpr ⟨ok155, fun _ h => absurd h List.not_mem_nil⟩) (by decide +kernel)
set_option maxRecDepth 1000000 in
def an157 : List (Nat × List (Nat × An)) := [(83, [(5, ([((0, 3, 0, (0, [])), 0, 2147483647), ((0, 2, 0, (0, [])), (-2147483648), 2147483647)], ([], [], []), [], [], [], 0, true))])]
set_option maxRecDepth 1000000 in
theorem ok157 : SmOK rgT sm157 := vfy_sp (T := []) (AN := an157) (g := 231) (fun _ h => absurd h List.not_mem_nil) (by decide +kernel)
set_option maxRecDepth 1000000 in
def an158 : List (Nat × List (Nat × An)) := [(49, [(20, ([((0, 7, 0, (0, [])), 0, 2147483647)], ([], [], []), [], [], [(0, 35, 1, 1)], 0, true))])]
set_option maxRecDepth 1000000 in
theorem ok158 : SmOK rgT sm158 := vfy_sp (T := [sm38, sm37, sm36]) (AN := an158) (g := 345) (List.forall_mem_cons.mpr ⟨ok38, List.forall_mem_cons.mpr ⟨ok37, List.forall_mem_cons.mpr ⟨ok36, fun _ h => absurd h List.not_mem_nil⟩⟩⟩) (by decide +kernel)
set_option maxRecDepth 1000000 in
def an159 : List (Nat × List (Nat × An)) := []
set_option maxRecDepth 1000000 in
theorem ok159 : SmOK rgT sm159 := vfy_sp (T := [sm158, sm157]) (AN := an159) (g := 108) (List.forall_mem_cons.mpr ⟨ok158, List.forall_mem_cons.mpr ⟨ok157, fun _ h => absurd h List.not_mem_nil⟩⟩) (by decide +kernel)
set_option maxRecDepth 1000000 in
def an160 : List (Nat × List (Nat × An)) := []
set_option maxRecDepth 1000000 in
theorem ok160 : SmOK rgT sm160 := vfy_sp (T := [sm159]) (AN := an160) (g := 17194) (List.forall_mem_cons.mpr ⟨ok159, fun _ h => absurd h List.not_mem_nil⟩) (by decide +kernel)
