/-! Printed by wip/ai/tab.py. -/
set_option maxRecDepth 1000000 in
noncomputable def an45 : List (Nat × List (Nat × An)) := []
set_option maxRecDepth 1000000 in
theorem ok45 : SmOK rgT sm45 := vfy_sp (T := [sm44, sm40]) (AN := an45) (g := 108) (List.forall_mem_cons.mpr ⟨ok44, List.forall_mem_cons.mpr ⟨ok40, fun _ h => absurd h List.not_mem_nil⟩⟩) (by decide +kernel)
set_option maxRecDepth 1000000 in
noncomputable def an46 : List (Nat × List (Nat × An)) := [(227, [(4, ([((0, 2, 0, (0, [])), (-1), 11), ((0, 3, 0, (0, [])), 0, 2147483647)], ([((-1), [(0, (-1)), (1001, 1)])], [], []), [], [], [], 1, true))])]
set_option maxRecDepth 1000000 in
theorem ok46 : SmOK rgT sm46 := vfy_sp (T := []) (AN := an46) (g := 188) (fun _ h => absurd h List.not_mem_nil) (by decide +kernel)
set_option maxRecDepth 1000000 in
noncomputable def an47 : List (Nat × List (Nat × An)) := []
set_option maxRecDepth 1000000 in
theorem ok47 : SmOK rgT sm47 := vfy_sp (T := [sm46, sm_worked]) (AN := an47) (g := 574) (List.forall_mem_cons.mpr ⟨ok46, List.forall_mem_cons.mpr ⟨ok_worked, fun _ h => absurd h List.not_mem_nil⟩⟩) (by decide +kernel)
set_option maxRecDepth 1000000 in
noncomputable def an48 : List (Nat × List (Nat × An)) := [(11, [(16, ([((0, 3, 0, (0, [])), 0, 10)], ([], [], []), [], [], [], 0, false))])]
set_option maxRecDepth 1000000 in
theorem ok48 : SmOK rgT sm48 := vfy_sp (T := []) (AN := an48) (g := 107) (fun _ h => absurd h List.not_mem_nil) (by decide +kernel)
set_option maxRecDepth 1000000 in
noncomputable def an49 : List (Nat × List (Nat × An)) := [(10, [(32, ([((0, 2, 0, (0, [])), (-1), 9), ((0, 1, 0, (0, [])), (-2147483648), 2147483647)], ([], [], []), [], [], [(0, 50, 0, 10), (0, 51, 0, 110)], 0, false)), (71, ([((0, 3, 0, (0, [])), (-2147483648), 2147483647), ((0, 4, 0, (0, [])), 0, 2147483647)], ([], [], []), [], [], [(0, 51, 0, 110)], 1, true))])]
set_option maxRecDepth 1000000 in
theorem ok49 : SmOK rgT sm49 := vfy_sp (T := [sm48]) (AN := an49) (g := 235) (List.forall_mem_cons.mpr ⟨ok48, fun _ h => absurd h List.not_mem_nil⟩) (by decide +kernel)
set_option maxRecDepth 1000000 in
noncomputable def an50 : List (Nat × List (Nat × An)) := [(9, [(4, ([((0, 3, 0, (0, [])), 0, 2147483647), ((0, 2, 0, (0, [])), (-2147483648), 2147483647)], ([], [], []), [], [], [], 0, true))])]
set_option maxRecDepth 1000000 in
theorem ok50 : SmOK rgT sm50 := vfy_sp (T := []) (AN := an50) (g := 1189) (fun _ h => absurd h List.not_mem_nil) (by decide +kernel)
set_option maxRecDepth 1000000 in
noncomputable def an51 : List (Nat × List (Nat × An)) := [(8, [(18, ([((0, 2, 0, (0, [])), 0, 2147483647)], ([], [], []), [], [], [], 0, true)), (53, ([((0, 2, 0, (0, [])), 0, 2147483647)], ([], [], []), [], [], [], 0, true))])]
set_option maxRecDepth 1000000 in
theorem ok51 : SmOK rgT sm51 := vfy_sp (T := [sm50, sm49, sm0]) (AN := an51) (g := 219) (List.forall_mem_cons.mpr ⟨ok50, List.forall_mem_cons.mpr ⟨ok49, List.forall_mem_cons.mpr ⟨ok0, fun _ h => absurd h List.not_mem_nil⟩⟩⟩) (by decide +kernel)
set_option maxRecDepth 1000000 in
noncomputable def an52 : List (Nat × List (Nat × An)) := []
set_option maxRecDepth 1000000 in
theorem ok52 : SmOK rgT sm52 := vfy_sp (T := [sm2]) (AN := an52) (g := 72) (List.forall_mem_cons.mpr ⟨ok2, fun _ h => absurd h List.not_mem_nil⟩) (by decide +kernel)
set_option maxRecDepth 1000000 in
noncomputable def an53 : List (Nat × List (Nat × An)) := [(70, [(2, ([((0, 3, 0, (0, [])), 0, 2147483647)], ([], [], []), [], [], [], 0, true))])]
set_option maxRecDepth 1000000 in
theorem ok53 : SmOK rgT sm53 := vfy_sp (T := []) (AN := an53) (g := 223) (fun _ h => absurd h List.not_mem_nil) (by decide +kernel)
set_option maxRecDepth 1000000 in
noncomputable def an54 : List (Nat × List (Nat × An)) := []
set_option maxRecDepth 1000000 in
theorem ok54 : SmOK rgT sm54 := vfy_sp (T := [sm53]) (AN := an54) (g := 232) (List.forall_mem_cons.mpr ⟨ok53, fun _ h => absurd h List.not_mem_nil⟩) (by decide +kernel)
set_option maxRecDepth 1000000 in
noncomputable def an55 : List (Nat × List (Nat × An)) := [(67, [(4, ([((0, 3, 0, (0, [])), 0, 2147483647), ((0, 2, 0, (0, [])), (-2147483648), 2147483647)], ([], [], []), [], [], [], 0, true))])]
set_option maxRecDepth 1000000 in
theorem ok55 : SmOK rgT sm55 := vfy_sp (T := []) (AN := an55) (g := 126) (fun _ h => absurd h List.not_mem_nil) (by decide +kernel)
set_option maxRecDepth 1000000 in
noncomputable def an56 : List (Nat × List (Nat × An)) := []
set_option maxRecDepth 1000000 in
theorem ok56 : SmOK rgT sm56 := vfy_sp (T := []) (AN := an56) (g := 102) (fun _ h => absurd h List.not_mem_nil) (by decide +kernel)
set_option maxRecDepth 1000000 in
noncomputable def an57 : List (Nat × List (Nat × An)) := []
set_option maxRecDepth 1000000 in
theorem ok57 : SmOK rgT sm57 := vfy_sp (T := [sm56, sm55]) (AN := an57) (g := 265) (List.forall_mem_cons.mpr ⟨ok56, List.forall_mem_cons.mpr ⟨ok55, fun _ h => absurd h List.not_mem_nil⟩⟩) (by decide +kernel)
set_option maxRecDepth 1000000 in
noncomputable def an58 : List (Nat × List (Nat × An)) := []
set_option maxRecDepth 1000000 in
theorem ok58 : SmOK rgT sm58 := vfy_sp (T := [sm57, sm54]) (AN := an58) (g := 873) (List.forall_mem_cons.mpr ⟨ok57, List.forall_mem_cons.mpr ⟨ok54, fun _ h => absurd h List.not_mem_nil⟩⟩) (by decide +kernel)
set_option maxRecDepth 1000000 in
noncomputable def an59 : List (Nat × List (Nat × An)) := [(188, [(34, ([((0, 3, 0, (0, [])), 0, 2147483647)], ([], [], []), [], [], [], 0, true))])]
set_option maxRecDepth 1000000 in
theorem ok59 : SmOK rgT sm59 := vfy_sp (T := []) (AN := an59) (g := 237) (fun _ h => absurd h List.not_mem_nil) (by decide +kernel)
set_option maxRecDepth 1000000 in
noncomputable def an60 : List (Nat × List (Nat × An)) := [(189, [(54, ([((0, 6, 0, (0, [])), 0, 2147483647), ((0, 4, 0, (0, [])), (-2147483648), 2147483647), ((0, 5, 0, (0, [])), (-2147483648), 2147483647)], ([], [], []), [], [], [], 0, true))])]
set_option maxRecDepth 1000000 in
theorem ok60 : SmOK rgT sm60 := vfy_sp (T := [sm59]) (AN := an60) (g := 820) (List.forall_mem_cons.mpr ⟨ok59, fun _ h => absurd h List.not_mem_nil⟩) (by decide +kernel)
set_option maxRecDepth 1000000 in
noncomputable def an61 : List (Nat × List (Nat × An)) := []
set_option maxRecDepth 1000000 in
theorem ok61 : SmOK rgT sm61 := vfy_sp (T := []) (AN := an61) (g := 93) (fun _ h => absurd h List.not_mem_nil) (by decide +kernel)
set_option maxRecDepth 1000000 in
noncomputable def an62 : List (Nat × List (Nat × An)) := []
set_option maxRecDepth 1000000 in
theorem ok62 : SmOK rgT sm62 := vfy_sp (T := []) (AN := an62) (g := 81) (fun _ h => absurd h List.not_mem_nil) (by decide +kernel)
set_option maxRecDepth 1000000 in
noncomputable def an63 : List (Nat × List (Nat × An)) := [(32, [(5, ([((1, 0, 55, (6, [])), (-2147483648), 2147483647)], ([], [], []), [], [], [(0, 55, 6, 6), (0, 55, 8, 8)], 0, true))])]
set_option maxRecDepth 1000000 in
theorem ok63 : SmOK rgT sm63 := vfy_sp (T := [sm62]) (AN := an63) (g := 131) (List.forall_mem_cons.mpr ⟨ok62, fun _ h => absurd h List.not_mem_nil⟩) (by decide +kernel)
set_option maxRecDepth 1000000 in
noncomputable def an64 : List (Nat × List (Nat × An)) := [(31, [(0, ([((1, 0, 55, (6, [])), (-2147483648), 2147483647)], ([], [], []), [], [], [(0, 55, 6, 6), (0, 55, 8, 8)], 0, true))])]
set_option maxRecDepth 1000000 in
theorem ok64 : SmOK rgT sm64 := vfy_sp (T := [sm62]) (AN := an64) (g := 103) (List.forall_mem_cons.mpr ⟨ok62, fun _ h => absurd h List.not_mem_nil⟩) (by decide +kernel)
set_option maxRecDepth 1000000 in
noncomputable def an65 : List (Nat × List (Nat × An)) := [(30, [(27, ([((1, 0, 55, (6, [])), (-2147483648), 2147483647)], ([], [], []), [], [], [(0, 55, 6, 6), (0, 55, 8, 8)], 0, true))])]
set_option maxRecDepth 1000000 in
theorem ok65 : SmOK rgT sm65 := vfy_sp (T := [sm64, sm63, sm62]) (AN := an65) (g := 2318) (List.forall_mem_cons.mpr ⟨ok64, List.forall_mem_cons.mpr ⟨ok63, List.forall_mem_cons.mpr ⟨ok62, fun _ h => absurd h List.not_mem_nil⟩⟩⟩) (by decide +kernel)
