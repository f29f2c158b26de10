/-! Printed by wip/ai/tab.py. -/
set_option maxRecDepth 1000000 in
noncomputable def an42 : List (Nat × List (Nat × An)) := []
set_option maxRecDepth 1000000 in
theorem ok42 : SmOK rgT sm42 := vfy_sp (T := [sm41]) (AN := an42) (g := 115) (List.forall_mem_cons.mpr ⟨ok41, fun _ h => absurd h List.not_mem_nil⟩) (by decide +kernel)
set_option maxRecDepth 1000000 in
noncomputable def an43 : List (Nat × List (Nat × An)) := []
set_option maxRecDepth 1000000 in
theorem ok43 : SmOK rgT sm43 := vfy_sp (T := []) (AN := an43) (g := 337) (fun _ h => absurd h List.not_mem_nil) (by decide +kernel)
set_option maxRecDepth 1000000 in
noncomputable def an44 : List (Nat × List (Nat × An)) := [(81, [(6, ([((0, 4, 0, (0, [])), 0, 2147483647), ((0, 3, 0, (0, [])), (-2147483648), 2147483647)], ([], [], []), [], [], [], 0, true))])]
set_option maxRecDepth 1000000 in
theorem ok44 : SmOK rgT sm44 := vfy_sp (T := [sm43, sm42]) (AN := an44) (g := 238) (List.forall_mem_cons.mpr ⟨ok43, List.forall_mem_cons.mpr ⟨ok42, fun _ h => absurd h List.not_mem_nil⟩⟩) (by decide +kernel)
set_option maxRecDepth 1000000 in
noncomputable def an45 : List (Nat × List (Nat × An)) := [(11, [(16, ([((0, 3, 0, (0, [])), 0, 10)], ([], [], []), [], [], [], 0, false))])]
set_option maxRecDepth 1000000 in
theorem ok45 : SmOK rgT sm45 := vfy_sp (T := []) (AN := an45) (g := 107) (fun _ h => absurd h List.not_mem_nil) (by decide +kernel)
set_option maxRecDepth 1000000 in
noncomputable def an46 : List (Nat × List (Nat × An)) := [(10, [(32, ([((0, 2, 0, (0, [])), (-1), 9), ((0, 1, 0, (0, [])), (-2147483648), 2147483647)], ([], [], []), [], [], [(0, 50, 0, 10), (0, 51, 0, 110)], 0, false)), (71, ([((0, 3, 0, (0, [])), (-2147483648), 2147483647), ((0, 4, 0, (0, [])), 0, 2147483647)], ([], [], []), [], [], [(0, 51, 0, 110)], 1, true))])]
set_option maxRecDepth 1000000 in
theorem ok46 : SmOK rgT sm46 := vfy_sp (T := [sm45]) (AN := an46) (g := 235) (List.forall_mem_cons.mpr ⟨ok45, fun _ h => absurd h List.not_mem_nil⟩) (by decide +kernel)
set_option maxRecDepth 1000000 in
noncomputable def an47 : List (Nat × List (Nat × An)) := [(9, [(4, ([((0, 3, 0, (0, [])), 0, 2147483647), ((0, 2, 0, (0, [])), (-2147483648), 2147483647)], ([], [], []), [], [], [], 0, true))])]
set_option maxRecDepth 1000000 in
theorem ok47 : SmOK rgT sm47 := vfy_sp (T := []) (AN := an47) (g := 1189) (fun _ h => absurd h List.not_mem_nil) (by decide +kernel)
set_option maxRecDepth 1000000 in
noncomputable def an48 : List (Nat × List (Nat × An)) := [(8, [(18, ([((0, 2, 0, (0, [])), 0, 2147483647)], ([], [], []), [], [], [], 0, true)), (53, ([((0, 2, 0, (0, [])), 0, 2147483647)], ([], [], []), [], [], [], 0, true))])]
set_option maxRecDepth 1000000 in
theorem ok48 : SmOK rgT sm48 := vfy_sp (T := [sm47, sm46, sm0]) (AN := an48) (g := 219) (List.forall_mem_cons.mpr ⟨ok47, List.forall_mem_cons.mpr ⟨ok46, List.forall_mem_cons.mpr ⟨ok0, fun _ h => absurd h List.not_mem_nil⟩⟩⟩) (by decide +kernel)
set_option maxRecDepth 1000000 in
noncomputable def an49 : List (Nat × List (Nat × An)) := []
set_option maxRecDepth 1000000 in
theorem ok49 : SmOK rgT sm49 := vfy_sp (T := [sm2]) (AN := an49) (g := 72) (List.forall_mem_cons.mpr ⟨ok2, fun _ h => absurd h List.not_mem_nil⟩) (by decide +kernel)
set_option maxRecDepth 1000000 in
noncomputable def an50 : List (Nat × List (Nat × An)) := []
set_option maxRecDepth 1000000 in
theorem ok50 : SmOK rgT sm50 := vfy_sp (T := [sm39]) (AN := an50) (g := 232) (List.forall_mem_cons.mpr ⟨ok39, fun _ h => absurd h List.not_mem_nil⟩) (by decide +kernel)
set_option maxRecDepth 1000000 in
noncomputable def an51 : List (Nat × List (Nat × An)) := [(67, [(4, ([((0, 3, 0, (0, [])), 0, 2147483647), ((0, 2, 0, (0, [])), (-2147483648), 2147483647)], ([], [], []), [], [], [], 0, true))])]
set_option maxRecDepth 1000000 in
theorem ok51 : SmOK rgT sm51 := vfy_sp (T := []) (AN := an51) (g := 126) (fun _ h => absurd h List.not_mem_nil) (by decide +kernel)
set_option maxRecDepth 1000000 in
noncomputable def an52 : List (Nat × List (Nat × An)) := []
set_option maxRecDepth 1000000 in
theorem ok52 : SmOK rgT sm52 := vfy_sp (T := []) (AN := an52) (g := 102) (fun _ h => absurd h List.not_mem_nil) (by decide +kernel)
set_option maxRecDepth 1000000 in
noncomputable def an53 : List (Nat × List (Nat × An)) := []
set_option maxRecDepth 1000000 in
theorem ok53 : SmOK rgT sm53 := vfy_sp (T := [sm52, sm51]) (AN := an53) (g := 265) (List.forall_mem_cons.mpr ⟨ok52, List.forall_mem_cons.mpr ⟨ok51, fun _ h => absurd h List.not_mem_nil⟩⟩) (by decide +kernel)
set_option maxRecDepth 1000000 in
noncomputable def an54 : List (Nat × List (Nat × An)) := []
set_option maxRecDepth 1000000 in
theorem ok54 : SmOK rgT sm54 := vfy_sp (T := [sm53, sm50]) (AN := an54) (g := 873) (List.forall_mem_cons.mpr ⟨ok53, List.forall_mem_cons.mpr ⟨ok50, fun _ h => absurd h List.not_mem_nil⟩⟩) (by decide +kernel)
set_option maxRecDepth 1000000 in
noncomputable def an55 : List (Nat × List (Nat × An)) := [(188, [(34, ([((0, 3, 0, (0, [])), 0, 2147483647)], ([], [], []), [], [], [], 0, true))])]
set_option maxRecDepth 1000000 in
theorem ok55 : SmOK rgT sm55 := vfy_sp (T := []) (AN := an55) (g := 237) (fun _ h => absurd h List.not_mem_nil) (by decide +kernel)
set_option maxRecDepth 1000000 in
noncomputable def an56 : List (Nat × List (Nat × An)) := [(189, [(54, ([((0, 6, 0, (0, [])), 0, 2147483647), ((0, 4, 0, (0, [])), (-2147483648), 2147483647), ((0, 5, 0, (0, [])), (-2147483648), 2147483647)], ([], [], []), [], [], [], 0, true))])]
set_option maxRecDepth 1000000 in
theorem ok56 : SmOK rgT sm56 := vfy_sp (T := [sm55]) (AN := an56) (g := 820) (List.forall_mem_cons.mpr ⟨ok55, fun _ h => absurd h List.not_mem_nil⟩) (by decide +kernel)
set_option maxRecDepth 1000000 in
noncomputable def an57 : List (Nat × List (Nat × An)) := []
set_option maxRecDepth 1000000 in
theorem ok57 : SmOK rgT sm57 := vfy_sp (T := []) (AN := an57) (g := 93) (fun _ h => absurd h List.not_mem_nil) (by decide +kernel)
set_option maxRecDepth 1000000 in
noncomputable def an58 : List (Nat × List (Nat × An)) := []
set_option maxRecDepth 1000000 in
theorem ok58 : SmOK rgT sm58 := vfy_sp (T := []) (AN := an58) (g := 81) (fun _ h => absurd h List.not_mem_nil) (by decide +kernel)
set_option maxRecDepth 1000000 in
noncomputable def an59 : List (Nat × List (Nat × An)) := [(32, [(5, ([((1, 0, 55, (6, [])), (-2147483648), 2147483647)], ([], [], []), [], [], [(0, 55, 6, 6), (0, 55, 8, 8)], 0, true))])]
set_option maxRecDepth 1000000 in
theorem ok59 : SmOK rgT sm59 := vfy_sp (T := [sm58]) (AN := an59) (g := 131) (List.forall_mem_cons.mpr ⟨ok58, fun _ h => absurd h List.not_mem_nil⟩) (by decide +kernel)
set_option maxRecDepth 1000000 in
noncomputable def an60 : List (Nat × List (Nat × An)) := [(31, [(0, ([((1, 0, 55, (6, [])), (-2147483648), 2147483647)], ([], [], []), [], [], [(0, 55, 6, 6), (0, 55, 8, 8)], 0, true))])]
set_option maxRecDepth 1000000 in
theorem ok60 : SmOK rgT sm60 := vfy_sp (T := [sm58]) (AN := an60) (g := 103) (List.forall_mem_cons.mpr ⟨ok58, fun _ h => absurd h List.not_mem_nil⟩) (by decide +kernel)
set_option maxRecDepth 1000000 in
noncomputable def an61 : List (Nat × List (Nat × An)) := [(30, [(27, ([((1, 0, 55, (6, [])), (-2147483648), 2147483647)], ([], [], []), [], [], [(0, 55, 6, 6), (0, 55, 8, 8)], 0, true))])]
set_option maxRecDepth 1000000 in
theorem ok61 : SmOK rgT sm61 := vfy_sp (T := [sm60, sm59, sm58]) (AN := an61) (g := 2318) (List.forall_mem_cons.mpr ⟨ok60, List.forall_mem_cons.mpr ⟨ok59, List.forall_mem_cons.mpr ⟨ok58, fun _ h => absurd h List.not_mem_nil⟩⟩⟩) (by decide +kernel)
