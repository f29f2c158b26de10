/-! Printed by wip/ai/tab.py. -/
set_option maxRecDepth 1000000 in
noncomputable def an224 : List (Nat × List (Nat × An)) := []
set_option maxRecDepth 1000000 in
theorem ok224 : SmOK rgT sm224 := vfy_sp (T := []) (AN := an224) (g := 236) (fun _ h => absurd h List.not_mem_nil) (by decide +kernel)
set_option maxRecDepth 1000000 in
noncomputable def an225 : List (Nat × List (Nat × An)) := []
set_option maxRecDepth 1000000 in
theorem ok225 : SmOK rgT sm225 := vfy_sp (T := []) (AN := an225) (g := 247) (fun _ h => absurd h List.not_mem_nil) (by decide +kernel)
set_option maxRecDepth 1000000 in
noncomputable def an226 : List (Nat × List (Nat × An)) := [(257, [(113, ([((0, 6, 0, (0, [])), 0, 2147483647)], ([], [], []), [], [], [], 0, true)), (150, ([((0, 6, 0, (0, [])), 0, 2147483647)], ([], [], []), [], [], [], 0, true))])]
set_option maxRecDepth 1000000 in
theorem ok226 : SmOK rgT sm226 := vfy_sp (T := []) (AN := an226) (g := 239) (fun _ h => absurd h List.not_mem_nil) (by decide +kernel)
set_option maxRecDepth 1000000 in
noncomputable def an227 : List (Nat × List (Nat × An)) := [(258, [(14, ([((0, 4, 0, (0, [])), (-1), 3), ((0, 2, 0, (0, [])), (-1), 3)], ([], [], []), [], [], [], 0, false)), (45, ([((0, 4, 0, (0, [])), 0, 2147483647), ((0, 3, 0, (0, [])), (-2147483648), 2147483647)], ([], [], []), [], [], [], 0, true))])]
set_option maxRecDepth 1000000 in
theorem ok227 : SmOK rgT sm227 := vfy_sp (T := []) (AN := an227) (g := 292) (fun _ h => absurd h List.not_mem_nil) (by decide +kernel)
set_option maxRecDepth 1000000 in
noncomputable def an229 : List (Nat × List (Nat × An)) := [(261, [(61, ([((0, 3, 0, (0, [])), 0, 30), ((1, 0, 66, (0, [])), 0, 1999)], ([(999, [(0, 1), (1, (-1))])], [], []), [], [], [(0, 66, 0, 0)], 0, true)), (93, ([((0, 4, 0, (0, [])), 0, 2147483647)], ([], [], []), [], [], [(0, 83, 0, 58)], 0, true)), (138, ([((0, 4, 0, (0, [])), 0, 2147483647)], ([], [], []), [], [], [(0, 83, 1, 59)], 0, true)), (202, ([((0, 3, 0, (0, [])), 0, 2147483647)], ([], [], []), [], [], [], 0, true))])]
set_option maxRecDepth 1000000 in
theorem ok229 : SmOK rgT sm229 := vfy_sp (T := [sm221, sm_setAside_68_66r, sm_setAside_67_66, sm_setAside_66_68r]) (AN := an229) (g := 466) (List.forall_mem_cons.mpr ⟨ok221, List.forall_mem_cons.mpr ⟨ok_setAside_68_66r, List.forall_mem_cons.mpr ⟨ok_setAside_67_66, List.forall_mem_cons.mpr ⟨ok_setAside_66_68r, fun _ h => absurd h List.not_mem_nil⟩⟩⟩⟩) (by decide +kernel)
set_option maxRecDepth 1000000 in
noncomputable def an230 : List (Nat × List (Nat × An)) := [(264, [(88, ([((0, 2, 0, (0, [])), (-2147483648), 2147483647), ((0, 3, 0, (0, [])), 0, 2147483647)], ([], [], []), [], [], [], 1, true)), (160, ([((0, 3, 0, (0, [])), 0, 2147483647), ((0, 2, 0, (0, [])), (-2147483648), 2147483647)], ([], [], []), [], [], [], 0, true)), (257, ([((0, 2, 0, (0, [])), (-2147483648), 2147483647), ((0, 3, 0, (0, [])), 0, 2147483647)], ([], [], []), [], [], [], 1, true))])]
set_option maxRecDepth 1000000 in
theorem ok230 : SmOK rgT sm230 := vfy_sp (T := [sm186]) (AN := an230) (g := 293) (List.forall_mem_cons.mpr ⟨ok186, fun _ h => absurd h List.not_mem_nil⟩) (by decide +kernel)
set_option maxRecDepth 1000000 in
noncomputable def an232 : List (Nat × List (Nat × An)) := []
set_option maxRecDepth 1000000 in
theorem ok232 : SmOK rgT sm232 := vfy_sp (T := []) (AN := an232) (g := 216) (fun _ h => absurd h List.not_mem_nil) (by decide +kernel)
set_option maxRecDepth 1000000 in
noncomputable def an233 : List (Nat × List (Nat × An)) := []
set_option maxRecDepth 1000000 in
theorem ok233 : SmOK rgT sm233 := vfy_sp (T := []) (AN := an233) (g := 216) (fun _ h => absurd h List.not_mem_nil) (by decide +kernel)
