/-! Printed by wip/ai/tab.py. -/
set_option maxRecDepth 1000000 in
noncomputable def an118 : List (Nat × List (Nat × An)) := [(81, [(6, ([((0, 4, 0, (0, [])), 0, 2147483647), ((0, 3, 0, (0, [])), (-2147483648), 2147483647)], ([], [], []), [], [], [], 0, true))])]
set_option maxRecDepth 1000000 in
theorem ok118 : SmOK rgT sm118 := vfy_sp (T := [sm117, sm116]) (AN := an118) (g := 238) (List.forall_mem_cons.mpr ⟨ok117, List.forall_mem_cons.mpr ⟨ok116, fun _ h => absurd h List.not_mem_nil⟩⟩) (by decide +kernel)
set_option maxRecDepth 1000000 in
noncomputable def an119 : List (Nat × List (Nat × An)) := [(18, [(13, ([((0, 3, 0, (0, [])), (-2147483648), 2147483647), ((1, 0, 38, (3, [])), 0, 30)], ([], [], []), [], [], [(0, 39, 0, 29), (0, 38, 3, 3)], 1, true))])]
set_option maxRecDepth 1000000 in
theorem ok119 : SmOK rgT sm119 := vfy_sp (T := [sm118]) (AN := an119) (g := 191) (List.forall_mem_cons.mpr ⟨ok118, fun _ h => absurd h List.not_mem_nil⟩) (by decide +kernel)
set_option maxRecDepth 1000000 in
noncomputable def an120 : List (Nat × List (Nat × An)) := [(19, [(7, ([((0, 3, 0, (0, [])), 0, 2147483647)], ([], [], []), [], [], [(0, 38, 4, 4)], 0, true))])]
set_option maxRecDepth 1000000 in
theorem ok120 : SmOK rgT sm120 := vfy_sp (T := []) (AN := an120) (g := 196) (fun _ h => absurd h List.not_mem_nil) (by decide +kernel)
set_option maxRecDepth 1000000 in
noncomputable def an121 : List (Nat × List (Nat × An)) := [(20, [(5, ([((0, 3, 0, (0, [])), (-2147483648), 2147483647), ((0, 4, 0, (0, [])), 0, 2147483647)], ([], [], []), [], [], [], 1, true))])]
set_option maxRecDepth 1000000 in
theorem ok121 : SmOK rgT sm121 := vfy_sp (T := []) (AN := an121) (g := 110) (fun _ h => absurd h List.not_mem_nil) (by decide +kernel)
set_option maxRecDepth 1000000 in
noncomputable def an122 : List (Nat × List (Nat × An)) := [(17, [(40, ([((0, 4, 0, (0, [])), (-2147483648), 2147483647), ((0, 6, 0, (0, [])), 0, 2147483647), ((0, 5, 0, (0, [])), 0, 2147483647)], ([], [], []), [], [], [], 1, true)), (60, ([((0, 4, 0, (0, [])), (-2147483648), 2147483647), ((0, 5, 0, (0, [])), 0, 2147483647)], ([], [], []), [], [], [], 1, true))])]
set_option maxRecDepth 1000000 in
theorem ok122 : SmOK rgT sm122 := vfy_sp (T := [sm121, sm120, sm119]) (AN := an122) (g := 331) (List.forall_mem_cons.mpr ⟨ok121, List.forall_mem_cons.mpr ⟨ok120, List.forall_mem_cons.mpr ⟨ok119, fun _ h => absurd h List.not_mem_nil⟩⟩⟩) (by decide +kernel)
set_option maxRecDepth 1000000 in
noncomputable def an123 : List (Nat × List (Nat × An)) := []
set_option maxRecDepth 1000000 in
theorem ok123 : SmOK rgT sm123 := vfy_sp (T := [sm122]) (AN := an123) (g := 93) (List.forall_mem_cons.mpr ⟨ok122, fun _ h => absurd h List.not_mem_nil⟩) (by decide +kernel)
set_option maxRecDepth 1000000 in
noncomputable def an126 : List (Nat × List (Nat × An)) := []
set_option maxRecDepth 1000000 in
theorem ok126 : SmOK rgT sm126 := vfy_sp (T := []) (AN := an126) (g := 138) (fun _ h => absurd h List.not_mem_nil) (by decide +kernel)
set_option maxRecDepth 1000000 in
noncomputable def an128 : List (Nat × List (Nat × An)) := []
set_option maxRecDepth 1000000 in
theorem ok128 : SmOK rgT sm128 := vfy_sp (T := [sm39]) (AN := an128) (g := 95) (List.forall_mem_cons.mpr ⟨ok39, fun _ h => absurd h List.not_mem_nil⟩) (by decide +kernel)
set_option maxRecDepth 1000000 in
noncomputable def an145 : List (Nat × List (Nat × An)) := [(63, [(4, ([((0, 1, 0, (0, [])), (-2147483648), 2147483647), ((0, 2, 0, (0, [])), 0, 2147483647)], ([], [], []), [], [], [], 1, true))])]
set_option maxRecDepth 1000000 in
theorem ok145 : SmOK rgT sm145 := vfy_sp (T := [sm97]) (AN := an145) (g := 95) (List.forall_mem_cons.mpr ⟨ok97, fun _ h => absurd h List.not_mem_nil⟩) (by decide +kernel)
set_option maxRecDepth 1000000 in
noncomputable def an148 : List (Nat × List (Nat × An)) := [(53, [(68, ([((0, 4, 0, (0, [])), 0, 2147483647)], ([], [], []), [], [], [], 0, true))])]
set_option maxRecDepth 1000000 in
theorem ok148 : SmOK rgT sm148 := vfy_sp (T := []) (AN := an148) (g := 196) (fun _ h => absurd h List.not_mem_nil) (by decide +kernel)
set_option maxRecDepth 1000000 in
noncomputable def an149 : List (Nat × List (Nat × An)) := []
set_option maxRecDepth 1000000 in
theorem ok149 : SmOK rgT sm149 := vfy_sp (T := [sm148]) (AN := an149) (g := 67) (List.forall_mem_cons.mpr ⟨ok148, fun _ h => absurd h List.not_mem_nil⟩) (by decide +kernel)
set_option maxRecDepth 1000000 in
noncomputable def an150 : List (Nat × List (Nat × An)) := []
set_option maxRecDepth 1000000 in
theorem ok150 : SmOK rgT sm150 := vfy_sp (T := []) (AN := an150) (g := 174) (fun _ h => absurd h List.not_mem_nil) (by decide +kernel)
set_option maxRecDepth 1000000 in
noncomputable def an151 : List (Nat × List (Nat × An)) := []
set_option maxRecDepth 1000000 in
theorem ok151 : SmOK rgT sm151 := vfy_sp (T := [sm150]) (AN := an151) (g := 68) (List.forall_mem_cons.mpr ⟨ok150, fun _ h => absurd h List.not_mem_nil⟩) (by decide +kernel)
set_option maxRecDepth 1000000 in
noncomputable def an152 : List (Nat × List (Nat × An)) := []
set_option maxRecDepth 1000000 in
theorem ok152 : SmOK rgT sm152 := vfy_sp (T := [sm150]) (AN := an152) (g := 68) (List.forall_mem_cons.mpr ⟨ok150, fun _ h => absurd h List.not_mem_nil⟩) (by decide +kernel)
set_option maxRecDepth 1000000 in
noncomputable def an153 : List (Nat × List (Nat × An)) := []
set_option maxRecDepth 1000000 in
theorem ok153 : SmOK rgT sm153 := vfy_sp (T := []) (AN := an153) (g := 238) (fun _ h => absurd h List.not_mem_nil) (by decide +kernel)
set_option maxRecDepth 1000000 in
noncomputable def an154 : List (Nat × List (Nat × An)) := []
set_option maxRecDepth 1000000 in
theorem ok154 : SmOK rgT sm154 := vfy_sp (T := [sm153]) (AN := an154) (g := 69) (List.forall_mem_cons.mpr ⟨ok153, fun _ h => absurd h List.not_mem_nil⟩) (by decide +kernel)
set_option maxRecDepth 1000000 in
noncomputable def an155 : List (Nat × List (Nat × An)) := []
set_option maxRecDepth 1000000 in
theorem ok155 : SmOK rgT sm155 := vfy_sp (T := []) (AN := an155) (g := 2707) (fun _ h => absurd h List.not_mem_nil) (by decide +kernel)
set_option maxRecDepth 1000000 in
noncomputable def an156 : List (Nat × List (Nat × An)) := []
set_option maxRecDepth 1000000 in
theorem ok156 : SmOK rgT sm156 := vfy_sp (T := [sm155]) (AN := an156) (g := 65) (List.forall_mem_cons.mpr ⟨ok155, fun _ h => absurd h List.not_mem_nil⟩) (by decide +kernel)
set_option maxRecDepth 1000000 in
noncomputable def an174 : List (Nat × List (Nat × An)) := [(73, [(4, ([((0, 1, 0, (0, [])), (-2147483648), 2147483647), ((0, 2, 0, (0, [])), 0, 2147483647)], ([], [], []), [], [], [], 1, true))])]
set_option maxRecDepth 1000000 in
theorem ok174 : SmOK rgT sm174 := vfy_sp (T := []) (AN := an174) (g := 124) (fun _ h => absurd h List.not_mem_nil) (by decide +kernel)
set_option maxRecDepth 1000000 in
noncomputable def an175 : List (Nat × List (Nat × An)) := [(80, [(4, ([((0, 2, 0, (0, [])), 0, 2147483647), ((0, 1, 0, (0, [])), (-2147483648), 2147483647)], ([], [], []), [], [], [], 0, true))])]
set_option maxRecDepth 1000000 in
theorem ok175 : SmOK rgT sm175 := vfy_sp (T := [sm116]) (AN := an175) (g := 93) (List.forall_mem_cons.mpr ⟨ok116, fun _ h => absurd h List.not_mem_nil⟩) (by decide +kernel)
set_option maxRecDepth 1000000 in
noncomputable def an176 : List (Nat × List (Nat × An)) := []
set_option maxRecDepth 1000000 in
theorem ok176 : SmOK rgT sm176 := vfy_sp (T := [sm175, sm174, sm145, sm90, sm57]) (AN := an176) (g := 157) (List.forall_mem_cons.mpr ⟨ok175, List.forall_mem_cons.mpr ⟨ok174, List.forall_mem_cons.mpr ⟨ok145, List.forall_mem_cons.mpr ⟨ok90, List.forall_mem_cons.mpr ⟨ok57, fun _ h => absurd h List.not_mem_nil⟩⟩⟩⟩⟩) (by decide +kernel)
set_option maxRecDepth 1000000 in
noncomputable def an180 : List (Nat × List (Nat × An)) := [(178, [(4, ([((0, 3, 0, (0, [])), 0, 2147483647), ((0, 2, 0, (0, [])), (-2147483648), 2147483647)], ([], [], []), [], [], [], 0, true))])]
set_option maxRecDepth 1000000 in
theorem ok180 : SmOK rgT sm180 := vfy_sp (T := []) (AN := an180) (g := 109) (fun _ h => absurd h List.not_mem_nil) (by decide +kernel)
set_option maxRecDepth 1000000 in
noncomputable def an181 : List (Nat × List (Nat × An)) := [(179, [(5, ([((0, 4, 0, (0, [])), 0, 2147483647), ((0, 3, 0, (0, [])), (-2147483648), 2147483647)], ([], [], []), [], [], [], 0, true))])]
set_option maxRecDepth 1000000 in
theorem ok181 : SmOK rgT sm181 := vfy_sp (T := []) (AN := an181) (g := 198) (fun _ h => absurd h List.not_mem_nil) (by decide +kernel)
set_option maxRecDepth 1000000 in
noncomputable def an182 : List (Nat × List (Nat × An)) := []
set_option maxRecDepth 1000000 in
theorem ok182 : SmOK rgT sm182 := vfy_sp (T := [sm181, sm180]) (AN := an182) (g := 181) (List.forall_mem_cons.mpr ⟨ok181, List.forall_mem_cons.mpr ⟨ok180, fun _ h => absurd h List.not_mem_nil⟩⟩) (by decide +kernel)
set_option maxRecDepth 1000000 in
noncomputable def an192 : List (Nat × List (Nat × An)) := []
set_option maxRecDepth 1000000 in
theorem ok192 : SmOK rgT sm192 := vfy_sp (T := []) (AN := an192) (g := 300) (fun _ h => absurd h List.not_mem_nil) (by decide +kernel)
set_option maxRecDepth 1000000 in
noncomputable def an196 : List (Nat × List (Nat × An)) := [(203, [(15, ([((0, 3, 0, (0, [])), 0, 2147483647), ((0, 2, 0, (0, [])), (-2147483648), 2147483647)], ([], [], []), [], [], [], 0, true))])]
set_option maxRecDepth 1000000 in
theorem ok196 : SmOK rgT sm196 := vfy_sp (T := []) (AN := an196) (g := 177) (fun _ h => absurd h List.not_mem_nil) (by decide +kernel)
set_option maxRecDepth 1000000 in
noncomputable def an199 : List (Nat × List (Nat × An)) := [(206, [(34, ([((0, 2, 0, (0, [])), 0, 10)], ([], [], []), [], [], [(0, 75, 0, 0)], 0, true)), (107, ([((0, 4, 0, (0, [])), 0, 1000), ((0, 2, 0, (0, [])), (-2147483648), 2147483647), ((0, 3, 0, (0, [])), (-2147483648), 2147483647), ((1, 9, 2005, (0, [])), 30, 30), ((1, 9, 2007, (0, [])), 30, 30)], ([], [], []), [], [], [(0, 75, 29, 29), (0, 75, 28, 28), (0, 75, 27, 27), (0, 75, 26, 26), (0, 75, 25, 25), (0, 75, 24, 24), (0, 75, 23, 23), (0, 75, 22, 22), (0, 75, 21, 21), (0, 75, 20, 20), (0, 75, 19, 19), (0, 75, 18, 18), (0, 75, 17, 17), (0, 75, 16, 16), (0, 75, 15, 15), (0, 75, 14, 14), (0, 75, 13, 13), (0, 75, 12, 12), (0, 75, 11, 11), (0, 75, 10, 10), (0, 75, 9, 9), (0, 75, 8, 8), (0, 75, 7, 7), (0, 75, 6, 6), (0, 75, 5, 5), (0, 75, 4, 4), (0, 75, 3, 3), (0, 75, 2, 2), (0, 75, 1, 1)], 0, true)), (124, ([((0, 5, 0, (0, [])), 0, 2147483647), ((0, 2, 0, (0, [])), (-2147483648), 2147483647)], ([], [], []), [], [], [], 0, true)), (268, ([((0, 5, 0, (0, [])), (-1), 29), ((0, 2, 0, (0, [])), (-2147483648), 2147483647), ((1, 7, 66, (0, [])), 0, 30)], ([], [], []), [(8, 66, (0, [(0, 1)]), (0, []))], [], [(0, 66, 567, 567), (0, 75, 29, 29), (0, 75, 28, 28), (0, 75, 27, 27), (0, 75, 26, 26), (0, 75, 25, 25), (0, 75, 24, 24), (0, 75, 23, 23), (0, 75, 22, 22), (0, 75, 21, 21), (0, 75, 20, 20), (0, 75, 19, 19), (0, 75, 18, 18), (0, 75, 17, 17), (0, 75, 16, 16), (0, 75, 15, 15), (0, 75, 14, 14), (0, 75, 13, 13), (0, 75, 12, 12), (0, 75, 11, 11), (0, 75, 10, 10), (0, 75, 9, 9), (0, 75, 8, 8), (0, 75, 7, 7), (0, 75, 6, 6), (0, 75, 5, 5), (0, 75, 4, 4), (0, 75, 3, 3), (0, 75, 2, 2), (0, 75, 1, 1)], 2, false))])]
set_option maxRecDepth 1000000 in
theorem ok199 : SmOK rgT sm199 := vfy_sp (T := [sm42]) (AN := an199) (g := 1625) (List.forall_mem_cons.mpr ⟨ok42, fun _ h => absurd h List.not_mem_nil⟩) (by decide +kernel)
