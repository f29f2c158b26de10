/-! Printed by wip/ai/tab.py. -/
set_option maxRecDepth 1000000 in
noncomputable def an66 : List (Nat × List (Nat × An)) := [(35, [(2, ([((0, 1, 0, (0, [])), 0, 2147483647)], ([], [], []), [], [], [], 0, true))])]
set_option maxRecDepth 1000000 in
theorem ok66 : SmOK rgT sm66 := vfy_sp (T := [sm62]) (AN := an66) (g := 1051) (List.forall_mem_cons.mpr ⟨ok62, fun _ h => absurd h List.not_mem_nil⟩) (by decide +kernel)
set_option maxRecDepth 1000000 in
noncomputable def an67 : List (Nat × List (Nat × An)) := []
set_option maxRecDepth 1000000 in
theorem ok67 : SmOK rgT sm67 := vfy_sp (T := []) (AN := an67) (g := 82) (fun _ h => absurd h List.not_mem_nil) (by decide +kernel)
set_option maxRecDepth 1000000 in
noncomputable def an68 : List (Nat × List (Nat × An)) := []
set_option maxRecDepth 1000000 in
theorem ok68 : SmOK rgT sm68 := vfy_sp (T := []) (AN := an68) (g := 94) (fun _ h => absurd h List.not_mem_nil) (by decide +kernel)
set_option maxRecDepth 1000000 in
noncomputable def an69 : List (Nat × List (Nat × An)) := []
set_option maxRecDepth 1000000 in
theorem ok69 : SmOK rgT sm69 := vfy_sp (T := []) (AN := an69) (g := 85) (fun _ h => absurd h List.not_mem_nil) (by decide +kernel)
set_option maxRecDepth 1000000 in
noncomputable def an70 : List (Nat × List (Nat × An)) := []
set_option maxRecDepth 1000000 in
theorem ok70 : SmOK rgT sm70 := vfy_sp (T := []) (AN := an70) (g := 84) (fun _ h => absurd h List.not_mem_nil) (by decide +kernel)
set_option maxRecDepth 1000000 in
noncomputable def an71 : List (Nat × List (Nat × An)) := [(46, [(2, ([((0, 2, 0, (0, [])), 0, 2147483647)], ([], [], []), [], [], [], 0, true))])]
set_option maxRecDepth 1000000 in
theorem ok71 : SmOK rgT sm71 := vfy_sp (T := [sm70, sm69, sm68, sm67]) (AN := an71) (g := 85) (List.forall_mem_cons.mpr ⟨ok70, List.forall_mem_cons.mpr ⟨ok69, List.forall_mem_cons.mpr ⟨ok68, List.forall_mem_cons.mpr ⟨ok67, fun _ h => absurd h List.not_mem_nil⟩⟩⟩⟩) (by decide +kernel)
set_option maxRecDepth 1000000 in
noncomputable def an72 : List (Nat × List (Nat × An)) := []
set_option maxRecDepth 1000000 in
theorem ok72 : SmOK rgT sm72 := vfy_sp (T := []) (AN := an72) (g := 84) (fun _ h => absurd h List.not_mem_nil) (by decide +kernel)
set_option maxRecDepth 1000000 in
noncomputable def an73 : List (Nat × List (Nat × An)) := [(45, [(0, ([((1, 0, 55, (11, [])), (-2147483648), 2147483647)], ([], [], []), [], [], [(0, 55, 11, 11)], 0, false))])]
set_option maxRecDepth 1000000 in
theorem ok73 : SmOK rgT sm73 := vfy_sp (T := [sm70, sm69, sm67]) (AN := an73) (g := 97) (List.forall_mem_cons.mpr ⟨ok70, List.forall_mem_cons.mpr ⟨ok69, List.forall_mem_cons.mpr ⟨ok67, fun _ h => absurd h List.not_mem_nil⟩⟩⟩) (by decide +kernel)
set_option maxRecDepth 1000000 in
noncomputable def an74 : List (Nat × List (Nat × An)) := []
set_option maxRecDepth 1000000 in
theorem ok74 : SmOK rgT sm74 := vfy_sp (T := [sm73, sm71, sm69]) (AN := an74) (g := 99) (List.forall_mem_cons.mpr ⟨ok73, List.forall_mem_cons.mpr ⟨ok71, List.forall_mem_cons.mpr ⟨ok69, fun _ h => absurd h List.not_mem_nil⟩⟩⟩) (by decide +kernel)
set_option maxRecDepth 1000000 in
noncomputable def an75 : List (Nat × List (Nat × An)) := []
set_option maxRecDepth 1000000 in
theorem ok75 : SmOK rgT sm75 := vfy_sp (T := [sm74, sm72, sm71, sm68, sm67]) (AN := an75) (g := 279) (List.forall_mem_cons.mpr ⟨ok74, List.forall_mem_cons.mpr ⟨ok72, List.forall_mem_cons.mpr ⟨ok71, List.forall_mem_cons.mpr ⟨ok68, List.forall_mem_cons.mpr ⟨ok67, fun _ h => absurd h List.not_mem_nil⟩⟩⟩⟩⟩) (by decide +kernel)
set_option maxRecDepth 1000000 in
noncomputable def an76 : List (Nat × List (Nat × An)) := []
set_option maxRecDepth 1000000 in
theorem ok76 : SmOK rgT sm76 := vfy_sp (T := [sm73, sm70, sm62]) (AN := an76) (g := 350) (List.forall_mem_cons.mpr ⟨ok73, List.forall_mem_cons.mpr ⟨ok70, List.forall_mem_cons.mpr ⟨ok62, fun _ h => absurd h List.not_mem_nil⟩⟩⟩) (by decide +kernel)
set_option maxRecDepth 1000000 in
noncomputable def an77 : List (Nat × List (Nat × An)) := []
set_option maxRecDepth 1000000 in
theorem ok77 : SmOK rgT sm77 := vfy_sp (T := [sm72]) (AN := an77) (g := 122) (List.forall_mem_cons.mpr ⟨ok72, fun _ h => absurd h List.not_mem_nil⟩) (by decide +kernel)
set_option maxRecDepth 1000000 in
noncomputable def an78 : List (Nat × List (Nat × An)) := []
set_option maxRecDepth 1000000 in
theorem ok78 : SmOK rgT sm78 := vfy_sp (T := [sm77, sm76, sm73, sm70]) (AN := an78) (g := 104) (List.forall_mem_cons.mpr ⟨ok77, List.forall_mem_cons.mpr ⟨ok76, List.forall_mem_cons.mpr ⟨ok73, List.forall_mem_cons.mpr ⟨ok70, fun _ h => absurd h List.not_mem_nil⟩⟩⟩⟩) (by decide +kernel)
set_option maxRecDepth 1000000 in
noncomputable def an79 : List (Nat × List (Nat × An)) := [(27, [(36, ([((0, 1, 0, (0, [])), 0, 2147483647)], ([], [], []), [], [], [], 0, true))])]
set_option maxRecDepth 1000000 in
theorem ok79 : SmOK rgT sm79 := vfy_sp (T := [sm78, sm75, sm71, sm66, sm65, sm61]) (AN := an79) (g := 353) (List.forall_mem_cons.mpr ⟨ok78, List.forall_mem_cons.mpr ⟨ok75, List.forall_mem_cons.mpr ⟨ok71, List.forall_mem_cons.mpr ⟨ok66, List.forall_mem_cons.mpr ⟨ok65, List.forall_mem_cons.mpr ⟨ok61, fun _ h => absurd h List.not_mem_nil⟩⟩⟩⟩⟩⟩) (by decide +kernel)
set_option maxRecDepth 1000000 in
noncomputable def an80 : List (Nat × List (Nat × An)) := []
set_option maxRecDepth 1000000 in
theorem ok80 : SmOK rgT sm80 := vfy_sp (T := []) (AN := an80) (g := 278) (fun _ h => absurd h List.not_mem_nil) (by decide +kernel)
set_option maxRecDepth 1000000 in
noncomputable def an81 : List (Nat × List (Nat × An)) := []
set_option maxRecDepth 1000000 in
theorem ok81 : SmOK rgT sm81 := vfy_sp (T := []) (AN := an81) (g := 356) (fun _ h => absurd h List.not_mem_nil) (by decide +kernel)
set_option maxRecDepth 1000000 in
noncomputable def an82 : List (Nat × List (Nat × An)) := []
set_option maxRecDepth 1000000 in
theorem ok82 : SmOK rgT sm82 := vfy_sp (T := [sm81, sm80]) (AN := an82) (g := 232) (List.forall_mem_cons.mpr ⟨ok81, List.forall_mem_cons.mpr ⟨ok80, fun _ h => absurd h List.not_mem_nil⟩⟩) (by decide +kernel)
set_option maxRecDepth 1000000 in
noncomputable def an83 : List (Nat × List (Nat × An)) := []
set_option maxRecDepth 1000000 in
theorem ok83 : SmOK rgT sm83 := vfy_sp (T := [sm82, sm20, sm14, sm8, sm7]) (AN := an83) (g := 415) (List.forall_mem_cons.mpr ⟨ok82, List.forall_mem_cons.mpr ⟨ok20, List.forall_mem_cons.mpr ⟨ok14, List.forall_mem_cons.mpr ⟨ok8, List.forall_mem_cons.mpr ⟨ok7, fun _ h => absurd h List.not_mem_nil⟩⟩⟩⟩⟩) (by decide +kernel)
set_option maxRecDepth 1000000 in
noncomputable def an85 : List (Nat × List (Nat × An)) := []
set_option maxRecDepth 1000000 in
theorem ok85 : SmOK rgT sm85 := vfy_sp (T := []) (AN := an85) (g := 83) (fun _ h => absurd h List.not_mem_nil) (by decide +kernel)
set_option maxRecDepth 1000000 in
noncomputable def an86 : List (Nat × List (Nat × An)) := []
set_option maxRecDepth 1000000 in
theorem ok86 : SmOK rgT sm86 := vfy_sp (T := [sm45]) (AN := an86) (g := 1124) (List.forall_mem_cons.mpr ⟨ok45, fun _ h => absurd h List.not_mem_nil⟩) (by decide +kernel)
set_option maxRecDepth 1000000 in
noncomputable def an87 : List (Nat × List (Nat × An)) := []
set_option maxRecDepth 1000000 in
theorem ok87 : SmOK rgT sm87 := vfy_sp (T := [sm47]) (AN := an87) (g := 625) (List.forall_mem_cons.mpr ⟨ok47, fun _ h => absurd h List.not_mem_nil⟩) (by decide +kernel)
set_option maxRecDepth 1000000 in
noncomputable def an90 : List (Nat × List (Nat × An)) := [(74, [(13, ([((0, 3, 0, (0, [])), (-2147483648), 2147483647), ((0, 4, 0, (0, [])), 0, 2147483647)], ([], [], []), [], [], [], 1, true))]), (76, [(5, ([((0, 4, 0, (0, [])), 0, 2147483647), ((0, 3, 0, (0, [])), (-2147483648), 2147483647)], ([], [], []), [], [], [], 0, true))])]
set_option maxRecDepth 1000000 in
theorem ok90 : SmOK rgT sm90 := vfy_sp (T := []) (AN := an90) (g := 1539) (fun _ h => absurd h List.not_mem_nil) (by decide +kernel)
