/-! Printed by wip/ai/tab.py. -/
set_option maxRecDepth 1000000 in
noncomputable def an62 : List (Nat × List (Nat × An)) := [(35, [(2, ([((0, 1, 0, (0, [])), 0, 2147483647)], ([], [], []), [], [], [], 0, true))])]
set_option maxRecDepth 1000000 in
theorem ok62 : SmOK rgT sm62 := vfy_sp (T := [sm58]) (AN := an62) (g := 1051) (List.forall_mem_cons.mpr ⟨ok58, fun _ h => absurd h List.not_mem_nil⟩) (by decide +kernel)
set_option maxRecDepth 1000000 in
noncomputable def an63 : List (Nat × List (Nat × An)) := []
set_option maxRecDepth 1000000 in
theorem ok63 : SmOK rgT sm63 := vfy_sp (T := []) (AN := an63) (g := 82) (fun _ h => absurd h List.not_mem_nil) (by decide +kernel)
set_option maxRecDepth 1000000 in
noncomputable def an64 : List (Nat × List (Nat × An)) := []
set_option maxRecDepth 1000000 in
theorem ok64 : SmOK rgT sm64 := vfy_sp (T := []) (AN := an64) (g := 94) (fun _ h => absurd h List.not_mem_nil) (by decide +kernel)
set_option maxRecDepth 1000000 in
noncomputable def an65 : List (Nat × List (Nat × An)) := []
set_option maxRecDepth 1000000 in
theorem ok65 : SmOK rgT sm65 := vfy_sp (T := []) (AN := an65) (g := 85) (fun _ h => absurd h List.not_mem_nil) (by decide +kernel)
set_option maxRecDepth 1000000 in
noncomputable def an66 : List (Nat × List (Nat × An)) := []
set_option maxRecDepth 1000000 in
theorem ok66 : SmOK rgT sm66 := vfy_sp (T := []) (AN := an66) (g := 84) (fun _ h => absurd h List.not_mem_nil) (by decide +kernel)
set_option maxRecDepth 1000000 in
noncomputable def an67 : List (Nat × List (Nat × An)) := [(46, [(2, ([((0, 2, 0, (0, [])), 0, 2147483647)], ([], [], []), [], [], [], 0, true))])]
set_option maxRecDepth 1000000 in
theorem ok67 : SmOK rgT sm67 := vfy_sp (T := [sm66, sm65, sm64, sm63]) (AN := an67) (g := 85) (List.forall_mem_cons.mpr ⟨ok66, List.forall_mem_cons.mpr ⟨ok65, List.forall_mem_cons.mpr ⟨ok64, List.forall_mem_cons.mpr ⟨ok63, fun _ h => absurd h List.not_mem_nil⟩⟩⟩⟩) (by decide +kernel)
set_option maxRecDepth 1000000 in
noncomputable def an68 : List (Nat × List (Nat × An)) := []
set_option maxRecDepth 1000000 in
theorem ok68 : SmOK rgT sm68 := vfy_sp (T := []) (AN := an68) (g := 84) (fun _ h => absurd h List.not_mem_nil) (by decide +kernel)
set_option maxRecDepth 1000000 in
noncomputable def an69 : List (Nat × List (Nat × An)) := [(45, [(0, ([((1, 0, 55, (11, [])), (-2147483648), 2147483647)], ([], [], []), [], [], [(0, 55, 11, 11)], 0, false))])]
set_option maxRecDepth 1000000 in
theorem ok69 : SmOK rgT sm69 := vfy_sp (T := [sm66, sm65, sm63]) (AN := an69) (g := 97) (List.forall_mem_cons.mpr ⟨ok66, List.forall_mem_cons.mpr ⟨ok65, List.forall_mem_cons.mpr ⟨ok63, fun _ h => absurd h List.not_mem_nil⟩⟩⟩) (by decide +kernel)
set_option maxRecDepth 1000000 in
noncomputable def an70 : List (Nat × List (Nat × An)) := []
set_option maxRecDepth 1000000 in
theorem ok70 : SmOK rgT sm70 := vfy_sp (T := [sm69, sm67, sm65]) (AN := an70) (g := 99) (List.forall_mem_cons.mpr ⟨ok69, List.forall_mem_cons.mpr ⟨ok67, List.forall_mem_cons.mpr ⟨ok65, fun _ h => absurd h List.not_mem_nil⟩⟩⟩) (by decide +kernel)
set_option maxRecDepth 1000000 in
noncomputable def an71 : List (Nat × List (Nat × An)) := []
set_option maxRecDepth 1000000 in
theorem ok71 : SmOK rgT sm71 := vfy_sp (T := [sm70, sm68, sm67, sm64, sm63]) (AN := an71) (g := 279) (List.forall_mem_cons.mpr ⟨ok70, List.forall_mem_cons.mpr ⟨ok68, List.forall_mem_cons.mpr ⟨ok67, List.forall_mem_cons.mpr ⟨ok64, List.forall_mem_cons.mpr ⟨ok63, fun _ h => absurd h List.not_mem_nil⟩⟩⟩⟩⟩) (by decide +kernel)
set_option maxRecDepth 1000000 in
noncomputable def an72 : List (Nat × List (Nat × An)) := []
set_option maxRecDepth 1000000 in
theorem ok72 : SmOK rgT sm72 := vfy_sp (T := [sm69, sm66, sm58]) (AN := an72) (g := 350) (List.forall_mem_cons.mpr ⟨ok69, List.forall_mem_cons.mpr ⟨ok66, List.forall_mem_cons.mpr ⟨ok58, fun _ h => absurd h List.not_mem_nil⟩⟩⟩) (by decide +kernel)
set_option maxRecDepth 1000000 in
noncomputable def an73 : List (Nat × List (Nat × An)) := []
set_option maxRecDepth 1000000 in
theorem ok73 : SmOK rgT sm73 := vfy_sp (T := [sm68]) (AN := an73) (g := 122) (List.forall_mem_cons.mpr ⟨ok68, fun _ h => absurd h List.not_mem_nil⟩) (by decide +kernel)
set_option maxRecDepth 1000000 in
noncomputable def an74 : List (Nat × List (Nat × An)) := []
set_option maxRecDepth 1000000 in
theorem ok74 : SmOK rgT sm74 := vfy_sp (T := [sm73, sm72, sm69, sm66]) (AN := an74) (g := 104) (List.forall_mem_cons.mpr ⟨ok73, List.forall_mem_cons.mpr ⟨ok72, List.forall_mem_cons.mpr ⟨ok69, List.forall_mem_cons.mpr ⟨ok66, fun _ h => absurd h List.not_mem_nil⟩⟩⟩⟩) (by decide +kernel)
set_option maxRecDepth 1000000 in
noncomputable def an75 : List (Nat × List (Nat × An)) := [(27, [(36, ([((0, 1, 0, (0, [])), 0, 2147483647)], ([], [], []), [], [], [], 0, true))])]
set_option maxRecDepth 1000000 in
theorem ok75 : SmOK rgT sm75 := vfy_sp (T := [sm74, sm71, sm67, sm62, sm61, sm57]) (AN := an75) (g := 353) (List.forall_mem_cons.mpr ⟨ok74, List.forall_mem_cons.mpr ⟨ok71, List.forall_mem_cons.mpr ⟨ok67, List.forall_mem_cons.mpr ⟨ok62, List.forall_mem_cons.mpr ⟨ok61, List.forall_mem_cons.mpr ⟨ok57, fun _ h => absurd h List.not_mem_nil⟩⟩⟩⟩⟩⟩) (by decide +kernel)
set_option maxRecDepth 1000000 in
noncomputable def an76 : List (Nat × List (Nat × An)) := []
set_option maxRecDepth 1000000 in
theorem ok76 : SmOK rgT sm76 := vfy_sp (T := []) (AN := an76) (g := 278) (fun _ h => absurd h List.not_mem_nil) (by decide +kernel)
set_option maxRecDepth 1000000 in
noncomputable def an77 : List (Nat × List (Nat × An)) := []
set_option maxRecDepth 1000000 in
theorem ok77 : SmOK rgT sm77 := vfy_sp (T := []) (AN := an77) (g := 356) (fun _ h => absurd h List.not_mem_nil) (by decide +kernel)
set_option maxRecDepth 1000000 in
noncomputable def an78 : List (Nat × List (Nat × An)) := []
set_option maxRecDepth 1000000 in
theorem ok78 : SmOK rgT sm78 := vfy_sp (T := [sm77, sm76]) (AN := an78) (g := 232) (List.forall_mem_cons.mpr ⟨ok77, List.forall_mem_cons.mpr ⟨ok76, fun _ h => absurd h List.not_mem_nil⟩⟩) (by decide +kernel)
set_option maxRecDepth 1000000 in
noncomputable def an79 : List (Nat × List (Nat × An)) := []
set_option maxRecDepth 1000000 in
theorem ok79 : SmOK rgT sm79 := vfy_sp (T := [sm78, sm20, sm14, sm8, sm7]) (AN := an79) (g := 415) (List.forall_mem_cons.mpr ⟨ok78, List.forall_mem_cons.mpr ⟨ok20, List.forall_mem_cons.mpr ⟨ok14, List.forall_mem_cons.mpr ⟨ok8, List.forall_mem_cons.mpr ⟨ok7, fun _ h => absurd h List.not_mem_nil⟩⟩⟩⟩⟩) (by decide +kernel)
set_option maxRecDepth 1000000 in
noncomputable def an81 : List (Nat × List (Nat × An)) := []
set_option maxRecDepth 1000000 in
theorem ok81 : SmOK rgT sm81 := vfy_sp (T := []) (AN := an81) (g := 83) (fun _ h => absurd h List.not_mem_nil) (by decide +kernel)
set_option maxRecDepth 1000000 in
noncomputable def an82 : List (Nat × List (Nat × An)) := []
set_option maxRecDepth 1000000 in
theorem ok82 : SmOK rgT sm82 := vfy_sp (T := []) (AN := an82) (g := 238) (fun _ h => absurd h List.not_mem_nil) (by decide +kernel)
set_option maxRecDepth 1000000 in
noncomputable def an83 : List (Nat × List (Nat × An)) := []
set_option maxRecDepth 1000000 in
theorem ok83 : SmOK rgT sm83 := vfy_sp (T := []) (AN := an83) (g := 400) (fun _ h => absurd h List.not_mem_nil) (by decide +kernel)
set_option maxRecDepth 1000000 in
noncomputable def an86 : List (Nat × List (Nat × An)) := [(76, [(5, ([((0, 4, 0, (0, [])), 0, 2147483647), ((0, 3, 0, (0, [])), (-2147483648), 2147483647)], ([], [], []), [], [], [], 0, true))])]
set_option maxRecDepth 1000000 in
theorem ok86 : SmOK rgT sm86 := vfy_sp (T := [sm41]) (AN := an86) (g := 711) (List.forall_mem_cons.mpr ⟨ok41, fun _ h => absurd h List.not_mem_nil⟩) (by decide +kernel)
set_option maxRecDepth 1000000 in
noncomputable def an87 : List (Nat × List (Nat × An)) := []
set_option maxRecDepth 1000000 in
theorem ok87 : SmOK rgT sm87 := vfy_sp (T := [sm86, sm52, sm51]) (AN := an87) (g := 222) (List.forall_mem_cons.mpr ⟨ok86, List.forall_mem_cons.mpr ⟨ok52, List.forall_mem_cons.mpr ⟨ok51, fun _ h => absurd h List.not_mem_nil⟩⟩⟩) (by decide +kernel)
set_option maxRecDepth 1000000 in
noncomputable def an93 : List (Nat × List (Nat × An)) := []
set_option maxRecDepth 1000000 in
theorem ok93 : SmOK rgT sm93 := vfy_sp (T := []) (AN := an93) (g := 108) (fun _ h => absurd h List.not_mem_nil) (by decide +kernel)
set_option maxRecDepth 1000000 in
noncomputable def an100 : List (Nat × List (Nat × An)) := []
set_option maxRecDepth 1000000 in
theorem ok100 : SmOK rgT sm100 := vfy_sp (T := []) (AN := an100) (g := 138) (fun _ h => absurd h List.not_mem_nil) (by decide +kernel)
set_option maxRecDepth 1000000 in
noncomputable def an101 : List (Nat × List (Nat × An)) := []
set_option maxRecDepth 1000000 in
theorem ok101 : SmOK rgT sm101 := vfy_sp (T := [sm41]) (AN := an101) (g := 144) (List.forall_mem_cons.mpr ⟨ok41, fun _ h => absurd h List.not_mem_nil⟩) (by decide +kernel)
set_option maxRecDepth 1000000 in
noncomputable def an102 : List (Nat × List (Nat × An)) := []
set_option maxRecDepth 1000000 in
theorem ok102 : SmOK rgT sm102 := vfy_sp (T := [sm41]) (AN := an102) (g := 1915) (List.forall_mem_cons.mpr ⟨ok41, fun _ h => absurd h List.not_mem_nil⟩) (by decide +kernel)
