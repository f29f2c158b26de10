/-! Printed by wip/ai/tab.py. -/
set_option maxRecDepth 1000000 in
def an65 : List (Nat × List (Nat × An)) := [(35, [(2, ([((0, 1, 0, (0, [])), 0, 2147483647)], ([], [], []), [], [], [], 0, true))])]
set_option maxRecDepth 1000000 in
theorem ok65 : SmOK rgT sm65 := vfy_sp (T := [sm61]) (AN := an65) (g := 1051) (List.forall_mem_cons.mpr ⟨ok61, fun _ h => absurd h List.not_mem_nil⟩) (by decide +kernel)
set_option maxRecDepth 1000000 in
def an66 : List (Nat × List (Nat × An)) := []
set_option maxRecDepth 1000000 in
theorem ok66 : SmOK rgT sm66 := vfy_sp (T := []) (AN := an66) (g := 82) (fun _ h => absurd h List.not_mem_nil) (by decide +kernel)
set_option maxRecDepth 1000000 in
def an67 : List (Nat × List (Nat × An)) := []
set_option maxRecDepth 1000000 in
theorem ok67 : SmOK rgT sm67 := vfy_sp (T := []) (AN := an67) (g := 94) (fun _ h => absurd h List.not_mem_nil) (by decide +kernel)
set_option maxRecDepth 1000000 in
def an68 : List (Nat × List (Nat × An)) := []
set_option maxRecDepth 1000000 in
theorem ok68 : SmOK rgT sm68 := vfy_sp (T := []) (AN := an68) (g := 85) (fun _ h => absurd h List.not_mem_nil) (by decide +kernel)
set_option maxRecDepth 1000000 in
def an69 : List (Nat × List (Nat × An)) := []
set_option maxRecDepth 1000000 in
theorem ok69 : SmOK rgT sm69 := vfy_sp (T := []) (AN := an69) (g := 84) (fun _ h => absurd h List.not_mem_nil) (by decide +kernel)
set_option maxRecDepth 1000000 in
def an70 : List (Nat × List (Nat × An)) := [(46, [(2, ([((0, 2, 0, (0, [])), 0, 2147483647)], ([], [], []), [], [], [], 0, true))])]
set_option maxRecDepth 1000000 in
theorem ok70 : SmOK rgT sm70 := vfy_sp (T := [sm69, sm68, sm67, sm66]) (AN := an70) (g := 85) (List.forall_mem_cons.mpr ⟨ok69, List.forall_mem_cons.mpr ⟨ok68, List.forall_mem_cons.mpr ⟨ok67, List.forall_mem_cons.mpr ⟨ok66, fun _ h => absurd h List.not_mem_nil⟩⟩⟩⟩) (by decide +kernel)
set_option maxRecDepth 1000000 in
def an71 : List (Nat × List (Nat × An)) := []
set_option maxRecDepth 1000000 in
theorem ok71 : SmOK rgT sm71 := vfy_sp (T := []) (AN := an71) (g := 84) (fun _ h => absurd h List.not_mem_nil) (by decide +kernel)
set_option maxRecDepth 1000000 in
def an72 : List (Nat × List (Nat × An)) := [(45, [(0, ([((1, 0, 55, (11, [])), (-2147483648), 2147483647)], ([], [], []), [], [], [(0, 55, 11, 11)], 0, false))])]
set_option maxRecDepth 1000000 in
theorem ok72 : SmOK rgT sm72 := vfy_sp (T := [sm69, sm68, sm66]) (AN := an72) (g := 97) (List.forall_mem_cons.mpr ⟨ok69, List.forall_mem_cons.mpr ⟨ok68, List.forall_mem_cons.mpr ⟨ok66, fun _ h => absurd h List.not_mem_nil⟩⟩⟩) (by decide +kernel)
set_option maxRecDepth 1000000 in
def an73 : List (Nat × List (Nat × An)) := []
set_option maxRecDepth 1000000 in
theorem ok73 : SmOK rgT sm73 := vfy_sp (T := [sm72, sm70, sm68]) (AN := an73) (g := 99) (List.forall_mem_cons.mpr ⟨ok72, List.forall_mem_cons.mpr ⟨ok70, List.forall_mem_cons.mpr ⟨ok68, fun _ h => absurd h List.not_mem_nil⟩⟩⟩) (by decide +kernel)
set_option maxRecDepth 1000000 in
def an74 : List (Nat × List (Nat × An)) := []
set_option maxRecDepth 1000000 in
theorem ok74 : SmOK rgT sm74 := vfy_sp (T := [sm73, sm71, sm70, sm67, sm66]) (AN := an74) (g := 279) (List.forall_mem_cons.mpr ⟨ok73, List.forall_mem_cons.mpr ⟨ok71, List.forall_mem_cons.mpr ⟨ok70, List.forall_mem_cons.mpr ⟨ok67, List.forall_mem_cons.mpr ⟨ok66, fun _ h => absurd h List.not_mem_nil⟩⟩⟩⟩⟩) (by decide +kernel)
set_option maxRecDepth 1000000 in
def an75 : List (Nat × List (Nat × An)) := []
set_option maxRecDepth 1000000 in
theorem ok75 : SmOK rgT sm75 := vfy_sp (T := [sm72, sm69, sm61]) (AN := an75) (g := 350) (List.forall_mem_cons.mpr ⟨ok72, List.forall_mem_cons.mpr ⟨ok69, List.forall_mem_cons.mpr ⟨ok61, fun _ h => absurd h List.not_mem_nil⟩⟩⟩) (by decide +kernel)
set_option maxRecDepth 1000000 in
def an76 : List (Nat × List (Nat × An)) := []
set_option maxRecDepth 1000000 in
theorem ok76 : SmOK rgT sm76 := vfy_sp (T := [sm71]) (AN := an76) (g := 122) (List.forall_mem_cons.mpr ⟨ok71, fun _ h => absurd h List.not_mem_nil⟩) (by decide +kernel)
set_option maxRecDepth 1000000 in
def an77 : List (Nat × List (Nat × An)) := []
set_option maxRecDepth 1000000 in
theorem ok77 : SmOK rgT sm77 := vfy_sp (T := [sm76, sm75, sm72, sm69]) (AN := an77) (g := 104) (List.forall_mem_cons.mpr ⟨ok76, List.forall_mem_cons.mpr ⟨ok75, List.forall_mem_cons.mpr ⟨ok72, List.forall_mem_cons.mpr ⟨ok69, fun _ h => absurd h List.not_mem_nil⟩⟩⟩⟩) (by decide +kernel)
set_option maxRecDepth 1000000 in
def an78 : List (Nat × List (Nat × An)) := [(27, [(36, ([((0, 1, 0, (0, [])), 0, 2147483647)], ([], [], []), [], [], [], 0, true))])]
set_option maxRecDepth 1000000 in
theorem ok78 : SmOK rgT sm78 := vfy_sp (T := [sm77, sm74, sm70, sm65, sm64, sm60]) (AN := an78) (g := 353) (List.forall_mem_cons.mpr ⟨ok77, List.forall_mem_cons.mpr ⟨ok74, List.forall_mem_cons.mpr ⟨ok70, List.forall_mem_cons.mpr ⟨ok65, List.forall_mem_cons.mpr ⟨ok64, List.forall_mem_cons.mpr ⟨ok60, fun _ h => absurd h List.not_mem_nil⟩⟩⟩⟩⟩⟩) (by decide +kernel)
set_option maxRecDepth 1000000 in
def an79 : List (Nat × List (Nat × An)) := []
set_option maxRecDepth 1000000 in
theorem ok79 : SmOK rgT sm79 := vfy_sp (T := []) (AN := an79) (g := 278) (fun _ h => absurd h List.not_mem_nil) (by decide +kernel)
set_option maxRecDepth 1000000 in
def an80 : List (Nat × List (Nat × An)) := []
set_option maxRecDepth 1000000 in
theorem ok80 : SmOK rgT sm80 := vfy_sp (T := []) (AN := an80) (g := 356) (fun _ h => absurd h List.not_mem_nil) (by decide +kernel)
set_option maxRecDepth 1000000 in
def an81 : List (Nat × List (Nat × An)) := []
set_option maxRecDepth 1000000 in
theorem ok81 : SmOK rgT sm81 := vfy_sp (T := [sm80, sm79]) (AN := an81) (g := 232) (List.forall_mem_cons.mpr ⟨ok80, List.forall_mem_cons.mpr ⟨ok79, fun _ h => absurd h List.not_mem_nil⟩⟩) (by decide +kernel)
set_option maxRecDepth 1000000 in
def an82 : List (Nat × List (Nat × An)) := []
set_option maxRecDepth 1000000 in
theorem ok82 : SmOK rgT sm82 := vfy_sp (T := [sm81, sm20, sm14, sm8, sm7]) (AN := an82) (g := 415) (List.forall_mem_cons.mpr ⟨ok81, List.forall_mem_cons.mpr ⟨ok20, List.forall_mem_cons.mpr ⟨ok14, List.forall_mem_cons.mpr ⟨ok8, List.forall_mem_cons.mpr ⟨ok7, fun _ h => absurd h List.not_mem_nil⟩⟩⟩⟩⟩) (by decide +kernel)
set_option maxRecDepth 1000000 in
def an84 : List (Nat × List (Nat × An)) := []
set_option maxRecDepth 1000000 in
theorem ok84 : SmOK rgT sm84 := vfy_sp (T := []) (AN := an84) (g := 83) (fun _ h => absurd h List.not_mem_nil) (by decide +kernel)
set_option maxRecDepth 1000000 in
def an85 : List (Nat × List (Nat × An)) := []
set_option maxRecDepth 1000000 in
theorem ok85 : SmOK rgT sm85 := vfy_sp (T := [sm40]) (AN := an85) (g := 1124) (List.forall_mem_cons.mpr ⟨ok40, fun _ h => absurd h List.not_mem_nil⟩) (by decide +kernel)
set_option maxRecDepth 1000000 in
def an86 : List (Nat × List (Nat × An)) := []
set_option maxRecDepth 1000000 in
theorem ok86 : SmOK rgT sm86 := vfy_sp (T := [sm42]) (AN := an86) (g := 625) (List.forall_mem_cons.mpr ⟨ok42, fun _ h => absurd h List.not_mem_nil⟩) (by decide +kernel)
set_option maxRecDepth 1000000 in
def an87 : List (Nat × List (Nat × An)) := []
set_option maxRecDepth 1000000 in
theorem ok87 : SmOK rgT sm87 := vfy_sp (T := []) (AN := an87) (g := 238) (fun _ h => absurd h List.not_mem_nil) (by decide +kernel)
set_option maxRecDepth 1000000 in
def an88 : List (Nat × List (Nat × An)) := []
set_option maxRecDepth 1000000 in
theorem ok88 : SmOK rgT sm88 := vfy_sp (T := []) (AN := an88) (g := 400) (fun _ h => absurd h List.not_mem_nil) (by decide +kernel)
set_option maxRecDepth 1000000 in
def an91 : List (Nat × List (Nat × An)) := [(76, [(5, ([((0, 4, 0, (0, [])), 0, 2147483647), ((0, 3, 0, (0, [])), (-2147483648), 2147483647)], ([], [], []), [], [], [], 0, true))])]
set_option maxRecDepth 1000000 in
theorem ok91 : SmOK rgT sm91 := vfy_sp (T := [sm44]) (AN := an91) (g := 711) (List.forall_mem_cons.mpr ⟨ok44, fun _ h => absurd h List.not_mem_nil⟩) (by decide +kernel)
set_option maxRecDepth 1000000 in
def an92 : List (Nat × List (Nat × An)) := []
set_option maxRecDepth 1000000 in
theorem ok92 : SmOK rgT sm92 := vfy_sp (T := [sm91, sm55, sm54]) (AN := an92) (g := 222) (List.forall_mem_cons.mpr ⟨ok91, List.forall_mem_cons.mpr ⟨ok55, List.forall_mem_cons.mpr ⟨ok54, fun _ h => absurd h List.not_mem_nil⟩⟩⟩) (by decide +kernel)
