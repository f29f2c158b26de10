/-! Printed by wip/ai/tab.py. -/
set_option maxRecDepth 1000000 in
def an35 : List (Nat × List (Nat × An)) := [(35, [(2, ([((0, 1, 0, (0, [])), 0, 2147483647)], ([], [], []), [], [], [], 0, true))])]
set_option maxRecDepth 1000000 in
theorem ok35 : SmOK rgT sm35 := vfy_sp (T := [sm31]) (AN := an35) (g := 1051) (List.forall_mem_cons.mpr ⟨ok31, fun _ h => absurd h List.not_mem_nil⟩) (by decide +kernel)
set_option maxRecDepth 1000000 in
def an36 : List (Nat × List (Nat × An)) := []
set_option maxRecDepth 1000000 in
theorem ok36 : SmOK rgT sm36 := vfy_sp (T := []) (AN := an36) (g := 82) (fun _ h => absurd h List.not_mem_nil) (by decide +kernel)
set_option maxRecDepth 1000000 in
def an37 : List (Nat × List (Nat × An)) := []
set_option maxRecDepth 1000000 in
theorem ok37 : SmOK rgT sm37 := vfy_sp (T := []) (AN := an37) (g := 82) (fun _ h => absurd h List.not_mem_nil) (by decide +kernel)
set_option maxRecDepth 1000000 in
def an38 : List (Nat × List (Nat × An)) := []
set_option maxRecDepth 1000000 in
theorem ok38 : SmOK rgT sm38 := vfy_sp (T := []) (AN := an38) (g := 85) (fun _ h => absurd h List.not_mem_nil) (by decide +kernel)
set_option maxRecDepth 1000000 in
def an39 : List (Nat × List (Nat × An)) := []
set_option maxRecDepth 1000000 in
theorem ok39 : SmOK rgT sm39 := vfy_sp (T := []) (AN := an39) (g := 84) (fun _ h => absurd h List.not_mem_nil) (by decide +kernel)
set_option maxRecDepth 1000000 in
def an40 : List (Nat × List (Nat × An)) := [(46, [(2, ([((0, 2, 0, (0, [])), 0, 2147483647)], ([], [], []), [], [], [], 0, true))])]
set_option maxRecDepth 1000000 in
theorem ok40 : SmOK rgT sm40 := vfy_sp (T := [sm39, sm38, sm37, sm36]) (AN := an40) (g := 85) (List.forall_mem_cons.mpr ⟨ok39, List.forall_mem_cons.mpr ⟨ok38, List.forall_mem_cons.mpr ⟨ok37, List.forall_mem_cons.mpr ⟨ok36, fun _ h => absurd h List.not_mem_nil⟩⟩⟩⟩) (by decide +kernel)
set_option maxRecDepth 1000000 in
def an41 : List (Nat × List (Nat × An)) := []
set_option maxRecDepth 1000000 in
theorem ok41 : SmOK rgT sm41 := vfy_sp (T := []) (AN := an41) (g := 84) (fun _ h => absurd h List.not_mem_nil) (by decide +kernel)
set_option maxRecDepth 1000000 in
def an42 : List (Nat × List (Nat × An)) := [(45, [(0, ([((1, 0, 55, (11, [])), (-2147483648), 2147483647)], ([], [], []), [], [], [(0, 55, 11, 11)], 0, false))])]
set_option maxRecDepth 1000000 in
theorem ok42 : SmOK rgT sm42 := vfy_sp (T := [sm39, sm38, sm36]) (AN := an42) (g := 97) (List.forall_mem_cons.mpr ⟨ok39, List.forall_mem_cons.mpr ⟨ok38, List.forall_mem_cons.mpr ⟨ok36, fun _ h => absurd h List.not_mem_nil⟩⟩⟩) (by decide +kernel)
set_option maxRecDepth 1000000 in
def an43 : List (Nat × List (Nat × An)) := []
set_option maxRecDepth 1000000 in
theorem ok43 : SmOK rgT sm43 := vfy_sp (T := [sm42, sm40, sm38]) (AN := an43) (g := 99) (List.forall_mem_cons.mpr ⟨ok42, List.forall_mem_cons.mpr ⟨ok40, List.forall_mem_cons.mpr ⟨ok38, fun _ h => absurd h List.not_mem_nil⟩⟩⟩) (by decide +kernel)
set_option maxRecDepth 1000000 in
def an44 : List (Nat × List (Nat × An)) := []
set_option maxRecDepth 1000000 in
theorem ok44 : SmOK rgT sm44 := vfy_sp (T := [sm43, sm41, sm40, sm37, sm36]) (AN := an44) (g := 273) (List.forall_mem_cons.mpr ⟨ok43, List.forall_mem_cons.mpr ⟨ok41, List.forall_mem_cons.mpr ⟨ok40, List.forall_mem_cons.mpr ⟨ok37, List.forall_mem_cons.mpr ⟨ok36, fun _ h => absurd h List.not_mem_nil⟩⟩⟩⟩⟩) (by decide +kernel)
set_option maxRecDepth 1000000 in
def an45 : List (Nat × List (Nat × An)) := []
set_option maxRecDepth 1000000 in
theorem ok45 : SmOK rgT sm45 := vfy_sp (T := [sm42, sm39, sm31]) (AN := an45) (g := 312) (List.forall_mem_cons.mpr ⟨ok42, List.forall_mem_cons.mpr ⟨ok39, List.forall_mem_cons.mpr ⟨ok31, fun _ h => absurd h List.not_mem_nil⟩⟩⟩) (by decide +kernel)
set_option maxRecDepth 1000000 in
def an46 : List (Nat × List (Nat × An)) := []
set_option maxRecDepth 1000000 in
theorem ok46 : SmOK rgT sm46 := vfy_sp (T := [sm41]) (AN := an46) (g := 122) (List.forall_mem_cons.mpr ⟨ok41, fun _ h => absurd h List.not_mem_nil⟩) (by decide +kernel)
set_option maxRecDepth 1000000 in
def an47 : List (Nat × List (Nat × An)) := []
set_option maxRecDepth 1000000 in
theorem ok47 : SmOK rgT sm47 := vfy_sp (T := [sm46, sm45, sm42, sm39]) (AN := an47) (g := 102) (List.forall_mem_cons.mpr ⟨ok46, List.forall_mem_cons.mpr ⟨ok45, List.forall_mem_cons.mpr ⟨ok42, List.forall_mem_cons.mpr ⟨ok39, fun _ h => absurd h List.not_mem_nil⟩⟩⟩⟩) (by decide +kernel)
set_option maxRecDepth 1000000 in
def an48 : List (Nat × List (Nat × An)) := [(27, [(36, ([((0, 1, 0, (0, [])), 0, 2147483647)], ([], [], []), [], [], [], 0, true))])]
set_option maxRecDepth 1000000 in
theorem ok48 : SmOK rgT sm48 := vfy_sp (T := [sm47, sm44, sm40, sm35, sm34, sm30]) (AN := an48) (g := 353) (List.forall_mem_cons.mpr ⟨ok47, List.forall_mem_cons.mpr ⟨ok44, List.forall_mem_cons.mpr ⟨ok40, List.forall_mem_cons.mpr ⟨ok35, List.forall_mem_cons.mpr ⟨ok34, List.forall_mem_cons.mpr ⟨ok30, fun _ h => absurd h List.not_mem_nil⟩⟩⟩⟩⟩⟩) (by decide +kernel)
set_option maxRecDepth 1000000 in
def an49 : List (Nat × List (Nat × An)) := []
set_option maxRecDepth 1000000 in
theorem ok49 : SmOK rgT sm49 := vfy_sp (T := []) (AN := an49) (g := 278) (fun _ h => absurd h List.not_mem_nil) (by decide +kernel)
set_option maxRecDepth 1000000 in
def an50 : List (Nat × List (Nat × An)) := []
set_option maxRecDepth 1000000 in
theorem ok50 : SmOK rgT sm50 := vfy_sp (T := []) (AN := an50) (g := 356) (fun _ h => absurd h List.not_mem_nil) (by decide +kernel)
set_option maxRecDepth 1000000 in
def an51 : List (Nat × List (Nat × An)) := []
set_option maxRecDepth 1000000 in
theorem ok51 : SmOK rgT sm51 := vfy_sp (T := [sm50, sm49]) (AN := an51) (g := 232) (List.forall_mem_cons.mpr ⟨ok50, List.forall_mem_cons.mpr ⟨ok49, fun _ h => absurd h List.not_mem_nil⟩⟩) (by decide +kernel)
set_option maxRecDepth 1000000 in
def an52 : List (Nat × List (Nat × An)) := []
set_option maxRecDepth 1000000 in
theorem ok52 : SmOK rgT sm52 := vfy_sp (T := [sm51, sm20, sm14, sm8, sm7]) (AN := an52) (g := 415) (List.forall_mem_cons.mpr ⟨ok51, List.forall_mem_cons.mpr ⟨ok20, List.forall_mem_cons.mpr ⟨ok14, List.forall_mem_cons.mpr ⟨ok8, List.forall_mem_cons.mpr ⟨ok7, fun _ h => absurd h List.not_mem_nil⟩⟩⟩⟩⟩) (by decide +kernel)
set_option maxRecDepth 1000000 in
def an54 : List (Nat × List (Nat × An)) := []
set_option maxRecDepth 1000000 in
theorem ok54 : SmOK rgT sm54 := vfy_sp (T := []) (AN := an54) (g := 83) (fun _ h => absurd h List.not_mem_nil) (by decide +kernel)
set_option maxRecDepth 1000000 in
def an55 : List (Nat × List (Nat × An)) := []
set_option maxRecDepth 1000000 in
theorem ok55 : SmOK rgT sm55 := vfy_sp (T := []) (AN := an55) (g := 293) (fun _ h => absurd h List.not_mem_nil) (by decide +kernel)
set_option maxRecDepth 1000000 in
def an56 : List (Nat × List (Nat × An)) := []
set_option maxRecDepth 1000000 in
theorem ok56 : SmOK rgT sm56 := vfy_sp (T := []) (AN := an56) (g := 174) (fun _ h => absurd h List.not_mem_nil) (by decide +kernel)
set_option maxRecDepth 1000000 in
def an57 : List (Nat × List (Nat × An)) := []
set_option maxRecDepth 1000000 in
theorem ok57 : SmOK rgT sm57 := vfy_sp (T := []) (AN := an57) (g := 174) (fun _ h => absurd h List.not_mem_nil) (by decide +kernel)
set_option maxRecDepth 1000000 in
def an58 : List (Nat × List (Nat × An)) := [(67, [(4, ([((0, 3, 0, (0, [])), 0, 2147483647), ((0, 2, 0, (0, [])), (-2147483648), 2147483647)], ([], [], []), [], [], [], 0, true))])]
set_option maxRecDepth 1000000 in
theorem ok58 : SmOK rgT sm58 := vfy_sp (T := []) (AN := an58) (g := 126) (fun _ h => absurd h List.not_mem_nil) (by decide +kernel)
set_option maxRecDepth 1000000 in
def an59 : List (Nat × List (Nat × An)) := []
set_option maxRecDepth 1000000 in
theorem ok59 : SmOK rgT sm59 := vfy_sp (T := []) (AN := an59) (g := 102) (fun _ h => absurd h List.not_mem_nil) (by decide +kernel)
set_option maxRecDepth 1000000 in
def an60 : List (Nat × List (Nat × An)) := [(74, [(13, ([((0, 3, 0, (0, [])), (-2147483648), 2147483647), ((0, 4, 0, (0, [])), 0, 2147483647)], ([], [], []), [], [], [], 1, true))])]
set_option maxRecDepth 1000000 in
theorem ok60 : SmOK rgT sm60 := vfy_sp (T := []) (AN := an60) (g := 325) (fun _ h => absurd h List.not_mem_nil) (by decide +kernel)
set_option maxRecDepth 1000000 in
def an61 : List (Nat × List (Nat × An)) := [(76, [(5, ([((0, 4, 0, (0, [])), 0, 2147483647), ((0, 3, 0, (0, [])), (-2147483648), 2147483647)], ([], [], []), [], [], [], 0, true))])]
set_option maxRecDepth 1000000 in
theorem ok61 : SmOK rgT sm61 := vfy_sp (T := [sm60]) (AN := an61) (g := 711) (List.forall_mem_cons.mpr ⟨ok60, fun _ h => absurd h List.not_mem_nil⟩) (by decide +kernel)
set_option maxRecDepth 1000000 in
def an62 : List (Nat × List (Nat × An)) := []
set_option maxRecDepth 1000000 in
theorem ok62 : SmOK rgT sm62 := vfy_sp (T := [sm61, sm59, sm58]) (AN := an62) (g := 225) (List.forall_mem_cons.mpr ⟨ok61, List.forall_mem_cons.mpr ⟨ok59, List.forall_mem_cons.mpr ⟨ok58, fun _ h => absurd h List.not_mem_nil⟩⟩⟩) (by decide +kernel)
set_option maxRecDepth 1000000 in
def an63 : List (Nat × List (Nat × An)) := []
set_option maxRecDepth 1000000 in
theorem ok63 : SmOK rgT sm63 := vfy_sp (T := []) (AN := an63) (g := 323) (fun _ h => absurd h List.not_mem_nil) (by decide +kernel)
set_option maxRecDepth 1000000 in
def an64 : List (Nat × List (Nat × An)) := []
set_option maxRecDepth 1000000 in
theorem ok64 : SmOK rgT sm64 := vfy_sp (T := []) (AN := an64) (g := 138) (fun _ h => absurd h List.not_mem_nil) (by decide +kernel)
set_option maxRecDepth 1000000 in
def an65 : List (Nat × List (Nat × An)) := []
set_option maxRecDepth 1000000 in
theorem ok65 : SmOK rgT sm65 := vfy_sp (T := []) (AN := an65) (g := 195) (fun _ h => absurd h List.not_mem_nil) (by decide +kernel)
set_option maxRecDepth 1000000 in
def an66 : List (Nat × List (Nat × An)) := []
set_option maxRecDepth 1000000 in
theorem ok66 : SmOK rgT sm66 := vfy_sp (T := [sm65]) (AN := an66) (g := 201) (List.forall_mem_cons.mpr ⟨ok65, fun _ h => absurd h List.not_mem_nil⟩) (by decide +kernel)
set_option maxRecDepth 1000000 in
def an67 : List (Nat × List (Nat × An)) := []
set_option maxRecDepth 1000000 in
theorem ok67 : SmOK rgT sm67 := vfy_sp (T := []) (AN := an67) (g := 124) (fun _ h => absurd h List.not_mem_nil) (by decide +kernel)
set_option maxRecDepth 1000000 in
def an68 : List (Nat × List (Nat × An)) := []
set_option maxRecDepth 1000000 in
theorem ok68 : SmOK rgT sm68 := vfy_sp (T := []) (AN := an68) (g := 272) (fun _ h => absurd h List.not_mem_nil) (by decide +kernel)
set_option maxRecDepth 1000000 in
def an69 : List (Nat × List (Nat × An)) := []
set_option maxRecDepth 1000000 in
theorem ok69 : SmOK rgT sm69 := vfy_sp (T := [sm68, sm67]) (AN := an69) (g := 325) (List.forall_mem_cons.mpr ⟨ok68, List.forall_mem_cons.mpr ⟨ok67, fun _ h => absurd h List.not_mem_nil⟩⟩) (by decide +kernel)
set_option maxRecDepth 1000000 in
def an70 : List (Nat × List (Nat × An)) := []
set_option maxRecDepth 1000000 in
theorem ok70 : SmOK rgT sm70 := vfy_sp (T := []) (AN := an70) (g := 108) (fun _ h => absurd h List.not_mem_nil) (by decide +kernel)
set_option maxRecDepth 1000000 in
def an71 : List (Nat × List (Nat × An)) := []
set_option maxRecDepth 1000000 in
theorem ok71 : SmOK rgT sm71 := vfy_sp (T := [sm70]) (AN := an71) (g := 1104) (List.forall_mem_cons.mpr ⟨ok70, fun _ h => absurd h List.not_mem_nil⟩) (by decide +kernel)
