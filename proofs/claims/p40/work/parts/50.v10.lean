/-! Printed by wip/ai/tab.py. -/
set_option maxRecDepth 1000000 in
def an353 : List (Nat × List (Nat × An)) := [(202, [(38, ([((0, 5, 0, (0, [])), 0, 2147483647), ((0, 3, 0, (0, [])), (-2147483648), 2147483647), ((0, 4, 0, (0, [])), (-2147483648), 2147483647)], ([], [], []), [], [], [], 0, true))])]
set_option maxRecDepth 1000000 in
theorem ok353 : SmOK rgT sm353 := vfy_sp (T := [sm334]) (AN := an353) (g := 611) (List.forall_mem_cons.mpr ⟨ok334, fun _ h => absurd h List.not_mem_nil⟩) (by decide +kernel)
set_option maxRecDepth 1000000 in
def an354 : List (Nat × List (Nat × An)) := [(203, [(15, ([((0, 2, 0, (0, [])), (-2147483648), 2147483647), ((0, 3, 0, (0, [])), 0, 2147483647)], ([], [], []), [], [], [], 1, true))])]
set_option maxRecDepth 1000000 in
theorem ok354 : SmOK rgT sm354 := vfy_sp (T := []) (AN := an354) (g := 165) (fun _ h => absurd h List.not_mem_nil) (by decide +kernel)
set_option maxRecDepth 1000000 in
def an355 : List (Nat × List (Nat × An)) := []
set_option maxRecDepth 1000000 in
theorem ok355 : SmOK rgT sm355 := vfy_sp (T := []) (AN := an355) (g := 152) (fun _ h => absurd h List.not_mem_nil) (by decide +kernel)
set_option maxRecDepth 1000000 in
def an356 : List (Nat × List (Nat × An)) := [(205, [(4, ([((0, 2, 0, (0, [])), (-1), 29), ((0, 3, 0, (0, [])), 0, 2147483647)], ([], [], []), [(8, 66, (0, [(0, 1)]), (0, []))], [], [], 1, true))])]
set_option maxRecDepth 1000000 in
theorem ok356 : SmOK rgT sm356 := vfy_sp (T := []) (AN := an356) (g := 199) (fun _ h => absurd h List.not_mem_nil) (by decide +kernel)
set_option maxRecDepth 1000000 in
def an357 : List (Nat × List (Nat × An)) := [(206, [(13, ([((0, 2, 0, (0, [])), 0, 2147483647)], ([], [], []), [], [], [], 0, true)), (34, ([((0, 2, 0, (0, [])), 0, 2147483647)], ([], [], []), [], [], [], 0, true)), (107, ([((0, 2, 0, (0, [])), (-2147483648), 2147483647), ((0, 3, 0, (0, [])), (-2147483648), 2147483647), ((0, 4, 0, (0, [])), 0, 2147483647)], ([], [], []), [], [], [], 2, true)), (124, ([((0, 5, 0, (0, [])), 0, 2147483647), ((0, 2, 0, (0, [])), (-2147483648), 2147483647)], ([], [], []), [], [], [], 0, true)), (268, ([((0, 5, 0, (0, [])), (-1), 29), ((0, 2, 0, (0, [])), (-2147483648), 2147483647), ((1, 7, 66, (0, [])), 0, 30)], ([], [], []), [(8, 66, (0, [(0, 1)]), (0, []))], [], [(0, 75, 0, 29)], 2, false)), (353, ([((0, 4, 0, (0, [])), 0, 2147483647)], ([], [], []), [], [], [], 0, true))])]
set_option maxRecDepth 1000000 in
theorem ok357 : SmOK rgT sm357 := vfy_sp (T := [sm356]) (AN := an357) (g := 428) (List.forall_mem_cons.mpr ⟨ok356, fun _ h => absurd h List.not_mem_nil⟩) (by decide +kernel)
set_option maxRecDepth 1000000 in
def an358 : List (Nat × List (Nat × An)) := []
set_option maxRecDepth 1000000 in
theorem ok358 : SmOK rgT sm358 := vfy_sp (T := []) (AN := an358) (g := 492) (fun _ h => absurd h List.not_mem_nil) (by decide +kernel)
set_option maxRecDepth 1000000 in
def an359 : List (Nat × List (Nat × An)) := []
set_option maxRecDepth 1000000 in
theorem ok359 : SmOK rgT sm359 := vfy_sp (T := []) (AN := an359) (g := 94) (fun _ h => absurd h List.not_mem_nil) (by decide +kernel)
set_option maxRecDepth 1000000 in
def an360 : List (Nat × List (Nat × An)) := []
set_option maxRecDepth 1000000 in
theorem ok360 : SmOK rgT sm360 := vfy_sp (T := []) (AN := an360) (g := 244) (fun _ h => absurd h List.not_mem_nil) (by decide +kernel)
set_option maxRecDepth 1000000 in
def an361 : List (Nat × List (Nat × An)) := []
set_option maxRecDepth 1000000 in
theorem ok361 : SmOK rgT sm361 := vfy_sp (T := []) (AN := an361) (g := 310) (fun _ h => absurd h List.not_mem_nil) (by decide +kernel)
set_option maxRecDepth 1000000 in
def an362 : List (Nat × List (Nat × An)) := []
set_option maxRecDepth 1000000 in
theorem ok362 : SmOK rgT sm362 := vfy_sp (T := [sm361, sm360]) (AN := an362) (g := 232) (List.forall_mem_cons.mpr ⟨ok361, List.forall_mem_cons.mpr ⟨ok360, fun _ h => absurd h List.not_mem_nil⟩⟩) (by decide +kernel)
set_option maxRecDepth 1000000 in
def an363 : List (Nat × List (Nat × An)) := []
set_option maxRecDepth 1000000 in
theorem ok363 : SmOK rgT sm363 := vfy_sp (T := [sm362, sm136, sm34, sm28, sm27]) (AN := an363) (g := 415) (List.forall_mem_cons.mpr ⟨ok362, List.forall_mem_cons.mpr ⟨ok136, List.forall_mem_cons.mpr ⟨ok34, List.forall_mem_cons.mpr ⟨ok28, List.forall_mem_cons.mpr ⟨ok27, fun _ h => absurd h List.not_mem_nil⟩⟩⟩⟩⟩) (by decide +kernel)
set_option maxRecDepth 1000000 in
def an364 : List (Nat × List (Nat × An)) := []
set_option maxRecDepth 1000000 in
theorem ok364 : SmOK rgT sm364 := vfy_sp (T := [sm363]) (AN := an364) (g := 211) (List.forall_mem_cons.mpr ⟨ok363, fun _ h => absurd h List.not_mem_nil⟩) (by decide +kernel)
set_option maxRecDepth 1000000 in
def an365 : List (Nat × List (Nat × An)) := []
set_option maxRecDepth 1000000 in
theorem ok365 : SmOK rgT sm365 := vfy_sp (T := []) (AN := an365) (g := 142) (fun _ h => absurd h List.not_mem_nil) (by decide +kernel)
set_option maxRecDepth 1000000 in
def an366 : List (Nat × List (Nat × An)) := [(227, [(4, ([((0, 2, 0, (0, [])), (-1), 11), ((0, 3, 0, (0, [])), 0, 2147483647)], ([((-1), [(0, (-1)), (1001, 1)])], [], []), [], [], [], 1, true))])]
set_option maxRecDepth 1000000 in
theorem ok366 : SmOK rgT sm366 := vfy_sp (T := []) (AN := an366) (g := 179) (fun _ h => absurd h List.not_mem_nil) (by decide +kernel)
set_option maxRecDepth 1000000 in
def an367 : List (Nat × List (Nat × An)) := []
set_option maxRecDepth 1000000 in
theorem ok367 : SmOK rgT sm367 := vfy_sp (T := [sm366]) (AN := an367) (g := 102) (List.forall_mem_cons.mpr ⟨ok366, fun _ h => absurd h List.not_mem_nil⟩) (by decide +kernel)
set_option maxRecDepth 1000000 in
def an369 : List (Nat × List (Nat × An)) := []
set_option maxRecDepth 1000000 in
theorem ok369 : SmOK rgT sm369 := vfy_sp (T := [sm366, sm_worked]) (AN := an369) (g := 571) (List.forall_mem_cons.mpr ⟨ok366, List.forall_mem_cons.mpr ⟨ok_worked, fun _ h => absurd h List.not_mem_nil⟩⟩) (by decide +kernel)
set_option maxRecDepth 1000000 in
def an370 : List (Nat × List (Nat × An)) := []
set_option maxRecDepth 1000000 in
theorem ok370 : SmOK rgT sm370 := vfy_sp (T := [sm369]) (AN := an370) (g := 95) (List.forall_mem_cons.mpr ⟨ok369, fun _ h => absurd h List.not_mem_nil⟩) (by decide +kernel)
set_option maxRecDepth 1000000 in
def an371 : List (Nat × List (Nat × An)) := []
set_option maxRecDepth 1000000 in
theorem ok371 : SmOK rgT sm371 := vfy_sp (T := [sm369]) (AN := an371) (g := 625) (List.forall_mem_cons.mpr ⟨ok369, fun _ h => absurd h List.not_mem_nil⟩) (by decide +kernel)
set_option maxRecDepth 1000000 in
def an372 : List (Nat × List (Nat × An)) := []
set_option maxRecDepth 1000000 in
theorem ok372 : SmOK rgT sm372 := vfy_sp (T := [sm371]) (AN := an372) (g := 368) (List.forall_mem_cons.mpr ⟨ok371, fun _ h => absurd h List.not_mem_nil⟩) (by decide +kernel)
set_option maxRecDepth 1000000 in
def an373 : List (Nat × List (Nat × An)) := []
set_option maxRecDepth 1000000 in
theorem ok373 : SmOK rgT sm373 := vfy_sp (T := [sm371]) (AN := an373) (g := 173) (List.forall_mem_cons.mpr ⟨ok371, fun _ h => absurd h List.not_mem_nil⟩) (by decide +kernel)
set_option maxRecDepth 1000000 in
def an374 : List (Nat × List (Nat × An)) := []
set_option maxRecDepth 1000000 in
theorem ok374 : SmOK rgT sm374 := vfy_sp (T := [sm369]) (AN := an374) (g := 338) (List.forall_mem_cons.mpr ⟨ok369, fun _ h => absurd h List.not_mem_nil⟩) (by decide +kernel)
set_option maxRecDepth 1000000 in
def an375 : List (Nat × List (Nat × An)) := []
set_option maxRecDepth 1000000 in
theorem ok375 : SmOK rgT sm375 := vfy_sp (T := []) (AN := an375) (g := 227) (fun _ h => absurd h List.not_mem_nil) (by decide +kernel)
set_option maxRecDepth 1000000 in
def an376 : List (Nat × List (Nat × An)) := []
set_option maxRecDepth 1000000 in
theorem ok376 : SmOK rgT sm376 := vfy_sp (T := []) (AN := an376) (g := 170) (fun _ h => absurd h List.not_mem_nil) (by decide +kernel)
set_option maxRecDepth 1000000 in
def an377 : List (Nat × List (Nat × An)) := []
set_option maxRecDepth 1000000 in
theorem ok377 : SmOK rgT sm377 := vfy_sp (T := []) (AN := an377) (g := 159) (fun _ h => absurd h List.not_mem_nil) (by decide +kernel)
set_option maxRecDepth 1000000 in
def an378 : List (Nat × List (Nat × An)) := [(242, [(16, ([((0, 4, 0, (0, [])), 0, 2147483647), ((0, 3, 0, (0, [])), (-2147483648), 2147483647)], ([], [], []), [], [], [], 0, true))])]
set_option maxRecDepth 1000000 in
theorem ok378 : SmOK rgT sm378 := vfy_sp (T := []) (AN := an378) (g := 194) (fun _ h => absurd h List.not_mem_nil) (by decide +kernel)
set_option maxRecDepth 1000000 in
def an379 : List (Nat × List (Nat × An)) := []
set_option maxRecDepth 1000000 in
theorem ok379 : SmOK rgT sm379 := vfy_sp (T := [sm378]) (AN := an379) (g := 132) (List.forall_mem_cons.mpr ⟨ok378, fun _ h => absurd h List.not_mem_nil⟩) (by decide +kernel)
set_option maxRecDepth 1000000 in
def an380 : List (Nat × List (Nat × An)) := [(245, [(6, ([((0, 2, 0, (0, [])), (-1), 29), ((1, 7, 66, (0, [])), 0, 30)], ([], [], []), [(8, 66, (0, [(0, 1)]), (0, []))], [], [(0, 66, 16, 47), (0, 66, 306, 575)], 1, false))])]
set_option maxRecDepth 1000000 in
theorem ok380 : SmOK rgT sm380 := vfy_sp (T := [sm356]) (AN := an380) (g := 153) (List.forall_mem_cons.mpr ⟨ok356, fun _ h => absurd h List.not_mem_nil⟩) (by decide +kernel)
set_option maxRecDepth 1000000 in
def an381 : List (Nat × List (Nat × An)) := [(246, [(71, ([((0, 3, 0, (0, [])), 0, 2147483647)], ([], [], []), [], [], [], 0, true))])]
set_option maxRecDepth 1000000 in
theorem ok381 : SmOK rgT sm381 := vfy_sp (T := []) (AN := an381) (g := 297) (fun _ h => absurd h List.not_mem_nil) (by decide +kernel)
set_option maxRecDepth 1000000 in
def an382 : List (Nat × List (Nat × An)) := [(247, [(2, ([((0, 1, 0, (0, [])), 0, 2147483647)], ([], [], []), [], [], [], 0, true)), (49, ([((0, 1, 0, (0, [])), 0, 2147483647)], ([], [], []), [], [], [], 0, true)), (72, ([((0, 1, 0, (0, [])), 0, 2147483647)], ([], [], []), [], [], [], 0, true)), (125, ([((0, 1, 0, (0, [])), 0, 2147483647)], ([], [], []), [], [], [], 0, true))])]
set_option maxRecDepth 1000000 in
theorem ok382 : SmOK rgT sm382 := vfy_sp (T := [sm381, sm380, sm378, sm369]) (AN := an382) (g := 662) (List.forall_mem_cons.mpr ⟨ok381, List.forall_mem_cons.mpr ⟨ok380, List.forall_mem_cons.mpr ⟨ok378, List.forall_mem_cons.mpr ⟨ok369, fun _ h => absurd h List.not_mem_nil⟩⟩⟩⟩) (by decide +kernel)
