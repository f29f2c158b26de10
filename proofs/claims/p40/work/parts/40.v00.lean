/-! Printed by wip/ai/tab.py. -/
set_option maxRecDepth 1000000 in
def an0 : List (Nat × List (Nat × An)) := []
set_option maxRecDepth 1000000 in
theorem ok0 : SmOK rgT sm0 := vfy_sp (T := []) (AN := an0) (g := 201) (fun _ h => absurd h List.not_mem_nil) (by decide +kernel)
set_option maxRecDepth 1000000 in
def an1 : List (Nat × List (Nat × An)) := [(12, [(55, ([((0, 4, 0, (0, [])), 0, 2147483647)], ([], [], []), [], [], [(0, 42, 11, 11), (0, 46, 2, 2), (0, 46, 1, 1), (0, 46, 0, 0), (0, 42, 12, 12)], 0, true))])]
set_option maxRecDepth 1000000 in
theorem ok1 : SmOK rgT sm1 := vfy_sp (T := [sm0]) (AN := an1) (g := 541) (List.forall_mem_cons.mpr ⟨ok0, fun _ h => absurd h List.not_mem_nil⟩) (by decide +kernel)
set_option maxRecDepth 1000000 in
def an2 : List (Nat × List (Nat × An)) := [(12, [(55, ([((0, 4, 0, (0, [])), 0, 2147483647)], ([], [], []), [], [], [(0, 42, 11, 11), (0, 46, 2, 2), (0, 46, 1, 1), (0, 46, 0, 0), (0, 42, 12, 12)], 0, true))])]
set_option maxRecDepth 1000000 in
theorem ok2 : SmOK rgT sm2 := vfy_sp (T := [sm1]) (AN := an2) (g := 541) (List.forall_mem_cons.mpr ⟨ok1, fun _ h => absurd h List.not_mem_nil⟩) (by decide +kernel)
set_option maxRecDepth 1000000 in
def an3 : List (Nat × List (Nat × An)) := [(12, [(55, ([((0, 4, 0, (0, [])), 0, 2147483647)], ([], [], []), [], [], [(0, 42, 11, 11), (0, 46, 2, 2), (0, 46, 1, 1), (0, 46, 0, 0), (0, 42, 12, 12)], 0, true))])]
set_option maxRecDepth 1000000 in
theorem ok3 : SmOK rgT sm3 := vfy_sp (T := [sm2]) (AN := an3) (g := 541) (List.forall_mem_cons.mpr ⟨ok2, fun _ h => absurd h List.not_mem_nil⟩) (by decide +kernel)
set_option maxRecDepth 1000000 in
def an4 : List (Nat × List (Nat × An)) := [(12, [(55, ([((0, 4, 0, (0, [])), 0, 2147483647)], ([], [], []), [], [], [(0, 42, 11, 11), (0, 46, 2, 2), (0, 46, 1, 1), (0, 46, 0, 0), (0, 42, 12, 12)], 0, true))])]
set_option maxRecDepth 1000000 in
theorem ok4 : SmOK rgT sm4 := vfy_sp (T := [sm3]) (AN := an4) (g := 541) (List.forall_mem_cons.mpr ⟨ok3, fun _ h => absurd h List.not_mem_nil⟩) (by decide +kernel)
set_option maxRecDepth 1000000 in
def an5 : List (Nat × List (Nat × An)) := [(12, [(55, ([((0, 4, 0, (0, [])), 0, 2147483647)], ([], [], []), [], [], [(0, 42, 11, 11), (0, 46, 2, 2), (0, 46, 1, 1), (0, 46, 0, 0), (0, 42, 12, 12)], 0, true))])]
set_option maxRecDepth 1000000 in
theorem ok5 : SmOK rgT sm5 := vfy_sp (T := [sm4]) (AN := an5) (g := 541) (List.forall_mem_cons.mpr ⟨ok4, fun _ h => absurd h List.not_mem_nil⟩) (by decide +kernel)
set_option maxRecDepth 1000000 in
def an6 : List (Nat × List (Nat × An)) := [(12, [(55, ([((0, 4, 0, (0, [])), 0, 2147483647)], ([], [], []), [], [], [(0, 42, 11, 11), (0, 46, 2, 2), (0, 46, 1, 1), (0, 46, 0, 0), (0, 42, 12, 12)], 0, true))])]
set_option maxRecDepth 1000000 in
theorem ok6 : SmOK rgT sm6 := vfy_sp (T := [sm5]) (AN := an6) (g := 541) (List.forall_mem_cons.mpr ⟨ok5, fun _ h => absurd h List.not_mem_nil⟩) (by decide +kernel)
set_option maxRecDepth 1000000 in
def an7 : List (Nat × List (Nat × An)) := [(12, [(55, ([((0, 4, 0, (0, [])), 0, 2147483647)], ([], [], []), [], [], [(0, 42, 11, 11), (0, 46, 2, 2), (0, 46, 1, 1), (0, 46, 0, 0), (0, 42, 12, 12)], 0, true))])]
set_option maxRecDepth 1000000 in
theorem ok7 : SmOK rgT sm7 := vfy_sp (T := [sm6]) (AN := an7) (g := 541) (List.forall_mem_cons.mpr ⟨ok6, fun _ h => absurd h List.not_mem_nil⟩) (by decide +kernel)
set_option maxRecDepth 1000000 in
def an8 : List (Nat × List (Nat × An)) := [(12, [(55, ([((0, 4, 0, (0, [])), 0, 2147483647)], ([], [], []), [], [], [(0, 42, 11, 11), (0, 46, 2, 2), (0, 46, 1, 1), (0, 46, 0, 0), (0, 42, 12, 12)], 0, true))])]
set_option maxRecDepth 1000000 in
theorem ok8 : SmOK rgT sm8 := vfy_sp (T := [sm7]) (AN := an8) (g := 541) (List.forall_mem_cons.mpr ⟨ok7, fun _ h => absurd h List.not_mem_nil⟩) (by decide +kernel)
set_option maxRecDepth 1000000 in
def an9 : List (Nat × List (Nat × An)) := [(12, [(55, ([((0, 4, 0, (0, [])), 0, 2147483647)], ([], [], []), [], [], [(0, 42, 11, 11), (0, 46, 2, 2), (0, 46, 1, 1), (0, 46, 0, 0), (0, 42, 12, 12)], 0, true))])]
set_option maxRecDepth 1000000 in
theorem ok9 : SmOK rgT sm9 := vfy_sp (T := [sm8]) (AN := an9) (g := 541) (List.forall_mem_cons.mpr ⟨ok8, fun _ h => absurd h List.not_mem_nil⟩) (by decide +kernel)
set_option maxRecDepth 1000000 in
def an10 : List (Nat × List (Nat × An)) := [(12, [(55, ([((0, 4, 0, (0, [])), 0, 2147483647)], ([], [], []), [], [], [(0, 42, 11, 11), (0, 46, 2, 2), (0, 46, 1, 1), (0, 46, 0, 0), (0, 42, 12, 12)], 0, true))])]
set_option maxRecDepth 1000000 in
theorem ok10 : SmOK rgT sm10 := vfy_sp (T := [sm9]) (AN := an10) (g := 541) (List.forall_mem_cons.mpr ⟨ok9, fun _ h => absurd h List.not_mem_nil⟩) (by decide +kernel)
set_option maxRecDepth 1000000 in
def an11 : List (Nat × List (Nat × An)) := [(191, [(62, ([((0, 5, 0, (0, [])), 0, 2147483647)], ([], [], []), [], [], [], 0, true))])]
set_option maxRecDepth 1000000 in
theorem ok11 : SmOK rgT sm11 := vfy_sp (T := []) (AN := an11) (g := 143) (fun _ h => absurd h List.not_mem_nil) (by decide +kernel)
set_option maxRecDepth 1000000 in
def an12 : List (Nat × List (Nat × An)) := [(190, [(37, ([((0, 4, 0, (0, [])), 0, 2147483647), ((0, 3, 0, (0, [])), 0, 1)], ([], [], []), [], [], [], 0, true))])]
set_option maxRecDepth 1000000 in
theorem ok12 : SmOK rgT sm12 := vfy_sp (T := []) (AN := an12) (g := 272) (fun _ h => absurd h List.not_mem_nil) (by decide +kernel)
set_option maxRecDepth 1000000 in
def an13 : List (Nat × List (Nat × An)) := [(191, [(62, ([((0, 5, 0, (0, [])), 0, 2147483647)], ([], [], []), [], [], [], 0, true)), (92, ([((0, 5, 0, (0, [])), 0, 2147483647)], ([], [], []), [], [], [(0, 65, 10, 10), (0, 65, 11, 11)], 0, true))])]
set_option maxRecDepth 1000000 in
theorem ok13 : SmOK rgT sm13 := vfy_sp (T := [sm12, sm11]) (AN := an13) (g := 299) (List.forall_mem_cons.mpr ⟨ok12, List.forall_mem_cons.mpr ⟨ok11, fun _ h => absurd h List.not_mem_nil⟩⟩) (by decide +kernel)
set_option maxRecDepth 1000000 in
def an14 : List (Nat × List (Nat × An)) := [(191, [(62, ([((0, 5, 0, (0, [])), 0, 2147483647)], ([], [], []), [], [], [], 0, true)), (92, ([((0, 5, 0, (0, [])), 0, 2147483647)], ([], [], []), [], [], [(0, 65, 10, 10), (0, 65, 11, 11)], 0, true))])]
set_option maxRecDepth 1000000 in
theorem ok14 : SmOK rgT sm14 := vfy_sp (T := [sm13, sm12]) (AN := an14) (g := 299) (List.forall_mem_cons.mpr ⟨ok13, List.forall_mem_cons.mpr ⟨ok12, fun _ h => absurd h List.not_mem_nil⟩⟩) (by decide +kernel)
set_option maxRecDepth 1000000 in
def an15 : List (Nat × List (Nat × An)) := [(191, [(62, ([((0, 5, 0, (0, [])), 0, 2147483647)], ([], [], []), [], [], [], 0, true)), (92, ([((0, 5, 0, (0, [])), 0, 2147483647)], ([], [], []), [], [], [(0, 65, 10, 10), (0, 65, 11, 11)], 0, true))])]
set_option maxRecDepth 1000000 in
theorem ok15 : SmOK rgT sm15 := vfy_sp (T := [sm14, sm12]) (AN := an15) (g := 299) (List.forall_mem_cons.mpr ⟨ok14, List.forall_mem_cons.mpr ⟨ok12, fun _ h => absurd h List.not_mem_nil⟩⟩) (by decide +kernel)
set_option maxRecDepth 1000000 in
def an16 : List (Nat × List (Nat × An)) := [(191, [(62, ([((0, 5, 0, (0, [])), 0, 2147483647)], ([], [], []), [], [], [], 0, true)), (92, ([((0, 5, 0, (0, [])), 0, 2147483647)], ([], [], []), [], [], [(0, 65, 10, 10), (0, 65, 11, 11)], 0, true))])]
set_option maxRecDepth 1000000 in
theorem ok16 : SmOK rgT sm16 := vfy_sp (T := [sm15, sm12]) (AN := an16) (g := 299) (List.forall_mem_cons.mpr ⟨ok15, List.forall_mem_cons.mpr ⟨ok12, fun _ h => absurd h List.not_mem_nil⟩⟩) (by decide +kernel)
