/-! Printed by wip/ai/tab.py. -/
set_option maxRecDepth 1000000 in
def an17 : List (Nat × List (Nat × An)) := [(191, [(62, ([((0, 5, 0, (0, [])), 0, 2147483647)], ([], [], []), [], [], [], 0, true)), (92, ([((0, 5, 0, (0, [])), 0, 2147483647)], ([], [], []), [], [], [(0, 65, 10, 10), (0, 65, 11, 11)], 0, true))])]
set_option maxRecDepth 1000000 in
theorem ok17 : SmOK rgT sm17 := vfy_sp (T := [sm16, sm12]) (AN := an17) (g := 299) (List.forall_mem_cons.mpr ⟨ok16, List.forall_mem_cons.mpr ⟨ok12, fun _ h => absurd h List.not_mem_nil⟩⟩) (by decide +kernel)
set_option maxRecDepth 1000000 in
def an18 : List (Nat × List (Nat × An)) := [(191, [(62, ([((0, 5, 0, (0, [])), 0, 2147483647)], ([], [], []), [], [], [], 0, true)), (92, ([((0, 5, 0, (0, [])), 0, 2147483647)], ([], [], []), [], [], [(0, 65, 10, 10), (0, 65, 11, 11)], 0, true))])]
set_option maxRecDepth 1000000 in
theorem ok18 : SmOK rgT sm18 := vfy_sp (T := [sm17, sm12]) (AN := an18) (g := 299) (List.forall_mem_cons.mpr ⟨ok17, List.forall_mem_cons.mpr ⟨ok12, fun _ h => absurd h List.not_mem_nil⟩⟩) (by decide +kernel)
set_option maxRecDepth 1000000 in
def an19 : List (Nat × List (Nat × An)) := [(191, [(62, ([((0, 5, 0, (0, [])), 0, 2147483647)], ([], [], []), [], [], [], 0, true)), (92, ([((0, 5, 0, (0, [])), 0, 2147483647)], ([], [], []), [], [], [(0, 65, 10, 10), (0, 65, 11, 11)], 0, true))])]
set_option maxRecDepth 1000000 in
theorem ok19 : SmOK rgT sm19 := vfy_sp (T := [sm18, sm12]) (AN := an19) (g := 299) (List.forall_mem_cons.mpr ⟨ok18, List.forall_mem_cons.mpr ⟨ok12, fun _ h => absurd h List.not_mem_nil⟩⟩) (by decide +kernel)
set_option maxRecDepth 1000000 in
def an20 : List (Nat × List (Nat × An)) := [(191, [(62, ([((0, 5, 0, (0, [])), 0, 2147483647)], ([], [], []), [], [], [], 0, true)), (92, ([((0, 5, 0, (0, [])), 0, 2147483647)], ([], [], []), [], [], [(0, 65, 10, 10), (0, 65, 11, 11)], 0, true))])]
set_option maxRecDepth 1000000 in
theorem ok20 : SmOK rgT sm20 := vfy_sp (T := [sm19, sm12]) (AN := an20) (g := 299) (List.forall_mem_cons.mpr ⟨ok19, List.forall_mem_cons.mpr ⟨ok12, fun _ h => absurd h List.not_mem_nil⟩⟩) (by decide +kernel)
set_option maxRecDepth 1000000 in
def an21 : List (Nat × List (Nat × An)) := [(191, [(62, ([((0, 5, 0, (0, [])), 0, 2147483647)], ([], [], []), [], [], [], 0, true)), (92, ([((0, 5, 0, (0, [])), 0, 2147483647)], ([], [], []), [], [], [(0, 65, 10, 10), (0, 65, 11, 11)], 0, true))])]
set_option maxRecDepth 1000000 in
theorem ok21 : SmOK rgT sm21 := vfy_sp (T := [sm20, sm12]) (AN := an21) (g := 299) (List.forall_mem_cons.mpr ⟨ok20, List.forall_mem_cons.mpr ⟨ok12, fun _ h => absurd h List.not_mem_nil⟩⟩) (by decide +kernel)
set_option maxRecDepth 1000000 in
def an22 : List (Nat × List (Nat × An)) := [(191, [(92, ([((0, 5, 0, (0, [])), 0, 2147483647)], ([], [], []), [], [], [(0, 65, 10, 10), (0, 65, 11, 11)], 0, true))])]
set_option maxRecDepth 1000000 in
theorem ok22 : SmOK rgT sm22 := vfy_sp (T := [sm21, sm12]) (AN := an22) (g := 275) (List.forall_mem_cons.mpr ⟨ok21, List.forall_mem_cons.mpr ⟨ok12, fun _ h => absurd h List.not_mem_nil⟩⟩) (by decide +kernel)
set_option maxRecDepth 1000000 in
def an27 : List (Nat × List (Nat × An)) := [(211, [(34, ([((1, 0, 65, (18, [])), 0, 96)], ([(0, [(0, (-1)), (1000, 1)]), (0, [(0, 1), (1001, (-1))])], [], []), [], [], [(0, 65, 18, 18)], 0, true)), (128, ([((1, 0, 65, (18, [])), 0, 96)], ([(0, [(0, (-1)), (1000, 1)]), ((-1), [(0, 1), (2000, (-1))])], [(1, 0, 65, (17, []))], [((1, 0, 65, (18, [])), (1, 0, 65, (17, [])))]), [], [], [(0, 65, 18, 18)], 0, true)), (214, ([((1, 0, 65, (18, [])), 0, 96)], ([(0, [(0, (-1)), (1000, 1)]), ((-1), [(0, 1), (2000, (-1))])], [(1, 0, 65, (17, []))], [((1, 0, 65, (18, [])), (1, 0, 65, (17, [])))]), [], [], [(0, 65, 18, 18), (0, 65, 20, 20)], 0, true))])]
set_option maxRecDepth 1000000 in
theorem ok27 : SmOK rgT sm27 := vfy_sp (T := []) (AN := an27) (g := 3627) (fun _ h => absurd h List.not_mem_nil) (by decide +kernel)
set_option maxRecDepth 1000000 in
def an28 : List (Nat × List (Nat × An)) := [(211, [(34, ([((1, 0, 65, (18, [])), 0, 96)], ([(0, [(0, (-1)), (1000, 1)]), (0, [(0, 1), (1002, (-1))])], [], []), [], [], [(0, 65, 18, 18)], 0, true)), (128, ([((1, 0, 65, (18, [])), 0, 96)], ([(0, [(0, (-1)), (1000, 1)]), ((-1), [(0, 1), (2000, (-1))])], [(1, 0, 65, (17, []))], [((1, 0, 65, (18, [])), (1, 0, 65, (17, [])))]), [], [], [(0, 65, 18, 18)], 0, true)), (214, ([((1, 0, 65, (18, [])), 0, 96)], ([(0, [(0, (-1)), (1000, 1)]), ((-1), [(0, 1), (2000, (-1))])], [(1, 0, 65, (17, []))], [((1, 0, 65, (18, [])), (1, 0, 65, (17, [])))]), [], [], [(0, 65, 18, 18), (0, 65, 20, 20)], 0, true))])]
set_option maxRecDepth 1000000 in
theorem ok28 : SmOK rgT sm28 := vfy_sp (T := []) (AN := an28) (g := 3018) (fun _ h => absurd h List.not_mem_nil) (by decide +kernel)
