/-! Printed by wip/ai/tab.py. -/
set_option maxRecDepth 1000000 in
def an92 : List (Nat × List (Nat × An)) := []
set_option maxRecDepth 1000000 in
theorem ok92 : SmOK rgT sm92 := vfy_sp (T := [sm91, sm31, sm28, sm_step_op]) (AN := an92) (g := 411) (List.forall_mem_cons.mpr ⟨ok91, List.forall_mem_cons.mpr ⟨ok31, List.forall_mem_cons.mpr ⟨ok28, List.forall_mem_cons.mpr ⟨ok_step_op, fun _ h => absurd h List.not_mem_nil⟩⟩⟩⟩) (by decide +kernel)
set_option maxRecDepth 1000000 in
def an93 : List (Nat × List (Nat × An)) := [(219, [(10, ([((1, 0, 65, (17, [])), 0, 96), ((1, 0, 65, (18, [])), 0, 96), ((1, 0, 65, (19, [])), 1, 4), ((1, 0, 65, (24, [])), 0, 96)], ([(0, [(1, (-1)), (1001, 1)]), ((-1), [(0, (-1)), (1, 1)]), (0, [(0, 1), (3, (-1)), (1002, (-1)), (1005, 1)]), ((-1), [(0, 1), (1002, (-1))]), ((-1), [(3, 1), (1007, (-1))])], [], [((1, 0, 65, (19, [])), (3, 0, 0, (0, [])))]), [(4, 66, (0, []), (0, []))], [], [(0, 65, 17, 19), (0, 65, 24, 24)], 0, true))])]
set_option maxRecDepth 1000000 in
theorem ok93 : SmOK rgT sm93 := vfy_sp (T := [sm92, sm32, sm28, sm_step_op]) (AN := an93) (g := 145) (List.forall_mem_cons.mpr ⟨ok92, List.forall_mem_cons.mpr ⟨ok32, List.forall_mem_cons.mpr ⟨ok28, List.forall_mem_cons.mpr ⟨ok_step_op, fun _ h => absurd h List.not_mem_nil⟩⟩⟩⟩) (by decide +kernel)
set_option maxRecDepth 1000000 in
def an94 : List (Nat × List (Nat × An)) := [(218, [(10, ([((1, 0, 65, (17, [])), 0, 96), ((1, 0, 65, (18, [])), 0, 96), ((1, 0, 65, (19, [])), 1, 4), ((1, 0, 65, (24, [])), 0, 96)], ([(0, [(1, (-1)), (1001, 1)]), ((-1), [(0, (-1)), (1, 1)]), (0, [(0, 1), (3, (-1)), (1002, (-1)), (1005, 1)]), ((-1), [(0, 1), (1002, (-1))]), ((-1), [(3, 1), (1007, (-1))])], [], [((1, 0, 65, (19, [])), (3, 0, 0, (0, [])))]), [(4, 66, (0, []), (0, []))], [], [(0, 65, 17, 19), (0, 65, 24, 24)], 0, true))])]
set_option maxRecDepth 1000000 in
theorem ok94 : SmOK rgT sm94 := vfy_sp (T := [sm93, sm33, sm28, sm_step_op]) (AN := an94) (g := 145) (List.forall_mem_cons.mpr ⟨ok93, List.forall_mem_cons.mpr ⟨ok33, List.forall_mem_cons.mpr ⟨ok28, List.forall_mem_cons.mpr ⟨ok_step_op, fun _ h => absurd h List.not_mem_nil⟩⟩⟩⟩) (by decide +kernel)
set_option maxRecDepth 1000000 in
def an95 : List (Nat × List (Nat × An)) := []
set_option maxRecDepth 1000000 in
theorem ok95 : SmOK rgT sm95 := vfy_sp (T := [sm94, sm89, sm34, sm29, sm28, sm_step_not, sm_step_nam, sm_step_num]) (AN := an95) (g := 1005) (List.forall_mem_cons.mpr ⟨ok94, List.forall_mem_cons.mpr ⟨ok89, List.forall_mem_cons.mpr ⟨ok34, List.forall_mem_cons.mpr ⟨ok29, List.forall_mem_cons.mpr ⟨ok28, List.forall_mem_cons.mpr ⟨ok_step_not, List.forall_mem_cons.mpr ⟨ok_step_nam, List.forall_mem_cons.mpr ⟨ok_step_num, fun _ h => absurd h List.not_mem_nil⟩⟩⟩⟩⟩⟩⟩⟩) (by decide +kernel)
set_option maxRecDepth 1000000 in
def an96 : List (Nat × List (Nat × An)) := [(222, [(10, ([((1, 0, 65, (17, [])), 0, 96), ((1, 0, 65, (18, [])), 0, 96), ((1, 0, 65, (19, [])), 1, 4), ((1, 0, 65, (24, [])), 0, 96)], ([(0, [(1, (-1)), (1001, 1)]), ((-1), [(0, (-1)), (1, 1)]), (0, [(0, 1), (3, (-1)), (1002, (-1)), (1005, 1)]), ((-1), [(0, 1), (1002, (-1))]), ((-1), [(3, 1), (1007, (-1))])], [], [((1, 0, 65, (19, [])), (3, 0, 0, (0, [])))]), [(4, 66, (0, []), (0, []))], [], [(0, 65, 17, 19), (0, 65, 24, 24)], 0, true))])]
set_option maxRecDepth 1000000 in
theorem ok96 : SmOK rgT sm96 := vfy_sp (T := [sm95, sm29, sm28, sm_step_op]) (AN := an96) (g := 313) (List.forall_mem_cons.mpr ⟨ok95, List.forall_mem_cons.mpr ⟨ok29, List.forall_mem_cons.mpr ⟨ok28, List.forall_mem_cons.mpr ⟨ok_step_op, fun _ h => absurd h List.not_mem_nil⟩⟩⟩⟩) (by decide +kernel)
set_option maxRecDepth 1000000 in
def an97 : List (Nat × List (Nat × An)) := [(221, [(10, ([((1, 0, 65, (17, [])), 0, 96), ((1, 0, 65, (18, [])), 0, 96), ((1, 0, 65, (19, [])), 1, 4), ((1, 0, 65, (24, [])), 0, 96)], ([(0, [(1, (-1)), (1001, 1)]), ((-1), [(0, (-1)), (1, 1)]), (0, [(0, 1), (3, (-1)), (1002, (-1)), (1005, 1)]), ((-1), [(0, 1), (1002, (-1))]), ((-1), [(3, 1), (1007, (-1))])], [], [((1, 0, 65, (19, [])), (3, 0, 0, (0, [])))]), [(4, 66, (0, []), (0, []))], [], [(0, 65, 17, 19), (0, 65, 24, 24)], 0, true))])]
set_option maxRecDepth 1000000 in
theorem ok97 : SmOK rgT sm97 := vfy_sp (T := [sm96, sm30, sm28, sm_step_op]) (AN := an97) (g := 313) (List.forall_mem_cons.mpr ⟨ok96, List.forall_mem_cons.mpr ⟨ok30, List.forall_mem_cons.mpr ⟨ok28, List.forall_mem_cons.mpr ⟨ok_step_op, fun _ h => absurd h List.not_mem_nil⟩⟩⟩⟩) (by decide +kernel)
set_option maxRecDepth 1000000 in
def an98 : List (Nat × List (Nat × An)) := []
set_option maxRecDepth 1000000 in
theorem ok98 : SmOK rgT sm98 := vfy_sp (T := [sm97, sm31, sm28, sm_step_op]) (AN := an98) (g := 411) (List.forall_mem_cons.mpr ⟨ok97, List.forall_mem_cons.mpr ⟨ok31, List.forall_mem_cons.mpr ⟨ok28, List.forall_mem_cons.mpr ⟨ok_step_op, fun _ h => absurd h List.not_mem_nil⟩⟩⟩⟩) (by decide +kernel)
set_option maxRecDepth 1000000 in
def an99 : List (Nat × List (Nat × An)) := [(219, [(10, ([((1, 0, 65, (17, [])), 0, 96), ((1, 0, 65, (18, [])), 0, 96), ((1, 0, 65, (19, [])), 1, 4), ((1, 0, 65, (24, [])), 0, 96)], ([(0, [(1, (-1)), (1001, 1)]), ((-1), [(0, (-1)), (1, 1)]), (0, [(0, 1), (3, (-1)), (1002, (-1)), (1005, 1)]), ((-1), [(0, 1), (1002, (-1))]), ((-1), [(3, 1), (1007, (-1))])], [], [((1, 0, 65, (19, [])), (3, 0, 0, (0, [])))]), [(4, 66, (0, []), (0, []))], [], [(0, 65, 17, 19), (0, 65, 24, 24)], 0, true))])]
set_option maxRecDepth 1000000 in
theorem ok99 : SmOK rgT sm99 := vfy_sp (T := [sm98, sm32, sm28, sm_step_op]) (AN := an99) (g := 145) (List.forall_mem_cons.mpr ⟨ok98, List.forall_mem_cons.mpr ⟨ok32, List.forall_mem_cons.mpr ⟨ok28, List.forall_mem_cons.mpr ⟨ok_step_op, fun _ h => absurd h List.not_mem_nil⟩⟩⟩⟩) (by decide +kernel)
set_option maxRecDepth 1000000 in
def an100 : List (Nat × List (Nat × An)) := [(218, [(10, ([((1, 0, 65, (17, [])), 0, 96), ((1, 0, 65, (18, [])), 0, 96), ((1, 0, 65, (19, [])), 1, 4), ((1, 0, 65, (24, [])), 0, 96)], ([(0, [(1, (-1)), (1001, 1)]), ((-1), [(0, (-1)), (1, 1)]), (0, [(0, 1), (3, (-1)), (1002, (-1)), (1005, 1)]), ((-1), [(0, 1), (1002, (-1))]), ((-1), [(3, 1), (1007, (-1))])], [], [((1, 0, 65, (19, [])), (3, 0, 0, (0, [])))]), [(4, 66, (0, []), (0, []))], [], [(0, 65, 17, 19), (0, 65, 24, 24)], 0, true))])]
set_option maxRecDepth 1000000 in
theorem ok100 : SmOK rgT sm100 := vfy_sp (T := [sm99, sm33, sm28, sm_step_op]) (AN := an100) (g := 145) (List.forall_mem_cons.mpr ⟨ok99, List.forall_mem_cons.mpr ⟨ok33, List.forall_mem_cons.mpr ⟨ok28, List.forall_mem_cons.mpr ⟨ok_step_op, fun _ h => absurd h List.not_mem_nil⟩⟩⟩⟩) (by decide +kernel)
set_option maxRecDepth 1000000 in
def an101 : List (Nat × List (Nat × An)) := []
set_option maxRecDepth 1000000 in
theorem ok101 : SmOK rgT sm101 := vfy_sp (T := [sm100, sm95, sm34, sm29, sm28, sm_step_not, sm_step_nam, sm_step_num]) (AN := an101) (g := 1005) (List.forall_mem_cons.mpr ⟨ok100, List.forall_mem_cons.mpr ⟨ok95, List.forall_mem_cons.mpr ⟨ok34, List.forall_mem_cons.mpr ⟨ok29, List.forall_mem_cons.mpr ⟨ok28, List.forall_mem_cons.mpr ⟨ok_step_not, List.forall_mem_cons.mpr ⟨ok_step_nam, List.forall_mem_cons.mpr ⟨ok_step_num, fun _ h => absurd h List.not_mem_nil⟩⟩⟩⟩⟩⟩⟩⟩) (by decide +kernel)
set_option maxRecDepth 1000000 in
def an102 : List (Nat × List (Nat × An)) := [(222, [(10, ([((1, 0, 65, (17, [])), 0, 96), ((1, 0, 65, (18, [])), 0, 96), ((1, 0, 65, (19, [])), 1, 4), ((1, 0, 65, (24, [])), 0, 96)], ([(0, [(1, (-1)), (1001, 1)]), ((-1), [(0, (-1)), (1, 1)]), (0, [(0, 1), (3, (-1)), (1002, (-1)), (1005, 1)]), ((-1), [(0, 1), (1002, (-1))]), ((-1), [(3, 1), (1007, (-1))])], [], [((1, 0, 65, (19, [])), (3, 0, 0, (0, [])))]), [(4, 66, (0, []), (0, []))], [], [(0, 65, 17, 19), (0, 65, 24, 24)], 0, true))])]
set_option maxRecDepth 1000000 in
theorem ok102 : SmOK rgT sm102 := vfy_sp (T := [sm101, sm29, sm28, sm_step_op]) (AN := an102) (g := 313) (List.forall_mem_cons.mpr ⟨ok101, List.forall_mem_cons.mpr ⟨ok29, List.forall_mem_cons.mpr ⟨ok28, List.forall_mem_cons.mpr ⟨ok_step_op, fun _ h => absurd h List.not_mem_nil⟩⟩⟩⟩) (by decide +kernel)
set_option maxRecDepth 1000000 in
def an103 : List (Nat × List (Nat × An)) := [(221, [(10, ([((1, 0, 65, (17, [])), 0, 96), ((1, 0, 65, (18, [])), 0, 96), ((1, 0, 65, (19, [])), 1, 4), ((1, 0, 65, (24, [])), 0, 96)], ([(0, [(1, (-1)), (1001, 1)]), ((-1), [(0, (-1)), (1, 1)]), (0, [(0, 1), (3, (-1)), (1002, (-1)), (1005, 1)]), ((-1), [(0, 1), (1002, (-1))]), ((-1), [(3, 1), (1007, (-1))])], [], [((1, 0, 65, (19, [])), (3, 0, 0, (0, [])))]), [(4, 66, (0, []), (0, []))], [], [(0, 65, 17, 19), (0, 65, 24, 24)], 0, true))])]
set_option maxRecDepth 1000000 in
theorem ok103 : SmOK rgT sm103 := vfy_sp (T := [sm102, sm30, sm28, sm_step_op]) (AN := an103) (g := 313) (List.forall_mem_cons.mpr ⟨ok102, List.forall_mem_cons.mpr ⟨ok30, List.forall_mem_cons.mpr ⟨ok28, List.forall_mem_cons.mpr ⟨ok_step_op, fun _ h => absurd h List.not_mem_nil⟩⟩⟩⟩) (by decide +kernel)
set_option maxRecDepth 1000000 in
def an104 : List (Nat × List (Nat × An)) := []
set_option maxRecDepth 1000000 in
theorem ok104 : SmOK rgT sm104 := vfy_sp (T := [sm103, sm31, sm28, sm_step_op]) (AN := an104) (g := 411) (List.forall_mem_cons.mpr ⟨ok103, List.forall_mem_cons.mpr ⟨ok31, List.forall_mem_cons.mpr ⟨ok28, List.forall_mem_cons.mpr ⟨ok_step_op, fun _ h => absurd h List.not_mem_nil⟩⟩⟩⟩) (by decide +kernel)
set_option maxRecDepth 1000000 in
def an105 : List (Nat × List (Nat × An)) := [(219, [(10, ([((1, 0, 65, (17, [])), 0, 96), ((1, 0, 65, (18, [])), 0, 96), ((1, 0, 65, (19, [])), 1, 4), ((1, 0, 65, (24, [])), 0, 96)], ([(0, [(1, (-1)), (1001, 1)]), ((-1), [(0, (-1)), (1, 1)]), (0, [(0, 1), (3, (-1)), (1002, (-1)), (1005, 1)]), ((-1), [(0, 1), (1002, (-1))]), ((-1), [(3, 1), (1007, (-1))])], [], [((1, 0, 65, (19, [])), (3, 0, 0, (0, [])))]), [(4, 66, (0, []), (0, []))], [], [(0, 65, 17, 19), (0, 65, 24, 24)], 0, true))])]
set_option maxRecDepth 1000000 in
theorem ok105 : SmOK rgT sm105 := vfy_sp (T := [sm104, sm32, sm28, sm_step_op]) (AN := an105) (g := 145) (List.forall_mem_cons.mpr ⟨ok104, List.forall_mem_cons.mpr ⟨ok32, List.forall_mem_cons.mpr ⟨ok28, List.forall_mem_cons.mpr ⟨ok_step_op, fun _ h => absurd h List.not_mem_nil⟩⟩⟩⟩) (by decide +kernel)
set_option maxRecDepth 1000000 in
def an106 : List (Nat × List (Nat × An)) := [(218, [(10, ([((1, 0, 65, (17, [])), 0, 96), ((1, 0, 65, (18, [])), 0, 96), ((1, 0, 65, (19, [])), 1, 4), ((1, 0, 65, (24, [])), 0, 96)], ([(0, [(1, (-1)), (1001, 1)]), ((-1), [(0, (-1)), (1, 1)]), (0, [(0, 1), (3, (-1)), (1002, (-1)), (1005, 1)]), ((-1), [(0, 1), (1002, (-1))]), ((-1), [(3, 1), (1007, (-1))])], [], [((1, 0, 65, (19, [])), (3, 0, 0, (0, [])))]), [(4, 66, (0, []), (0, []))], [], [(0, 65, 17, 19), (0, 65, 24, 24)], 0, true))])]
set_option maxRecDepth 1000000 in
theorem ok106 : SmOK rgT sm106 := vfy_sp (T := [sm105, sm33, sm28, sm_step_op]) (AN := an106) (g := 145) (List.forall_mem_cons.mpr ⟨ok105, List.forall_mem_cons.mpr ⟨ok33, List.forall_mem_cons.mpr ⟨ok28, List.forall_mem_cons.mpr ⟨ok_step_op, fun _ h => absurd h List.not_mem_nil⟩⟩⟩⟩) (by decide +kernel)
set_option maxRecDepth 1000000 in
def an107 : List (Nat × List (Nat × An)) := []
set_option maxRecDepth 1000000 in
theorem ok107 : SmOK rgT sm107 := vfy_sp (T := [sm106, sm101, sm34, sm29, sm28, sm_step_not, sm_step_nam, sm_step_num]) (AN := an107) (g := 1005) (List.forall_mem_cons.mpr ⟨ok106, List.forall_mem_cons.mpr ⟨ok101, List.forall_mem_cons.mpr ⟨ok34, List.forall_mem_cons.mpr ⟨ok29, List.forall_mem_cons.mpr ⟨ok28, List.forall_mem_cons.mpr ⟨ok_step_not, List.forall_mem_cons.mpr ⟨ok_step_nam, List.forall_mem_cons.mpr ⟨ok_step_num, fun _ h => absurd h List.not_mem_nil⟩⟩⟩⟩⟩⟩⟩⟩) (by decide +kernel)
set_option maxRecDepth 1000000 in
def an108 : List (Nat × List (Nat × An)) := [(222, [(10, ([((1, 0, 65, (17, [])), 0, 96), ((1, 0, 65, (18, [])), 0, 96), ((1, 0, 65, (19, [])), 1, 4), ((1, 0, 65, (24, [])), 0, 96)], ([(0, [(1, (-1)), (1001, 1)]), ((-1), [(0, (-1)), (1, 1)]), (0, [(0, 1), (3, (-1)), (1002, (-1)), (1005, 1)]), ((-1), [(0, 1), (1002, (-1))]), ((-1), [(3, 1), (1007, (-1))])], [], [((1, 0, 65, (19, [])), (3, 0, 0, (0, [])))]), [(4, 66, (0, []), (0, []))], [], [(0, 65, 17, 19), (0, 65, 24, 24)], 0, true))])]
set_option maxRecDepth 1000000 in
theorem ok108 : SmOK rgT sm108 := vfy_sp (T := [sm107, sm29, sm28, sm_step_op]) (AN := an108) (g := 313) (List.forall_mem_cons.mpr ⟨ok107, List.forall_mem_cons.mpr ⟨ok29, List.forall_mem_cons.mpr ⟨ok28, List.forall_mem_cons.mpr ⟨ok_step_op, fun _ h => absurd h List.not_mem_nil⟩⟩⟩⟩) (by decide +kernel)
set_option maxRecDepth 1000000 in
def an109 : List (Nat × List (Nat × An)) := [(221, [(10, ([((1, 0, 65, (17, [])), 0, 96), ((1, 0, 65, (18, [])), 0, 96), ((1, 0, 65, (19, [])), 1, 4), ((1, 0, 65, (24, [])), 0, 96)], ([(0, [(1, (-1)), (1001, 1)]), ((-1), [(0, (-1)), (1, 1)]), (0, [(0, 1), (3, (-1)), (1002, (-1)), (1005, 1)]), ((-1), [(0, 1), (1002, (-1))]), ((-1), [(3, 1), (1007, (-1))])], [], [((1, 0, 65, (19, [])), (3, 0, 0, (0, [])))]), [(4, 66, (0, []), (0, []))], [], [(0, 65, 17, 19), (0, 65, 24, 24)], 0, true))])]
set_option maxRecDepth 1000000 in
theorem ok109 : SmOK rgT sm109 := vfy_sp (T := [sm108, sm30, sm28, sm_step_op]) (AN := an109) (g := 313) (List.forall_mem_cons.mpr ⟨ok108, List.forall_mem_cons.mpr ⟨ok30, List.forall_mem_cons.mpr ⟨ok28, List.forall_mem_cons.mpr ⟨ok_step_op, fun _ h => absurd h List.not_mem_nil⟩⟩⟩⟩) (by decide +kernel)
set_option maxRecDepth 1000000 in
def an110 : List (Nat × List (Nat × An)) := []
set_option maxRecDepth 1000000 in
theorem ok110 : SmOK rgT sm110 := vfy_sp (T := [sm109, sm31, sm28, sm_step_op]) (AN := an110) (g := 411) (List.forall_mem_cons.mpr ⟨ok109, List.forall_mem_cons.mpr ⟨ok31, List.forall_mem_cons.mpr ⟨ok28, List.forall_mem_cons.mpr ⟨ok_step_op, fun _ h => absurd h List.not_mem_nil⟩⟩⟩⟩) (by decide +kernel)
