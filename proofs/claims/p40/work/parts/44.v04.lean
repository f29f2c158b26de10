/-! Printed by wip/ai/tab.py. -/
set_option maxRecDepth 1000000 in
def an73 : List (Nat × List (Nat × An)) := [(221, [(10, ([((1, 0, 65, (17, [])), 0, 96), ((1, 0, 65, (18, [])), 0, 96), ((1, 0, 65, (19, [])), 1, 4), ((1, 0, 65, (24, [])), 0, 96)], ([(0, [(1, (-1)), (1001, 1)]), ((-1), [(0, (-1)), (1, 1)]), (0, [(0, 1), (3, (-1)), (1002, (-1)), (1005, 1)]), ((-1), [(0, 1), (1002, (-1))]), ((-1), [(3, 1), (1007, (-1))])], [], [((1, 0, 65, (19, [])), (3, 0, 0, (0, [])))]), [(4, 66, (0, []), (0, []))], [], [(0, 65, 17, 19), (0, 65, 24, 24)], 0, true))])]
set_option maxRecDepth 1000000 in
theorem ok73 : SmOK rgT sm73 := vfy_sp (T := [sm72, sm30, sm28, sm_step_op]) (AN := an73) (g := 313) (List.forall_mem_cons.mpr ⟨ok72, List.forall_mem_cons.mpr ⟨ok30, List.forall_mem_cons.mpr ⟨ok28, List.forall_mem_cons.mpr ⟨ok_step_op, fun _ h => absurd h List.not_mem_nil⟩⟩⟩⟩) (by decide +kernel)
set_option maxRecDepth 1000000 in
def an74 : List (Nat × List (Nat × An)) := []
set_option maxRecDepth 1000000 in
theorem ok74 : SmOK rgT sm74 := vfy_sp (T := [sm73, sm31, sm28, sm_step_op]) (AN := an74) (g := 411) (List.forall_mem_cons.mpr ⟨ok73, List.forall_mem_cons.mpr ⟨ok31, List.forall_mem_cons.mpr ⟨ok28, List.forall_mem_cons.mpr ⟨ok_step_op, fun _ h => absurd h List.not_mem_nil⟩⟩⟩⟩) (by decide +kernel)
set_option maxRecDepth 1000000 in
def an75 : List (Nat × List (Nat × An)) := [(219, [(10, ([((1, 0, 65, (17, [])), 0, 96), ((1, 0, 65, (18, [])), 0, 96), ((1, 0, 65, (19, [])), 1, 4), ((1, 0, 65, (24, [])), 0, 96)], ([(0, [(1, (-1)), (1001, 1)]), ((-1), [(0, (-1)), (1, 1)]), (0, [(0, 1), (3, (-1)), (1002, (-1)), (1005, 1)]), ((-1), [(0, 1), (1002, (-1))]), ((-1), [(3, 1), (1007, (-1))])], [], [((1, 0, 65, (19, [])), (3, 0, 0, (0, [])))]), [(4, 66, (0, []), (0, []))], [], [(0, 65, 17, 19), (0, 65, 24, 24)], 0, true))])]
set_option maxRecDepth 1000000 in
theorem ok75 : SmOK rgT sm75 := vfy_sp (T := [sm74, sm32, sm28, sm_step_op]) (AN := an75) (g := 145) (List.forall_mem_cons.mpr ⟨ok74, List.forall_mem_cons.mpr ⟨ok32, List.forall_mem_cons.mpr ⟨ok28, List.forall_mem_cons.mpr ⟨ok_step_op, fun _ h => absurd h List.not_mem_nil⟩⟩⟩⟩) (by decide +kernel)
set_option maxRecDepth 1000000 in
def an76 : List (Nat × List (Nat × An)) := [(218, [(10, ([((1, 0, 65, (17, [])), 0, 96), ((1, 0, 65, (18, [])), 0, 96), ((1, 0, 65, (19, [])), 1, 4), ((1, 0, 65, (24, [])), 0, 96)], ([(0, [(1, (-1)), (1001, 1)]), ((-1), [(0, (-1)), (1, 1)]), (0, [(0, 1), (3, (-1)), (1002, (-1)), (1005, 1)]), ((-1), [(0, 1), (1002, (-1))]), ((-1), [(3, 1), (1007, (-1))])], [], [((1, 0, 65, (19, [])), (3, 0, 0, (0, [])))]), [(4, 66, (0, []), (0, []))], [], [(0, 65, 17, 19), (0, 65, 24, 24)], 0, true))])]
set_option maxRecDepth 1000000 in
theorem ok76 : SmOK rgT sm76 := vfy_sp (T := [sm75, sm33, sm28, sm_step_op]) (AN := an76) (g := 145) (List.forall_mem_cons.mpr ⟨ok75, List.forall_mem_cons.mpr ⟨ok33, List.forall_mem_cons.mpr ⟨ok28, List.forall_mem_cons.mpr ⟨ok_step_op, fun _ h => absurd h List.not_mem_nil⟩⟩⟩⟩) (by decide +kernel)
set_option maxRecDepth 1000000 in
def an77 : List (Nat × List (Nat × An)) := []
set_option maxRecDepth 1000000 in
theorem ok77 : SmOK rgT sm77 := vfy_sp (T := [sm76, sm71, sm34, sm29, sm28, sm_step_not, sm_step_nam, sm_step_num]) (AN := an77) (g := 1005) (List.forall_mem_cons.mpr ⟨ok76, List.forall_mem_cons.mpr ⟨ok71, List.forall_mem_cons.mpr ⟨ok34, List.forall_mem_cons.mpr ⟨ok29, List.forall_mem_cons.mpr ⟨ok28, List.forall_mem_cons.mpr ⟨ok_step_not, List.forall_mem_cons.mpr ⟨ok_step_nam, List.forall_mem_cons.mpr ⟨ok_step_num, fun _ h => absurd h List.not_mem_nil⟩⟩⟩⟩⟩⟩⟩⟩) (by decide +kernel)
set_option maxRecDepth 1000000 in
def an78 : List (Nat × List (Nat × An)) := [(222, [(10, ([((1, 0, 65, (17, [])), 0, 96), ((1, 0, 65, (18, [])), 0, 96), ((1, 0, 65, (19, [])), 1, 4), ((1, 0, 65, (24, [])), 0, 96)], ([(0, [(1, (-1)), (1001, 1)]), ((-1), [(0, (-1)), (1, 1)]), (0, [(0, 1), (3, (-1)), (1002, (-1)), (1005, 1)]), ((-1), [(0, 1), (1002, (-1))]), ((-1), [(3, 1), (1007, (-1))])], [], [((1, 0, 65, (19, [])), (3, 0, 0, (0, [])))]), [(4, 66, (0, []), (0, []))], [], [(0, 65, 17, 19), (0, 65, 24, 24)], 0, true))])]
set_option maxRecDepth 1000000 in
theorem ok78 : SmOK rgT sm78 := vfy_sp (T := [sm77, sm29, sm28, sm_step_op]) (AN := an78) (g := 313) (List.forall_mem_cons.mpr ⟨ok77, List.forall_mem_cons.mpr ⟨ok29, List.forall_mem_cons.mpr ⟨ok28, List.forall_mem_cons.mpr ⟨ok_step_op, fun _ h => absurd h List.not_mem_nil⟩⟩⟩⟩) (by decide +kernel)
set_option maxRecDepth 1000000 in
def an79 : List (Nat × List (Nat × An)) := [(221, [(10, ([((1, 0, 65, (17, [])), 0, 96), ((1, 0, 65, (18, [])), 0, 96), ((1, 0, 65, (19, [])), 1, 4), ((1, 0, 65, (24, [])), 0, 96)], ([(0, [(1, (-1)), (1001, 1)]), ((-1), [(0, (-1)), (1, 1)]), (0, [(0, 1), (3, (-1)), (1002, (-1)), (1005, 1)]), ((-1), [(0, 1), (1002, (-1))]), ((-1), [(3, 1), (1007, (-1))])], [], [((1, 0, 65, (19, [])), (3, 0, 0, (0, [])))]), [(4, 66, (0, []), (0, []))], [], [(0, 65, 17, 19), (0, 65, 24, 24)], 0, true))])]
set_option maxRecDepth 1000000 in
theorem ok79 : SmOK rgT sm79 := vfy_sp (T := [sm78, sm30, sm28, sm_step_op]) (AN := an79) (g := 313) (List.forall_mem_cons.mpr ⟨ok78, List.forall_mem_cons.mpr ⟨ok30, List.forall_mem_cons.mpr ⟨ok28, List.forall_mem_cons.mpr ⟨ok_step_op, fun _ h => absurd h List.not_mem_nil⟩⟩⟩⟩) (by decide +kernel)
set_option maxRecDepth 1000000 in
def an80 : List (Nat × List (Nat × An)) := []
set_option maxRecDepth 1000000 in
theorem ok80 : SmOK rgT sm80 := vfy_sp (T := [sm79, sm31, sm28, sm_step_op]) (AN := an80) (g := 411) (List.forall_mem_cons.mpr ⟨ok79, List.forall_mem_cons.mpr ⟨ok31, List.forall_mem_cons.mpr ⟨ok28, List.forall_mem_cons.mpr ⟨ok_step_op, fun _ h => absurd h List.not_mem_nil⟩⟩⟩⟩) (by decide +kernel)
set_option maxRecDepth 1000000 in
def an81 : List (Nat × List (Nat × An)) := [(219, [(10, ([((1, 0, 65, (17, [])), 0, 96), ((1, 0, 65, (18, [])), 0, 96), ((1, 0, 65, (19, [])), 1, 4), ((1, 0, 65, (24, [])), 0, 96)], ([(0, [(1, (-1)), (1001, 1)]), ((-1), [(0, (-1)), (1, 1)]), (0, [(0, 1), (3, (-1)), (1002, (-1)), (1005, 1)]), ((-1), [(0, 1), (1002, (-1))]), ((-1), [(3, 1), (1007, (-1))])], [], [((1, 0, 65, (19, [])), (3, 0, 0, (0, [])))]), [(4, 66, (0, []), (0, []))], [], [(0, 65, 17, 19), (0, 65, 24, 24)], 0, true))])]
set_option maxRecDepth 1000000 in
theorem ok81 : SmOK rgT sm81 := vfy_sp (T := [sm80, sm32, sm28, sm_step_op]) (AN := an81) (g := 145) (List.forall_mem_cons.mpr ⟨ok80, List.forall_mem_cons.mpr ⟨ok32, List.forall_mem_cons.mpr ⟨ok28, List.forall_mem_cons.mpr ⟨ok_step_op, fun _ h => absurd h List.not_mem_nil⟩⟩⟩⟩) (by decide +kernel)
set_option maxRecDepth 1000000 in
def an82 : List (Nat × List (Nat × An)) := [(218, [(10, ([((1, 0, 65, (17, [])), 0, 96), ((1, 0, 65, (18, [])), 0, 96), ((1, 0, 65, (19, [])), 1, 4), ((1, 0, 65, (24, [])), 0, 96)], ([(0, [(1, (-1)), (1001, 1)]), ((-1), [(0, (-1)), (1, 1)]), (0, [(0, 1), (3, (-1)), (1002, (-1)), (1005, 1)]), ((-1), [(0, 1), (1002, (-1))]), ((-1), [(3, 1), (1007, (-1))])], [], [((1, 0, 65, (19, [])), (3, 0, 0, (0, [])))]), [(4, 66, (0, []), (0, []))], [], [(0, 65, 17, 19), (0, 65, 24, 24)], 0, true))])]
set_option maxRecDepth 1000000 in
theorem ok82 : SmOK rgT sm82 := vfy_sp (T := [sm81, sm33, sm28, sm_step_op]) (AN := an82) (g := 145) (List.forall_mem_cons.mpr ⟨ok81, List.forall_mem_cons.mpr ⟨ok33, List.forall_mem_cons.mpr ⟨ok28, List.forall_mem_cons.mpr ⟨ok_step_op, fun _ h => absurd h List.not_mem_nil⟩⟩⟩⟩) (by decide +kernel)
set_option maxRecDepth 1000000 in
def an83 : List (Nat × List (Nat × An)) := []
set_option maxRecDepth 1000000 in
theorem ok83 : SmOK rgT sm83 := vfy_sp (T := [sm82, sm77, sm34, sm29, sm28, sm_step_not, sm_step_nam, sm_step_num]) (AN := an83) (g := 1005) (List.forall_mem_cons.mpr ⟨ok82, List.forall_mem_cons.mpr ⟨ok77, List.forall_mem_cons.mpr ⟨ok34, List.forall_mem_cons.mpr ⟨ok29, List.forall_mem_cons.mpr ⟨ok28, List.forall_mem_cons.mpr ⟨ok_step_not, List.forall_mem_cons.mpr ⟨ok_step_nam, List.forall_mem_cons.mpr ⟨ok_step_num, fun _ h => absurd h List.not_mem_nil⟩⟩⟩⟩⟩⟩⟩⟩) (by decide +kernel)
set_option maxRecDepth 1000000 in
def an84 : List (Nat × List (Nat × An)) := [(222, [(10, ([((1, 0, 65, (17, [])), 0, 96), ((1, 0, 65, (18, [])), 0, 96), ((1, 0, 65, (19, [])), 1, 4), ((1, 0, 65, (24, [])), 0, 96)], ([(0, [(1, (-1)), (1001, 1)]), ((-1), [(0, (-1)), (1, 1)]), (0, [(0, 1), (3, (-1)), (1002, (-1)), (1005, 1)]), ((-1), [(0, 1), (1002, (-1))]), ((-1), [(3, 1), (1007, (-1))])], [], [((1, 0, 65, (19, [])), (3, 0, 0, (0, [])))]), [(4, 66, (0, []), (0, []))], [], [(0, 65, 17, 19), (0, 65, 24, 24)], 0, true))])]
set_option maxRecDepth 1000000 in
theorem ok84 : SmOK rgT sm84 := vfy_sp (T := [sm83, sm29, sm28, sm_step_op]) (AN := an84) (g := 313) (List.forall_mem_cons.mpr ⟨ok83, List.forall_mem_cons.mpr ⟨ok29, List.forall_mem_cons.mpr ⟨ok28, List.forall_mem_cons.mpr ⟨ok_step_op, fun _ h => absurd h List.not_mem_nil⟩⟩⟩⟩) (by decide +kernel)
set_option maxRecDepth 1000000 in
def an85 : List (Nat × List (Nat × An)) := [(221, [(10, ([((1, 0, 65, (17, [])), 0, 96), ((1, 0, 65, (18, [])), 0, 96), ((1, 0, 65, (19, [])), 1, 4), ((1, 0, 65, (24, [])), 0, 96)], ([(0, [(1, (-1)), (1001, 1)]), ((-1), [(0, (-1)), (1, 1)]), (0, [(0, 1), (3, (-1)), (1002, (-1)), (1005, 1)]), ((-1), [(0, 1), (1002, (-1))]), ((-1), [(3, 1), (1007, (-1))])], [], [((1, 0, 65, (19, [])), (3, 0, 0, (0, [])))]), [(4, 66, (0, []), (0, []))], [], [(0, 65, 17, 19), (0, 65, 24, 24)], 0, true))])]
set_option maxRecDepth 1000000 in
theorem ok85 : SmOK rgT sm85 := vfy_sp (T := [sm84, sm30, sm28, sm_step_op]) (AN := an85) (g := 313) (List.forall_mem_cons.mpr ⟨ok84, List.forall_mem_cons.mpr ⟨ok30, List.forall_mem_cons.mpr ⟨ok28, List.forall_mem_cons.mpr ⟨ok_step_op, fun _ h => absurd h List.not_mem_nil⟩⟩⟩⟩) (by decide +kernel)
set_option maxRecDepth 1000000 in
def an86 : List (Nat × List (Nat × An)) := []
set_option maxRecDepth 1000000 in
theorem ok86 : SmOK rgT sm86 := vfy_sp (T := [sm85, sm31, sm28, sm_step_op]) (AN := an86) (g := 411) (List.forall_mem_cons.mpr ⟨ok85, List.forall_mem_cons.mpr ⟨ok31, List.forall_mem_cons.mpr ⟨ok28, List.forall_mem_cons.mpr ⟨ok_step_op, fun _ h => absurd h List.not_mem_nil⟩⟩⟩⟩) (by decide +kernel)
set_option maxRecDepth 1000000 in
def an87 : List (Nat × List (Nat × An)) := [(219, [(10, ([((1, 0, 65, (17, [])), 0, 96), ((1, 0, 65, (18, [])), 0, 96), ((1, 0, 65, (19, [])), 1, 4), ((1, 0, 65, (24, [])), 0, 96)], ([(0, [(1, (-1)), (1001, 1)]), ((-1), [(0, (-1)), (1, 1)]), (0, [(0, 1), (3, (-1)), (1002, (-1)), (1005, 1)]), ((-1), [(0, 1), (1002, (-1))]), ((-1), [(3, 1), (1007, (-1))])], [], [((1, 0, 65, (19, [])), (3, 0, 0, (0, [])))]), [(4, 66, (0, []), (0, []))], [], [(0, 65, 17, 19), (0, 65, 24, 24)], 0, true))])]
set_option maxRecDepth 1000000 in
theorem ok87 : SmOK rgT sm87 := vfy_sp (T := [sm86, sm32, sm28, sm_step_op]) (AN := an87) (g := 145) (List.forall_mem_cons.mpr ⟨ok86, List.forall_mem_cons.mpr ⟨ok32, List.forall_mem_cons.mpr ⟨ok28, List.forall_mem_cons.mpr ⟨ok_step_op, fun _ h => absurd h List.not_mem_nil⟩⟩⟩⟩) (by decide +kernel)
set_option maxRecDepth 1000000 in
def an88 : List (Nat × List (Nat × An)) := [(218, [(10, ([((1, 0, 65, (17, [])), 0, 96), ((1, 0, 65, (18, [])), 0, 96), ((1, 0, 65, (19, [])), 1, 4), ((1, 0, 65, (24, [])), 0, 96)], ([(0, [(1, (-1)), (1001, 1)]), ((-1), [(0, (-1)), (1, 1)]), (0, [(0, 1), (3, (-1)), (1002, (-1)), (1005, 1)]), ((-1), [(0, 1), (1002, (-1))]), ((-1), [(3, 1), (1007, (-1))])], [], [((1, 0, 65, (19, [])), (3, 0, 0, (0, [])))]), [(4, 66, (0, []), (0, []))], [], [(0, 65, 17, 19), (0, 65, 24, 24)], 0, true))])]
set_option maxRecDepth 1000000 in
theorem ok88 : SmOK rgT sm88 := vfy_sp (T := [sm87, sm33, sm28, sm_step_op]) (AN := an88) (g := 145) (List.forall_mem_cons.mpr ⟨ok87, List.forall_mem_cons.mpr ⟨ok33, List.forall_mem_cons.mpr ⟨ok28, List.forall_mem_cons.mpr ⟨ok_step_op, fun _ h => absurd h List.not_mem_nil⟩⟩⟩⟩) (by decide +kernel)
set_option maxRecDepth 1000000 in
def an89 : List (Nat × List (Nat × An)) := []
set_option maxRecDepth 1000000 in
theorem ok89 : SmOK rgT sm89 := vfy_sp (T := [sm88, sm83, sm34, sm29, sm28, sm_step_not, sm_step_nam, sm_step_num]) (AN := an89) (g := 1005) (List.forall_mem_cons.mpr ⟨ok88, List.forall_mem_cons.mpr ⟨ok83, List.forall_mem_cons.mpr ⟨ok34, List.forall_mem_cons.mpr ⟨ok29, List.forall_mem_cons.mpr ⟨ok28, List.forall_mem_cons.mpr ⟨ok_step_not, List.forall_mem_cons.mpr ⟨ok_step_nam, List.forall_mem_cons.mpr ⟨ok_step_num, fun _ h => absurd h List.not_mem_nil⟩⟩⟩⟩⟩⟩⟩⟩) (by decide +kernel)
set_option maxRecDepth 1000000 in
def an90 : List (Nat × List (Nat × An)) := [(222, [(10, ([((1, 0, 65, (17, [])), 0, 96), ((1, 0, 65, (18, [])), 0, 96), ((1, 0, 65, (19, [])), 1, 4), ((1, 0, 65, (24, [])), 0, 96)], ([(0, [(1, (-1)), (1001, 1)]), ((-1), [(0, (-1)), (1, 1)]), (0, [(0, 1), (3, (-1)), (1002, (-1)), (1005, 1)]), ((-1), [(0, 1), (1002, (-1))]), ((-1), [(3, 1), (1007, (-1))])], [], [((1, 0, 65, (19, [])), (3, 0, 0, (0, [])))]), [(4, 66, (0, []), (0, []))], [], [(0, 65, 17, 19), (0, 65, 24, 24)], 0, true))])]
set_option maxRecDepth 1000000 in
theorem ok90 : SmOK rgT sm90 := vfy_sp (T := [sm89, sm29, sm28, sm_step_op]) (AN := an90) (g := 313) (List.forall_mem_cons.mpr ⟨ok89, List.forall_mem_cons.mpr ⟨ok29, List.forall_mem_cons.mpr ⟨ok28, List.forall_mem_cons.mpr ⟨ok_step_op, fun _ h => absurd h List.not_mem_nil⟩⟩⟩⟩) (by decide +kernel)
set_option maxRecDepth 1000000 in
def an91 : List (Nat × List (Nat × An)) := [(221, [(10, ([((1, 0, 65, (17, [])), 0, 96), ((1, 0, 65, (18, [])), 0, 96), ((1, 0, 65, (19, [])), 1, 4), ((1, 0, 65, (24, [])), 0, 96)], ([(0, [(1, (-1)), (1001, 1)]), ((-1), [(0, (-1)), (1, 1)]), (0, [(0, 1), (3, (-1)), (1002, (-1)), (1005, 1)]), ((-1), [(0, 1), (1002, (-1))]), ((-1), [(3, 1), (1007, (-1))])], [], [((1, 0, 65, (19, [])), (3, 0, 0, (0, [])))]), [(4, 66, (0, []), (0, []))], [], [(0, 65, 17, 19), (0, 65, 24, 24)], 0, true))])]
set_option maxRecDepth 1000000 in
theorem ok91 : SmOK rgT sm91 := vfy_sp (T := [sm90, sm30, sm28, sm_step_op]) (AN := an91) (g := 313) (List.forall_mem_cons.mpr ⟨ok90, List.forall_mem_cons.mpr ⟨ok30, List.forall_mem_cons.mpr ⟨ok28, List.forall_mem_cons.mpr ⟨ok_step_op, fun _ h => absurd h List.not_mem_nil⟩⟩⟩⟩) (by decide +kernel)
