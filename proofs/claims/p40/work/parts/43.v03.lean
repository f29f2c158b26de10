/-! Printed by wip/ai/tab.py. -/
set_option maxRecDepth 1000000 in
def an54 : List (Nat × List (Nat × An)) := [(222, [(10, ([((1, 0, 65, (17, [])), 0, 96), ((1, 0, 65, (18, [])), 0, 96), ((1, 0, 65, (19, [])), 1, 4), ((1, 0, 65, (24, [])), 0, 96)], ([(0, [(1, (-1)), (1001, 1)]), ((-1), [(0, (-1)), (1, 1)]), (0, [(0, 1), (3, (-1)), (1002, (-1)), (1005, 1)]), ((-1), [(0, 1), (1002, (-1))]), ((-1), [(3, 1), (1007, (-1))])], [], [((1, 0, 65, (19, [])), (3, 0, 0, (0, [])))]), [(4, 66, (0, []), (0, []))], [], [(0, 65, 17, 19), (0, 65, 24, 24)], 0, true))])]
set_option maxRecDepth 1000000 in
theorem ok54 : SmOK rgT sm54 := vfy_sp (T := [sm53, sm29, sm28, sm_step_op]) (AN := an54) (g := 313) (List.forall_mem_cons.mpr ⟨ok53, List.forall_mem_cons.mpr ⟨ok29, List.forall_mem_cons.mpr ⟨ok28, List.forall_mem_cons.mpr ⟨ok_step_op, fun _ h => absurd h List.not_mem_nil⟩⟩⟩⟩) (by decide +kernel)
set_option maxRecDepth 1000000 in
def an55 : List (Nat × List (Nat × An)) := [(221, [(10, ([((1, 0, 65, (17, [])), 0, 96), ((1, 0, 65, (18, [])), 0, 96), ((1, 0, 65, (19, [])), 1, 4), ((1, 0, 65, (24, [])), 0, 96)], ([(0, [(1, (-1)), (1001, 1)]), ((-1), [(0, (-1)), (1, 1)]), (0, [(0, 1), (3, (-1)), (1002, (-1)), (1005, 1)]), ((-1), [(0, 1), (1002, (-1))]), ((-1), [(3, 1), (1007, (-1))])], [], [((1, 0, 65, (19, [])), (3, 0, 0, (0, [])))]), [(4, 66, (0, []), (0, []))], [], [(0, 65, 17, 19), (0, 65, 24, 24)], 0, true))])]
set_option maxRecDepth 1000000 in
theorem ok55 : SmOK rgT sm55 := vfy_sp (T := [sm54, sm30, sm28, sm_step_op]) (AN := an55) (g := 313) (List.forall_mem_cons.mpr ⟨ok54, List.forall_mem_cons.mpr ⟨ok30, List.forall_mem_cons.mpr ⟨ok28, List.forall_mem_cons.mpr ⟨ok_step_op, fun _ h => absurd h List.not_mem_nil⟩⟩⟩⟩) (by decide +kernel)
set_option maxRecDepth 1000000 in
def an56 : List (Nat × List (Nat × An)) := []
set_option maxRecDepth 1000000 in
theorem ok56 : SmOK rgT sm56 := vfy_sp (T := [sm55, sm31, sm28, sm_step_op]) (AN := an56) (g := 411) (List.forall_mem_cons.mpr ⟨ok55, List.forall_mem_cons.mpr ⟨ok31, List.forall_mem_cons.mpr ⟨ok28, List.forall_mem_cons.mpr ⟨ok_step_op, fun _ h => absurd h List.not_mem_nil⟩⟩⟩⟩) (by decide +kernel)
set_option maxRecDepth 1000000 in
def an57 : List (Nat × List (Nat × An)) := [(219, [(10, ([((1, 0, 65, (17, [])), 0, 96), ((1, 0, 65, (18, [])), 0, 96), ((1, 0, 65, (19, [])), 1, 4), ((1, 0, 65, (24, [])), 0, 96)], ([(0, [(1, (-1)), (1001, 1)]), ((-1), [(0, (-1)), (1, 1)]), (0, [(0, 1), (3, (-1)), (1002, (-1)), (1005, 1)]), ((-1), [(0, 1), (1002, (-1))]), ((-1), [(3, 1), (1007, (-1))])], [], [((1, 0, 65, (19, [])), (3, 0, 0, (0, [])))]), [(4, 66, (0, []), (0, []))], [], [(0, 65, 17, 19), (0, 65, 24, 24)], 0, true))])]
set_option maxRecDepth 1000000 in
theorem ok57 : SmOK rgT sm57 := vfy_sp (T := [sm56, sm32, sm28, sm_step_op]) (AN := an57) (g := 145) (List.forall_mem_cons.mpr ⟨ok56, List.forall_mem_cons.mpr ⟨ok32, List.forall_mem_cons.mpr ⟨ok28, List.forall_mem_cons.mpr ⟨ok_step_op, fun _ h => absurd h List.not_mem_nil⟩⟩⟩⟩) (by decide +kernel)
set_option maxRecDepth 1000000 in
def an58 : List (Nat × List (Nat × An)) := [(218, [(10, ([((1, 0, 65, (17, [])), 0, 96), ((1, 0, 65, (18, [])), 0, 96), ((1, 0, 65, (19, [])), 1, 4), ((1, 0, 65, (24, [])), 0, 96)], ([(0, [(1, (-1)), (1001, 1)]), ((-1), [(0, (-1)), (1, 1)]), (0, [(0, 1), (3, (-1)), (1002, (-1)), (1005, 1)]), ((-1), [(0, 1), (1002, (-1))]), ((-1), [(3, 1), (1007, (-1))])], [], [((1, 0, 65, (19, [])), (3, 0, 0, (0, [])))]), [(4, 66, (0, []), (0, []))], [], [(0, 65, 17, 19), (0, 65, 24, 24)], 0, true))])]
set_option maxRecDepth 1000000 in
theorem ok58 : SmOK rgT sm58 := vfy_sp (T := [sm57, sm33, sm28, sm_step_op]) (AN := an58) (g := 145) (List.forall_mem_cons.mpr ⟨ok57, List.forall_mem_cons.mpr ⟨ok33, List.forall_mem_cons.mpr ⟨ok28, List.forall_mem_cons.mpr ⟨ok_step_op, fun _ h => absurd h List.not_mem_nil⟩⟩⟩⟩) (by decide +kernel)
set_option maxRecDepth 1000000 in
def an59 : List (Nat × List (Nat × An)) := []
set_option maxRecDepth 1000000 in
theorem ok59 : SmOK rgT sm59 := vfy_sp (T := [sm58, sm53, sm34, sm29, sm28, sm_step_not, sm_step_nam, sm_step_num]) (AN := an59) (g := 1005) (List.forall_mem_cons.mpr ⟨ok58, List.forall_mem_cons.mpr ⟨ok53, List.forall_mem_cons.mpr ⟨ok34, List.forall_mem_cons.mpr ⟨ok29, List.forall_mem_cons.mpr ⟨ok28, List.forall_mem_cons.mpr ⟨ok_step_not, List.forall_mem_cons.mpr ⟨ok_step_nam, List.forall_mem_cons.mpr ⟨ok_step_num, fun _ h => absurd h List.not_mem_nil⟩⟩⟩⟩⟩⟩⟩⟩) (by decide +kernel)
set_option maxRecDepth 1000000 in
def an60 : List (Nat × List (Nat × An)) := [(222, [(10, ([((1, 0, 65, (17, [])), 0, 96), ((1, 0, 65, (18, [])), 0, 96), ((1, 0, 65, (19, [])), 1, 4), ((1, 0, 65, (24, [])), 0, 96)], ([(0, [(1, (-1)), (1001, 1)]), ((-1), [(0, (-1)), (1, 1)]), (0, [(0, 1), (3, (-1)), (1002, (-1)), (1005, 1)]), ((-1), [(0, 1), (1002, (-1))]), ((-1), [(3, 1), (1007, (-1))])], [], [((1, 0, 65, (19, [])), (3, 0, 0, (0, [])))]), [(4, 66, (0, []), (0, []))], [], [(0, 65, 17, 19), (0, 65, 24, 24)], 0, true))])]
set_option maxRecDepth 1000000 in
theorem ok60 : SmOK rgT sm60 := vfy_sp (T := [sm59, sm29, sm28, sm_step_op]) (AN := an60) (g := 313) (List.forall_mem_cons.mpr ⟨ok59, List.forall_mem_cons.mpr ⟨ok29, List.forall_mem_cons.mpr ⟨ok28, List.forall_mem_cons.mpr ⟨ok_step_op, fun _ h => absurd h List.not_mem_nil⟩⟩⟩⟩) (by decide +kernel)
set_option maxRecDepth 1000000 in
def an61 : List (Nat × List (Nat × An)) := [(221, [(10, ([((1, 0, 65, (17, [])), 0, 96), ((1, 0, 65, (18, [])), 0, 96), ((1, 0, 65, (19, [])), 1, 4), ((1, 0, 65, (24, [])), 0, 96)], ([(0, [(1, (-1)), (1001, 1)]), ((-1), [(0, (-1)), (1, 1)]), (0, [(0, 1), (3, (-1)), (1002, (-1)), (1005, 1)]), ((-1), [(0, 1), (1002, (-1))]), ((-1), [(3, 1), (1007, (-1))])], [], [((1, 0, 65, (19, [])), (3, 0, 0, (0, [])))]), [(4, 66, (0, []), (0, []))], [], [(0, 65, 17, 19), (0, 65, 24, 24)], 0, true))])]
set_option maxRecDepth 1000000 in
theorem ok61 : SmOK rgT sm61 := vfy_sp (T := [sm60, sm30, sm28, sm_step_op]) (AN := an61) (g := 313) (List.forall_mem_cons.mpr ⟨ok60, List.forall_mem_cons.mpr ⟨ok30, List.forall_mem_cons.mpr ⟨ok28, List.forall_mem_cons.mpr ⟨ok_step_op, fun _ h => absurd h List.not_mem_nil⟩⟩⟩⟩) (by decide +kernel)
set_option maxRecDepth 1000000 in
def an62 : List (Nat × List (Nat × An)) := []
set_option maxRecDepth 1000000 in
theorem ok62 : SmOK rgT sm62 := vfy_sp (T := [sm61, sm31, sm28, sm_step_op]) (AN := an62) (g := 411) (List.forall_mem_cons.mpr ⟨ok61, List.forall_mem_cons.mpr ⟨ok31, List.forall_mem_cons.mpr ⟨ok28, List.forall_mem_cons.mpr ⟨ok_step_op, fun _ h => absurd h List.not_mem_nil⟩⟩⟩⟩) (by decide +kernel)
set_option maxRecDepth 1000000 in
def an63 : List (Nat × List (Nat × An)) := [(219, [(10, ([((1, 0, 65, (17, [])), 0, 96), ((1, 0, 65, (18, [])), 0, 96), ((1, 0, 65, (19, [])), 1, 4), ((1, 0, 65, (24, [])), 0, 96)], ([(0, [(1, (-1)), (1001, 1)]), ((-1), [(0, (-1)), (1, 1)]), (0, [(0, 1), (3, (-1)), (1002, (-1)), (1005, 1)]), ((-1), [(0, 1), (1002, (-1))]), ((-1), [(3, 1), (1007, (-1))])], [], [((1, 0, 65, (19, [])), (3, 0, 0, (0, [])))]), [(4, 66, (0, []), (0, []))], [], [(0, 65, 17, 19), (0, 65, 24, 24)], 0, true))])]
set_option maxRecDepth 1000000 in
theorem ok63 : SmOK rgT sm63 := vfy_sp (T := [sm62, sm32, sm28, sm_step_op]) (AN := an63) (g := 145) (List.forall_mem_cons.mpr ⟨ok62, List.forall_mem_cons.mpr ⟨ok32, List.forall_mem_cons.mpr ⟨ok28, List.forall_mem_cons.mpr ⟨ok_step_op, fun _ h => absurd h List.not_mem_nil⟩⟩⟩⟩) (by decide +kernel)
set_option maxRecDepth 1000000 in
def an64 : List (Nat × List (Nat × An)) := [(218, [(10, ([((1, 0, 65, (17, [])), 0, 96), ((1, 0, 65, (18, [])), 0, 96), ((1, 0, 65, (19, [])), 1, 4), ((1, 0, 65, (24, [])), 0, 96)], ([(0, [(1, (-1)), (1001, 1)]), ((-1), [(0, (-1)), (1, 1)]), (0, [(0, 1), (3, (-1)), (1002, (-1)), (1005, 1)]), ((-1), [(0, 1), (1002, (-1))]), ((-1), [(3, 1), (1007, (-1))])], [], [((1, 0, 65, (19, [])), (3, 0, 0, (0, [])))]), [(4, 66, (0, []), (0, []))], [], [(0, 65, 17, 19), (0, 65, 24, 24)], 0, true))])]
set_option maxRecDepth 1000000 in
theorem ok64 : SmOK rgT sm64 := vfy_sp (T := [sm63, sm33, sm28, sm_step_op]) (AN := an64) (g := 145) (List.forall_mem_cons.mpr ⟨ok63, List.forall_mem_cons.mpr ⟨ok33, List.forall_mem_cons.mpr ⟨ok28, List.forall_mem_cons.mpr ⟨ok_step_op, fun _ h => absurd h List.not_mem_nil⟩⟩⟩⟩) (by decide +kernel)
set_option maxRecDepth 1000000 in
def an65 : List (Nat × List (Nat × An)) := []
set_option maxRecDepth 1000000 in
theorem ok65 : SmOK rgT sm65 := vfy_sp (T := [sm64, sm59, sm34, sm29, sm28, sm_step_not, sm_step_nam, sm_step_num]) (AN := an65) (g := 1005) (List.forall_mem_cons.mpr ⟨ok64, List.forall_mem_cons.mpr ⟨ok59, List.forall_mem_cons.mpr ⟨ok34, List.forall_mem_cons.mpr ⟨ok29, List.forall_mem_cons.mpr ⟨ok28, List.forall_mem_cons.mpr ⟨ok_step_not, List.forall_mem_cons.mpr ⟨ok_step_nam, List.forall_mem_cons.mpr ⟨ok_step_num, fun _ h => absurd h List.not_mem_nil⟩⟩⟩⟩⟩⟩⟩⟩) (by decide +kernel)
set_option maxRecDepth 1000000 in
def an66 : List (Nat × List (Nat × An)) := [(222, [(10, ([((1, 0, 65, (17, [])), 0, 96), ((1, 0, 65, (18, [])), 0, 96), ((1, 0, 65, (19, [])), 1, 4), ((1, 0, 65, (24, [])), 0, 96)], ([(0, [(1, (-1)), (1001, 1)]), ((-1), [(0, (-1)), (1, 1)]), (0, [(0, 1), (3, (-1)), (1002, (-1)), (1005, 1)]), ((-1), [(0, 1), (1002, (-1))]), ((-1), [(3, 1), (1007, (-1))])], [], [((1, 0, 65, (19, [])), (3, 0, 0, (0, [])))]), [(4, 66, (0, []), (0, []))], [], [(0, 65, 17, 19), (0, 65, 24, 24)], 0, true))])]
set_option maxRecDepth 1000000 in
theorem ok66 : SmOK rgT sm66 := vfy_sp (T := [sm65, sm29, sm28, sm_step_op]) (AN := an66) (g := 313) (List.forall_mem_cons.mpr ⟨ok65, List.forall_mem_cons.mpr ⟨ok29, List.forall_mem_cons.mpr ⟨ok28, List.forall_mem_cons.mpr ⟨ok_step_op, fun _ h => absurd h List.not_mem_nil⟩⟩⟩⟩) (by decide +kernel)
set_option maxRecDepth 1000000 in
def an67 : List (Nat × List (Nat × An)) := [(221, [(10, ([((1, 0, 65, (17, [])), 0, 96), ((1, 0, 65, (18, [])), 0, 96), ((1, 0, 65, (19, [])), 1, 4), ((1, 0, 65, (24, [])), 0, 96)], ([(0, [(1, (-1)), (1001, 1)]), ((-1), [(0, (-1)), (1, 1)]), (0, [(0, 1), (3, (-1)), (1002, (-1)), (1005, 1)]), ((-1), [(0, 1), (1002, (-1))]), ((-1), [(3, 1), (1007, (-1))])], [], [((1, 0, 65, (19, [])), (3, 0, 0, (0, [])))]), [(4, 66, (0, []), (0, []))], [], [(0, 65, 17, 19), (0, 65, 24, 24)], 0, true))])]
set_option maxRecDepth 1000000 in
theorem ok67 : SmOK rgT sm67 := vfy_sp (T := [sm66, sm30, sm28, sm_step_op]) (AN := an67) (g := 313) (List.forall_mem_cons.mpr ⟨ok66, List.forall_mem_cons.mpr ⟨ok30, List.forall_mem_cons.mpr ⟨ok28, List.forall_mem_cons.mpr ⟨ok_step_op, fun _ h => absurd h List.not_mem_nil⟩⟩⟩⟩) (by decide +kernel)
set_option maxRecDepth 1000000 in
def an68 : List (Nat × List (Nat × An)) := []
set_option maxRecDepth 1000000 in
theorem ok68 : SmOK rgT sm68 := vfy_sp (T := [sm67, sm31, sm28, sm_step_op]) (AN := an68) (g := 411) (List.forall_mem_cons.mpr ⟨ok67, List.forall_mem_cons.mpr ⟨ok31, List.forall_mem_cons.mpr ⟨ok28, List.forall_mem_cons.mpr ⟨ok_step_op, fun _ h => absurd h List.not_mem_nil⟩⟩⟩⟩) (by decide +kernel)
set_option maxRecDepth 1000000 in
def an69 : List (Nat × List (Nat × An)) := [(219, [(10, ([((1, 0, 65, (17, [])), 0, 96), ((1, 0, 65, (18, [])), 0, 96), ((1, 0, 65, (19, [])), 1, 4), ((1, 0, 65, (24, [])), 0, 96)], ([(0, [(1, (-1)), (1001, 1)]), ((-1), [(0, (-1)), (1, 1)]), (0, [(0, 1), (3, (-1)), (1002, (-1)), (1005, 1)]), ((-1), [(0, 1), (1002, (-1))]), ((-1), [(3, 1), (1007, (-1))])], [], [((1, 0, 65, (19, [])), (3, 0, 0, (0, [])))]), [(4, 66, (0, []), (0, []))], [], [(0, 65, 17, 19), (0, 65, 24, 24)], 0, true))])]
set_option maxRecDepth 1000000 in
theorem ok69 : SmOK rgT sm69 := vfy_sp (T := [sm68, sm32, sm28, sm_step_op]) (AN := an69) (g := 145) (List.forall_mem_cons.mpr ⟨ok68, List.forall_mem_cons.mpr ⟨ok32, List.forall_mem_cons.mpr ⟨ok28, List.forall_mem_cons.mpr ⟨ok_step_op, fun _ h => absurd h List.not_mem_nil⟩⟩⟩⟩) (by decide +kernel)
set_option maxRecDepth 1000000 in
def an70 : List (Nat × List (Nat × An)) := [(218, [(10, ([((1, 0, 65, (17, [])), 0, 96), ((1, 0, 65, (18, [])), 0, 96), ((1, 0, 65, (19, [])), 1, 4), ((1, 0, 65, (24, [])), 0, 96)], ([(0, [(1, (-1)), (1001, 1)]), ((-1), [(0, (-1)), (1, 1)]), (0, [(0, 1), (3, (-1)), (1002, (-1)), (1005, 1)]), ((-1), [(0, 1), (1002, (-1))]), ((-1), [(3, 1), (1007, (-1))])], [], [((1, 0, 65, (19, [])), (3, 0, 0, (0, [])))]), [(4, 66, (0, []), (0, []))], [], [(0, 65, 17, 19), (0, 65, 24, 24)], 0, true))])]
set_option maxRecDepth 1000000 in
theorem ok70 : SmOK rgT sm70 := vfy_sp (T := [sm69, sm33, sm28, sm_step_op]) (AN := an70) (g := 145) (List.forall_mem_cons.mpr ⟨ok69, List.forall_mem_cons.mpr ⟨ok33, List.forall_mem_cons.mpr ⟨ok28, List.forall_mem_cons.mpr ⟨ok_step_op, fun _ h => absurd h List.not_mem_nil⟩⟩⟩⟩) (by decide +kernel)
set_option maxRecDepth 1000000 in
def an71 : List (Nat × List (Nat × An)) := []
set_option maxRecDepth 1000000 in
theorem ok71 : SmOK rgT sm71 := vfy_sp (T := [sm70, sm65, sm34, sm29, sm28, sm_step_not, sm_step_nam, sm_step_num]) (AN := an71) (g := 1005) (List.forall_mem_cons.mpr ⟨ok70, List.forall_mem_cons.mpr ⟨ok65, List.forall_mem_cons.mpr ⟨ok34, List.forall_mem_cons.mpr ⟨ok29, List.forall_mem_cons.mpr ⟨ok28, List.forall_mem_cons.mpr ⟨ok_step_not, List.forall_mem_cons.mpr ⟨ok_step_nam, List.forall_mem_cons.mpr ⟨ok_step_num, fun _ h => absurd h List.not_mem_nil⟩⟩⟩⟩⟩⟩⟩⟩) (by decide +kernel)
set_option maxRecDepth 1000000 in
def an72 : List (Nat × List (Nat × An)) := [(222, [(10, ([((1, 0, 65, (17, [])), 0, 96), ((1, 0, 65, (18, [])), 0, 96), ((1, 0, 65, (19, [])), 1, 4), ((1, 0, 65, (24, [])), 0, 96)], ([(0, [(1, (-1)), (1001, 1)]), ((-1), [(0, (-1)), (1, 1)]), (0, [(0, 1), (3, (-1)), (1002, (-1)), (1005, 1)]), ((-1), [(0, 1), (1002, (-1))]), ((-1), [(3, 1), (1007, (-1))])], [], [((1, 0, 65, (19, [])), (3, 0, 0, (0, [])))]), [(4, 66, (0, []), (0, []))], [], [(0, 65, 17, 19), (0, 65, 24, 24)], 0, true))])]
set_option maxRecDepth 1000000 in
theorem ok72 : SmOK rgT sm72 := vfy_sp (T := [sm71, sm29, sm28, sm_step_op]) (AN := an72) (g := 313) (List.forall_mem_cons.mpr ⟨ok71, List.forall_mem_cons.mpr ⟨ok29, List.forall_mem_cons.mpr ⟨ok28, List.forall_mem_cons.mpr ⟨ok_step_op, fun _ h => absurd h List.not_mem_nil⟩⟩⟩⟩) (by decide +kernel)
