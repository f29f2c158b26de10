/-! Printed by wip/ai/tab.py. -/
set_option maxRecDepth 1000000 in
def an111 : List (Nat × List (Nat × An)) := [(219, [(10, ([((1, 0, 65, (17, [])), 0, 96), ((1, 0, 65, (18, [])), 0, 96), ((1, 0, 65, (19, [])), 1, 4), ((1, 0, 65, (24, [])), 0, 96)], ([(0, [(1, (-1)), (1001, 1)]), ((-1), [(0, (-1)), (1, 1)]), (0, [(0, 1), (3, (-1)), (1002, (-1)), (1005, 1)]), ((-1), [(0, 1), (1002, (-1))]), ((-1), [(3, 1), (1007, (-1))])], [], [((1, 0, 65, (19, [])), (3, 0, 0, (0, [])))]), [(4, 66, (0, []), (0, []))], [], [(0, 65, 17, 19), (0, 65, 24, 24)], 0, true))])]
set_option maxRecDepth 1000000 in
theorem ok111 : SmOK rgT sm111 := vfy_sp (T := [sm110, sm32, sm28, sm_step_op]) (AN := an111) (g := 145) (List.forall_mem_cons.mpr ⟨ok110, List.forall_mem_cons.mpr ⟨ok32, List.forall_mem_cons.mpr ⟨ok28, List.forall_mem_cons.mpr ⟨ok_step_op, fun _ h => absurd h List.not_mem_nil⟩⟩⟩⟩) (by decide +kernel)
set_option maxRecDepth 1000000 in
def an112 : List (Nat × List (Nat × An)) := [(218, [(10, ([((1, 0, 65, (17, [])), 0, 96), ((1, 0, 65, (18, [])), 0, 96), ((1, 0, 65, (19, [])), 1, 4), ((1, 0, 65, (24, [])), 0, 96)], ([(0, [(1, (-1)), (1001, 1)]), ((-1), [(0, (-1)), (1, 1)]), (0, [(0, 1), (3, (-1)), (1002, (-1)), (1005, 1)]), ((-1), [(0, 1), (1002, (-1))]), ((-1), [(3, 1), (1007, (-1))])], [], [((1, 0, 65, (19, [])), (3, 0, 0, (0, [])))]), [(4, 66, (0, []), (0, []))], [], [(0, 65, 17, 19), (0, 65, 24, 24)], 0, true))])]
set_option maxRecDepth 1000000 in
theorem ok112 : SmOK rgT sm112 := vfy_sp (T := [sm111, sm33, sm28, sm_step_op]) (AN := an112) (g := 145) (List.forall_mem_cons.mpr ⟨ok111, List.forall_mem_cons.mpr ⟨ok33, List.forall_mem_cons.mpr ⟨ok28, List.forall_mem_cons.mpr ⟨ok_step_op, fun _ h => absurd h List.not_mem_nil⟩⟩⟩⟩) (by decide +kernel)
set_option maxRecDepth 1000000 in
def an113 : List (Nat × List (Nat × An)) := []
set_option maxRecDepth 1000000 in
theorem ok113 : SmOK rgT sm113 := vfy_sp (T := [sm112, sm107, sm34, sm29, sm28, sm_step_not, sm_step_nam, sm_step_num]) (AN := an113) (g := 1005) (List.forall_mem_cons.mpr ⟨ok112, List.forall_mem_cons.mpr ⟨ok107, List.forall_mem_cons.mpr ⟨ok34, List.forall_mem_cons.mpr ⟨ok29, List.forall_mem_cons.mpr ⟨ok28, List.forall_mem_cons.mpr ⟨ok_step_not, List.forall_mem_cons.mpr ⟨ok_step_nam, List.forall_mem_cons.mpr ⟨ok_step_num, fun _ h => absurd h List.not_mem_nil⟩⟩⟩⟩⟩⟩⟩⟩) (by decide +kernel)
set_option maxRecDepth 1000000 in
def an114 : List (Nat × List (Nat × An)) := [(222, [(10, ([((1, 0, 65, (17, [])), 0, 96), ((1, 0, 65, (18, [])), 0, 96), ((1, 0, 65, (19, [])), 1, 4), ((1, 0, 65, (24, [])), 0, 96)], ([(0, [(1, (-1)), (1001, 1)]), ((-1), [(0, (-1)), (1, 1)]), (0, [(0, 1), (3, (-1)), (1002, (-1)), (1005, 1)]), ((-1), [(0, 1), (1002, (-1))]), ((-1), [(3, 1), (1007, (-1))])], [], [((1, 0, 65, (19, [])), (3, 0, 0, (0, [])))]), [(4, 66, (0, []), (0, []))], [], [(0, 65, 17, 19), (0, 65, 24, 24)], 0, true))])]
set_option maxRecDepth 1000000 in
theorem ok114 : SmOK rgT sm114 := vfy_sp (T := [sm113, sm29, sm28, sm_step_op]) (AN := an114) (g := 313) (List.forall_mem_cons.mpr ⟨ok113, List.forall_mem_cons.mpr ⟨ok29, List.forall_mem_cons.mpr ⟨ok28, List.forall_mem_cons.mpr ⟨ok_step_op, fun _ h => absurd h List.not_mem_nil⟩⟩⟩⟩) (by decide +kernel)
set_option maxRecDepth 1000000 in
def an115 : List (Nat × List (Nat × An)) := [(221, [(10, ([((1, 0, 65, (17, [])), 0, 96), ((1, 0, 65, (18, [])), 0, 96), ((1, 0, 65, (19, [])), 1, 4), ((1, 0, 65, (24, [])), 0, 96)], ([(0, [(1, (-1)), (1001, 1)]), ((-1), [(0, (-1)), (1, 1)]), (0, [(0, 1), (3, (-1)), (1002, (-1)), (1005, 1)]), ((-1), [(0, 1), (1002, (-1))]), ((-1), [(3, 1), (1007, (-1))])], [], [((1, 0, 65, (19, [])), (3, 0, 0, (0, [])))]), [(4, 66, (0, []), (0, []))], [], [(0, 65, 17, 19), (0, 65, 24, 24)], 0, true))])]
set_option maxRecDepth 1000000 in
theorem ok115 : SmOK rgT sm115 := vfy_sp (T := [sm114, sm30, sm28, sm_step_op]) (AN := an115) (g := 313) (List.forall_mem_cons.mpr ⟨ok114, List.forall_mem_cons.mpr ⟨ok30, List.forall_mem_cons.mpr ⟨ok28, List.forall_mem_cons.mpr ⟨ok_step_op, fun _ h => absurd h List.not_mem_nil⟩⟩⟩⟩) (by decide +kernel)
set_option maxRecDepth 1000000 in
def an116 : List (Nat × List (Nat × An)) := []
set_option maxRecDepth 1000000 in
theorem ok116 : SmOK rgT sm116 := vfy_sp (T := [sm115, sm31, sm28, sm_step_op]) (AN := an116) (g := 411) (List.forall_mem_cons.mpr ⟨ok115, List.forall_mem_cons.mpr ⟨ok31, List.forall_mem_cons.mpr ⟨ok28, List.forall_mem_cons.mpr ⟨ok_step_op, fun _ h => absurd h List.not_mem_nil⟩⟩⟩⟩) (by decide +kernel)
set_option maxRecDepth 1000000 in
def an117 : List (Nat × List (Nat × An)) := [(219, [(10, ([((1, 0, 65, (17, [])), 0, 96), ((1, 0, 65, (18, [])), 0, 96), ((1, 0, 65, (19, [])), 1, 4), ((1, 0, 65, (24, [])), 0, 96)], ([(0, [(1, (-1)), (1001, 1)]), ((-1), [(0, (-1)), (1, 1)]), (0, [(0, 1), (3, (-1)), (1002, (-1)), (1005, 1)]), ((-1), [(0, 1), (1002, (-1))]), ((-1), [(3, 1), (1007, (-1))])], [], [((1, 0, 65, (19, [])), (3, 0, 0, (0, [])))]), [(4, 66, (0, []), (0, []))], [], [(0, 65, 17, 19), (0, 65, 24, 24)], 0, true))])]
set_option maxRecDepth 1000000 in
theorem ok117 : SmOK rgT sm117 := vfy_sp (T := [sm116, sm32, sm28, sm_step_op]) (AN := an117) (g := 145) (List.forall_mem_cons.mpr ⟨ok116, List.forall_mem_cons.mpr ⟨ok32, List.forall_mem_cons.mpr ⟨ok28, List.forall_mem_cons.mpr ⟨ok_step_op, fun _ h => absurd h List.not_mem_nil⟩⟩⟩⟩) (by decide +kernel)
set_option maxRecDepth 1000000 in
def an118 : List (Nat × List (Nat × An)) := [(218, [(10, ([((1, 0, 65, (17, [])), 0, 96), ((1, 0, 65, (18, [])), 0, 96), ((1, 0, 65, (19, [])), 1, 4), ((1, 0, 65, (24, [])), 0, 96)], ([(0, [(1, (-1)), (1001, 1)]), ((-1), [(0, (-1)), (1, 1)]), (0, [(0, 1), (3, (-1)), (1002, (-1)), (1005, 1)]), ((-1), [(0, 1), (1002, (-1))]), ((-1), [(3, 1), (1007, (-1))])], [], [((1, 0, 65, (19, [])), (3, 0, 0, (0, [])))]), [(4, 66, (0, []), (0, []))], [], [(0, 65, 17, 19), (0, 65, 24, 24)], 0, true))])]
set_option maxRecDepth 1000000 in
theorem ok118 : SmOK rgT sm118 := vfy_sp (T := [sm117, sm33, sm28, sm_step_op]) (AN := an118) (g := 145) (List.forall_mem_cons.mpr ⟨ok117, List.forall_mem_cons.mpr ⟨ok33, List.forall_mem_cons.mpr ⟨ok28, List.forall_mem_cons.mpr ⟨ok_step_op, fun _ h => absurd h List.not_mem_nil⟩⟩⟩⟩) (by decide +kernel)
set_option maxRecDepth 1000000 in
def an119 : List (Nat × List (Nat × An)) := []
set_option maxRecDepth 1000000 in
theorem ok119 : SmOK rgT sm119 := vfy_sp (T := [sm118, sm113, sm34, sm29, sm28, sm_step_not, sm_step_nam, sm_step_num]) (AN := an119) (g := 1005) (List.forall_mem_cons.mpr ⟨ok118, List.forall_mem_cons.mpr ⟨ok113, List.forall_mem_cons.mpr ⟨ok34, List.forall_mem_cons.mpr ⟨ok29, List.forall_mem_cons.mpr ⟨ok28, List.forall_mem_cons.mpr ⟨ok_step_not, List.forall_mem_cons.mpr ⟨ok_step_nam, List.forall_mem_cons.mpr ⟨ok_step_num, fun _ h => absurd h List.not_mem_nil⟩⟩⟩⟩⟩⟩⟩⟩) (by decide +kernel)
set_option maxRecDepth 1000000 in
def an120 : List (Nat × List (Nat × An)) := [(222, [(10, ([((1, 0, 65, (17, [])), 0, 96), ((1, 0, 65, (18, [])), 0, 96), ((1, 0, 65, (19, [])), 1, 4), ((1, 0, 65, (24, [])), 0, 96)], ([(0, [(1, (-1)), (1001, 1)]), ((-1), [(0, (-1)), (1, 1)]), (0, [(0, 1), (3, (-1)), (1002, (-1)), (1005, 1)]), ((-1), [(0, 1), (1002, (-1))]), ((-1), [(3, 1), (1007, (-1))])], [], [((1, 0, 65, (19, [])), (3, 0, 0, (0, [])))]), [(4, 66, (0, []), (0, []))], [], [(0, 65, 17, 19), (0, 65, 24, 24)], 0, true))])]
set_option maxRecDepth 1000000 in
theorem ok120 : SmOK rgT sm120 := vfy_sp (T := [sm119, sm29, sm28, sm_step_op]) (AN := an120) (g := 313) (List.forall_mem_cons.mpr ⟨ok119, List.forall_mem_cons.mpr ⟨ok29, List.forall_mem_cons.mpr ⟨ok28, List.forall_mem_cons.mpr ⟨ok_step_op, fun _ h => absurd h List.not_mem_nil⟩⟩⟩⟩) (by decide +kernel)
set_option maxRecDepth 1000000 in
def an121 : List (Nat × List (Nat × An)) := [(221, [(10, ([((1, 0, 65, (17, [])), 0, 96), ((1, 0, 65, (18, [])), 0, 96), ((1, 0, 65, (19, [])), 1, 4), ((1, 0, 65, (24, [])), 0, 96)], ([(0, [(1, (-1)), (1001, 1)]), ((-1), [(0, (-1)), (1, 1)]), (0, [(0, 1), (3, (-1)), (1002, (-1)), (1005, 1)]), ((-1), [(0, 1), (1002, (-1))]), ((-1), [(3, 1), (1007, (-1))])], [], [((1, 0, 65, (19, [])), (3, 0, 0, (0, [])))]), [(4, 66, (0, []), (0, []))], [], [(0, 65, 17, 19), (0, 65, 24, 24)], 0, true))])]
set_option maxRecDepth 1000000 in
theorem ok121 : SmOK rgT sm121 := vfy_sp (T := [sm120, sm30, sm28, sm_step_op]) (AN := an121) (g := 313) (List.forall_mem_cons.mpr ⟨ok120, List.forall_mem_cons.mpr ⟨ok30, List.forall_mem_cons.mpr ⟨ok28, List.forall_mem_cons.mpr ⟨ok_step_op, fun _ h => absurd h List.not_mem_nil⟩⟩⟩⟩) (by decide +kernel)
set_option maxRecDepth 1000000 in
def an122 : List (Nat × List (Nat × An)) := []
set_option maxRecDepth 1000000 in
theorem ok122 : SmOK rgT sm122 := vfy_sp (T := [sm121, sm31, sm28, sm_step_op]) (AN := an122) (g := 411) (List.forall_mem_cons.mpr ⟨ok121, List.forall_mem_cons.mpr ⟨ok31, List.forall_mem_cons.mpr ⟨ok28, List.forall_mem_cons.mpr ⟨ok_step_op, fun _ h => absurd h List.not_mem_nil⟩⟩⟩⟩) (by decide +kernel)
set_option maxRecDepth 1000000 in
def an123 : List (Nat × List (Nat × An)) := [(219, [(10, ([((1, 0, 65, (17, [])), 0, 96), ((1, 0, 65, (18, [])), 0, 96), ((1, 0, 65, (19, [])), 1, 4), ((1, 0, 65, (24, [])), 0, 96)], ([(0, [(1, (-1)), (1001, 1)]), ((-1), [(0, (-1)), (1, 1)]), (0, [(0, 1), (3, (-1)), (1002, (-1)), (1005, 1)]), ((-1), [(0, 1), (1002, (-1))]), ((-1), [(3, 1), (1007, (-1))])], [], [((1, 0, 65, (19, [])), (3, 0, 0, (0, [])))]), [(4, 66, (0, []), (0, []))], [], [(0, 65, 17, 19), (0, 65, 24, 24)], 0, true))])]
set_option maxRecDepth 1000000 in
theorem ok123 : SmOK rgT sm123 := vfy_sp (T := [sm122, sm32, sm28, sm_step_op]) (AN := an123) (g := 145) (List.forall_mem_cons.mpr ⟨ok122, List.forall_mem_cons.mpr ⟨ok32, List.forall_mem_cons.mpr ⟨ok28, List.forall_mem_cons.mpr ⟨ok_step_op, fun _ h => absurd h List.not_mem_nil⟩⟩⟩⟩) (by decide +kernel)
set_option maxRecDepth 1000000 in
def an124 : List (Nat × List (Nat × An)) := [(218, [(10, ([((1, 0, 65, (17, [])), 0, 96), ((1, 0, 65, (18, [])), 0, 96), ((1, 0, 65, (19, [])), 1, 4), ((1, 0, 65, (24, [])), 0, 96)], ([(0, [(1, (-1)), (1001, 1)]), ((-1), [(0, (-1)), (1, 1)]), (0, [(0, 1), (3, (-1)), (1002, (-1)), (1005, 1)]), ((-1), [(0, 1), (1002, (-1))]), ((-1), [(3, 1), (1007, (-1))])], [], [((1, 0, 65, (19, [])), (3, 0, 0, (0, [])))]), [(4, 66, (0, []), (0, []))], [], [(0, 65, 17, 19), (0, 65, 24, 24)], 0, true))])]
set_option maxRecDepth 1000000 in
theorem ok124 : SmOK rgT sm124 := vfy_sp (T := [sm123, sm33, sm28, sm_step_op]) (AN := an124) (g := 145) (List.forall_mem_cons.mpr ⟨ok123, List.forall_mem_cons.mpr ⟨ok33, List.forall_mem_cons.mpr ⟨ok28, List.forall_mem_cons.mpr ⟨ok_step_op, fun _ h => absurd h List.not_mem_nil⟩⟩⟩⟩) (by decide +kernel)
set_option maxRecDepth 1000000 in
def an125 : List (Nat × List (Nat × An)) := []
set_option maxRecDepth 1000000 in
theorem ok125 : SmOK rgT sm125 := vfy_sp (T := [sm124, sm119, sm34, sm29, sm28, sm_step_not, sm_step_nam, sm_step_num]) (AN := an125) (g := 1005) (List.forall_mem_cons.mpr ⟨ok124, List.forall_mem_cons.mpr ⟨ok119, List.forall_mem_cons.mpr ⟨ok34, List.forall_mem_cons.mpr ⟨ok29, List.forall_mem_cons.mpr ⟨ok28, List.forall_mem_cons.mpr ⟨ok_step_not, List.forall_mem_cons.mpr ⟨ok_step_nam, List.forall_mem_cons.mpr ⟨ok_step_num, fun _ h => absurd h List.not_mem_nil⟩⟩⟩⟩⟩⟩⟩⟩) (by decide +kernel)
set_option maxRecDepth 1000000 in
def an126 : List (Nat × List (Nat × An)) := [(222, [(10, ([((1, 0, 65, (17, [])), 0, 96), ((1, 0, 65, (18, [])), 0, 96), ((1, 0, 65, (19, [])), 1, 4), ((1, 0, 65, (24, [])), 0, 96)], ([(0, [(1, (-1)), (1001, 1)]), ((-1), [(0, (-1)), (1, 1)]), (0, [(0, 1), (3, (-1)), (1002, (-1)), (1005, 1)]), ((-1), [(0, 1), (1002, (-1))]), ((-1), [(3, 1), (1007, (-1))])], [], [((1, 0, 65, (19, [])), (3, 0, 0, (0, [])))]), [(4, 66, (0, []), (0, []))], [], [(0, 65, 17, 19), (0, 65, 24, 24)], 0, true))])]
set_option maxRecDepth 1000000 in
theorem ok126 : SmOK rgT sm126 := vfy_sp (T := [sm125, sm29, sm28, sm_step_op]) (AN := an126) (g := 313) (List.forall_mem_cons.mpr ⟨ok125, List.forall_mem_cons.mpr ⟨ok29, List.forall_mem_cons.mpr ⟨ok28, List.forall_mem_cons.mpr ⟨ok_step_op, fun _ h => absurd h List.not_mem_nil⟩⟩⟩⟩) (by decide +kernel)
set_option maxRecDepth 1000000 in
def an127 : List (Nat × List (Nat × An)) := [(221, [(10, ([((1, 0, 65, (17, [])), 0, 96), ((1, 0, 65, (18, [])), 0, 96), ((1, 0, 65, (19, [])), 1, 4), ((1, 0, 65, (24, [])), 0, 96)], ([(0, [(1, (-1)), (1001, 1)]), ((-1), [(0, (-1)), (1, 1)]), (0, [(0, 1), (3, (-1)), (1002, (-1)), (1005, 1)]), ((-1), [(0, 1), (1002, (-1))]), ((-1), [(3, 1), (1007, (-1))])], [], [((1, 0, 65, (19, [])), (3, 0, 0, (0, [])))]), [(4, 66, (0, []), (0, []))], [], [(0, 65, 17, 19), (0, 65, 24, 24)], 0, true))])]
set_option maxRecDepth 1000000 in
theorem ok127 : SmOK rgT sm127 := vfy_sp (T := [sm126, sm30, sm28, sm_step_op]) (AN := an127) (g := 313) (List.forall_mem_cons.mpr ⟨ok126, List.forall_mem_cons.mpr ⟨ok30, List.forall_mem_cons.mpr ⟨ok28, List.forall_mem_cons.mpr ⟨ok_step_op, fun _ h => absurd h List.not_mem_nil⟩⟩⟩⟩) (by decide +kernel)
set_option maxRecDepth 1000000 in
def an128 : List (Nat × List (Nat × An)) := []
set_option maxRecDepth 1000000 in
theorem ok128 : SmOK rgT sm128 := vfy_sp (T := [sm127, sm31, sm28, sm_step_op]) (AN := an128) (g := 411) (List.forall_mem_cons.mpr ⟨ok127, List.forall_mem_cons.mpr ⟨ok31, List.forall_mem_cons.mpr ⟨ok28, List.forall_mem_cons.mpr ⟨ok_step_op, fun _ h => absurd h List.not_mem_nil⟩⟩⟩⟩) (by decide +kernel)
set_option maxRecDepth 1000000 in
def an129 : List (Nat × List (Nat × An)) := [(219, [(10, ([((1, 0, 65, (17, [])), 0, 96), ((1, 0, 65, (18, [])), 0, 96), ((1, 0, 65, (19, [])), 1, 4), ((1, 0, 65, (24, [])), 0, 96)], ([(0, [(1, (-1)), (1001, 1)]), ((-1), [(0, (-1)), (1, 1)]), (0, [(0, 1), (3, (-1)), (1002, (-1)), (1005, 1)]), ((-1), [(0, 1), (1002, (-1))]), ((-1), [(3, 1), (1007, (-1))])], [], [((1, 0, 65, (19, [])), (3, 0, 0, (0, [])))]), [(4, 66, (0, []), (0, []))], [], [(0, 65, 17, 19), (0, 65, 24, 24)], 0, true))])]
set_option maxRecDepth 1000000 in
theorem ok129 : SmOK rgT sm129 := vfy_sp (T := [sm128, sm32, sm28, sm_step_op]) (AN := an129) (g := 145) (List.forall_mem_cons.mpr ⟨ok128, List.forall_mem_cons.mpr ⟨ok32, List.forall_mem_cons.mpr ⟨ok28, List.forall_mem_cons.mpr ⟨ok_step_op, fun _ h => absurd h List.not_mem_nil⟩⟩⟩⟩) (by decide +kernel)
