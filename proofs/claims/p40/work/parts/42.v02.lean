/-! Printed by wip/ai/tab.py. -/
set_option maxRecDepth 1000000 in
def an29 : List (Nat × List (Nat × An)) := []
set_option maxRecDepth 1000000 in
theorem ok29 : SmOK rgT sm29 := vfy_sp (T := []) (AN := an29) (g := 90) (fun _ h => absurd h List.not_mem_nil) (by decide +kernel)
set_option maxRecDepth 1000000 in
def an30 : List (Nat × List (Nat × An)) := []
set_option maxRecDepth 1000000 in
theorem ok30 : SmOK rgT sm30 := vfy_sp (T := [sm29]) (AN := an30) (g := 66) (List.forall_mem_cons.mpr ⟨ok29, fun _ h => absurd h List.not_mem_nil⟩) (by decide +kernel)
set_option maxRecDepth 1000000 in
def an31 : List (Nat × List (Nat × An)) := []
set_option maxRecDepth 1000000 in
theorem ok31 : SmOK rgT sm31 := vfy_sp (T := [sm30]) (AN := an31) (g := 66) (List.forall_mem_cons.mpr ⟨ok30, fun _ h => absurd h List.not_mem_nil⟩) (by decide +kernel)
set_option maxRecDepth 1000000 in
def an32 : List (Nat × List (Nat × An)) := []
set_option maxRecDepth 1000000 in
theorem ok32 : SmOK rgT sm32 := vfy_sp (T := [sm31]) (AN := an32) (g := 66) (List.forall_mem_cons.mpr ⟨ok31, fun _ h => absurd h List.not_mem_nil⟩) (by decide +kernel)
set_option maxRecDepth 1000000 in
def an33 : List (Nat × List (Nat × An)) := []
set_option maxRecDepth 1000000 in
theorem ok33 : SmOK rgT sm33 := vfy_sp (T := [sm32]) (AN := an33) (g := 66) (List.forall_mem_cons.mpr ⟨ok32, fun _ h => absurd h List.not_mem_nil⟩) (by decide +kernel)
set_option maxRecDepth 1000000 in
def an34 : List (Nat × List (Nat × An)) := []
set_option maxRecDepth 1000000 in
theorem ok34 : SmOK rgT sm34 := vfy_sp (T := [sm33]) (AN := an34) (g := 66) (List.forall_mem_cons.mpr ⟨ok33, fun _ h => absurd h List.not_mem_nil⟩) (by decide +kernel)
set_option maxRecDepth 1000000 in
def an35 : List (Nat × List (Nat × An)) := []
set_option maxRecDepth 1000000 in
theorem ok35 : SmOK rgT sm35 := vfy_sp (T := [sm28, sm_step_nam, sm_step_num]) (AN := an35) (g := 817) (List.forall_mem_cons.mpr ⟨ok28, List.forall_mem_cons.mpr ⟨ok_step_nam, List.forall_mem_cons.mpr ⟨ok_step_num, fun _ h => absurd h List.not_mem_nil⟩⟩⟩) (by decide +kernel)
set_option maxRecDepth 1000000 in
def an36 : List (Nat × List (Nat × An)) := [(222, [(10, ([((1, 0, 65, (17, [])), 0, 96), ((1, 0, 65, (18, [])), 0, 96), ((1, 0, 65, (19, [])), 1, 4), ((1, 0, 65, (24, [])), 0, 96)], ([(0, [(1, (-1)), (1001, 1)]), ((-1), [(0, (-1)), (1, 1)]), (0, [(0, 1), (3, (-1)), (1002, (-1)), (1005, 1)]), ((-1), [(0, 1), (1002, (-1))]), ((-1), [(3, 1), (1007, (-1))])], [], [((1, 0, 65, (19, [])), (3, 0, 0, (0, [])))]), [(4, 66, (0, []), (0, []))], [], [(0, 65, 17, 19), (0, 65, 24, 24)], 0, true))])]
set_option maxRecDepth 1000000 in
theorem ok36 : SmOK rgT sm36 := vfy_sp (T := [sm35, sm29, sm28, sm_step_op]) (AN := an36) (g := 313) (List.forall_mem_cons.mpr ⟨ok35, List.forall_mem_cons.mpr ⟨ok29, List.forall_mem_cons.mpr ⟨ok28, List.forall_mem_cons.mpr ⟨ok_step_op, fun _ h => absurd h List.not_mem_nil⟩⟩⟩⟩) (by decide +kernel)
set_option maxRecDepth 1000000 in
def an37 : List (Nat × List (Nat × An)) := [(221, [(10, ([((1, 0, 65, (17, [])), 0, 96), ((1, 0, 65, (18, [])), 0, 96), ((1, 0, 65, (19, [])), 1, 4), ((1, 0, 65, (24, [])), 0, 96)], ([(0, [(1, (-1)), (1001, 1)]), ((-1), [(0, (-1)), (1, 1)]), (0, [(0, 1), (3, (-1)), (1002, (-1)), (1005, 1)]), ((-1), [(0, 1), (1002, (-1))]), ((-1), [(3, 1), (1007, (-1))])], [], [((1, 0, 65, (19, [])), (3, 0, 0, (0, [])))]), [(4, 66, (0, []), (0, []))], [], [(0, 65, 17, 19), (0, 65, 24, 24)], 0, true))])]
set_option maxRecDepth 1000000 in
theorem ok37 : SmOK rgT sm37 := vfy_sp (T := [sm36, sm30, sm28, sm_step_op]) (AN := an37) (g := 313) (List.forall_mem_cons.mpr ⟨ok36, List.forall_mem_cons.mpr ⟨ok30, List.forall_mem_cons.mpr ⟨ok28, List.forall_mem_cons.mpr ⟨ok_step_op, fun _ h => absurd h List.not_mem_nil⟩⟩⟩⟩) (by decide +kernel)
set_option maxRecDepth 1000000 in
def an38 : List (Nat × List (Nat × An)) := []
set_option maxRecDepth 1000000 in
theorem ok38 : SmOK rgT sm38 := vfy_sp (T := [sm37, sm31, sm28, sm_step_op]) (AN := an38) (g := 411) (List.forall_mem_cons.mpr ⟨ok37, List.forall_mem_cons.mpr ⟨ok31, List.forall_mem_cons.mpr ⟨ok28, List.forall_mem_cons.mpr ⟨ok_step_op, fun _ h => absurd h List.not_mem_nil⟩⟩⟩⟩) (by decide +kernel)
set_option maxRecDepth 1000000 in
def an39 : List (Nat × List (Nat × An)) := [(219, [(10, ([((1, 0, 65, (17, [])), 0, 96), ((1, 0, 65, (18, [])), 0, 96), ((1, 0, 65, (19, [])), 1, 4), ((1, 0, 65, (24, [])), 0, 96)], ([(0, [(1, (-1)), (1001, 1)]), ((-1), [(0, (-1)), (1, 1)]), (0, [(0, 1), (3, (-1)), (1002, (-1)), (1005, 1)]), ((-1), [(0, 1), (1002, (-1))]), ((-1), [(3, 1), (1007, (-1))])], [], [((1, 0, 65, (19, [])), (3, 0, 0, (0, [])))]), [(4, 66, (0, []), (0, []))], [], [(0, 65, 17, 19), (0, 65, 24, 24)], 0, true))])]
set_option maxRecDepth 1000000 in
theorem ok39 : SmOK rgT sm39 := vfy_sp (T := [sm38, sm32, sm28, sm_step_op]) (AN := an39) (g := 145) (List.forall_mem_cons.mpr ⟨ok38, List.forall_mem_cons.mpr ⟨ok32, List.forall_mem_cons.mpr ⟨ok28, List.forall_mem_cons.mpr ⟨ok_step_op, fun _ h => absurd h List.not_mem_nil⟩⟩⟩⟩) (by decide +kernel)
set_option maxRecDepth 1000000 in
def an40 : List (Nat × List (Nat × An)) := [(218, [(10, ([((1, 0, 65, (17, [])), 0, 96), ((1, 0, 65, (18, [])), 0, 96), ((1, 0, 65, (19, [])), 1, 4), ((1, 0, 65, (24, [])), 0, 96)], ([(0, [(1, (-1)), (1001, 1)]), ((-1), [(0, (-1)), (1, 1)]), (0, [(0, 1), (3, (-1)), (1002, (-1)), (1005, 1)]), ((-1), [(0, 1), (1002, (-1))]), ((-1), [(3, 1), (1007, (-1))])], [], [((1, 0, 65, (19, [])), (3, 0, 0, (0, [])))]), [(4, 66, (0, []), (0, []))], [], [(0, 65, 17, 19), (0, 65, 24, 24)], 0, true))])]
set_option maxRecDepth 1000000 in
theorem ok40 : SmOK rgT sm40 := vfy_sp (T := [sm39, sm33, sm28, sm_step_op]) (AN := an40) (g := 145) (List.forall_mem_cons.mpr ⟨ok39, List.forall_mem_cons.mpr ⟨ok33, List.forall_mem_cons.mpr ⟨ok28, List.forall_mem_cons.mpr ⟨ok_step_op, fun _ h => absurd h List.not_mem_nil⟩⟩⟩⟩) (by decide +kernel)
set_option maxRecDepth 1000000 in
def an41 : List (Nat × List (Nat × An)) := []
set_option maxRecDepth 1000000 in
theorem ok41 : SmOK rgT sm41 := vfy_sp (T := [sm40, sm35, sm34, sm29, sm28, sm_step_not, sm_step_nam, sm_step_num]) (AN := an41) (g := 1005) (List.forall_mem_cons.mpr ⟨ok40, List.forall_mem_cons.mpr ⟨ok35, List.forall_mem_cons.mpr ⟨ok34, List.forall_mem_cons.mpr ⟨ok29, List.forall_mem_cons.mpr ⟨ok28, List.forall_mem_cons.mpr ⟨ok_step_not, List.forall_mem_cons.mpr ⟨ok_step_nam, List.forall_mem_cons.mpr ⟨ok_step_num, fun _ h => absurd h List.not_mem_nil⟩⟩⟩⟩⟩⟩⟩⟩) (by decide +kernel)
set_option maxRecDepth 1000000 in
def an42 : List (Nat × List (Nat × An)) := [(222, [(10, ([((1, 0, 65, (17, [])), 0, 96), ((1, 0, 65, (18, [])), 0, 96), ((1, 0, 65, (19, [])), 1, 4), ((1, 0, 65, (24, [])), 0, 96)], ([(0, [(1, (-1)), (1001, 1)]), ((-1), [(0, (-1)), (1, 1)]), (0, [(0, 1), (3, (-1)), (1002, (-1)), (1005, 1)]), ((-1), [(0, 1), (1002, (-1))]), ((-1), [(3, 1), (1007, (-1))])], [], [((1, 0, 65, (19, [])), (3, 0, 0, (0, [])))]), [(4, 66, (0, []), (0, []))], [], [(0, 65, 17, 19), (0, 65, 24, 24)], 0, true))])]
set_option maxRecDepth 1000000 in
theorem ok42 : SmOK rgT sm42 := vfy_sp (T := [sm41, sm29, sm28, sm_step_op]) (AN := an42) (g := 313) (List.forall_mem_cons.mpr ⟨ok41, List.forall_mem_cons.mpr ⟨ok29, List.forall_mem_cons.mpr ⟨ok28, List.forall_mem_cons.mpr ⟨ok_step_op, fun _ h => absurd h List.not_mem_nil⟩⟩⟩⟩) (by decide +kernel)
set_option maxRecDepth 1000000 in
def an43 : List (Nat × List (Nat × An)) := [(221, [(10, ([((1, 0, 65, (17, [])), 0, 96), ((1, 0, 65, (18, [])), 0, 96), ((1, 0, 65, (19, [])), 1, 4), ((1, 0, 65, (24, [])), 0, 96)], ([(0, [(1, (-1)), (1001, 1)]), ((-1), [(0, (-1)), (1, 1)]), (0, [(0, 1), (3, (-1)), (1002, (-1)), (1005, 1)]), ((-1), [(0, 1), (1002, (-1))]), ((-1), [(3, 1), (1007, (-1))])], [], [((1, 0, 65, (19, [])), (3, 0, 0, (0, [])))]), [(4, 66, (0, []), (0, []))], [], [(0, 65, 17, 19), (0, 65, 24, 24)], 0, true))])]
set_option maxRecDepth 1000000 in
theorem ok43 : SmOK rgT sm43 := vfy_sp (T := [sm42, sm30, sm28, sm_step_op]) (AN := an43) (g := 313) (List.forall_mem_cons.mpr ⟨ok42, List.forall_mem_cons.mpr ⟨ok30, List.forall_mem_cons.mpr ⟨ok28, List.forall_mem_cons.mpr ⟨ok_step_op, fun _ h => absurd h List.not_mem_nil⟩⟩⟩⟩) (by decide +kernel)
set_option maxRecDepth 1000000 in
def an44 : List (Nat × List (Nat × An)) := []
set_option maxRecDepth 1000000 in
theorem ok44 : SmOK rgT sm44 := vfy_sp (T := [sm43, sm31, sm28, sm_step_op]) (AN := an44) (g := 411) (List.forall_mem_cons.mpr ⟨ok43, List.forall_mem_cons.mpr ⟨ok31, List.forall_mem_cons.mpr ⟨ok28, List.forall_mem_cons.mpr ⟨ok_step_op, fun _ h => absurd h List.not_mem_nil⟩⟩⟩⟩) (by decide +kernel)
set_option maxRecDepth 1000000 in
def an45 : List (Nat × List (Nat × An)) := [(219, [(10, ([((1, 0, 65, (17, [])), 0, 96), ((1, 0, 65, (18, [])), 0, 96), ((1, 0, 65, (19, [])), 1, 4), ((1, 0, 65, (24, [])), 0, 96)], ([(0, [(1, (-1)), (1001, 1)]), ((-1), [(0, (-1)), (1, 1)]), (0, [(0, 1), (3, (-1)), (1002, (-1)), (1005, 1)]), ((-1), [(0, 1), (1002, (-1))]), ((-1), [(3, 1), (1007, (-1))])], [], [((1, 0, 65, (19, [])), (3, 0, 0, (0, [])))]), [(4, 66, (0, []), (0, []))], [], [(0, 65, 17, 19), (0, 65, 24, 24)], 0, true))])]
set_option maxRecDepth 1000000 in
theorem ok45 : SmOK rgT sm45 := vfy_sp (T := [sm44, sm32, sm28, sm_step_op]) (AN := an45) (g := 145) (List.forall_mem_cons.mpr ⟨ok44, List.forall_mem_cons.mpr ⟨ok32, List.forall_mem_cons.mpr ⟨ok28, List.forall_mem_cons.mpr ⟨ok_step_op, fun _ h => absurd h List.not_mem_nil⟩⟩⟩⟩) (by decide +kernel)
set_option maxRecDepth 1000000 in
def an46 : List (Nat × List (Nat × An)) := [(218, [(10, ([((1, 0, 65, (17, [])), 0, 96), ((1, 0, 65, (18, [])), 0, 96), ((1, 0, 65, (19, [])), 1, 4), ((1, 0, 65, (24, [])), 0, 96)], ([(0, [(1, (-1)), (1001, 1)]), ((-1), [(0, (-1)), (1, 1)]), (0, [(0, 1), (3, (-1)), (1002, (-1)), (1005, 1)]), ((-1), [(0, 1), (1002, (-1))]), ((-1), [(3, 1), (1007, (-1))])], [], [((1, 0, 65, (19, [])), (3, 0, 0, (0, [])))]), [(4, 66, (0, []), (0, []))], [], [(0, 65, 17, 19), (0, 65, 24, 24)], 0, true))])]
set_option maxRecDepth 1000000 in
theorem ok46 : SmOK rgT sm46 := vfy_sp (T := [sm45, sm33, sm28, sm_step_op]) (AN := an46) (g := 145) (List.forall_mem_cons.mpr ⟨ok45, List.forall_mem_cons.mpr ⟨ok33, List.forall_mem_cons.mpr ⟨ok28, List.forall_mem_cons.mpr ⟨ok_step_op, fun _ h => absurd h List.not_mem_nil⟩⟩⟩⟩) (by decide +kernel)
set_option maxRecDepth 1000000 in
def an47 : List (Nat × List (Nat × An)) := []
set_option maxRecDepth 1000000 in
theorem ok47 : SmOK rgT sm47 := vfy_sp (T := [sm46, sm41, sm34, sm29, sm28, sm_step_not, sm_step_nam, sm_step_num]) (AN := an47) (g := 1005) (List.forall_mem_cons.mpr ⟨ok46, List.forall_mem_cons.mpr ⟨ok41, List.forall_mem_cons.mpr ⟨ok34, List.forall_mem_cons.mpr ⟨ok29, List.forall_mem_cons.mpr ⟨ok28, List.forall_mem_cons.mpr ⟨ok_step_not, List.forall_mem_cons.mpr ⟨ok_step_nam, List.forall_mem_cons.mpr ⟨ok_step_num, fun _ h => absurd h List.not_mem_nil⟩⟩⟩⟩⟩⟩⟩⟩) (by decide +kernel)
set_option maxRecDepth 1000000 in
def an48 : List (Nat × List (Nat × An)) := [(222, [(10, ([((1, 0, 65, (17, [])), 0, 96), ((1, 0, 65, (18, [])), 0, 96), ((1, 0, 65, (19, [])), 1, 4), ((1, 0, 65, (24, [])), 0, 96)], ([(0, [(1, (-1)), (1001, 1)]), ((-1), [(0, (-1)), (1, 1)]), (0, [(0, 1), (3, (-1)), (1002, (-1)), (1005, 1)]), ((-1), [(0, 1), (1002, (-1))]), ((-1), [(3, 1), (1007, (-1))])], [], [((1, 0, 65, (19, [])), (3, 0, 0, (0, [])))]), [(4, 66, (0, []), (0, []))], [], [(0, 65, 17, 19), (0, 65, 24, 24)], 0, true))])]
set_option maxRecDepth 1000000 in
theorem ok48 : SmOK rgT sm48 := vfy_sp (T := [sm47, sm29, sm28, sm_step_op]) (AN := an48) (g := 313) (List.forall_mem_cons.mpr ⟨ok47, List.forall_mem_cons.mpr ⟨ok29, List.forall_mem_cons.mpr ⟨ok28, List.forall_mem_cons.mpr ⟨ok_step_op, fun _ h => absurd h List.not_mem_nil⟩⟩⟩⟩) (by decide +kernel)
set_option maxRecDepth 1000000 in
def an49 : List (Nat × List (Nat × An)) := [(221, [(10, ([((1, 0, 65, (17, [])), 0, 96), ((1, 0, 65, (18, [])), 0, 96), ((1, 0, 65, (19, [])), 1, 4), ((1, 0, 65, (24, [])), 0, 96)], ([(0, [(1, (-1)), (1001, 1)]), ((-1), [(0, (-1)), (1, 1)]), (0, [(0, 1), (3, (-1)), (1002, (-1)), (1005, 1)]), ((-1), [(0, 1), (1002, (-1))]), ((-1), [(3, 1), (1007, (-1))])], [], [((1, 0, 65, (19, [])), (3, 0, 0, (0, [])))]), [(4, 66, (0, []), (0, []))], [], [(0, 65, 17, 19), (0, 65, 24, 24)], 0, true))])]
set_option maxRecDepth 1000000 in
theorem ok49 : SmOK rgT sm49 := vfy_sp (T := [sm48, sm30, sm28, sm_step_op]) (AN := an49) (g := 313) (List.forall_mem_cons.mpr ⟨ok48, List.forall_mem_cons.mpr ⟨ok30, List.forall_mem_cons.mpr ⟨ok28, List.forall_mem_cons.mpr ⟨ok_step_op, fun _ h => absurd h List.not_mem_nil⟩⟩⟩⟩) (by decide +kernel)
set_option maxRecDepth 1000000 in
def an50 : List (Nat × List (Nat × An)) := []
set_option maxRecDepth 1000000 in
theorem ok50 : SmOK rgT sm50 := vfy_sp (T := [sm49, sm31, sm28, sm_step_op]) (AN := an50) (g := 411) (List.forall_mem_cons.mpr ⟨ok49, List.forall_mem_cons.mpr ⟨ok31, List.forall_mem_cons.mpr ⟨ok28, List.forall_mem_cons.mpr ⟨ok_step_op, fun _ h => absurd h List.not_mem_nil⟩⟩⟩⟩) (by decide +kernel)
set_option maxRecDepth 1000000 in
def an51 : List (Nat × List (Nat × An)) := [(219, [(10, ([((1, 0, 65, (17, [])), 0, 96), ((1, 0, 65, (18, [])), 0, 96), ((1, 0, 65, (19, [])), 1, 4), ((1, 0, 65, (24, [])), 0, 96)], ([(0, [(1, (-1)), (1001, 1)]), ((-1), [(0, (-1)), (1, 1)]), (0, [(0, 1), (3, (-1)), (1002, (-1)), (1005, 1)]), ((-1), [(0, 1), (1002, (-1))]), ((-1), [(3, 1), (1007, (-1))])], [], [((1, 0, 65, (19, [])), (3, 0, 0, (0, [])))]), [(4, 66, (0, []), (0, []))], [], [(0, 65, 17, 19), (0, 65, 24, 24)], 0, true))])]
set_option maxRecDepth 1000000 in
theorem ok51 : SmOK rgT sm51 := vfy_sp (T := [sm50, sm32, sm28, sm_step_op]) (AN := an51) (g := 145) (List.forall_mem_cons.mpr ⟨ok50, List.forall_mem_cons.mpr ⟨ok32, List.forall_mem_cons.mpr ⟨ok28, List.forall_mem_cons.mpr ⟨ok_step_op, fun _ h => absurd h List.not_mem_nil⟩⟩⟩⟩) (by decide +kernel)
set_option maxRecDepth 1000000 in
def an52 : List (Nat × List (Nat × An)) := [(218, [(10, ([((1, 0, 65, (17, [])), 0, 96), ((1, 0, 65, (18, [])), 0, 96), ((1, 0, 65, (19, [])), 1, 4), ((1, 0, 65, (24, [])), 0, 96)], ([(0, [(1, (-1)), (1001, 1)]), ((-1), [(0, (-1)), (1, 1)]), (0, [(0, 1), (3, (-1)), (1002, (-1)), (1005, 1)]), ((-1), [(0, 1), (1002, (-1))]), ((-1), [(3, 1), (1007, (-1))])], [], [((1, 0, 65, (19, [])), (3, 0, 0, (0, [])))]), [(4, 66, (0, []), (0, []))], [], [(0, 65, 17, 19), (0, 65, 24, 24)], 0, true))])]
set_option maxRecDepth 1000000 in
theorem ok52 : SmOK rgT sm52 := vfy_sp (T := [sm51, sm33, sm28, sm_step_op]) (AN := an52) (g := 145) (List.forall_mem_cons.mpr ⟨ok51, List.forall_mem_cons.mpr ⟨ok33, List.forall_mem_cons.mpr ⟨ok28, List.forall_mem_cons.mpr ⟨ok_step_op, fun _ h => absurd h List.not_mem_nil⟩⟩⟩⟩) (by decide +kernel)
set_option maxRecDepth 1000000 in
def an53 : List (Nat × List (Nat × An)) := []
set_option maxRecDepth 1000000 in
theorem ok53 : SmOK rgT sm53 := vfy_sp (T := [sm52, sm47, sm34, sm29, sm28, sm_step_not, sm_step_nam, sm_step_num]) (AN := an53) (g := 1005) (List.forall_mem_cons.mpr ⟨ok52, List.forall_mem_cons.mpr ⟨ok47, List.forall_mem_cons.mpr ⟨ok34, List.forall_mem_cons.mpr ⟨ok29, List.forall_mem_cons.mpr ⟨ok28, List.forall_mem_cons.mpr ⟨ok_step_not, List.forall_mem_cons.mpr ⟨ok_step_nam, List.forall_mem_cons.mpr ⟨ok_step_num, fun _ h => absurd h List.not_mem_nil⟩⟩⟩⟩⟩⟩⟩⟩) (by decide +kernel)
