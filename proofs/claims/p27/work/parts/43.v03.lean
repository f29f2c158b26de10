/-! Printed by wip/ai/tab.py. -/
set_option maxRecDepth 1000000 in
def an96 : List (Nat × List (Nat × An)) := [(124, [(44, ([((0, 5, 0, (0, [])), 0, 2147483647), ((0, 3, 0, (0, [])), (-2147483648), 2147483647), ((0, 4, 0, (0, [])), (-2147483648), 2147483647)], ([], [], []), [], [], [], 0, true))])]
set_option maxRecDepth 1000000 in
theorem ok96 : SmOK rgT sm96 := vfy_sp (T := [sm95, sm94, sm61]) (AN := an96) (g := 246) (List.forall_mem_cons.mpr ⟨ok95, List.forall_mem_cons.mpr ⟨ok94, List.forall_mem_cons.mpr ⟨ok61, fun _ h => absurd h List.not_mem_nil⟩⟩⟩) (by decide +kernel)
set_option maxRecDepth 1000000 in
def an97 : List (Nat × List (Nat × An)) := [(125, [(21, ([((0, 3, 0, (0, [])), 0, 2147483647), ((0, 2, 0, (0, [])), (-2147483648), 2147483647)], ([], [], []), [], [], [], 0, true))])]
set_option maxRecDepth 1000000 in
theorem ok97 : SmOK rgT sm97 := vfy_sp (T := [sm94]) (AN := an97) (g := 179) (List.forall_mem_cons.mpr ⟨ok94, fun _ h => absurd h List.not_mem_nil⟩) (by decide +kernel)
set_option maxRecDepth 1000000 in
def an98 : List (Nat × List (Nat × An)) := []
set_option maxRecDepth 1000000 in
theorem ok98 : SmOK rgT sm98 := vfy_sp (T := [sm60]) (AN := an98) (g := 190) (List.forall_mem_cons.mpr ⟨ok60, fun _ h => absurd h List.not_mem_nil⟩) (by decide +kernel)
set_option maxRecDepth 1000000 in
def an99 : List (Nat × List (Nat × An)) := []
set_option maxRecDepth 1000000 in
theorem ok99 : SmOK rgT sm99 := vfy_sp (T := [sm60]) (AN := an99) (g := 113) (List.forall_mem_cons.mpr ⟨ok60, fun _ h => absurd h List.not_mem_nil⟩) (by decide +kernel)
set_option maxRecDepth 1000000 in
def an100 : List (Nat × List (Nat × An)) := []
set_option maxRecDepth 1000000 in
theorem ok100 : SmOK rgT sm100 := vfy_sp (T := []) (AN := an100) (g := 337) (fun _ h => absurd h List.not_mem_nil) (by decide +kernel)
set_option maxRecDepth 1000000 in
def an101 : List (Nat × List (Nat × An)) := [(81, [(6, ([((0, 4, 0, (0, [])), 0, 2147483647), ((0, 3, 0, (0, [])), (-2147483648), 2147483647)], ([], [], []), [], [], [], 0, true))])]
set_option maxRecDepth 1000000 in
theorem ok101 : SmOK rgT sm101 := vfy_sp (T := [sm100, sm99]) (AN := an101) (g := 167) (List.forall_mem_cons.mpr ⟨ok100, List.forall_mem_cons.mpr ⟨ok99, fun _ h => absurd h List.not_mem_nil⟩⟩) (by decide +kernel)
set_option maxRecDepth 1000000 in
def an102 : List (Nat × List (Nat × An)) := [(18, [(13, ([((0, 3, 0, (0, [])), (-2147483648), 2147483647), ((1, 0, 38, (3, [])), 0, 30)], ([], [], []), [], [], [(0, 39, 0, 29), (0, 38, 3, 3)], 1, true))])]
set_option maxRecDepth 1000000 in
theorem ok102 : SmOK rgT sm102 := vfy_sp (T := [sm101]) (AN := an102) (g := 157) (List.forall_mem_cons.mpr ⟨ok101, fun _ h => absurd h List.not_mem_nil⟩) (by decide +kernel)
set_option maxRecDepth 1000000 in
def an103 : List (Nat × List (Nat × An)) := [(19, [(7, ([((0, 3, 0, (0, [])), 0, 2147483647)], ([], [], []), [], [], [(0, 38, 4, 4)], 0, true))])]
set_option maxRecDepth 1000000 in
theorem ok103 : SmOK rgT sm103 := vfy_sp (T := []) (AN := an103) (g := 193) (fun _ h => absurd h List.not_mem_nil) (by decide +kernel)
set_option maxRecDepth 1000000 in
def an104 : List (Nat × List (Nat × An)) := [(20, [(5, ([((0, 3, 0, (0, [])), (-2147483648), 2147483647), ((0, 4, 0, (0, [])), 0, 2147483647)], ([], [], []), [], [], [], 1, true))])]
set_option maxRecDepth 1000000 in
theorem ok104 : SmOK rgT sm104 := vfy_sp (T := []) (AN := an104) (g := 104) (fun _ h => absurd h List.not_mem_nil) (by decide +kernel)
set_option maxRecDepth 1000000 in
def an105 : List (Nat × List (Nat × An)) := [(17, [(40, ([((0, 4, 0, (0, [])), (-2147483648), 2147483647), ((0, 6, 0, (0, [])), 0, 2147483647), ((0, 5, 0, (0, [])), 0, 2147483647)], ([], [], []), [], [], [], 1, true)), (60, ([((0, 4, 0, (0, [])), (-2147483648), 2147483647), ((0, 5, 0, (0, [])), 0, 2147483647)], ([], [], []), [], [], [], 1, true))])]
set_option maxRecDepth 1000000 in
theorem ok105 : SmOK rgT sm105 := vfy_sp (T := [sm104, sm103, sm102]) (AN := an105) (g := 331) (List.forall_mem_cons.mpr ⟨ok104, List.forall_mem_cons.mpr ⟨ok103, List.forall_mem_cons.mpr ⟨ok102, fun _ h => absurd h List.not_mem_nil⟩⟩⟩) (by decide +kernel)
set_option maxRecDepth 1000000 in
def an106 : List (Nat × List (Nat × An)) := []
set_option maxRecDepth 1000000 in
theorem ok106 : SmOK rgT sm106 := vfy_sp (T := [sm105]) (AN := an106) (g := 93) (List.forall_mem_cons.mpr ⟨ok105, fun _ h => absurd h List.not_mem_nil⟩) (by decide +kernel)
set_option maxRecDepth 1000000 in
def an108 : List (Nat × List (Nat × An)) := [(83, [(5, ([((0, 3, 0, (0, [])), 0, 2147483647), ((0, 2, 0, (0, [])), (-2147483648), 2147483647)], ([], [], []), [], [], [], 0, true))])]
set_option maxRecDepth 1000000 in
theorem ok108 : SmOK rgT sm108 := vfy_sp (T := []) (AN := an108) (g := 209) (fun _ h => absurd h List.not_mem_nil) (by decide +kernel)
set_option maxRecDepth 1000000 in
def an109 : List (Nat × List (Nat × An)) := []
set_option maxRecDepth 1000000 in
theorem ok109 : SmOK rgT sm109 := vfy_sp (T := [sm108]) (AN := an109) (g := 90) (List.forall_mem_cons.mpr ⟨ok108, fun _ h => absurd h List.not_mem_nil⟩) (by decide +kernel)
set_option maxRecDepth 1000000 in
def an110 : List (Nat × List (Nat × An)) := []
set_option maxRecDepth 1000000 in
theorem ok110 : SmOK rgT sm110 := vfy_sp (T := []) (AN := an110) (g := 85) (fun _ h => absurd h List.not_mem_nil) (by decide +kernel)
set_option maxRecDepth 1000000 in
def an111 : List (Nat × List (Nat × An)) := []
set_option maxRecDepth 1000000 in
theorem ok111 : SmOK rgT sm111 := vfy_sp (T := []) (AN := an111) (g := 256) (fun _ h => absurd h List.not_mem_nil) (by decide +kernel)
set_option maxRecDepth 1000000 in
def an112 : List (Nat × List (Nat × An)) := []
set_option maxRecDepth 1000000 in
theorem ok112 : SmOK rgT sm112 := vfy_sp (T := []) (AN := an112) (g := 84) (fun _ h => absurd h List.not_mem_nil) (by decide +kernel)
set_option maxRecDepth 1000000 in
def an113 : List (Nat × List (Nat × An)) := [(49, [(20, ([((0, 7, 0, (0, [])), 0, 2147483647)], ([], [], []), [], [], [(0, 35, 1, 1)], 0, true))])]
set_option maxRecDepth 1000000 in
theorem ok113 : SmOK rgT sm113 := vfy_sp (T := [sm112, sm111, sm110]) (AN := an113) (g := 325) (List.forall_mem_cons.mpr ⟨ok112, List.forall_mem_cons.mpr ⟨ok111, List.forall_mem_cons.mpr ⟨ok110, fun _ h => absurd h List.not_mem_nil⟩⟩⟩) (by decide +kernel)
set_option maxRecDepth 1000000 in
def an114 : List (Nat × List (Nat × An)) := []
set_option maxRecDepth 1000000 in
theorem ok114 : SmOK rgT sm114 := vfy_sp (T := [sm113, sm108]) (AN := an114) (g := 89) (List.forall_mem_cons.mpr ⟨ok113, List.forall_mem_cons.mpr ⟨ok108, fun _ h => absurd h List.not_mem_nil⟩⟩) (by decide +kernel)
set_option maxRecDepth 1000000 in
def an115 : List (Nat × List (Nat × An)) := []
set_option maxRecDepth 1000000 in
theorem ok115 : SmOK rgT sm115 := vfy_sp (T := [sm114]) (AN := an115) (g := 95) (List.forall_mem_cons.mpr ⟨ok114, fun _ h => absurd h List.not_mem_nil⟩) (by decide +kernel)
set_option maxRecDepth 1000000 in
def an116 : List (Nat × List (Nat × An)) := []
set_option maxRecDepth 1000000 in
theorem ok116 : SmOK rgT sm116 := vfy_sp (T := [sm114]) (AN := an116) (g := 351) (List.forall_mem_cons.mpr ⟨ok114, fun _ h => absurd h List.not_mem_nil⟩) (by decide +kernel)
set_option maxRecDepth 1000000 in
def an117 : List (Nat × List (Nat × An)) := []
set_option maxRecDepth 1000000 in
theorem ok117 : SmOK rgT sm117 := vfy_sp (T := []) (AN := an117) (g := 180) (fun _ h => absurd h List.not_mem_nil) (by decide +kernel)
set_option maxRecDepth 1000000 in
def an118 : List (Nat × List (Nat × An)) := []
set_option maxRecDepth 1000000 in
theorem ok118 : SmOK rgT sm118 := vfy_sp (T := [sm117, sm116, sm70]) (AN := an118) (g := 219) (List.forall_mem_cons.mpr ⟨ok117, List.forall_mem_cons.mpr ⟨ok116, List.forall_mem_cons.mpr ⟨ok70, fun _ h => absurd h List.not_mem_nil⟩⟩⟩) (by decide +kernel)
set_option maxRecDepth 1000000 in
def an119 : List (Nat × List (Nat × An)) := []
set_option maxRecDepth 1000000 in
theorem ok119 : SmOK rgT sm119 := vfy_sp (T := [sm116, sm70]) (AN := an119) (g := 125) (List.forall_mem_cons.mpr ⟨ok116, List.forall_mem_cons.mpr ⟨ok70, fun _ h => absurd h List.not_mem_nil⟩⟩) (by decide +kernel)
set_option maxRecDepth 1000000 in
def an120 : List (Nat × List (Nat × An)) := []
set_option maxRecDepth 1000000 in
theorem ok120 : SmOK rgT sm120 := vfy_sp (T := []) (AN := an120) (g := 241) (fun _ h => absurd h List.not_mem_nil) (by decide +kernel)
set_option maxRecDepth 1000000 in
def an121 : List (Nat × List (Nat × An)) := []
set_option maxRecDepth 1000000 in
theorem ok121 : SmOK rgT sm121 := vfy_sp (T := [sm120, sm114, sm70]) (AN := an121) (g := 282) (List.forall_mem_cons.mpr ⟨ok120, List.forall_mem_cons.mpr ⟨ok114, List.forall_mem_cons.mpr ⟨ok70, fun _ h => absurd h List.not_mem_nil⟩⟩⟩) (by decide +kernel)
set_option maxRecDepth 1000000 in
def an122 : List (Nat × List (Nat × An)) := []
set_option maxRecDepth 1000000 in
theorem ok122 : SmOK rgT sm122 := vfy_sp (T := [sm120, sm70]) (AN := an122) (g := 174) (List.forall_mem_cons.mpr ⟨ok120, List.forall_mem_cons.mpr ⟨ok70, fun _ h => absurd h List.not_mem_nil⟩⟩) (by decide +kernel)
set_option maxRecDepth 1000000 in
def an123 : List (Nat × List (Nat × An)) := []
set_option maxRecDepth 1000000 in
theorem ok123 : SmOK rgT sm123 := vfy_sp (T := [sm70]) (AN := an123) (g := 216) (List.forall_mem_cons.mpr ⟨ok70, fun _ h => absurd h List.not_mem_nil⟩) (by decide +kernel)
set_option maxRecDepth 1000000 in
def an124 : List (Nat × List (Nat × An)) := []
set_option maxRecDepth 1000000 in
theorem ok124 : SmOK rgT sm124 := vfy_sp (T := []) (AN := an124) (g := 138) (fun _ h => absurd h List.not_mem_nil) (by decide +kernel)
set_option maxRecDepth 1000000 in
def an125 : List (Nat × List (Nat × An)) := []
set_option maxRecDepth 1000000 in
theorem ok125 : SmOK rgT sm125 := vfy_sp (T := []) (AN := an125) (g := 185) (fun _ h => absurd h List.not_mem_nil) (by decide +kernel)
set_option maxRecDepth 1000000 in
def an126 : List (Nat × List (Nat × An)) := [(86, [(13, ([((0, 4, 0, (0, [])), 0, 2147483647), ((0, 3, 0, (0, [])), (-2147483648), 2147483647)], ([], [], []), [], [], [], 0, true))])]
set_option maxRecDepth 1000000 in
theorem ok126 : SmOK rgT sm126 := vfy_sp (T := [sm125]) (AN := an126) (g := 352) (List.forall_mem_cons.mpr ⟨ok125, fun _ h => absurd h List.not_mem_nil⟩) (by decide +kernel)
set_option maxRecDepth 1000000 in
def an127 : List (Nat × List (Nat × An)) := []
set_option maxRecDepth 1000000 in
theorem ok127 : SmOK rgT sm127 := vfy_sp (T := [sm126]) (AN := an127) (g := 115) (List.forall_mem_cons.mpr ⟨ok126, fun _ h => absurd h List.not_mem_nil⟩) (by decide +kernel)
set_option maxRecDepth 1000000 in
def an128 : List (Nat × List (Nat × An)) := [(3, [(2, ([((0, 3, 0, (0, [])), 0, 2147483647)], ([], [], []), [], [], [], 0, true))])]
set_option maxRecDepth 1000000 in
theorem ok128 : SmOK rgT sm128 := vfy_sp (T := [sm101]) (AN := an128) (g := 778) (List.forall_mem_cons.mpr ⟨ok101, fun _ h => absurd h List.not_mem_nil⟩) (by decide +kernel)
set_option maxRecDepth 1000000 in
def an129 : List (Nat × List (Nat × An)) := []
set_option maxRecDepth 1000000 in
theorem ok129 : SmOK rgT sm129 := vfy_sp (T := []) (AN := an129) (g := 254) (fun _ h => absurd h List.not_mem_nil) (by decide +kernel)
set_option maxRecDepth 1000000 in
def an130 : List (Nat × List (Nat × An)) := []
set_option maxRecDepth 1000000 in
theorem ok130 : SmOK rgT sm130 := vfy_sp (T := [sm129, sm117, sm114, sm70]) (AN := an130) (g := 1372) (List.forall_mem_cons.mpr ⟨ok129, List.forall_mem_cons.mpr ⟨ok117, List.forall_mem_cons.mpr ⟨ok114, List.forall_mem_cons.mpr ⟨ok70, fun _ h => absurd h List.not_mem_nil⟩⟩⟩⟩) (by decide +kernel)
