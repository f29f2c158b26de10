/-! The law: its walk, and the claim (the skeleton of the kit, filled). -/
def gsL : List Gen := [((0, 3, 0, (0, [])), 0, 3072), ((1, 0, 66, (0, [])), 0, 999), ((1, 0, 67, (0, [])), 0, 999), ((1, 5, 66, (0, [])), 0, 0), ((1, 5, 67, (0, [])), 0, 0)]
def kcL : List Kc := [(0, 66, (0, []), (0, [(2, 1)])), (0, 67, (0, []), (0, [(3, 1)])), (5, 66, (0, []), (0, [(4, 1)])), (5, 67, (0, []), (0, [(5, 1)])), (2, 1300, (0, []), (0, [(0, 1)]))]
def lsL : List (Option AV) := [some (2, (1300, [])), some (2, (0, [])), some (2, (65, [])), some (0, (0, [(1, 1)]))]
def bdL : List (Nat × Int × Int) := [(1, 0, 3072), (2, 0, 999), (3, 0, 999), (4, 0, 0), (5, 0, 0), (0, 0, 3072)]
def PL : Cc := ((6, (bdL, []), kcL), 18, lsL, [])
def alL : Al := (18, 1, gsL, PL, [], ([(0, 0, 3072)], []), 0, true)
def S1L : Sx := (6, ((1, 0, 3066) :: bdL, [(-6, [(0, 1), (1, -1)])]), kcL)
def finL (S : Sx) (r : Option AV) : Bool := match r with
  | some (0, e) => eqv S.2.1 e (leC 1)
  | _ => false
def swL : List (Int32 × Nat) := [(0, 240), (1, 283), (2, 316), (3, 349), (4, 382), (5, 425), (6, 458), (7, 501), (8, 544), (9, 577), (10, 610), (11, 633), (12, 646), (13, 659), (14, 712), (15, 745), (16, 778), (17, 811), (18, 834), (19, 867), (20, 890), (21, 913), (22, 936), (23, 979), (24, 1002), (25, 1025), (26, 1058), (27, 1081), (28, 1134), (29, 1157), (30, 1190), (31, 1213), (32, 1246), (33, 1269), (34, 1302), (35, 1335), (36, 1358), (37, 1381), (38, 1404), (39, 1447), (40, 1490), (41, 1533), (42, 1596), (43, 1619), (44, 1642), (45, 1665), (46, 1678), (47, 1691)]
def wsLw : List Wr := [(0, 0, 11, 12), (0, 1, 5, 6), (0, 2, 2, 2), (0, 3, 0, 23), (0, 4, 2, 2), (0, 5, 0, 139), (0, 6, 2, 2), (0, 7, 0, 239), (0, 8, 2, 2), (0, 9, 0, 1199), (0, 10, 2, 2), (0, 11, 0, 159), (0, 12, 5, 6), (0, 13, 2, 2), (0, 14, 0, 23), (0, 15, 2, 2), (0, 16, 0, 139), (0, 17, 2, 2), (0, 18, 0, 239), (0, 19, 2, 2), (0, 20, 0, 1199), (0, 21, 2, 2), (0, 22, 0, 159), (0, 23, 5, 6), (0, 24, 2, 2), (0, 25, 0, 23), (0, 26, 2, 2), (0, 27, 0, 139), (0, 28, 2, 2), (0, 29, 0, 239), (0, 30, 2, 2), (0, 31, 0, 1199), (0, 32, 2, 2), (0, 33, 0, 159), (0, 35, 1, 1), (0, 36, 0, 95), (0, 38, 3, 4), (0, 39, 0, 29), (0, 40, 0, 9), (0, 41, 0, 9), (0, 42, 10, 12), (0, 43, 0, 9), (0, 44, 0, 9), (0, 45, 0, 9), (0, 46, 0, 2), (0, 47, 0, 2), (0, 48, 0, 9), (0, 49, 0, 9), (0, 50, 0, 10), (0, 51, 0, 110), (0, 52, 0, 10), (0, 53, 1, 1), (0, 54, 0, 95), (0, 55, 3, 11), (0, 56, 1, 1), (0, 57, 0, 95), (0, 58, 1, 1), (0, 59, 0, 95), (0, 61, 0, 3), (0, 62, 0, 3), (0, 64, 0, 59), (0, 65, 3, 3), (0, 65, 10, 11), (0, 65, 16, 26), (0, 65, 29, 31), (0, 65, 34, 34), (0, 66, 0, 3399), (0, 67, 0, 3399), (0, 68, 0, 3399), (0, 69, 0, 3), (0, 70, 0, 3), (0, 72, 0, 9), (0, 73, 0, 9), (0, 74, 0, 2), (0, 75, 0, 29), (0, 76, 0, 9), (0, 77, 0, 9), (0, 78, 0, 95), (0, 79, 103, 119), (0, 80, 0, 99), (0, 82, 0, 59), (0, 83, 0, 59), (1, 63, 0, 95), (1, 71, 0, 119), (1, 81, 0, 23)]
set_option maxRecDepth 1000000 in
def anL240 : List (Nat × List (Nat × An)) := []
set_option maxRecDepth 1000000 in
theorem lawc240 : ex rgT wsLw [sm330, sm143] anL240 finL 60 108 [] (cdL, some .boolean, anT anL240 1999) [alL] false (S1L, 240, lsL, []) = true := by decide +kernel
set_option maxRecDepth 1000000 in
def anL283 : List (Nat × List (Nat × An)) := []
set_option maxRecDepth 1000000 in
theorem lawc283 : ex rgT wsLw [sm331, sm146] anL283 finL 50 108 [] (cdL, some .boolean, anT anL283 1999) [alL] false (S1L, 283, lsL, []) = true := by decide +kernel
set_option maxRecDepth 1000000 in
def anL316 : List (Nat × List (Nat × An)) := []
set_option maxRecDepth 1000000 in
theorem lawc316 : ex rgT wsLw [sm332, sm147] anL316 finL 50 108 [] (cdL, some .boolean, anT anL316 1999) [alL] false (S1L, 316, lsL, []) = true := by decide +kernel
set_option maxRecDepth 1000000 in
def anL349 : List (Nat × List (Nat × An)) := []
set_option maxRecDepth 1000000 in
theorem lawc349 : ex rgT wsLw [sm335, sm154] anL349 finL 50 108 [] (cdL, some .boolean, anT anL349 1999) [alL] false (S1L, 349, lsL, []) = true := by decide +kernel
set_option maxRecDepth 1000000 in
def anL382 : List (Nat × List (Nat × An)) := []
set_option maxRecDepth 1000000 in
theorem lawc382 : ex rgT wsLw [sm336, sm156] anL382 finL 60 108 [] (cdL, some .boolean, anT anL382 1999) [alL] false (S1L, 382, lsL, []) = true := by decide +kernel
set_option maxRecDepth 1000000 in
def anL425 : List (Nat × List (Nat × An)) := []
set_option maxRecDepth 1000000 in
theorem lawc425 : ex rgT wsLw [sm337, sm157] anL425 finL 50 108 [] (cdL, some .boolean, anT anL425 1999) [alL] false (S1L, 425, lsL, []) = true := by decide +kernel
set_option maxRecDepth 1000000 in
def anL458 : List (Nat × List (Nat × An)) := []
set_option maxRecDepth 1000000 in
theorem lawc458 : ex rgT wsLw [sm338, sm160] anL458 finL 60 108 [] (cdL, some .boolean, anT anL458 1999) [alL] false (S1L, 458, lsL, []) = true := by decide +kernel
set_option maxRecDepth 1000000 in
def anL501 : List (Nat × List (Nat × An)) := []
set_option maxRecDepth 1000000 in
theorem lawc501 : ex rgT wsLw [sm339, sm163] anL501 finL 60 108 [] (cdL, some .boolean, anT anL501 1999) [alL] false (S1L, 501, lsL, []) = true := by decide +kernel
set_option maxRecDepth 1000000 in
def anL544 : List (Nat × List (Nat × An)) := []
set_option maxRecDepth 1000000 in
theorem lawc544 : ex rgT wsLw [sm340, sm166] anL544 finL 50 108 [] (cdL, some .boolean, anT anL544 1999) [alL] false (S1L, 544, lsL, []) = true := by decide +kernel
set_option maxRecDepth 1000000 in
def anL577 : List (Nat × List (Nat × An)) := []
set_option maxRecDepth 1000000 in
theorem lawc577 : ex rgT wsLw [sm342, sm172] anL577 finL 50 108 [] (cdL, some .boolean, anT anL577 1999) [alL] false (S1L, 577, lsL, []) = true := by decide +kernel
set_option maxRecDepth 1000000 in
def anL610 : List (Nat × List (Nat × An)) := []
set_option maxRecDepth 1000000 in
theorem lawc610 : ex rgT wsLw [sm344, sm178] anL610 finL 40 108 [] (cdL, some .boolean, anT anL610 1999) [alL] false (S1L, 610, lsL, []) = true := by decide +kernel
set_option maxRecDepth 1000000 in
def anL633 : List (Nat × List (Nat × An)) := []
set_option maxRecDepth 1000000 in
theorem lawc633 : ex rgT wsLw [sm345, sm179] anL633 finL 30 108 [] (cdL, some .boolean, anT anL633 1999) [alL] false (S1L, 633, lsL, []) = true := by decide +kernel
set_option maxRecDepth 1000000 in
def anL646 : List (Nat × List (Nat × An)) := []
set_option maxRecDepth 1000000 in
theorem lawc646 : ex rgT wsLw [sm346, sm180] anL646 finL 30 108 [] (cdL, some .boolean, anT anL646 1999) [alL] false (S1L, 646, lsL, []) = true := by decide +kernel
set_option maxRecDepth 1000000 in
def anL659 : List (Nat × List (Nat × An)) := []
set_option maxRecDepth 1000000 in
theorem lawc659 : ex rgT wsLw [sm348, sm182] anL659 finL 70 108 [] (cdL, some .boolean, anT anL659 1999) [alL] false (S1L, 659, lsL, []) = true := by decide +kernel
set_option maxRecDepth 1000000 in
def anL712 : List (Nat × List (Nat × An)) := []
set_option maxRecDepth 1000000 in
theorem lawc712 : ex rgT wsLw [sm349, sm183] anL712 finL 50 108 [] (cdL, some .boolean, anT anL712 1999) [alL] false (S1L, 712, lsL, []) = true := by decide +kernel
set_option maxRecDepth 1000000 in
def anL745 : List (Nat × List (Nat × An)) := []
set_option maxRecDepth 1000000 in
theorem lawc745 : ex rgT wsLw [sm350, sm184] anL745 finL 50 108 [] (cdL, some .boolean, anT anL745 1999) [alL] false (S1L, 745, lsL, []) = true := by decide +kernel
set_option maxRecDepth 1000000 in
def anL778 : List (Nat × List (Nat × An)) := []
set_option maxRecDepth 1000000 in
theorem lawc778 : ex rgT wsLw [sm351, sm187] anL778 finL 50 108 [] (cdL, some .boolean, anT anL778 1999) [alL] false (S1L, 778, lsL, []) = true := by decide +kernel
set_option maxRecDepth 1000000 in
def anL811 : List (Nat × List (Nat × An)) := []
set_option maxRecDepth 1000000 in
theorem lawc811 : ex rgT wsLw [sm352, sm189] anL811 finL 40 108 [] (cdL, some .boolean, anT anL811 1999) [alL] false (S1L, 811, lsL, []) = true := by decide +kernel
set_option maxRecDepth 1000000 in
def anL834 : List (Nat × List (Nat × An)) := []
set_option maxRecDepth 1000000 in
theorem lawc834 : ex rgT wsLw [sm353, sm192] anL834 finL 50 108 [] (cdL, some .boolean, anT anL834 1999) [alL] false (S1L, 834, lsL, []) = true := by decide +kernel
set_option maxRecDepth 1000000 in
def anL867 : List (Nat × List (Nat × An)) := []
set_option maxRecDepth 1000000 in
theorem lawc867 : ex rgT wsLw [sm354, sm193] anL867 finL 40 108 [] (cdL, some .boolean, anT anL867 1999) [alL] false (S1L, 867, lsL, []) = true := by decide +kernel
set_option maxRecDepth 1000000 in
def anL890 : List (Nat × List (Nat × An)) := []
set_option maxRecDepth 1000000 in
theorem lawc890 : ex rgT wsLw [sm355, sm194] anL890 finL 40 108 [] (cdL, some .boolean, anT anL890 1999) [alL] false (S1L, 890, lsL, []) = true := by decide +kernel
set_option maxRecDepth 1000000 in
def anL913 : List (Nat × List (Nat × An)) := []
set_option maxRecDepth 1000000 in
theorem lawc913 : ex rgT wsLw [sm357, sm202] anL913 finL 40 108 [] (cdL, some .boolean, anT anL913 1999) [alL] false (S1L, 913, lsL, []) = true := by decide +kernel
set_option maxRecDepth 1000000 in
def anL936 : List (Nat × List (Nat × An)) := []
set_option maxRecDepth 1000000 in
theorem lawc936 : ex rgT wsLw [sm358, sm204] anL936 finL 60 108 [] (cdL, some .boolean, anT anL936 1999) [alL] false (S1L, 936, lsL, []) = true := by decide +kernel
set_option maxRecDepth 1000000 in
def anL979 : List (Nat × List (Nat × An)) := []
set_option maxRecDepth 1000000 in
theorem lawc979 : ex rgT wsLw [sm359, sm206] anL979 finL 40 108 [] (cdL, some .boolean, anT anL979 1999) [alL] false (S1L, 979, lsL, []) = true := by decide +kernel
set_option maxRecDepth 1000000 in
def anL1002 : List (Nat × List (Nat × An)) := []
set_option maxRecDepth 1000000 in
theorem lawc1002 : ex rgT wsLw [sm364, sm229] anL1002 finL 40 108 [] (cdL, some .boolean, anT anL1002 1999) [alL] false (S1L, 1002, lsL, []) = true := by decide +kernel
set_option maxRecDepth 1000000 in
def anL1025 : List (Nat × List (Nat × An)) := []
set_option maxRecDepth 1000000 in
theorem lawc1025 : ex rgT wsLw [sm365, sm231] anL1025 finL 50 108 [] (cdL, some .boolean, anT anL1025 1999) [alL] false (S1L, 1025, lsL, []) = true := by decide +kernel
set_option maxRecDepth 1000000 in
def anL1058 : List (Nat × List (Nat × An)) := []
set_option maxRecDepth 1000000 in
theorem lawc1058 : ex rgT wsLw [sm367, sm233] anL1058 finL 40 108 [] (cdL, some .boolean, anT anL1058 1999) [alL] false (S1L, 1058, lsL, []) = true := by decide +kernel
set_option maxRecDepth 1000000 in
def anL1081 : List (Nat × List (Nat × An)) := []
set_option maxRecDepth 1000000 in
theorem lawc1081 : ex rgT wsLw [sm370, sm239] anL1081 finL 70 108 [] (cdL, some .boolean, anT anL1081 1999) [alL] false (S1L, 1081, lsL, []) = true := by decide +kernel
set_option maxRecDepth 1000000 in
def anL1134 : List (Nat × List (Nat × An)) := []
set_option maxRecDepth 1000000 in
theorem lawc1134 : ex rgT wsLw [sm372, sm242] anL1134 finL 40 108 [] (cdL, some .boolean, anT anL1134 1999) [alL] false (S1L, 1134, lsL, []) = true := by decide +kernel
set_option maxRecDepth 1000000 in
def anL1157 : List (Nat × List (Nat × An)) := []
set_option maxRecDepth 1000000 in
theorem lawc1157 : ex rgT wsLw [sm373, sm243] anL1157 finL 50 108 [] (cdL, some .boolean, anT anL1157 1999) [alL] false (S1L, 1157, lsL, []) = true := by decide +kernel
set_option maxRecDepth 1000000 in
def anL1190 : List (Nat × List (Nat × An)) := []
set_option maxRecDepth 1000000 in
theorem lawc1190 : ex rgT wsLw [sm374, sm246] anL1190 finL 40 108 [] (cdL, some .boolean, anT anL1190 1999) [alL] false (S1L, 1190, lsL, []) = true := by decide +kernel
set_option maxRecDepth 1000000 in
def anL1213 : List (Nat × List (Nat × An)) := []
set_option maxRecDepth 1000000 in
theorem lawc1213 : ex rgT wsLw [sm375, sm247] anL1213 finL 50 108 [] (cdL, some .boolean, anT anL1213 1999) [alL] false (S1L, 1213, lsL, []) = true := by decide +kernel
set_option maxRecDepth 1000000 in
def anL1246 : List (Nat × List (Nat × An)) := []
set_option maxRecDepth 1000000 in
theorem lawc1246 : ex rgT wsLw [sm376, sm249] anL1246 finL 40 108 [] (cdL, some .boolean, anT anL1246 1999) [alL] false (S1L, 1246, lsL, []) = true := by decide +kernel
set_option maxRecDepth 1000000 in
def anL1269 : List (Nat × List (Nat × An)) := []
set_option maxRecDepth 1000000 in
theorem lawc1269 : ex rgT wsLw [sm377, sm250] anL1269 finL 50 108 [] (cdL, some .boolean, anT anL1269 1999) [alL] false (S1L, 1269, lsL, []) = true := by decide +kernel
set_option maxRecDepth 1000000 in
def anL1302 : List (Nat × List (Nat × An)) := []
set_option maxRecDepth 1000000 in
theorem lawc1302 : ex rgT wsLw [sm379, sm253] anL1302 finL 50 108 [] (cdL, some .boolean, anT anL1302 1999) [alL] false (S1L, 1302, lsL, []) = true := by decide +kernel
set_option maxRecDepth 1000000 in
def anL1335 : List (Nat × List (Nat × An)) := []
set_option maxRecDepth 1000000 in
theorem lawc1335 : ex rgT wsLw [sm383, sm261] anL1335 finL 40 108 [] (cdL, some .boolean, anT anL1335 1999) [alL] false (S1L, 1335, lsL, []) = true := by decide +kernel
set_option maxRecDepth 1000000 in
def anL1358 : List (Nat × List (Nat × An)) := []
set_option maxRecDepth 1000000 in
theorem lawc1358 : ex rgT wsLw [sm384, sm262] anL1358 finL 40 108 [] (cdL, some .boolean, anT anL1358 1999) [alL] false (S1L, 1358, lsL, []) = true := by decide +kernel
set_option maxRecDepth 1000000 in
def anL1381 : List (Nat × List (Nat × An)) := []
set_option maxRecDepth 1000000 in
theorem lawc1381 : ex rgT wsLw [sm_search, sm265] anL1381 finL 40 108 [] (cdL, some .boolean, anT anL1381 1999) [alL] false (S1L, 1381, lsL, []) = true := by decide +kernel
set_option maxRecDepth 1000000 in
def anL1404 : List (Nat × List (Nat × An)) := [(53, [(68, ([((0, 4, 0, (0, [])), 0, 2147483647)], ([], [], []), [], [], [], 0, true))]), (253, [(71, ([((0, 4, 0, (0, [])), 0, 2147483647)], ([], [], []), [], [], [], 0, true))])]
set_option maxRecDepth 1000000 in
theorem lawc1404 : ex rgT wsLw [] anL1404 finL 715 108 [] (cdL, some .boolean, anT anL1404 1999) [alL] false (S1L, 1404, lsL, []) = true := by decide +kernel
set_option maxRecDepth 1000000 in
def anL1447 : List (Nat × List (Nat × An)) := []
set_option maxRecDepth 1000000 in
theorem lawc1447 : ex rgT wsLw [sm385, sm267] anL1447 finL 60 108 [] (cdL, some .boolean, anT anL1447 1999) [alL] false (S1L, 1447, lsL, []) = true := by decide +kernel
set_option maxRecDepth 1000000 in
def anL1490 : List (Nat × List (Nat × An)) := []
set_option maxRecDepth 1000000 in
theorem lawc1490 : ex rgT wsLw [sm386, sm268] anL1490 finL 60 108 [] (cdL, some .boolean, anT anL1490 1999) [alL] false (S1L, 1490, lsL, []) = true := by decide +kernel
set_option maxRecDepth 1000000 in
def anL1533 : List (Nat × List (Nat × An)) := []
set_option maxRecDepth 1000000 in
theorem lawc1533 : ex rgT wsLw [sm387, sm270] anL1533 finL 80 108 [] (cdL, some .boolean, anT anL1533 1999) [alL] false (S1L, 1533, lsL, []) = true := by decide +kernel
set_option maxRecDepth 1000000 in
def anL1596 : List (Nat × List (Nat × An)) := []
set_option maxRecDepth 1000000 in
theorem lawc1596 : ex rgT wsLw [sm388, sm272] anL1596 finL 40 108 [] (cdL, some .boolean, anT anL1596 1999) [alL] false (S1L, 1596, lsL, []) = true := by decide +kernel
set_option maxRecDepth 1000000 in
def anL1619 : List (Nat × List (Nat × An)) := []
set_option maxRecDepth 1000000 in
theorem lawc1619 : ex rgT wsLw [sm389, sm273] anL1619 finL 40 108 [] (cdL, some .boolean, anT anL1619 1999) [alL] false (S1L, 1619, lsL, []) = true := by decide +kernel
set_option maxRecDepth 1000000 in
def anL1642 : List (Nat × List (Nat × An)) := []
set_option maxRecDepth 1000000 in
theorem lawc1642 : ex rgT wsLw [sm390, sm312] anL1642 finL 40 108 [] (cdL, some .boolean, anT anL1642 1999) [alL] false (S1L, 1642, lsL, []) = true := by decide +kernel
set_option maxRecDepth 1000000 in
def anL1665 : List (Nat × List (Nat × An)) := []
set_option maxRecDepth 1000000 in
theorem lawc1665 : ex rgT wsLw [sm391, sm319] anL1665 finL 30 108 [] (cdL, some .boolean, anT anL1665 1999) [alL] false (S1L, 1665, lsL, []) = true := by decide +kernel
set_option maxRecDepth 1000000 in
def anL1678 : List (Nat × List (Nat × An)) := []
set_option maxRecDepth 1000000 in
theorem lawc1678 : ex rgT wsLw [sm392, sm326] anL1678 finL 35 108 [] (cdL, some .boolean, anT anL1678 1999) [alL] false (S1L, 1678, lsL, []) = true := by decide +kernel
set_option maxRecDepth 1000000 in
def anL1691 : List (Nat × List (Nat × An)) := []
set_option maxRecDepth 1000000 in
theorem lawc1691 : ex rgT wsLw [sm393, sm329] anL1691 finL 40 108 [] (cdL, some .boolean, anT anL1691 1999) [alL] false (S1L, 1691, lsL, []) = true := by decide +kernel
set_option maxRecDepth 1000000 in
def anL1714 : List (Nat × List (Nat × An)) := []
set_option maxRecDepth 1000000 in
theorem lawc1714 : ex rgT wsLw [] anL1714 finL 23 108 [] (cdL, some .boolean, anT anL1714 1999) [alL] false (S1L, 1714, lsL, []) = true := by decide +kernel
theorem swt_all {P : Nat → Prop} {x : Int32} {a : Nat} (ha : P a) : ∀ {sw : List (Int32 × Nat)}, (∀ q ∈ sw, P q.2) → P (swt sw a x)
  | [], _ => ha
  | (k, t) :: r, h => by
    unfold swt
    split
    · exact h (k, t) List.mem_cons_self
    · exact swt_all ha (fun q hq => h q (List.mem_cons_of_mem _ hq))
theorem law_case {X : Cf → Prop} {d : Nat} (hd : 108 ≤ d) {Q : Option Value → Hp → Prop} (hX : Clo (Call d) cdL (some .boolean) Q X) (hQ : ∀ h, Q (some (.int 1)) h) {T : List Sm} {AN : List (Nat × List (Nat × An))} {g pc : Nat} (hT : ∀ s ∈ T, SmOK rgT s) (hx : ex rgT wsLw T AN finL g 108 [] (cdL, some .boolean, anT AN 1999) [alL] false (S1L, pc, lsL, []) = true) {ρ : Nat → Int} {h h0 : Hp} {lc : Lc} (hA : AlOK rgT wsLw h0 ρ 6 X alL) (M : Mo rgT wsLw h0 ρ S1L h) (hL : LR ρ 6 lsL lc) : X (pc, lc, [], h) := by
  refine ex_sp (rg := rgT) (ws := wsLw) (h0 := h0) (Q0 := fun r _ => r = some (.int 1)) (ρ0 := ρ) (n0 := 0) hT (fun ρ' S h r rv _ _ M hr hf => ?_) g 108 d [] (cdL, some .boolean, anT AN 1999) [alL] false _ ρ X Q _ hd hx Ag.rf (Nat.zero_le _) ⟨M, rfl, hL, rfl⟩ hX (fun al hal => ?_) (fun r h q => by rw [q]; exact hQ h)
  · unfold finL at hf
    split at hf
    · rename_i e
      obtain ⟨x, rfl, y, rfl, g⟩ := hr
      have h1 := eqv_sp M.1 hf
      rw [leV_C] at h1
      have g2 : leV ρ' e = y.toInt := g.2
      have : y = 1 := Int32.toInt_inj.mp (by rw [← g2, h1]; rfl)
      rw [this]
    · cases hf
  · rcases List.mem_cons.mp hal with rfl | hal
    · exact hA
    · cases hal
set_option maxRecDepth 100000 in
theorem law_head {X : Cf → Prop} {d : Nat} (hd : 108 ≤ d) {Q : Option Value → Hp → Prop} (hX : Clo (Call d) cdL (some .boolean) Q X) (hQ : ∀ h, Q (some (.int 1)) h) {h0 : Hp} : ∀ (n : Nat) (ρ : Nat → Int) (z : Cf), Md rgT wsLw h0 ρ PL z → (3072 - ρ 1).toNat < n → X z := by
  intro n
  induction n with
  | zero => intro ρ z _ hz; omega
  | succ n ih =>
    intro ρ z M hz
    obtain ⟨pz, lc, st, h⟩ := z
    obtain ⟨M, hpc, hL, hS⟩ := M
    have hpc : pz = 18 := hpc
    have hS : st = [] := hS
    have hL : LR ρ 6 lsL lc := hL
    subst hpc hS
    have hA : AlOK rgT wsLw h0 ρ 6 X alL := by
      refine ⟨⟨fun q hq => ?_, fun f hf => absurd hf List.not_mem_nil⟩, by decide +kernel, by decide, rfl, fun ρ' z' _ hMd hmz => ih ρ' z' hMd ?_⟩
      · have hq : q ∈ ([(0, 0, 3072)] : List (Nat × Int × Int)) := hq
        rcases List.mem_cons.mp hq with rfl | hq
        · have := M.1.1 (0, 0, 3072) (List.mem_of_getElem? (i := 5) rfl)
          exact ⟨by decide, this.2⟩
        · cases hq
      · have hmz : (3072 - ρ' 1).toNat < (3072 - ρ 1).toNat := hmz
        omega
    obtain ⟨a, b, c, dd, rfl⟩ : ∃ a b c dd, lc = [a, b, c, dd] := by
      have hlen : 4 = lc.length := hL.1
      match lc, hlen with
      | [a, b, c, dd], _ => exact ⟨a, b, c, dd, rfl⟩
    obtain ⟨v0, e0, r0, rfl, g0⟩ := (hL.2 0).1 (2, (1300, [])) rfl
    obtain ⟨v1, e1, r1, rfl, g1⟩ := (hL.2 1).1 (2, (0, [])) rfl
    obtain ⟨v2, e2, r2, rfl, g2⟩ := (hL.2 2).1 (2, (65, [])) rfl
    obtain ⟨v3, e3, i, rfl, g3⟩ := (hL.2 3).1 (0, (0, [(1, 1)])) rfl
    have q0 : 1300 = r0 := Int.ofNat.inj (Prod.mk.inj g0).1
    have q1 : 0 = r1 := Int.ofNat.inj (Prod.mk.inj g1).1
    have q2 : 65 = r2 := Int.ofNat.inj (Prod.mk.inj g2).1
    subst q0 q1 q2
    have k0 : a = some (.ref 1300) := Option.some.inj e0
    have k1 : b = some (.ref 0) := Option.some.inj e1
    have k2 : c = some (.ref 65) := Option.some.inj e2
    have k3 : dd = some (.int i) := Option.some.inj e3
    clear e0 e1 e2 e3
    subst k0 k1 k2 k3
    have ei : ρ 1 = i.toInt := by
      have := g3.2
      have e : leV ρ (0, [(1, 1)]) = 0 + (1 * ρ 1 + 0) := rfl
      rw [e] at this
      omega
    have eL : ρ 0 = (h.2.2.1 : Int) := by
      have w := (M.2.1 (2, 1300, (0, []), (0, [(0, 1)])) (List.mem_of_getElem? (i := 4) rfl)).2.2
      have w : leV ρ (0, [(0, 1)]) = (h.2.2.1 : Int) := w
      have e : leV ρ (0, [(0, 1)]) = 0 + (1 * ρ 0 + 0) := rfl
      rw [e] at w
      omega
    have bL := (M.1.1 (0, 0, 3072) (List.mem_of_getElem? (i := 5) rfl)).2
    have bi := (M.1.1 (1, 0, 3072) (List.mem_of_getElem? (i := 0) rfl)).2
    dsimp only at bL bi
    refine go hX 6 (gs := [True, True, True, True, True, True]) (z' := (if nI (aln h 1300) - 6 < i then 1720 else 27, [some (.ref 1300), some (.ref 0), some (.ref 65), some (.int i)], [], h)) rfl ⟨trivial, trivial, trivial, trivial, trivial, trivial, trivial⟩ ?_
    have ea : aln h 1300 = h.2.2.1 := rfl
    refine br (fun hc => ?_) (fun hc => ?_)
    · refine go hX 1 (gs := [True]) (z' := (1721, [some (.ref 1300), some (.ref 0), some (.ref 65), some (.int i)], [.int 1], h)) rfl ⟨trivial, trivial⟩ ?_
      exact rt_ hX (G := isB 1) (r := some (.int 1)) rfl isB1 (hQ h)
    · have c6 : (6 : Int32).toInt = 6 := rfl
      have c0 : (0 : Int32).toInt = 0 := rfl
      have e6 : (nI (aln h 1300) - 6).toInt = (h.2.2.1 : Int) - 6 := by
        rw [Int32.toInt_sub, c6, ea, nI_toInt (by omega), b32 (by omega) (by omega)]
      have hle : i.toInt ≤ (h.2.2.1 : Int) - 6 := by
        rw [Int32.lt_iff_toInt_lt, e6] at hc
        omega
      have M1 : Mo rgT wsLw h0 ρ S1L h := by
        refine ⟨⟨fun q hq => ?_, fun f hf => ?_⟩, M.2⟩
        · rcases List.mem_cons.mp hq with rfl | hq
          · exact ⟨by decide, by show (0 : Int) ≤ ρ 1; omega, by show ρ 1 ≤ 3066; omega⟩
          · exact M.1.1 q hq
        · rcases List.mem_cons.mp hf with rfl | hf
          · refine ⟨scB_S (by decide), ?_⟩
            show 0 ≤ -6 + (1 * ρ 0 + (-1 * ρ 1 + 0))
            omega
          · cases hf
      refine go hX 6 (gs := [True, True, True, ibd i (aln h 1300), True, True]) (z' := (swt swL 1714 (agt h 1300 i &&& 63), [some (.ref 1300), some (.ref 0), some (.ref 65), some (.int i)], [], h)) rfl ⟨trivial, trivial, trivial, ⟨?_, ?_⟩, trivial, trivial, trivial⟩ ?_
      · rw [Int32.le_iff_toInt_le, c0]
        omega
      · rw [Int32.lt_iff_toInt_lt, ea, nI_toInt (by omega)]
        omega
      refine swt_all (P := fun pc => X (pc, [some (.ref 1300), some (.ref 0), some (.ref 65), some (.int i)], [], h)) ?_ ?_
      · exact law_case hd hX hQ (fun _ h => absurd h List.not_mem_nil) lawc1714 hA M1 hL
      · exact List.forall_mem_cons.mpr ⟨law_case hd hX hQ (List.forall_mem_cons.mpr ⟨ok330, List.forall_mem_cons.mpr ⟨ok143, fun _ h => absurd h List.not_mem_nil⟩⟩) lawc240 hA M1 hL, List.forall_mem_cons.mpr ⟨law_case hd hX hQ (List.forall_mem_cons.mpr ⟨ok331, List.forall_mem_cons.mpr ⟨ok146, fun _ h => absurd h List.not_mem_nil⟩⟩) lawc283 hA M1 hL, List.forall_mem_cons.mpr ⟨law_case hd hX hQ (List.forall_mem_cons.mpr ⟨ok332, List.forall_mem_cons.mpr ⟨ok147, fun _ h => absurd h List.not_mem_nil⟩⟩) lawc316 hA M1 hL, List.forall_mem_cons.mpr ⟨law_case hd hX hQ (List.forall_mem_cons.mpr ⟨ok335, List.forall_mem_cons.mpr ⟨ok154, fun _ h => absurd h List.not_mem_nil⟩⟩) lawc349 hA M1 hL, List.forall_mem_cons.mpr ⟨law_case hd hX hQ (List.forall_mem_cons.mpr ⟨ok336, List.forall_mem_cons.mpr ⟨ok156, fun _ h => absurd h List.not_mem_nil⟩⟩) lawc382 hA M1 hL, List.forall_mem_cons.mpr ⟨law_case hd hX hQ (List.forall_mem_cons.mpr ⟨ok337, List.forall_mem_cons.mpr ⟨ok157, fun _ h => absurd h List.not_mem_nil⟩⟩) lawc425 hA M1 hL, List.forall_mem_cons.mpr ⟨law_case hd hX hQ (List.forall_mem_cons.mpr ⟨ok338, List.forall_mem_cons.mpr ⟨ok160, fun _ h => absurd h List.not_mem_nil⟩⟩) lawc458 hA M1 hL, List.forall_mem_cons.mpr ⟨law_case hd hX hQ (List.forall_mem_cons.mpr ⟨ok339, List.forall_mem_cons.mpr ⟨ok163, fun _ h => absurd h List.not_mem_nil⟩⟩) lawc501 hA M1 hL, List.forall_mem_cons.mpr ⟨law_case hd hX hQ (List.forall_mem_cons.mpr ⟨ok340, List.forall_mem_cons.mpr ⟨ok166, fun _ h => absurd h List.not_mem_nil⟩⟩) lawc544 hA M1 hL, List.forall_mem_cons.mpr ⟨law_case hd hX hQ (List.forall_mem_cons.mpr ⟨ok342, List.forall_mem_cons.mpr ⟨ok172, fun _ h => absurd h List.not_mem_nil⟩⟩) lawc577 hA M1 hL, List.forall_mem_cons.mpr ⟨law_case hd hX hQ (List.forall_mem_cons.mpr ⟨ok344, List.forall_mem_cons.mpr ⟨ok178, fun _ h => absurd h List.not_mem_nil⟩⟩) lawc610 hA M1 hL, List.forall_mem_cons.mpr ⟨law_case hd hX hQ (List.forall_mem_cons.mpr ⟨ok345, List.forall_mem_cons.mpr ⟨ok179, fun _ h => absurd h List.not_mem_nil⟩⟩) lawc633 hA M1 hL, List.forall_mem_cons.mpr ⟨law_case hd hX hQ (List.forall_mem_cons.mpr ⟨ok346, List.forall_mem_cons.mpr ⟨ok180, fun _ h => absurd h List.not_mem_nil⟩⟩) lawc646 hA M1 hL, List.forall_mem_cons.mpr ⟨law_case hd hX hQ (List.forall_mem_cons.mpr ⟨ok348, List.forall_mem_cons.mpr ⟨ok182, fun _ h => absurd h List.not_mem_nil⟩⟩) lawc659 hA M1 hL, List.forall_mem_cons.mpr ⟨law_case hd hX hQ (List.forall_mem_cons.mpr ⟨ok349, List.forall_mem_cons.mpr ⟨ok183, fun _ h => absurd h List.not_mem_nil⟩⟩) lawc712 hA M1 hL, List.forall_mem_cons.mpr ⟨law_case hd hX hQ (List.forall_mem_cons.mpr ⟨ok350, List.forall_mem_cons.mpr ⟨ok184, fun _ h => absurd h List.not_mem_nil⟩⟩) lawc745 hA M1 hL, List.forall_mem_cons.mpr ⟨law_case hd hX hQ (List.forall_mem_cons.mpr ⟨ok351, List.forall_mem_cons.mpr ⟨ok187, fun _ h => absurd h List.not_mem_nil⟩⟩) lawc778 hA M1 hL, List.forall_mem_cons.mpr ⟨law_case hd hX hQ (List.forall_mem_cons.mpr ⟨ok352, List.forall_mem_cons.mpr ⟨ok189, fun _ h => absurd h List.not_mem_nil⟩⟩) lawc811 hA M1 hL, List.forall_mem_cons.mpr ⟨law_case hd hX hQ (List.forall_mem_cons.mpr ⟨ok353, List.forall_mem_cons.mpr ⟨ok192, fun _ h => absurd h List.not_mem_nil⟩⟩) lawc834 hA M1 hL, List.forall_mem_cons.mpr ⟨law_case hd hX hQ (List.forall_mem_cons.mpr ⟨ok354, List.forall_mem_cons.mpr ⟨ok193, fun _ h => absurd h List.not_mem_nil⟩⟩) lawc867 hA M1 hL, List.forall_mem_cons.mpr ⟨law_case hd hX hQ (List.forall_mem_cons.mpr ⟨ok355, List.forall_mem_cons.mpr ⟨ok194, fun _ h => absurd h List.not_mem_nil⟩⟩) lawc890 hA M1 hL, List.forall_mem_cons.mpr ⟨law_case hd hX hQ (List.forall_mem_cons.mpr ⟨ok357, List.forall_mem_cons.mpr ⟨ok202, fun _ h => absurd h List.not_mem_nil⟩⟩) lawc913 hA M1 hL, List.forall_mem_cons.mpr ⟨law_case hd hX hQ (List.forall_mem_cons.mpr ⟨ok358, List.forall_mem_cons.mpr ⟨ok204, fun _ h => absurd h List.not_mem_nil⟩⟩) lawc936 hA M1 hL, List.forall_mem_cons.mpr ⟨law_case hd hX hQ (List.forall_mem_cons.mpr ⟨ok359, List.forall_mem_cons.mpr ⟨ok206, fun _ h => absurd h List.not_mem_nil⟩⟩) lawc979 hA M1 hL, List.forall_mem_cons.mpr ⟨law_case hd hX hQ (List.forall_mem_cons.mpr ⟨ok364, List.forall_mem_cons.mpr ⟨ok229, fun _ h => absurd h List.not_mem_nil⟩⟩) lawc1002 hA M1 hL, List.forall_mem_cons.mpr ⟨law_case hd hX hQ (List.forall_mem_cons.mpr ⟨ok365, List.forall_mem_cons.mpr ⟨ok231, fun _ h => absurd h List.not_mem_nil⟩⟩) lawc1025 hA M1 hL, List.forall_mem_cons.mpr ⟨law_case hd hX hQ (List.forall_mem_cons.mpr ⟨ok367, List.forall_mem_cons.mpr ⟨ok233, fun _ h => absurd h List.not_mem_nil⟩⟩) lawc1058 hA M1 hL, List.forall_mem_cons.mpr ⟨law_case hd hX hQ (List.forall_mem_cons.mpr ⟨ok370, List.forall_mem_cons.mpr ⟨ok239, fun _ h => absurd h List.not_mem_nil⟩⟩) lawc1081 hA M1 hL, List.forall_mem_cons.mpr ⟨law_case hd hX hQ (List.forall_mem_cons.mpr ⟨ok372, List.forall_mem_cons.mpr ⟨ok242, fun _ h => absurd h List.not_mem_nil⟩⟩) lawc1134 hA M1 hL, List.forall_mem_cons.mpr ⟨law_case hd hX hQ (List.forall_mem_cons.mpr ⟨ok373, List.forall_mem_cons.mpr ⟨ok243, fun _ h => absurd h List.not_mem_nil⟩⟩) lawc1157 hA M1 hL, List.forall_mem_cons.mpr ⟨law_case hd hX hQ (List.forall_mem_cons.mpr ⟨ok374, List.forall_mem_cons.mpr ⟨ok246, fun _ h => absurd h List.not_mem_nil⟩⟩) lawc1190 hA M1 hL, List.forall_mem_cons.mpr ⟨law_case hd hX hQ (List.forall_mem_cons.mpr ⟨ok375, List.forall_mem_cons.mpr ⟨ok247, fun _ h => absurd h List.not_mem_nil⟩⟩) lawc1213 hA M1 hL, List.forall_mem_cons.mpr ⟨law_case hd hX hQ (List.forall_mem_cons.mpr ⟨ok376, List.forall_mem_cons.mpr ⟨ok249, fun _ h => absurd h List.not_mem_nil⟩⟩) lawc1246 hA M1 hL, List.forall_mem_cons.mpr ⟨law_case hd hX hQ (List.forall_mem_cons.mpr ⟨ok377, List.forall_mem_cons.mpr ⟨ok250, fun _ h => absurd h List.not_mem_nil⟩⟩) lawc1269 hA M1 hL, List.forall_mem_cons.mpr ⟨law_case hd hX hQ (List.forall_mem_cons.mpr ⟨ok379, List.forall_mem_cons.mpr ⟨ok253, fun _ h => absurd h List.not_mem_nil⟩⟩) lawc1302 hA M1 hL, List.forall_mem_cons.mpr ⟨law_case hd hX hQ (List.forall_mem_cons.mpr ⟨ok383, List.forall_mem_cons.mpr ⟨ok261, fun _ h => absurd h List.not_mem_nil⟩⟩) lawc1335 hA M1 hL, List.forall_mem_cons.mpr ⟨law_case hd hX hQ (List.forall_mem_cons.mpr ⟨ok384, List.forall_mem_cons.mpr ⟨ok262, fun _ h => absurd h List.not_mem_nil⟩⟩) lawc1358 hA M1 hL, List.forall_mem_cons.mpr ⟨law_case hd hX hQ (List.forall_mem_cons.mpr ⟨ok_search, List.forall_mem_cons.mpr ⟨ok265, fun _ h => absurd h List.not_mem_nil⟩⟩) lawc1381 hA M1 hL, List.forall_mem_cons.mpr ⟨law_case hd hX hQ (fun _ h => absurd h List.not_mem_nil) lawc1404 hA M1 hL, List.forall_mem_cons.mpr ⟨law_case hd hX hQ (List.forall_mem_cons.mpr ⟨ok385, List.forall_mem_cons.mpr ⟨ok267, fun _ h => absurd h List.not_mem_nil⟩⟩) lawc1447 hA M1 hL, List.forall_mem_cons.mpr ⟨law_case hd hX hQ (List.forall_mem_cons.mpr ⟨ok386, List.forall_mem_cons.mpr ⟨ok268, fun _ h => absurd h List.not_mem_nil⟩⟩) lawc1490 hA M1 hL, List.forall_mem_cons.mpr ⟨law_case hd hX hQ (List.forall_mem_cons.mpr ⟨ok387, List.forall_mem_cons.mpr ⟨ok270, fun _ h => absurd h List.not_mem_nil⟩⟩) lawc1533 hA M1 hL, List.forall_mem_cons.mpr ⟨law_case hd hX hQ (List.forall_mem_cons.mpr ⟨ok388, List.forall_mem_cons.mpr ⟨ok272, fun _ h => absurd h List.not_mem_nil⟩⟩) lawc1596 hA M1 hL, List.forall_mem_cons.mpr ⟨law_case hd hX hQ (List.forall_mem_cons.mpr ⟨ok389, List.forall_mem_cons.mpr ⟨ok273, fun _ h => absurd h List.not_mem_nil⟩⟩) lawc1619 hA M1 hL, List.forall_mem_cons.mpr ⟨law_case hd hX hQ (List.forall_mem_cons.mpr ⟨ok390, List.forall_mem_cons.mpr ⟨ok312, fun _ h => absurd h List.not_mem_nil⟩⟩) lawc1642 hA M1 hL, List.forall_mem_cons.mpr ⟨law_case hd hX hQ (List.forall_mem_cons.mpr ⟨ok391, List.forall_mem_cons.mpr ⟨ok319, fun _ h => absurd h List.not_mem_nil⟩⟩) lawc1665 hA M1 hL, List.forall_mem_cons.mpr ⟨law_case hd hX hQ (List.forall_mem_cons.mpr ⟨ok392, List.forall_mem_cons.mpr ⟨ok326, fun _ h => absurd h List.not_mem_nil⟩⟩) lawc1678 hA M1 hL, List.forall_mem_cons.mpr ⟨law_case hd hX hQ (List.forall_mem_cons.mpr ⟨ok393, List.forall_mem_cons.mpr ⟨ok329, fun _ h => absurd h List.not_mem_nil⟩⟩) lawc1691 hA M1 hL, fun _ hq => absurd hq List.not_mem_nil⟩⟩⟩⟩⟩⟩⟩⟩⟩⟩⟩⟩⟩⟩⟩⟩⟩⟩⟩⟩⟩⟩⟩⟩⟩⟩⟩⟩⟩⟩⟩⟩⟩⟩⟩⟩⟩⟩⟩⟩⟩⟩⟩⟩⟩⟩⟩⟩
theorem law_X {X : Cf → Prop} {d : Nat} (hd : 108 ≤ d) {G : List Kb} {sc : Nat × (Nat → Int32)} (hsc : sc.1 ≤ 3072) (hG : rgT.all (rg0C G) = true) (hf : h0w G 66 4 = 0 ∧ h0w G 67 4 = 0 ∧ h0w G 66 0 = 0 ∧ h0w G 67 0 = 0) (hfx : True) {Q : Option Value → Hp → Prop} (hX : Clo (Call d) cdL (some .boolean) Q X) (hQ : ∀ h, Q (some (.int 1)) h) : X (16, lcK, [], HG G sc) := by
  obtain ⟨f1, f2, f3, f4⟩ := hf
  let ρ : Nat → Int := fun k => if k = 0 then (sc.1 : Int) else 0
  have M : Mo rgT wsLw (HG G sc) ρ PL.1 (HG G sc) := by
    refine ⟨⟨fun q hq => ?_, fun f hf => absurd hf List.not_mem_nil⟩, fun c hc => ?_, rg0' hG, Frm.rf⟩
    · have hq : q ∈ ([(1, 0, 3072), (2, 0, 999), (3, 0, 999), (4, 0, 0), (5, 0, 0), (0, 0, 3072)] : List (Nat × Int × Int)) := hq
      simp only [List.mem_cons, List.not_mem_nil, or_false] at hq
      rcases hq with rfl | rfl | rfl | rfl | rfl | rfl
      · exact ⟨by decide, by show (0 : Int) ≤ 0; omega, by show (0 : Int) ≤ 3072; omega⟩
      · exact ⟨by decide, by show (0 : Int) ≤ 0; omega, by show (0 : Int) ≤ 999; omega⟩
      · exact ⟨by decide, by show (0 : Int) ≤ 0; omega, by show (0 : Int) ≤ 999; omega⟩
      · exact ⟨by decide, by show (0 : Int) ≤ 0; omega, by show (0 : Int) ≤ 0; omega⟩
      · exact ⟨by decide, by show (0 : Int) ≤ 0; omega, by show (0 : Int) ≤ 0; omega⟩
      · exact ⟨by decide, by show (0 : Int) ≤ (sc.1 : Int); omega, by show (sc.1 : Int) ≤ 3072; omega⟩
    · have hc : c ∈ ([(0, 66, (0, []), (0, [(2, 1)])), (0, 67, (0, []), (0, [(3, 1)])), (5, 66, (0, []), (0, [(4, 1)])), (5, 67, (0, []), (0, [(5, 1)])), (2, 1300, (0, []), (0, [(0, 1)]))] : List Kc) := hc
      simp only [List.mem_cons, List.not_mem_nil, or_false] at hc
      have s0 : leS PL.1.1 ((0, []) : LE) := leS_C (c := 0)
      have e0 : leV ρ ((0, []) : LE) = 0 := leV_C ρ 0
      have c0 : (0 : Int32).toInt = 0 := rfl
      rcases hc with rfl | rfl | rfl | rfl | rfl
      · refine ⟨s0, leS_X (k := 2) (by decide), 0, by dsimp only; rw [e0, c0], ?_⟩
        show leV ρ (leX 2) = ((HG G sc).1 66 0).toInt
        rw [leV_X, HG_1, f3]
        rfl
      · refine ⟨s0, leS_X (k := 3) (by decide), 0, by dsimp only; rw [e0, c0], ?_⟩
        show leV ρ (leX 3) = ((HG G sc).1 67 0).toInt
        rw [leV_X, HG_1, f4]
        rfl
      · exact ⟨s0, leS_X (k := 4) (by decide), leV_X ρ 4, wfx0 f1⟩
      · exact ⟨s0, leS_X (k := 5) (by decide), leV_X ρ 5, wfx0 f2⟩
      · refine ⟨s0, leS_X (k := 0) (by decide), ?_⟩
        show leV ρ (leX 0) = ((HG G sc).2.2.1 : Int)
        rw [leV_X]
        rfl
  have hLR : LR ρ 6 lsL [some (.ref 1300), some (.ref 0), some (.ref 65), some (.int 0)] := LR.cons (ls := _) (lc := _) ⟨1300, rfl, rfl⟩ (LR.cons (ls := _) (lc := _) ⟨0, rfl, rfl⟩ (LR.cons (ls := _) (lc := _) ⟨65, rfl, rfl⟩ (LR.cons (ls := _) (lc := _) ⟨0, rfl, leS_X (k := 1) (by decide), leV_X ρ 1⟩ (LR.nil (m := 0)))))
  generalize HG G sc = h at M ⊢
  refine go hX 2 (gs := [True, True]) (z' := (18, [some (.ref 1300), some (.ref 0), some (.ref 65), some (.int 0)], [], h)) rfl ⟨trivial, trivial, trivial⟩ ?_
  exact law_head hd hX hQ 3073 ρ _ ⟨M, rfl, hLR, rfl⟩ (by show (3072 - (0 : Int)).toNat < 3073; decide)
theorem h0_more : True := trivial
set_option maxRecDepth 100000 in
theorem kcd12 : kcd 12 = (13, cdk12) := rfl
/-! THE CLAIM OUT OF ONE WALK OF THE LAW'S BODY. Your part is whole_start (and what it stands on); all else here is the same for every law, but numbers. -/
def R_law : String := "PrisonShopsLaw"
def lw_P (b : Addr) (xs : List Int32) (args : Array Value) (s : State) : Prop := args = #[.ref b] ∧ s.IntsAt b xs ∧ xs.length ≤ 3072 ∧ (Jvm.Cond.and given_1 narrow_1).before args s = true
def lw_Q (_ : Array Value) (s : State) (o : Outcome) (t : State) : Prop := o = .returned (some (.int 1)) ∧ Framed s o t [] 600000 7302250
def lw_Z (below : List Frame) (a : Array Value) (s : State) : State → Prop := fun t => ∃ o, t.status = .running ∧ Ended t below o ∧ lw_Q a s o t
/-- the law's own end, with 1 on the stack, nothing written that was there before, its room as the claim has it -/
theorem lw_ret {p : Program} {l : Launch} {e : Env} {s : State} {m : MethodId} {below : List Frame} {meth : Method} {c : Code} {b : Nat} (hx : p.tables.exec = Jvm.exec) (hb : c.code = code) (hr : meth.sig.returnType = ret) (hlocks : meth.locks = false) {pc : Nat} {H : Heap} {ls : Array Slot} (hdg : decode code pc = .ok (.ireturn, 1)) : W p l e room_1 s m #[Value.ref b] below meth c H [] 600000 7302250 (lw_Z below #[Value.ref b] s) (F0 m pc ls [.int 1]) := by
  intro T hT X
  obtain ⟨fs, hret, hrun, hended, hW, hframe⟩ := X.leave (v := some (.int 1)) (hlocks := hlocks) (fun h => by rw [hr] at h; cases h)
  have hmeth' : T.vm.method? m = some meth := X.method'
  refine ⟨T.setFrames fs, ?_, .returned (some (.int 1)), hrun, hended, rfl, ⟨_, rfl⟩, hW, hframe⟩
  jvm_step X.here [X.here.top, hx, hb, hdg, hmeth', hr, ret, narrow_b1]
  (try refine ⟨rfl, ?_⟩); (try refine ⟨rfl, ?_⟩)
  first | (intro acts; rw [hret _ acts rfl rfl rfl]) | rw [hret _ _ rfl rfl rfl]
  exact Steps.refl _
/-- what holds at the law's entry: the machine, the code, the tables' words (any of lw_tbl by 'hts w (by decide +kernel)'), the script of L ints xs at the cell b, what the Statement gives of the start (any of its parts by flat_of_before) -/
def lw_At (p : Program) (s : State) (m : MethodId) (meth : Method) (c : Code) (b L : Nat) (xs : Nat → Int32) : Prop :=
  p.tables.exec = Jvm.exec ∧ c.code = code ∧ meth.sig.returnType = ret ∧ c.maxLocals = 4 ∧ s.vm.findClass R_law = some m.cls ∧ (∀ w ∈ lw_tbl, w.before #[Value.ref b] s = true) ∧ va_X b L xs s s.heap ∧ b < s.heap.size ∧ meth.locks = false ∧ (Jvm.Cond.and given_1 narrow_1).before #[Value.ref b] s = true
set_option maxRecDepth 100000 in
theorem whole_start {p : Program} {e : Env} {s : State} {m : MethodId} {below : List Frame} {meth : Method} {c : Code} (l : Launch) {b L : Nat} {xs : Nat → Int32} (hL : L ≤ 3072) (C0 : lw_At p s m meth c b L xs) : W p l e room_1 s m #[Value.ref b] below meth c s.heap [] 0 0 (lw_Z below #[Value.ref b] s) (entryFrame m ([Value.ref b] : List Value).toArray 4) := by
  obtain ⟨hx, hb, hr, hml, hown, hts0, hXs, hbl, hlocks, hgv⟩ := id C0
  have hts : ∀ w ∈ gT, w.before #[Value.ref b] s = true := fun w hw => hts0 w (gT_lw w hw)
  have hfl := flat_of_before _ hgv
  obtain ⟨G, hkto, hGl, hGs, hGk, hGr, hGf, hGx⟩ : ∃ G : List Kb, kto 900 12 16 z0K = some (16, lcK, [], G) ∧ G.length = 84 ∧ slG G ≤ 100000 ∧ (∀ i, i < 84 → kbA G i = true) ∧ rgT.all (rg0C G) = true ∧ (h0w G 66 4 = 0 ∧ h0w G 67 4 = 0 ∧ h0w G 66 0 = 0 ∧ h0w G 67 0 = 0) ∧ (True) := ⟨GK, kto_end, gk_len.1, gk_len.2, gk_ok, rg0_ok, h0_facts, h0_more⟩
  let A : Nat → Prop := fun q => s.heap.size ≤ q
  have hA0 : ∀ a : Nat, a < s.heap.size → ¬ A a := fun a h1 h2 => by
    have : s.heap.size ≤ a := h2
    omega
  obtain ⟨wT, wI, wC, wSI, wQ, wP, wW, wK⟩ := wd_T
  obtain ⟨adK, adV, hE, hTm⟩ := vk_Sof (args := #[Value.ref b]) (s := s) (N := 12) (tm := tmS) (len := stT'.map List.length) (byt := stT'.map (fun l => l.map nI)) (A := A) (fun i hi => by have := (jB_ok i hi).1; show jL i < _; omega) (fun i hi => hfl _ (pr_S i hi).1) (fun i hi => hfl _ (pr_S i hi).2.1) (fun i hi => hfl _ (pr_S i hi).2.2.1) (fun i hi => hfl _ (pr_S i hi).2.2.2) (fun i hi j hj => hfl _ (pr_E i hi j hj)) (fun i j hi hj hij => (pr_N i hi j hj hij).imp (hfl _) (hfl _)) hA0
  have hTb : ∀ k : Nat, ∃ t : Nat, k < 4 → (tmT k).eval #[Value.ref b] s none [] s = some (.ref t) ∧ va_T .int t 6 (fun j => .int ((roT (1200 + k)).getD j 0)) A s s.heap := fun k => by
    by_cases hk : k < 4
    · obtain ⟨t, h1, h2⟩ := va_Tof (f := fun j => .int ((roT (1200 + k)).getD j 0)) (A := A) (by decide) (hfl _ (pr_T k hk).1.1) (va_eqt (hfl _ (pr_T k hk).1.2)) (fun j hj => va_eqt (hfl _ ((pr_T k hk).2 j hj))) hA0
      exact ⟨t, fun _ => ⟨h1, h2⟩⟩
    · exact ⟨0, fun h => absurd h hk⟩
  obtain ⟨adT, hadT⟩ := Classical.axiomOfChoice hTb
  have hZq : va_Zq "jdk/internal/util/Preconditions" "SIOOBE_FORMATTER" "Ljava/util/function/BiFunction;" A s s.heap := va_Zqof (hts0 _ wQ) (hts0 _ wP) (hfl _ pr_C.2) hA0
  have hZc : va_Z "java/lang/String" "COMPACT_STRINGS" "Z" (.int 1) A s s.heap := va_Zof (hts0 _ wC) (hts0 _ wSI) (va_eqt (hfl _ pr_C.1)) hA0
  let ad : Nat → Nat := fun i => if i < 1000 then s.heap.size + i else if i < 1100 then adK (i - 1000) else if i < 1200 then adV (i - 1100) else if i < 1300 then adT (i - 1200) else b
  have had : ∀ i, i < 1000 → ad i = s.heap.size + i := fun i hi => if_pos hi
  have hadK : ∀ i, i < 12 → ad (1000 + i) = adK i := fun i hi => by
    show (if 1000 + i < 1000 then _ else if 1000 + i < 1100 then adK (1000 + i - 1000) else _) = _
    rw [if_neg (by omega), if_pos (by omega), Nat.add_sub_cancel_left]
  have hadV : ∀ i, i < 12 → ad (1100 + i) = adV i := fun i hi => by
    show (if 1100 + i < 1000 then _ else if 1100 + i < 1100 then _ else if 1100 + i < 1200 then adV (1100 + i - 1100) else _) = _
    rw [if_neg (by omega), if_neg (by omega), if_pos (by omega), Nat.add_sub_cancel_left]
  have hadT' : ∀ i, i < 4 → ad (1200 + i) = adT i := fun i hi => by
    show (if 1200 + i < 1000 then _ else if 1200 + i < 1100 then _ else if 1200 + i < 1200 then _ else if 1200 + i < 1300 then adT (1200 + i - 1200) else _) = _
    rw [if_neg (by omega), if_neg (by omega), if_neg (by omega), if_pos (by omega), Nat.add_sub_cancel_left]
  have hadb : ad 1300 = b := rfl
  let sc : Nat × (Nat → Int32) := (L, xs)
  have hXT : va_T .int (ad 1300) sc.1 (fun j => .int (sc.2 j)) A s s.heap := by
    obtain ⟨scr, h1, h2, h3, h4, h5⟩ := hXs
    exact ⟨scr, h1, h2, h3, by rw [h4]; exact Nat.le_refl _, by rw [h4], h5, hA0 _ hbl⟩
  have hJF : JF ad A s s.heap := by
    refine ⟨fun q hq => ?_, ⟨fun i hi => ?_, fun i j hi hj e => ?_⟩, hZc, hZq⟩
    · obtain ⟨i, hi, rfl⟩ := List.getElem_of_mem hq
      have hi12 : i < 12 := by rw [strT_len] at hi; exact hi
      have e1 : strT.getD i (0, "", 0) = strT[i] := by rw [List.getD_eq_getElem?_getD, List.getElem?_eq_getElem hi]; rfl
      have e2 := st_i i hi12
      rw [e1] at e2
      have e3 := hTm i hi12
      unfold tmS at e3
      rw [e1] at e3
      have hq2 : ∀ q : Nat × String × Nat, q ∈ strT → q.2.2 = 1000 + i → (Term.string "PrisonShops$Reader" q.1).eval #[Value.ref b] s none [] s = some (.ref (adK i)) → vk_R "PrisonShops$Reader" q.1 q.2.1 (ad q.2.2) s := fun q hq h2 h3 => by
        rw [h2, hadK i hi12]
        exact vk_R.of (A := #[Value.ref b]) (hts0 _ (wd_S _ hq)) h3
      exact hq2 _ hq e2 e3
    · dsimp only
      rw [hadK i hi, hadV i hi]
      exact hE.1 i hi
    · dsimp only at e
      rw [hadK i hi, hadK j hj] at e
      exact hE.2 i j hi hj e
  have hSF : SF ad A sc s s.heap := by
    refine ⟨fun k hk => ?_, hXT, va_Nw.of rfl (hts0 _ wW), va_Nw.of rfl (hts0 _ wK), hJF, ?_⟩
    · rw [hadT' k hk]
      exact ⟨va_Zref (hts0 _ (wT k hk)) (hts0 _ wI) (hadT k hk).1 hA0, (hadT k hk).2⟩
    · show L < 2 ^ 31
      omega
  have hNS : NS s := by
    intro q hq y hy
    have h1 := wd_N q hq
    cases hp : psK[q.2.2.1]? with
    | none => rw [hp] at hy; cases hy
    | some mk =>
      rw [hp] at hy h1
      cases hy
      exact va_Nw.of rfl (hts0 _ (by simpa using h1))
  obtain ⟨cA, hcA⟩ : ∃ cA : Nat → ClassId, ∀ (k : Nat) (q : ClassId × FieldType), (tysP cA)[k]? = some q → ArrOfT s q.1 q.2 ∧ va_RA s q.1 q.2 := by
    obtain ⟨c0, k0, m0, a1, a2, a3⟩ := Cond.arrayClass_spec (hts _ lb10)
    obtain ⟨c1, k1, m1, b1, b2, b3⟩ := Cond.arrayClass_spec (hts _ lb11)
    obtain ⟨c2, k2, m2, d1, d2, d3⟩ := Cond.arrayClass_spec (hts _ lb12)
    refine ⟨fun k => if k = 0 then c0 else if k = 1 then c1 else c2, fun k q hq => ?_⟩
    match k, hq with
    | 0, hq => cases hq; exact ⟨fun n z => ⟨fun k h => (by cases h), k0, a2, m0, a3⟩, a1⟩
    | 1, hq => cases hq; exact ⟨fun n z => ⟨fun k h => (by cases h), k1, b2, m1, b3⟩, b1⟩
    | 2, hq => cases hq; exact ⟨fun n z => ⟨fun k h => (by cases h), k2, d2, m2, d3⟩, d1⟩
    | k + 3, hq => simp [tysP] at hq
  have hKx : ∀ k : Nat, ∃ x : ClassId × (Nat → Nat), ∀ q, vwCl[k]? = some q → u_Kn s q.1 q.2.1 q.2.2 x.1 x.2 := fun k => by
    cases hk : vwCl[k]? with
    | none => exact ⟨(0, fun _ => 0), fun q h => by cases h⟩
    | some q =>
      have hk12 : k < 12 := (List.getElem?_eq_some_iff.mp hk).1
      have h1 := wd_K k hk12
      rw [hk] at h1
      obtain ⟨C, T, N⟩ := q
      obtain ⟨cC, iS, h2⟩ := u_known (C := C) (T := T) (N := N) (n := N) hts (vw_gT hk) (hts0 _ (by simpa using h1))
      exact ⟨(cC, iS), fun q h => by cases h; exact h2⟩
  obtain ⟨dK, hdK⟩ := Classical.axiomOfChoice hKx
  let D : va_G := (fun k => (dK k).1, fun k => (dK k).2)
  have hK : va_K D vwCl (tysP cA) s := ⟨fun k q hq => hdK k q hq, hcA⟩
  have hAi : ∀ q, A q ↔ s.heap.size ≤ q := fun q => Iff.rfl
  -- the constructors
  have hCK : CK p room_1 s m #[Value.ref b] meth c ad D cA A code 13 4 s.heap.size := ⟨hx, hb, hml, hown, hts, hK, hNS, fun h => absurd h (by decide), hAi, had, Nat.le_refl _, by decide, by decide⟩
  have hl := lv_entry ([Value.ref b] : List Value) (n := 4) (Nat.le_of_ble_eq_true rfl)
  rw [lg_entry_eq]
  generalize (lg_sl ([Value.ref b] : List Value) ++ List.replicate (4 - (lg_sl ([Value.ref b] : List Value)).length) Slot.unset).toArray = la at hl ⊢
  have hLH : LH ad la 4 [some (.ref 1300), none, none, none] := LH.of hl rfl (fun k v hk => by
    match k, hk with
    | 0, hk => cases hk; exact List.mem_cons_self
    | 1, hk => cases hk
    | 2, hk => cases hk
    | 3, hk => cases hk
    | k + 4, hk => simp at hk)
  have hCX : CX p room_1 s m #[Value.ref b] c ad D cA A code 13 4 sc 84 (slG G) := ⟨hx, hb, hml, hown, hts, hK, hSF, by decide, by decide, by decide, Nat.le_trans hGs (by decide)⟩
  have fin : XK p l e room_1 s m #[Value.ref b] below meth c (lw_Z below #[Value.ref b] s) ad D cA A 4 s.heap.size 0 0 (16, lcK, [], G) := by
    intro H locs la hl hz hP hD hS _ _
    have hclo : Clo (Call 108) cdL (some .boolean) (fun r _ => r = some (.int 1)) (XW p l e room_1 s m #[Value.ref b] below meth c (lw_Z below #[Value.ref b] s) ad D cA A 4 sc 84 (slG G)) := by
      refine ⟨fun z z' G hq g X => stp_W hCX cdL_ok hq g X, fun pc ls st h' mid' n' as' rest hcal hn hst hsum hcall => ?_, fun z G r hq g hQ => ?_⟩
      · have ih := co_of (l := l) (ad := ad) (D := D) (cA := cA) (A := A) (sc := sc) lb_of 108 mid' as' h' _ hcall
        subst hst
        unfold cal at hcal
        split at hcal
        · rename_i k n1 a1 b1 tl hat
          cases hcal
          obtain ⟨v1, w1, sw1⟩ := tl
          have hok := okC_at cdL_ok hat
          rw [Nat.zero_add] at hok
          simp only [okE, Bool.and_eq_true, decide_eq_true_eq] at hok
          exact ih p e _ s m _ below meth c _ code 13 4 84 (slG G) pc ls rest _ _ b1 v1 w1 sw1 hCX (by decide) (by decide) hok.1 hok.2 (Or.inl ⟨⟨k, rfl⟩, hn⟩) hsum (fun r h1 hr => hr)
        · rename_i k n1 a1 b1 tl hat
          split at hcal
          · rename_i h1000
            cases hcal
            obtain ⟨v1, w1, sw1⟩ := tl
            have hok := okC_at cdL_ok hat
            rw [Nat.zero_add] at hok
            simp only [okE, Bool.and_eq_true, decide_eq_true_eq] at hok
            exact ih p e _ s m _ below meth c _ code 13 4 84 (slG G) pc ls rest _ _ _ v1 w1 sw1 hCX (by decide) (by decide) hok.1 hok.2 (Or.inr ⟨⟨k, rfl⟩, h1000, hn⟩) hsum (fun r h1 hr => hr)
          · cases hcal
        · cases hcal
      · obtain ⟨pc, ls, st, h⟩ := z
        subst hQ
        unfold rtp at hq
        split at hq
        · rename_i i tl hat
          obtain ⟨n, a, bb, v, w, sw⟩ := tl
          have hok := okC_at cdL_ok hat
          rw [Nat.zero_add] at hok
          simp only [okE, Bool.and_eq_true, decide_eq_true_eq] at hok
          obtain ⟨hd, hok⟩ := hok
          dsimp only at hd hok hq
          unfold rok at hq
          split at hq
          · simp only [okx, beq_iff_eq] at hok
            subst hok
            cases hq
            intro hs H locs la hl hP hD hS
            refine va_forget (fun q hq => hS.2.2 q hq) ?_
            refine W.widen (k := 600000) (n := 7302250) (by decide) (Nat.le_trans hGs (by decide)) ?_
            exact lw_ret hx hb hr hlocks hd
          · cases hq
          · cases hq
          · cases hq
          · cases hq
        · cases hq
    have := law_X (d := 108) (Nat.le_refl _) (G := G) (sc := sc) hL hGr hGf hGx hclo (fun _ => rfl)
    have hw := this rfl H locs la hl (start_P hGk hP) (start_D had hAi) hS
    have e84 : G.length - 0 = 84 := by rw [hGl]
    rw [e84, Nat.sub_zero]
    exact hw
  have run := kto_W (l := l) (ad := ad) (D := D) (cA := cA) (A := A) (base := s.heap.size) 900 12 16 _ _ hkto p e room_1 s m #[Value.ref b] below meth c (lw_Z below #[Value.ref b] s) code 4 0 0 (by rw [kcd12]; exact hCK) (by rw [kcd12]; exact cdk12_ok) (by decide) (by decide) (by show G.length - 0 ≤ 600000; rw [hGl]; decide) (Nat.le_trans (Nat.sub_le _ _) (Nat.le_trans hGs (by decide))) fin
  exact run s.heap [] la hLH rfl (fun k q h => by simp [wlk, z0K] at h) ⟨fun i j p q h => by simp [wlk, z0K] at h, fun k q h => by simp [wlk, z0K] at h⟩ va_S.rf (Nat.zero_le _) (Nat.zero_le _)
set_option maxHeartbeats 4000000 in
theorem lw_walk (l : Launch) (b : Addr) (xs : List Int32) : MetFree l x (headSpec (Jvm.Cond.code x code maxLocals ret :: tables_1) room_1) (lw_P b xs) (fun _ _ _ _ _ => True) lw_Q := by
  refine MetFree.of_bodyS (code := code) (maxLocals := maxLocals) (ret := ret) (by decide) ?_ ?_
  · intro args s m h hn
    obtain ⟨meth, c, h1, h2, h3, h4, h5, h6, -, -⟩ := Cond.code_spec hn (atoms_spec (ws := Jvm.Cond.code x code maxLocals ret :: tables_1) h _ List.mem_cons_self)
    exact ⟨meth, c, h1, h2, h3, h4, h5, h6⟩
  · intro p e s m args below meth c s₁ B hml0 hP _
    obtain ⟨rfl, hx, hbd, hgv⟩ := hP
    obtain ⟨scr, harrAt, hlist, hof, hsmall⟩ := hx
    obtain ⟨hcb, hkn, -, -⟩ := State.arrayAt?_spec harrAt
    have hown : s.vm.findClass R_law = some m.cls := findClass_of_methodNamed B.named
    have hts0 : ∀ c ∈ (Jvm.Cond.code x code maxLocals ret :: tables_1), c.before #[Value.ref b] s = true := atoms_spec (ws := Jvm.Cond.code x code maxLocals ret :: tables_1) B.pre
    have hts : ∀ w ∈ lw_tbl, w.before #[Value.ref b] s = true := k2_hts_sels lw_privs (fun w hw => hts0 w (List.mem_cons_of_mem _ hw)) lw_privs_ok
    have hml : c.maxLocals = 4 := B.maxLocals_eq (hts0 _ List.mem_cons_self)
    have X₀ : Stand p l e room_1 s m #[Value.ref b] below meth c s₁ [] 0 0 := Stand.of_body B
    have hh0 : s₁.heap = s.heap := by rw [B.state]; rfl
    have hsz : scr.slots.size = xs.length := by rw [← Array.length_toList, hlist, List.length_map]
    have hval : ∀ j : Nat, j < xs.length → scr.slots[j]? = some (.int (xs.getD j 0)) := fun j hj => by
      rw [← Array.getElem?_toList, hlist]
      simp [hj]
    have hbl : b < s.heap.size := (Array.getElem?_eq_some_iff.mp hcb).1
    have hX : va_X b xs.length (fun j => xs.getD j 0) s s.heap := ⟨scr, hcb, hof, hkn, hsz, hval⟩
    have K : W p l e room_1 s m #[Value.ref b] below meth c s₁.heap [] 0 0 (lw_Z below #[Value.ref b] s) (entryFrame m ([Value.ref b] : List Value).toArray 4) := by
      rw [hh0]
      exact whole_start l hbd ⟨B.exec, B.bytes, B.returns, hml, hown, hts, hX, hbl, B.notSynchronized, hgv⟩
    obtain ⟨t, a1, o, b1, b2, b3⟩ := K s₁ rfl X₀
    exact ⟨t, o, a1, b1, b2, b3⟩
theorem lw_pre_spec {args : Array Value} {s : State} (h : (Jvm.Cond.and given_1 narrow_1).before args s = true) (hr : rest_1_c.before args s = true) : ∃ (b : Addr) (xs : List Int32), lw_P b xs args s := by
  have hs := flat_of_before _ h
  have hq := flat_of_before _ hr
  have hc : (Cond.count 1).before args s = true := hs _ (by decide +kernel)
  have harr : (Cond.arrayOf (.arg 0) .int).before args s = true := hs _ (by decide +kernel)
  have hle : (Cond.le (.length (.arg 0)) (.int 3072)).before args s = true := hs _ (by decide +kernel)
  have hlen : (Cond.isInt (.length (.arg 0))).before args s = true := hq _ (by decide +kernel)
  have hall : (Cond.all (.arg 0) (.isInt (.elem (.arg 0) (.index 0)))).before args s = true := hq _ (by decide +kernel)
  obtain ⟨b, xs, hb, hx⟩ := State.ints_of_pre rfl harr hlen hall
  have hsm : xs.length < 2 ^ 31 := hx.choose_spec.2.2.2
  have hev : (Term.length (.arg 0)).eval args s none [] s = some (.int xs.length.toInt32) := hx.length_eval hb
  have hv := Cond.le_ints hev (show (Term.int 3072).eval args s none [] s = some (.int 3072) from rfl)
  have hd : xs.length.toInt32 ≤ 3072 := by
    simpa [Cond.before, Cond.holds, hv] using hle
  have hN : xs.length ≤ 3072 := (Int32.ofNat_le_ofNat hsm (by decide)).mp (show Int32.ofNat xs.length ≤ Int32.ofNat 3072 from hd)
  exact ⟨b, xs, Cond.one_arg hc (show args[0]? = some (.ref b) from hb), hx, hN, h⟩
theorem lw_comes (l : Launch) : Comes l x (Jvm.Cond.code x code maxLocals ret :: tables_1) room_1 (fun tb e args s => Calls_1 tb e args s ∧ rest_1 tb e args s ∧ Pre_1 tb e args s)
    (fun _ _ args s o t => lw_Q args s o t) := by
  intro p e ha hc hk s m args below hf hfit hheap happ hpre
  obtain ⟨b, xs, hP⟩ := lw_pre_spec hpre.2.2 hpre.2.1
  obtain ⟨k, o, h1, h2, h3, hQ⟩ := lw_walk l b xs p e ha hc hk s m args below hf ((Spec.applies_iff_loose hf).mp happ).1 hP trivial
  exact ⟨k, o, h1, h2, h3, hQ⟩
theorem lw_frame {s t : State} {o : Outcome} {args : Array Value} (h : Framed s o t [] 600000 7302250) :
    Framed s o t (fieldLocs frame_1_writes args s ++ arrayLocs frame_1_arrays args s ++ staticLocs frame_1_statics s) 600000 7302250 := h
theorem lw_limb (L : Cond) (hL : ∀ (args : Array Value) (s t : State), L.after args s (.returned (some (.int 1))) t = true) :
    ArmFor flags0 classFile x code maxLocals ret World_1 tables_1 room_1 Calls_1 rest_1 Pre_1
      (fun tb e a s o t => postC L tb e a s o t ∧ Framed s o t (fieldLocs frame_1_writes a s ++ arrayLocs frame_1_arrays a s ++ staticLocs frame_1_statics s) 600000 7302250) := by
  intro l _ _ _ p e ha hc hk s m args below hf hfit hheap happ hpre
  obtain ⟨k, o, h1, h2, h3, rfl, hF⟩ := lw_comes l p e ha hc hk s m args below hf hfit hheap happ hpre
  exact ⟨k, _, h1, h2, h3, hL args s _, lw_frame hF⟩
theorem i_vc : Claimed_1_1 ∧ Claimed_1_2 := ⟨lw_limb limb_1_1 (fun args s t => by simp [limb_1_1, Cond.after, Cond.holds, Cond.value]), lw_limb limb_1_2 (fun args s t => Cond.after_iff.mpr (by
  first | (rw [show limb_1_2 = Cond.eq .result (.int 1) from rfl, Cond.eq_ints (x := 1) (y := 1) rfl rfl]; simp; done) | (simp [limb_1_2, Cond.value, Term.eval]; done)))⟩

