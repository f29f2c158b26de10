/-! The law: its walk. -/
noncomputable def gsL : List Gen := [((0, 3, 0, (0, [])), 0, 3072), ((1, 0, 66, (0, [])), 0, 999), ((1, 0, 67, (0, [])), 0, 999), ((1, 5, 66, (0, [])), 0, 0), ((1, 5, 67, (0, [])), 0, 0), ((1, 0, 66, (1, [])), 0, 3), ((1, 0, 67, (1, [])), 0, 3), ((1, 0, 66, (2, [])), 0, 10), ((1, 0, 67, (2, [])), 0, 10), ((1, 0, 66, (4, [])), 0, 12), ((1, 0, 67, (4, [])), 0, 12), ((1, 0, 66, (5, [])), 0, 40), ((1, 0, 67, (5, [])), 0, 40), ((1, 0, 65, (3, [])), 0, 1), ((1, 0, 65, (16, [])), 0, 96), ((1, 0, 66, (6, [])), 0, 65535), ((1, 0, 67, (6, [])), 0, 65535), ((1, 0, 66, (3, [])), 0, 30), ((1, 0, 67, (3, [])), 0, 30), ((1, 0, 65, (34, [])), 0, 60)]
noncomputable def kcL : List Kc := [(0, 66, (0, []), (0, [(2, 1)])), (0, 67, (0, []), (0, [(3, 1)])), (5, 66, (0, []), (0, [(4, 1)])), (5, 67, (0, []), (0, [(5, 1)])), (2, 1300, (0, []), (0, [(0, 1)])), (0, 2, (2, []), (0, [(6, 1)])), (0, 66, (1, []), (0, [(6, 1)])), (0, 13, (2, []), (0, [(7, 1)])), (0, 67, (1, []), (0, [(7, 1)])), (0, 4, (2, []), (0, [(8, 1)])), (0, 66, (2, []), (0, [(8, 1)])), (0, 15, (2, []), (0, [(9, 1)])), (0, 67, (2, []), (0, [(9, 1)])), (0, 8, (2, []), (0, [(10, 1)])), (0, 66, (4, []), (0, [(10, 1)])), (0, 19, (2, []), (0, [(11, 1)])), (0, 67, (4, []), (0, [(11, 1)])), (0, 10, (2, []), (0, [(12, 1)])), (0, 66, (5, []), (0, [(12, 1)])), (0, 21, (2, []), (0, [(13, 1)])), (0, 67, (5, []), (0, [(13, 1)])), (0, 1, (5, []), (0, [(2, 1)])), (0, 12, (5, []), (0, [(3, 1)])), (0, 0, (12, []), (0, [(14, 1)])), (0, 65, (3, []), (0, [(14, 1)])), (0, 53, (1, []), (0, [(15, 1)])), (0, 65, (16, []), (0, [(15, 1)])), (0, 1, (6, []), (0, [(16, 1)])), (0, 66, (6, []), (0, [(16, 1)])), (0, 12, (6, []), (0, [(17, 1)])), (0, 67, (6, []), (0, [(17, 1)])), (0, 6, (2, []), (0, [(18, 1)])), (0, 66, (3, []), (0, [(18, 1)])), (0, 17, (2, []), (0, [(19, 1)])), (0, 67, (3, []), (0, [(19, 1)])), (0, 0, (11, []), (0, [(20, 1)])), (0, 65, (34, []), (0, [(20, 1)])), (9, 0, (0, []), (0, [])), (9, 5, (0, []), (0, [])), (9, 16, (0, []), (0, [])), (9, 21, (0, []), (0, [])), (9, 32, (0, []), (0, [])), (9, 37, (0, []), (0, [])), (9, 48, (0, []), (0, [])), (9, 53, (0, []), (0, [])), (9, 64, (0, []), (0, [])), (9, 69, (0, []), (0, [])), (9, 80, (0, []), (0, [])), (9, 85, (0, []), (0, [])), (9, 96, (0, []), (0, [])), (9, 101, (0, []), (0, [])), (9, 112, (0, []), (0, [])), (9, 117, (0, []), (0, [])), (9, 128, (0, []), (0, [])), (9, 133, (0, []), (0, [])), (9, 144, (0, []), (0, [])), (9, 149, (0, []), (0, [])), (9, 208, (0, []), (0, [])), (9, 213, (0, []), (0, [])), (9, 224, (0, []), (0, [])), (9, 229, (0, []), (0, [])), (9, 240, (0, []), (0, [])), (9, 245, (0, []), (0, [])), (9, 256, (0, []), (0, [])), (9, 261, (0, []), (0, [])), (9, 288, (0, []), (0, [])), (9, 293, (0, []), (0, [])), (9, 304, (0, []), (0, [])), (9, 309, (0, []), (0, [])), (9, 320, (0, []), (0, [])), (9, 325, (0, []), (0, [])), (9, 336, (0, []), (0, [])), (9, 341, (0, []), (0, [])), (9, 352, (0, []), (0, [])), (9, 357, (0, []), (0, [])), (9, 368, (0, []), (0, [])), (9, 373, (0, []), (0, [])), (9, 384, (0, []), (0, [])), (9, 389, (0, []), (0, [])), (9, 400, (0, []), (0, [])), (9, 405, (0, []), (0, [])), (9, 416, (0, []), (0, [])), (9, 421, (0, []), (0, [])), (9, 432, (0, []), (0, [])), (9, 437, (0, []), (0, [])), (9, 448, (0, []), (0, [])), (9, 453, (0, []), (0, [])), (9, 464, (0, []), (0, [])), (9, 469, (0, []), (0, [])), (9, 480, (0, []), (0, [])), (9, 485, (0, []), (0, [])), (9, 512, (0, []), (0, [])), (9, 517, (0, []), (0, [])), (9, 528, (0, []), (0, [])), (9, 533, (0, []), (0, [])), (9, 544, (0, []), (0, [])), (9, 549, (0, []), (0, [])), (9, 560, (0, []), (0, [])), (9, 565, (0, []), (0, [])), (9, 576, (0, []), (0, [])), (9, 581, (0, []), (0, [])), (9, 592, (0, []), (0, [])), (9, 597, (0, []), (0, [])), (9, 2003, (0, []), (0, [])), (9, 2005, (0, []), (0, [])), (9, 2007, (0, []), (0, [])), (11, 64, (0, []), (0, [(6, 1)])), (11, 68, (0, []), (0, [(7, 1)])), (11, 80, (0, []), (0, [(6, 1)])), (11, 84, (0, []), (0, [(7, 1)])), (11, 96, (0, []), (0, [(6, 1)])), (11, 100, (0, []), (0, [(7, 1)])), (11, 208, (0, []), (0, [(8, 1)])), (11, 212, (0, []), (0, [(9, 1)])), (11, 224, (0, []), (0, [(8, 1)])), (11, 228, (0, []), (0, [(9, 1)])), (11, 288, (0, []), (0, [(8, 1)])), (11, 292, (0, []), (0, [(9, 1)])), (11, 304, (0, []), (0, [(8, 1)])), (11, 308, (0, []), (0, [(9, 1)])), (11, 432, (0, []), (0, [(18, 1)])), (11, 436, (0, []), (0, [(19, 1)])), (12, 0, (0, []), (0, [(8, 1)])), (12, 5, (0, []), (0, [(9, 1)])), (14, 0, (0, []), (0, [])), (14, 4, (0, []), (0, [])), (14, 8, (0, []), (0, [])), (14, 12, (0, []), (0, [])), (14, 16, (0, []), (0, [(2, 10)])), (15, 0, (0, []), (0, [(10, 1)])), (16, 0, (0, []), (0, [])), (17, 0, (0, []), ((-1), [])), (14, 1, (0, []), (0, [])), (14, 5, (0, []), (0, [])), (14, 9, (0, []), (0, [])), (14, 13, (0, []), (0, [])), (14, 17, (0, []), (0, [(3, 10)])), (15, 5, (0, []), (0, [(11, 1)])), (16, 1, (0, []), (0, [])), (17, 1, (0, []), ((-1), [])), (0, 74, (0, []), (0, [])), (0, 74, (1, []), (0, [])), (0, 74, (2, []), (0, []))]
noncomputable def lsL : List (Option AV) := [some (2, (1300, [])), some (2, (0, [])), some (2, (65, [])), some (0, (0, [(1, 1)]))]
noncomputable def bdL : List (Nat × Int × Int) := [(1, 0, 3072), (2, 0, 999), (3, 0, 999), (4, 0, 0), (5, 0, 0), (6, 0, 3), (7, 0, 3), (8, 0, 10), (9, 0, 10), (10, 0, 12), (11, 0, 12), (12, 0, 40), (13, 0, 40), (14, 0, 1), (15, 0, 96), (16, 0, 65535), (17, 0, 65535), (18, 0, 30), (19, 0, 30), (20, 0, 60), (0, 0, 3072)]
noncomputable def fxL : List LE := []
noncomputable def PL : Cc := ((21, (bdL, fxL), kcL), 18, lsL, [])
noncomputable def alL : Al := (18, 1, gsL, PL, fxL, ([(0, 0, 3072)], []), 0, true)
noncomputable def S1L : Sx := (21, ((1, 0, 3066) :: bdL, (-6, [(0, 1), (1, -1)]) :: fxL), kcL)
noncomputable def finL (S : Sx) (r : Option AV) : Bool := match r with
  | some (0, e) => eqv S.2.1 e (leC 1)
  | _ => false
noncomputable def swL : List (Int32 × Nat) := [(0, 240), (1, 283), (2, 316), (3, 349), (4, 382), (5, 425), (6, 458), (7, 501), (8, 544), (9, 577), (10, 610), (11, 633), (12, 646), (13, 659), (14, 712), (15, 745), (16, 778), (17, 811), (18, 834), (19, 867), (20, 890), (21, 913), (22, 936), (23, 979), (24, 1002), (25, 1025), (26, 1058), (27, 1081), (28, 1134), (29, 1157), (30, 1190), (31, 1213), (32, 1246), (33, 1269), (34, 1302), (35, 1335), (36, 1358), (37, 1381), (38, 1404), (39, 1447), (40, 1490), (41, 1533), (42, 1596), (43, 1619), (44, 1642), (45, 1665), (46, 1678), (47, 1691)]
noncomputable def wsLw : List Wr := [(0, 0, 11, 12), (0, 1, 5, 6), (0, 2, 2, 2), (0, 3, 0, 23), (0, 4, 2, 2), (0, 5, 0, 139), (0, 6, 2, 2), (0, 7, 0, 239), (0, 8, 2, 2), (0, 9, 0, 1199), (0, 10, 2, 2), (0, 11, 0, 159), (0, 12, 5, 6), (0, 13, 2, 2), (0, 14, 0, 23), (0, 15, 2, 2), (0, 16, 0, 139), (0, 17, 2, 2), (0, 18, 0, 239), (0, 19, 2, 2), (0, 20, 0, 1199), (0, 21, 2, 2), (0, 22, 0, 159), (0, 23, 5, 6), (0, 24, 2, 2), (0, 25, 0, 23), (0, 26, 2, 2), (0, 27, 0, 139), (0, 28, 2, 2), (0, 29, 0, 239), (0, 30, 2, 2), (0, 31, 0, 1199), (0, 32, 2, 2), (0, 33, 0, 159), (0, 35, 1, 1), (0, 36, 0, 95), (0, 38, 3, 4), (0, 39, 0, 29), (0, 40, 0, 9), (0, 41, 0, 9), (0, 42, 10, 12), (0, 43, 0, 9), (0, 44, 0, 9), (0, 45, 0, 9), (0, 46, 0, 2), (0, 47, 0, 2), (0, 48, 0, 9), (0, 49, 0, 9), (0, 50, 0, 10), (0, 51, 0, 110), (0, 52, 0, 10), (0, 53, 1, 1), (0, 54, 0, 95), (0, 55, 3, 11), (0, 56, 1, 1), (0, 57, 0, 95), (0, 58, 1, 1), (0, 59, 0, 95), (0, 61, 0, 3), (0, 62, 0, 3), (0, 64, 0, 59), (0, 65, 3, 3), (0, 65, 10, 11), (0, 65, 16, 26), (0, 65, 29, 31), (0, 65, 34, 34), (0, 66, 0, 3399), (0, 67, 0, 3399), (0, 68, 0, 3399), (0, 69, 0, 3), (0, 70, 0, 3), (0, 72, 0, 9), (0, 73, 0, 9), (0, 74, 0, 2), (0, 75, 0, 29), (0, 76, 0, 9), (0, 77, 0, 9), (0, 78, 0, 95), (0, 79, 103, 119), (0, 80, 0, 99), (0, 82, 0, 59), (0, 83, 0, 59), (1, 63, 0, 95), (1, 71, 0, 119), (1, 81, 0, 23)]
set_option maxRecDepth 1000000 in
noncomputable def anL240 : List (Nat × List (Nat × An)) := []
set_option maxRecDepth 1000000 in
theorem lawc240 : ex rgT wsLw [] anL240 finL (fun S pc ls st => if Nat.beq pc 256 = true then some (lp rgT wsLw pm18 118 cdL 40 (fun S pc ls st => ex rgT wsLw [] anL240 finL noS 42 118 [] (cdL, some .boolean, anT anL240 1999) [alL] false (S, pc, ls, st)) S pc ls st) else none) 42 118 [] (cdL, some .boolean, anT anL240 1999) [alL] false (S1L, 240, lsL, []) = true := by decide +kernel
set_option maxRecDepth 1000000 in
noncomputable def anL283 : List (Nat × List (Nat × An)) := []
set_option maxRecDepth 1000000 in
theorem lawc283 : ex rgT wsLw [] anL283 finL (fun S pc ls st => if Nat.beq pc 294 = true then some (lp rgT wsLw pm20 118 cdL 40 (fun S pc ls st => ex rgT wsLw [] anL283 finL noS 37 118 [] (cdL, some .boolean, anT anL283 1999) [alL] false (S, pc, ls, st)) S pc ls st) else none) 37 118 [] (cdL, some .boolean, anT anL283 1999) [alL] false (S1L, 283, lsL, []) = true := by decide +kernel
set_option maxRecDepth 1000000 in
noncomputable def anL316 : List (Nat × List (Nat × An)) := []
set_option maxRecDepth 1000000 in
theorem lawc316 : ex rgT wsLw [] anL316 finL (fun S pc ls st => if Nat.beq pc 327 = true then some (lp rgT wsLw pm21 118 cdL 40 (fun S pc ls st => ex rgT wsLw [] anL316 finL noS 37 118 [] (cdL, some .boolean, anT anL316 1999) [alL] false (S, pc, ls, st)) S pc ls st) else none) 37 118 [] (cdL, some .boolean, anT anL316 1999) [alL] false (S1L, 316, lsL, []) = true := by decide +kernel
set_option maxRecDepth 1000000 in
noncomputable def anL349 : List (Nat × List (Nat × An)) := []
set_option maxRecDepth 1000000 in
theorem lawc349 : ex rgT wsLw [sm187, sm91] anL349 finL noS 50 118 [] (cdL, some .boolean, anT anL349 1999) [alL] false (S1L, 349, lsL, []) = true := by decide +kernel
set_option maxRecDepth 1000000 in
noncomputable def anL382 : List (Nat × List (Nat × An)) := []
set_option maxRecDepth 1000000 in
theorem lawc382 : ex rgT wsLw [] anL382 finL (fun S pc ls st => if Nat.beq pc 398 = true then some (lp rgT wsLw pm19 118 cdL 40 (fun S pc ls st => ex rgT wsLw [] anL382 finL noS 42 118 [] (cdL, some .boolean, anT anL382 1999) [alL] false (S, pc, ls, st)) S pc ls st) else none) 42 118 [] (cdL, some .boolean, anT anL382 1999) [alL] false (S1L, 382, lsL, []) = true := by decide +kernel
set_option maxRecDepth 1000000 in
noncomputable def anL425 : List (Nat × List (Nat × An)) := []
set_option maxRecDepth 1000000 in
theorem lawc425 : ex rgT wsLw [sm188, sm92] anL425 finL noS 50 118 [] (cdL, some .boolean, anT anL425 1999) [alL] false (S1L, 425, lsL, []) = true := by decide +kernel
set_option maxRecDepth 1000000 in
noncomputable def anL458 : List (Nat × List (Nat × An)) := []
set_option maxRecDepth 1000000 in
theorem lawc458 : ex rgT wsLw [] anL458 finL (fun S pc ls st => if Nat.beq pc 474 = true then some (lp rgT wsLw pm22 118 cdL 40 (fun S pc ls st => ex rgT wsLw [] anL458 finL noS 42 118 [] (cdL, some .boolean, anT anL458 1999) [alL] false (S, pc, ls, st)) S pc ls st) else none) 42 118 [] (cdL, some .boolean, anT anL458 1999) [alL] false (S1L, 458, lsL, []) = true := by decide +kernel
set_option maxRecDepth 1000000 in
noncomputable def anL501 : List (Nat × List (Nat × An)) := []
set_option maxRecDepth 1000000 in
theorem lawc501 : ex rgT wsLw [] anL501 finL (fun S pc ls st => if Nat.beq pc 517 = true then some (lp rgT wsLw pm13 118 cdL 40 (fun S pc ls st => ex rgT wsLw [] anL501 finL noS 42 118 [] (cdL, some .boolean, anT anL501 1999) [alL] false (S, pc, ls, st)) S pc ls st) else none) 42 118 [] (cdL, some .boolean, anT anL501 1999) [alL] false (S1L, 501, lsL, []) = true := by decide +kernel
set_option maxRecDepth 1000000 in
noncomputable def anL544 : List (Nat × List (Nat × An)) := []
set_option maxRecDepth 1000000 in
theorem lawc544 : ex rgT wsLw [] anL544 finL (fun S pc ls st => if Nat.beq pc 555 = true then some (lp rgT wsLw pm23 118 cdL 40 (fun S pc ls st => ex rgT wsLw [] anL544 finL noS 37 118 [] (cdL, some .boolean, anT anL544 1999) [alL] false (S, pc, ls, st)) S pc ls st) else none) 37 118 [] (cdL, some .boolean, anT anL544 1999) [alL] false (S1L, 544, lsL, []) = true := by decide +kernel
set_option maxRecDepth 1000000 in
noncomputable def anL577 : List (Nat × List (Nat × An)) := []
set_option maxRecDepth 1000000 in
theorem lawc577 : ex rgT wsLw [] anL577 finL (fun S pc ls st => if Nat.beq pc 588 = true then some (lp rgT wsLw pm12 118 cdL 40 (fun S pc ls st => ex rgT wsLw [] anL577 finL noS 37 118 [] (cdL, some .boolean, anT anL577 1999) [alL] false (S, pc, ls, st)) S pc ls st) else none) 37 118 [] (cdL, some .boolean, anT anL577 1999) [alL] false (S1L, 577, lsL, []) = true := by decide +kernel
set_option maxRecDepth 1000000 in
noncomputable def anL610 : List (Nat × List (Nat × An)) := []
set_option maxRecDepth 1000000 in
theorem lawc610 : ex rgT wsLw [] anL610 finL (fun S pc ls st => if Nat.beq pc 616 = true then some (lp rgT wsLw pm24 118 cdL 40 (fun S pc ls st => ex rgT wsLw [] anL610 finL noS 32 118 [] (cdL, some .boolean, anT anL610 1999) [alL] false (S, pc, ls, st)) S pc ls st) else none) 32 118 [] (cdL, some .boolean, anT anL610 1999) [alL] false (S1L, 610, lsL, []) = true := by decide +kernel
set_option maxRecDepth 1000000 in
noncomputable def anL633 : List (Nat × List (Nat × An)) := []
set_option maxRecDepth 1000000 in
theorem lawc633 : ex rgT wsLw [] anL633 finL (fun S pc ls st => if Nat.beq pc 634 = true then some (lp rgT wsLw pm45 118 cdL 40 (fun S pc ls st => ex rgT wsLw [] anL633 finL noS 27 118 [] (cdL, some .boolean, anT anL633 1999) [alL] false (S, pc, ls, st)) S pc ls st) else none) 27 118 [] (cdL, some .boolean, anT anL633 1999) [alL] false (S1L, 633, lsL, []) = true := by decide +kernel
set_option maxRecDepth 1000000 in
noncomputable def anL646 : List (Nat × List (Nat × An)) := []
set_option maxRecDepth 1000000 in
theorem lawc646 : ex rgT wsLw [] anL646 finL (fun S pc ls st => if Nat.beq pc 647 = true then some (lp rgT wsLw pm26 118 cdL 40 (fun S pc ls st => ex rgT wsLw [] anL646 finL noS 27 118 [] (cdL, some .boolean, anT anL646 1999) [alL] false (S, pc, ls, st)) S pc ls st) else none) 27 118 [] (cdL, some .boolean, anT anL646 1999) [alL] false (S1L, 646, lsL, []) = true := by decide +kernel
set_option maxRecDepth 1000000 in
noncomputable def anL659 : List (Nat × List (Nat × An)) := []
set_option maxRecDepth 1000000 in
theorem lawc659 : ex rgT wsLw [] anL659 finL (fun S pc ls st => if Nat.beq pc 680 = true then some (lp rgT wsLw pm31 118 cdL 40 (fun S pc ls st => ex rgT wsLw [] anL659 finL noS 47 118 [] (cdL, some .boolean, anT anL659 1999) [alL] false (S, pc, ls, st)) S pc ls st) else none) 47 118 [] (cdL, some .boolean, anT anL659 1999) [alL] false (S1L, 659, lsL, []) = true := by decide +kernel
set_option maxRecDepth 1000000 in
noncomputable def anL712 : List (Nat × List (Nat × An)) := []
set_option maxRecDepth 1000000 in
theorem lawc712 : ex rgT wsLw [] anL712 finL (fun S pc ls st => if Nat.beq pc 723 = true then some (lp rgT wsLw pm37 118 cdL 40 (fun S pc ls st => ex rgT wsLw [] anL712 finL noS 37 118 [] (cdL, some .boolean, anT anL712 1999) [alL] false (S, pc, ls, st)) S pc ls st) else none) 37 118 [] (cdL, some .boolean, anT anL712 1999) [alL] false (S1L, 712, lsL, []) = true := by decide +kernel
set_option maxRecDepth 1000000 in
noncomputable def anL745 : List (Nat × List (Nat × An)) := []
set_option maxRecDepth 1000000 in
theorem lawc745 : ex rgT wsLw [sm197, sm105] anL745 finL noS 50 118 [] (cdL, some .boolean, anT anL745 1999) [alL] false (S1L, 745, lsL, []) = true := by decide +kernel
set_option maxRecDepth 1000000 in
noncomputable def anL778 : List (Nat × List (Nat × An)) := []
set_option maxRecDepth 1000000 in
theorem lawc778 : ex rgT wsLw [] anL778 finL (fun S pc ls st => if Nat.beq pc 789 = true then some (lp rgT wsLw pm38 118 cdL 40 (fun S pc ls st => ex rgT wsLw [] anL778 finL noS 37 118 [] (cdL, some .boolean, anT anL778 1999) [alL] false (S, pc, ls, st)) S pc ls st) else none) 37 118 [] (cdL, some .boolean, anT anL778 1999) [alL] false (S1L, 778, lsL, []) = true := by decide +kernel
set_option maxRecDepth 1000000 in
noncomputable def anL811 : List (Nat × List (Nat × An)) := []
set_option maxRecDepth 1000000 in
theorem lawc811 : ex rgT wsLw [] anL811 finL (fun S pc ls st => if Nat.beq pc 817 = true then some (lp rgT wsLw pm39 118 cdL 40 (fun S pc ls st => ex rgT wsLw [] anL811 finL noS 32 118 [] (cdL, some .boolean, anT anL811 1999) [alL] false (S, pc, ls, st)) S pc ls st) else none) 32 118 [] (cdL, some .boolean, anT anL811 1999) [alL] false (S1L, 811, lsL, []) = true := by decide +kernel
set_option maxRecDepth 1000000 in
noncomputable def anL834 : List (Nat × List (Nat × An)) := []
set_option maxRecDepth 1000000 in
theorem lawc834 : ex rgT wsLw [] anL834 finL (fun S pc ls st => if Nat.beq pc 845 = true then some (lp rgT wsLw pm14 118 cdL 40 (fun S pc ls st => ex rgT wsLw [] anL834 finL noS 37 118 [] (cdL, some .boolean, anT anL834 1999) [alL] false (S, pc, ls, st)) S pc ls st) else none) 37 118 [] (cdL, some .boolean, anT anL834 1999) [alL] false (S1L, 834, lsL, []) = true := by decide +kernel
set_option maxRecDepth 1000000 in
noncomputable def anL867 : List (Nat × List (Nat × An)) := []
set_option maxRecDepth 1000000 in
theorem lawc867 : ex rgT wsLw [] anL867 finL (fun S pc ls st => if Nat.beq pc 873 = true then some (lp rgT wsLw pm42 118 cdL 40 (fun S pc ls st => ex rgT wsLw [] anL867 finL noS 31 118 [] (cdL, some .boolean, anT anL867 1999) [alL] false (S, pc, ls, st)) S pc ls st) else none) 31 118 [] (cdL, some .boolean, anT anL867 1999) [alL] false (S1L, 867, lsL, []) = true := by decide +kernel
set_option maxRecDepth 1000000 in
noncomputable def anL890 : List (Nat × List (Nat × An)) := []
set_option maxRecDepth 1000000 in
theorem lawc890 : ex rgT wsLw [] anL890 finL (fun S pc ls st => if Nat.beq pc 896 = true then some (lp rgT wsLw pm40 118 cdL 40 (fun S pc ls st => ex rgT wsLw [] anL890 finL noS 32 118 [] (cdL, some .boolean, anT anL890 1999) [alL] false (S, pc, ls, st)) S pc ls st) else none) 32 118 [] (cdL, some .boolean, anT anL890 1999) [alL] false (S1L, 890, lsL, []) = true := by decide +kernel
set_option maxRecDepth 1000000 in
noncomputable def anL913 : List (Nat × List (Nat × An)) := []
set_option maxRecDepth 1000000 in
theorem lawc913 : ex rgT wsLw [sm204, sm123] anL913 finL noS 40 118 [] (cdL, some .boolean, anT anL913 1999) [alL] false (S1L, 913, lsL, []) = true := by decide +kernel
set_option maxRecDepth 1000000 in
noncomputable def anL936 : List (Nat × List (Nat × An)) := []
set_option maxRecDepth 1000000 in
theorem lawc936 : ex rgT wsLw [] anL936 finL noS 923 118 [] (cdL, some .boolean, anT anL936 1999) [alL] false (S1L, 936, lsL, []) = true := by decide +kernel
set_option maxRecDepth 1000000 in
noncomputable def anL979 : List (Nat × List (Nat × An)) := []
set_option maxRecDepth 1000000 in
theorem lawc979 : ex rgT wsLw [] anL979 finL noS 170 118 [] (cdL, some .boolean, anT anL979 1999) [alL] false (S1L, 979, lsL, []) = true := by decide +kernel
set_option maxRecDepth 1000000 in
noncomputable def anL1002 : List (Nat × List (Nat × An)) := []
set_option maxRecDepth 1000000 in
theorem lawc1002 : ex rgT wsLw [] anL1002 finL (fun S pc ls st => if Nat.beq pc 1008 = true then some (lp rgT wsLw pm44 118 cdL 40 (fun S pc ls st => ex rgT wsLw [] anL1002 finL noS 32 118 [] (cdL, some .boolean, anT anL1002 1999) [alL] false (S, pc, ls, st)) S pc ls st) else none) 32 118 [] (cdL, some .boolean, anT anL1002 1999) [alL] false (S1L, 1002, lsL, []) = true := by decide +kernel
set_option maxRecDepth 1000000 in
noncomputable def anL1025 : List (Nat × List (Nat × An)) := []
set_option maxRecDepth 1000000 in
theorem lawc1025 : ex rgT wsLw [sm206, sm126] anL1025 finL noS 50 118 [] (cdL, some .boolean, anT anL1025 1999) [alL] false (S1L, 1025, lsL, []) = true := by decide +kernel
set_option maxRecDepth 1000000 in
noncomputable def anL1058 : List (Nat × List (Nat × An)) := []
set_option maxRecDepth 1000000 in
theorem lawc1058 : ex rgT wsLw [] anL1058 finL (fun S pc ls st => if Nat.beq pc 1064 = true then some (lp rgT wsLw pm28 118 cdL 40 (fun S pc ls st => ex rgT wsLw [] anL1058 finL noS 32 118 [] (cdL, some .boolean, anT anL1058 1999) [alL] false (S, pc, ls, st)) S pc ls st) else none) 32 118 [] (cdL, some .boolean, anT anL1058 1999) [alL] false (S1L, 1058, lsL, []) = true := by decide +kernel
set_option maxRecDepth 1000000 in
noncomputable def anL1081 : List (Nat × List (Nat × An)) := []
set_option maxRecDepth 1000000 in
theorem lawc1081 : ex rgT wsLw [sm209, sm128] anL1081 finL noS 70 118 [] (cdL, some .boolean, anT anL1081 1999) [alL] false (S1L, 1081, lsL, []) = true := by decide +kernel
set_option maxRecDepth 1000000 in
noncomputable def anL1134 : List (Nat × List (Nat × An)) := []
set_option maxRecDepth 1000000 in
theorem lawc1134 : ex rgT wsLw [] anL1134 finL (fun S pc ls st => if Nat.beq pc 1140 = true then some (lp rgT wsLw pm29 118 cdL 40 (fun S pc ls st => ex rgT wsLw [] anL1134 finL noS 32 118 [] (cdL, some .boolean, anT anL1134 1999) [alL] false (S, pc, ls, st)) S pc ls st) else none) 32 118 [] (cdL, some .boolean, anT anL1134 1999) [alL] false (S1L, 1134, lsL, []) = true := by decide +kernel
set_option maxRecDepth 1000000 in
noncomputable def anL1157 : List (Nat × List (Nat × An)) := []
set_option maxRecDepth 1000000 in
theorem lawc1157 : ex rgT wsLw [] anL1157 finL (fun S pc ls st => if Nat.beq pc 1168 = true then some (lp rgT wsLw pm30 118 cdL 40 (fun S pc ls st => ex rgT wsLw [] anL1157 finL noS 37 118 [] (cdL, some .boolean, anT anL1157 1999) [alL] false (S, pc, ls, st)) S pc ls st) else none) 37 118 [] (cdL, some .boolean, anT anL1157 1999) [alL] false (S1L, 1157, lsL, []) = true := by decide +kernel
set_option maxRecDepth 1000000 in
noncomputable def anL1190 : List (Nat × List (Nat × An)) := []
set_option maxRecDepth 1000000 in
theorem lawc1190 : ex rgT wsLw [] anL1190 finL (fun S pc ls st => if Nat.beq pc 1196 = true then some (lp rgT wsLw pm32 118 cdL 40 (fun S pc ls st => ex rgT wsLw [] anL1190 finL noS 32 118 [] (cdL, some .boolean, anT anL1190 1999) [alL] false (S, pc, ls, st)) S pc ls st) else none) 32 118 [] (cdL, some .boolean, anT anL1190 1999) [alL] false (S1L, 1190, lsL, []) = true := by decide +kernel
set_option maxRecDepth 1000000 in
noncomputable def anL1213 : List (Nat × List (Nat × An)) := []
set_option maxRecDepth 1000000 in
theorem lawc1213 : ex rgT wsLw [] anL1213 finL (fun S pc ls st => if Nat.beq pc 1224 = true then some (lp rgT wsLw pm33 118 cdL 40 (fun S pc ls st => ex rgT wsLw [] anL1213 finL noS 37 118 [] (cdL, some .boolean, anT anL1213 1999) [alL] false (S, pc, ls, st)) S pc ls st) else none) 37 118 [] (cdL, some .boolean, anT anL1213 1999) [alL] false (S1L, 1213, lsL, []) = true := by decide +kernel
set_option maxRecDepth 1000000 in
noncomputable def anL1246 : List (Nat × List (Nat × An)) := []
set_option maxRecDepth 1000000 in
theorem lawc1246 : ex rgT wsLw [] anL1246 finL (fun S pc ls st => if Nat.beq pc 1252 = true then some (lp rgT wsLw pm34 118 cdL 40 (fun S pc ls st => ex rgT wsLw [] anL1246 finL noS 32 118 [] (cdL, some .boolean, anT anL1246 1999) [alL] false (S, pc, ls, st)) S pc ls st) else none) 32 118 [] (cdL, some .boolean, anT anL1246 1999) [alL] false (S1L, 1246, lsL, []) = true := by decide +kernel
set_option maxRecDepth 1000000 in
noncomputable def anL1269 : List (Nat × List (Nat × An)) := []
set_option maxRecDepth 1000000 in
theorem lawc1269 : ex rgT wsLw [] anL1269 finL (fun S pc ls st => if Nat.beq pc 1280 = true then some (lp rgT wsLw pm35 118 cdL 40 (fun S pc ls st => ex rgT wsLw [] anL1269 finL noS 37 118 [] (cdL, some .boolean, anT anL1269 1999) [alL] false (S, pc, ls, st)) S pc ls st) else none) 37 118 [] (cdL, some .boolean, anT anL1269 1999) [alL] false (S1L, 1269, lsL, []) = true := by decide +kernel
set_option maxRecDepth 1000000 in
noncomputable def anL1302 : List (Nat × List (Nat × An)) := []
set_option maxRecDepth 1000000 in
theorem lawc1302 : ex rgT wsLw [] anL1302 finL (fun S pc ls st => if Nat.beq pc 1313 = true then some (lp rgT wsLw pm36 118 cdL 40 (fun S pc ls st => ex rgT wsLw [] anL1302 finL noS 37 118 [] (cdL, some .boolean, anT anL1302 1999) [alL] false (S, pc, ls, st)) S pc ls st) else none) 37 118 [] (cdL, some .boolean, anT anL1302 1999) [alL] false (S1L, 1302, lsL, []) = true := by decide +kernel
set_option maxRecDepth 1000000 in
noncomputable def anL1335 : List (Nat × List (Nat × An)) := []
set_option maxRecDepth 1000000 in
theorem lawc1335 : ex rgT wsLw [] anL1335 finL (fun S pc ls st => if Nat.beq pc 1341 = true then some (lp rgT wsLw pm41 118 cdL 40 (fun S pc ls st => ex rgT wsLw [] anL1335 finL noS 47 118 [] (cdL, some .boolean, anT anL1335 1999) [alL] false (S, pc, ls, st)) S pc ls st) else none) 47 118 [] (cdL, some .boolean, anT anL1335 1999) [alL] false (S1L, 1335, lsL, []) = true := by decide +kernel
set_option maxRecDepth 1000000 in
noncomputable def anL1358 : List (Nat × List (Nat × An)) := []
set_option maxRecDepth 1000000 in
theorem lawc1358 : ex rgT wsLw [] anL1358 finL noS 167 118 [] (cdL, some .boolean, anT anL1358 1999) [alL] false (S1L, 1358, lsL, []) = true := by decide +kernel
set_option maxRecDepth 1000000 in
noncomputable def anL1381 : List (Nat × List (Nat × An)) := []
set_option maxRecDepth 1000000 in
theorem lawc1381 : ex rgT wsLw [] anL1381 finL (fun S pc ls st => if Nat.beq pc 1387 = true then some (lp rgT wsLw pm43 118 cdL 40 (fun S pc ls st => ex rgT wsLw [] anL1381 finL noS 32 118 [] (cdL, some .boolean, anT anL1381 1999) [alL] false (S, pc, ls, st)) S pc ls st) else none) 32 118 [] (cdL, some .boolean, anT anL1381 1999) [alL] false (S1L, 1381, lsL, []) = true := by decide +kernel
set_option maxRecDepth 1000000 in
noncomputable def anL1404 : List (Nat × List (Nat × An)) := []
set_option maxRecDepth 1000000 in
theorem lawc1404 : ex rgT wsLw [sm223, sm150] anL1404 finL noS 60 118 [] (cdL, some .boolean, anT anL1404 1999) [alL] false (S1L, 1404, lsL, []) = true := by decide +kernel
set_option maxRecDepth 1000000 in
noncomputable def anL1447 : List (Nat × List (Nat × An)) := []
set_option maxRecDepth 1000000 in
theorem lawc1447 : ex rgT wsLw [sm224, sm152] anL1447 finL noS 60 118 [] (cdL, some .boolean, anT anL1447 1999) [alL] false (S1L, 1447, lsL, []) = true := by decide +kernel
set_option maxRecDepth 1000000 in
noncomputable def anL1490 : List (Nat × List (Nat × An)) := []
set_option maxRecDepth 1000000 in
theorem lawc1490 : ex rgT wsLw [sm225, sm153] anL1490 finL noS 60 118 [] (cdL, some .boolean, anT anL1490 1999) [alL] false (S1L, 1490, lsL, []) = true := by decide +kernel
set_option maxRecDepth 1000000 in
noncomputable def anL1533 : List (Nat × List (Nat × An)) := []
set_option maxRecDepth 1000000 in
theorem lawc1533 : ex rgT wsLw [sm226, sm155] anL1533 finL noS 80 118 [] (cdL, some .boolean, anT anL1533 1999) [alL] false (S1L, 1533, lsL, []) = true := by decide +kernel
set_option maxRecDepth 1000000 in
noncomputable def anL1596 : List (Nat × List (Nat × An)) := []
set_option maxRecDepth 1000000 in
theorem lawc1596 : ex rgT wsLw [sm227, sm157] anL1596 finL noS 40 118 [] (cdL, some .boolean, anT anL1596 1999) [alL] false (S1L, 1596, lsL, []) = true := by decide +kernel
set_option maxRecDepth 1000000 in
noncomputable def anL1619 : List (Nat × List (Nat × An)) := []
set_option maxRecDepth 1000000 in
theorem lawc1619 : ex rgT wsLw [] anL1619 finL noS 101 118 [] (cdL, some .boolean, anT anL1619 1999) [alL] false (S1L, 1619, lsL, []) = true := by decide +kernel
set_option maxRecDepth 1000000 in
noncomputable def anL1642 : List (Nat × List (Nat × An)) := []
set_option maxRecDepth 1000000 in
theorem lawc1642 : ex rgT wsLw [sm229, sm178] anL1642 finL noS 40 118 [] (cdL, some .boolean, anT anL1642 1999) [alL] false (S1L, 1642, lsL, []) = true := by decide +kernel
set_option maxRecDepth 1000000 in
noncomputable def anL1665 : List (Nat × List (Nat × An)) := []
set_option maxRecDepth 1000000 in
theorem lawc1665 : ex rgT wsLw [sm232, sm_setAside_66_67r] anL1665 finL noS 56 118 [] (cdL, some .boolean, anT anL1665 1999) [alL] false (S1L, 1665, lsL, []) = true := by decide +kernel
set_option maxRecDepth 1000000 in
noncomputable def anL1678 : List (Nat × List (Nat × An)) := []
set_option maxRecDepth 1000000 in
theorem lawc1678 : ex rgT wsLw [sm233, sm_setAside_67_66r] anL1678 finL noS 71 118 [] (cdL, some .boolean, anT anL1678 1999) [alL] false (S1L, 1678, lsL, []) = true := by decide +kernel
set_option maxRecDepth 1000000 in
noncomputable def anL1691 : List (Nat × List (Nat × An)) := []
set_option maxRecDepth 1000000 in
theorem lawc1691 : ex rgT wsLw [sm230, sm181] anL1691 finL noS 40 118 [] (cdL, some .boolean, anT anL1691 1999) [alL] false (S1L, 1691, lsL, []) = true := by decide +kernel
set_option maxRecDepth 1000000 in
noncomputable def anL1714 : List (Nat × List (Nat × An)) := []
set_option maxRecDepth 1000000 in
theorem lawc1714 : ex rgT wsLw [] anL1714 finL noS 23 118 [] (cdL, some .boolean, anT anL1714 1999) [alL] false (S1L, 1714, lsL, []) = true := by decide +kernel
theorem swt_all {P : Nat → Prop} {x : Int32} {a : Nat} (ha : P a) : ∀ {sw : List (Int32 × Nat)}, (∀ q ∈ sw, P q.2) → P (swt sw a x)
  | [], _ => ha
  | (k, t) :: r, h => by
    unfold swt
    split
    · exact h (k, t) List.mem_cons_self
    · exact swt_all ha (fun q hq => h q (List.mem_cons_of_mem _ hq))
theorem law_case {X : Cf → Prop} {d : Nat} (hd : 118 ≤ d) {Q : Option Value → Hp → Prop} (hX : Clo (Call d) cdL (some .boolean) Q X) (hQ : ∀ h, Q (some (.int 1)) h) {T : List Sm} {AN : List (Nat × List (Nat × An))} {g pc : Nat} (hT : ∀ s ∈ T, SmOK rgT s) (hx : ex rgT wsLw T AN finL noS g 118 [] (cdL, some .boolean, anT AN 1999) [alL] false (S1L, pc, lsL, []) = true) {ρ : Nat → Int} {h h0 : Hp} {lc : Lc} (hA : AlOK rgT wsLw h0 ρ 21 X alL) (M : Mo rgT wsLw h0 ρ S1L h) (hL : LR ρ 21 lsL lc) : X (pc, lc, [], h) := by
  refine ex_sp (rg := rgT) (ws := wsLw) (h0 := h0) (Q0 := fun r _ => r = some (.int 1)) (ρ0 := ρ) (n0 := 0) (δ := 0) (fun s hs => (hT s hs).q) (fun ρ' S h r rv _ _ M hr hf => ?_) (X0 := fun _ => False) (fun _ _ _ _ _ _ _ _ _ _ _ _ _ q => by cases q) g 118 d [] (cdL, some .boolean, anT AN 1999) [alL] false _ ρ X Q _ hd hx Ag.rf (Nat.zero_le _) ⟨M, rfl, hL, rfl⟩ hX (fun al hal => ?_) (fun _ _ q => q.elim) (fun r h q => by rw [q]; exact hQ h)
  · unfold finL at hf
    split at hf
    · rename_i e
      obtain ⟨x, rfl, y, rfl, g⟩ := hr
      have h1 := eqv_sp M.1 hf
      rw [leV_C] at h1
      have g2 : leV ρ' e = y.toInt := g.2
      have : y = 1 := Int32.toInt_inj.mp (by rw [← g2, h1]; rfl)
      rw [this]
    · cases hf
  · rcases List.mem_cons.mp hal with rfl | hal
    · exact hA
    · cases hal
theorem law_pair {X : Cf → Prop} {d : Nat} (hd : 118 ≤ d) {Q : Option Value → Hp → Prop} (hX : Clo (Call d) cdL (some .boolean) Q X) (hQ : ∀ h, Q (some (.int 1)) h) {T : List Sm} {AN : List (Nat × List (Nat × An))} {g pc pq lwn : Nat} {p : Pm} (hp : PmOK rgT p) (hT : ∀ s ∈ T, SmOK rgT s) (hx : ex rgT wsLw T AN finL (fun S pc ls st => if Nat.beq pc pq = true then some (lp rgT wsLw p 118 cdL lwn (fun S pc ls st => ex rgT wsLw T AN finL noS g 118 [] (cdL, some .boolean, anT AN 1999) [alL] false (S, pc, ls, st)) S pc ls st) else none) g 118 [] (cdL, some .boolean, anT AN 1999) [alL] false (S1L, pc, lsL, []) = true) {ρ : Nat → Int} {h h0 : Hp} {lc : Lc} (hA : AlOK rgT wsLw h0 ρ 21 X alL) (M : Mo rgT wsLw h0 ρ S1L h) (hL : LR ρ 21 lsL lc) : X (pc, lc, [], h) := by
  have hF : ∀ (ρ' : Nat → Int) (S : Sx) (h : Hp) (r : Option AV) (rv : Option Value), Mo rgT wsLw h0 ρ' S h → rvO ρ' S.1 r rv → finL S r = true → rv = some (.int 1) := fun ρ' S h r rv M hr hf => by
    unfold finL at hf
    split at hf
    · rename_i e
      obtain ⟨x, rfl, y, rfl, g⟩ := hr
      have h1 := eqv_sp M.1 hf
      rw [leV_C] at h1
      have g2 : leV ρ' e = y.toInt := g.2
      have : y = 1 := Int32.toInt_inj.mp (by rw [← g2, h1]; rfl)
      rw [this]
    · cases hf
  refine ex_sp (rg := rgT) (ws := wsLw) (h0 := h0) (Q0 := fun r _ => r = some (.int 1)) (ρ0 := ρ) (n0 := 21) (δ := 0) (fun s hs => (hT s hs).q) (fun ρ' S h r rv _ _ M hr hf => hF ρ' S h r rv M hr hf) (X0 := X) (fun ρ1 S1 h1 pc1 ls1 st1 lc1 sc1 g1 g2 M1 L1 T1 hs => ?_) g 118 d [] (cdL, some .boolean, anT AN 1999) [alL] false _ ρ X Q _ hd hx Ag.rf (Nat.le_refl _) ⟨M, rfl, hL, rfl⟩ hX (fun al hal => ?_) (fun _ _ q => q) (fun r h q => by rw [q]; exact hQ h)
  · split at hs
    · refine lp_sp (rg := rgT) (ws := wsLw) (h0 := h0) (ρ0 := ρ) (n0 := 21) hX hp hd (fun ρ2 S2 h2 pc2 ls2 st2 lc2 sc2 k1 k2 M2 L2 T2 hk => ?_) (Option.some.inj hs) g1 g2 M1 L1 T1
      refine ex_sp (rg := rgT) (ws := wsLw) (h0 := h0) (Q0 := fun r _ => r = some (.int 1)) (ρ0 := ρ2) (n0 := 0) (δ := 0) (fun s hs => (hT s hs).q) (fun ρ' S h r rv _ _ M hr hf => hF ρ' S h r rv M hr hf) (X0 := fun _ => False) (fun _ _ _ _ _ _ _ _ _ _ _ _ _ q => by cases q) g 118 d [] (cdL, some .boolean, anT AN 1999) [alL] false _ ρ2 X Q _ hd hk Ag.rf (Nat.zero_le _) ⟨M2, rfl, L2, T2⟩ hX (fun al hal => ?_) (fun _ _ q => q.elim) (fun r h q => by rw [q]; exact hQ h)
      rcases List.mem_cons.mp hal with rfl | hal
      · exact hA.ext k1 k2
      · cases hal
    · cases hs
  · rcases List.mem_cons.mp hal with rfl | hal
    · exact hA
    · cases hal
set_option maxRecDepth 100000 in
theorem law_head {X : Cf → Prop} {d : Nat} (hd : 118 ≤ d) {Q : Option Value → Hp → Prop} (hX : Clo (Call d) cdL (some .boolean) Q X) (hQ : ∀ h, Q (some (.int 1)) h) {h0 : Hp} : ∀ (n : Nat) (ρ : Nat → Int) (z : Cf), Md rgT wsLw h0 ρ PL z → (3072 - ρ 1).toNat < n → X z := by
  intro n
  induction n with
  | zero => intro ρ z _ hz; omega
  | succ n ih =>
    intro ρ z M hz
    obtain ⟨pz, lc, st, h⟩ := z
    obtain ⟨M, hpc, hL, hS⟩ := M
    have hpc : pz = 18 := hpc
    have hS : st = [] := hS
    have hL : LR ρ 21 lsL lc := hL
    subst hpc hS
    have hA : AlOK rgT wsLw h0 ρ 21 X alL := by
      refine ⟨⟨fun q hq => ?_, fun f hf => absurd hf List.not_mem_nil⟩, by decide +kernel, by decide, rfl, fun ρ' z' _ hMd hmz => ih ρ' z' hMd ?_⟩
      · have hq : q ∈ ([(0, 0, 3072)] : List (Nat × Int × Int)) := hq
        rcases List.mem_cons.mp hq with rfl | hq
        · have := M.1.1 (0, 0, 3072) (List.mem_of_getElem? (i := 20) rfl)
          exact ⟨by decide, this.2⟩
        · cases hq
      · have hmz : (3072 - ρ' 1).toNat < (3072 - ρ 1).toNat := hmz
        omega
    obtain ⟨a, b, c, dd, rfl⟩ : ∃ a b c dd, lc = [a, b, c, dd] := by
      have hlen : 4 = lc.length := hL.1
      match lc, hlen with
      | [a, b, c, dd], _ => exact ⟨a, b, c, dd, rfl⟩
    obtain ⟨v0, e0, r0, rfl, g0⟩ := (hL.2 0).1 (2, (1300, [])) rfl
    obtain ⟨v1, e1, r1, rfl, g1⟩ := (hL.2 1).1 (2, (0, [])) rfl
    obtain ⟨v2, e2, r2, rfl, g2⟩ := (hL.2 2).1 (2, (65, [])) rfl
    obtain ⟨v3, e3, i, rfl, g3⟩ := (hL.2 3).1 (0, (0, [(1, 1)])) rfl
    have q0 : 1300 = r0 := Int.ofNat.inj (Prod.mk.inj g0).1
    have q1 : 0 = r1 := Int.ofNat.inj (Prod.mk.inj g1).1
    have q2 : 65 = r2 := Int.ofNat.inj (Prod.mk.inj g2).1
    subst q0 q1 q2
    have k0 : a = some (.ref 1300) := Option.some.inj e0
    have k1 : b = some (.ref 0) := Option.some.inj e1
    have k2 : c = some (.ref 65) := Option.some.inj e2
    have k3 : dd = some (.int i) := Option.some.inj e3
    clear e0 e1 e2 e3
    subst k0 k1 k2 k3
    have ei : ρ 1 = i.toInt := by
      have := g3.2
      have e : leV ρ (0, [(1, 1)]) = 0 + (1 * ρ 1 + 0) := rfl
      rw [e] at this
      omega
    have eL : ρ 0 = (h.2.2.1 : Int) := by
      have w := (M.2.1 (2, 1300, (0, []), (0, [(0, 1)])) (List.mem_of_getElem? (i := 4) rfl)).2.2
      have w : leV ρ (0, [(0, 1)]) = (h.2.2.1 : Int) := w
      have e : leV ρ (0, [(0, 1)]) = 0 + (1 * ρ 0 + 0) := rfl
      rw [e] at w
      omega
    have bL := (M.1.1 (0, 0, 3072) (List.mem_of_getElem? (i := 20) rfl)).2
    have bi := (M.1.1 (1, 0, 3072) (List.mem_of_getElem? (i := 0) rfl)).2
    dsimp only at bL bi
    refine go hX 6 (gs := [True, True, True, True, True, True]) (z' := (if nI (aln h 1300) - 6 < i then 1720 else 27, [some (.ref 1300), some (.ref 0), some (.ref 65), some (.int i)], [], h)) rfl ⟨trivial, trivial, trivial, trivial, trivial, trivial, trivial⟩ ?_
    have ea : aln h 1300 = h.2.2.1 := rfl
    refine br (fun hc => ?_) (fun hc => ?_)
    · refine go hX 1 (gs := [True]) (z' := (1721, [some (.ref 1300), some (.ref 0), some (.ref 65), some (.int i)], [.int 1], h)) rfl ⟨trivial, trivial⟩ ?_
      exact rt_ hX (G := isB 1) (r := some (.int 1)) rfl isB1 (hQ h)
    · have c6 : (6 : Int32).toInt = 6 := rfl
      have c0 : (0 : Int32).toInt = 0 := rfl
      have e6 : (nI (aln h 1300) - 6).toInt = (h.2.2.1 : Int) - 6 := by
        rw [Int32.toInt_sub, c6, ea, nI_toInt (by omega), b32 (by omega) (by omega)]
      have hle : i.toInt ≤ (h.2.2.1 : Int) - 6 := by
        rw [Int32.lt_iff_toInt_lt, e6] at hc
        omega
      have M1 : Mo rgT wsLw h0 ρ S1L h := by
        refine ⟨⟨fun q hq => ?_, fun f hf => ?_⟩, M.2⟩
        · rcases List.mem_cons.mp hq with rfl | hq
          · exact ⟨by decide, by show (0 : Int) ≤ ρ 1; omega, by show ρ 1 ≤ 3066; omega⟩
          · exact M.1.1 q hq
        · rcases List.mem_cons.mp hf with rfl | hf
          · refine ⟨scB_S (by decide), ?_⟩
            show 0 ≤ -6 + (1 * ρ 0 + (-1 * ρ 1 + 0))
            omega
          · exact M.1.2 f hf
      refine go hX 6 (gs := [True, True, True, ibd i (aln h 1300), True, True]) (z' := (swt swL 1714 (agt h 1300 i &&& 63), [some (.ref 1300), some (.ref 0), some (.ref 65), some (.int i)], [], h)) rfl ⟨trivial, trivial, trivial, ⟨?_, ?_⟩, trivial, trivial, trivial⟩ ?_
      · rw [Int32.le_iff_toInt_le, c0]
        omega
      · rw [Int32.lt_iff_toInt_lt, ea, nI_toInt (by omega)]
        omega
      refine swt_all (P := fun pc => X (pc, [some (.ref 1300), some (.ref 0), some (.ref 65), some (.int i)], [], h)) ?_ ?_
      · exact law_case hd hX hQ (fun _ h => absurd h List.not_mem_nil) lawc1714 hA M1 hL
      · exact List.forall_mem_cons.mpr ⟨law_pair hd hX hQ okP18 (fun _ h => absurd h List.not_mem_nil) lawc240 hA M1 hL, List.forall_mem_cons.mpr ⟨law_pair hd hX hQ okP20 (fun _ h => absurd h List.not_mem_nil) lawc283 hA M1 hL, List.forall_mem_cons.mpr ⟨law_pair hd hX hQ okP21 (fun _ h => absurd h List.not_mem_nil) lawc316 hA M1 hL, List.forall_mem_cons.mpr ⟨law_case hd hX hQ (List.forall_mem_cons.mpr ⟨ok187, List.forall_mem_cons.mpr ⟨ok91, fun _ h => absurd h List.not_mem_nil⟩⟩) lawc349 hA M1 hL, List.forall_mem_cons.mpr ⟨law_pair hd hX hQ okP19 (fun _ h => absurd h List.not_mem_nil) lawc382 hA M1 hL, List.forall_mem_cons.mpr ⟨law_case hd hX hQ (List.forall_mem_cons.mpr ⟨ok188, List.forall_mem_cons.mpr ⟨ok92, fun _ h => absurd h List.not_mem_nil⟩⟩) lawc425 hA M1 hL, List.forall_mem_cons.mpr ⟨law_pair hd hX hQ okP22 (fun _ h => absurd h List.not_mem_nil) lawc458 hA M1 hL, List.forall_mem_cons.mpr ⟨law_pair hd hX hQ okP13 (fun _ h => absurd h List.not_mem_nil) lawc501 hA M1 hL, List.forall_mem_cons.mpr ⟨law_pair hd hX hQ okP23 (fun _ h => absurd h List.not_mem_nil) lawc544 hA M1 hL, List.forall_mem_cons.mpr ⟨law_pair hd hX hQ okP12 (fun _ h => absurd h List.not_mem_nil) lawc577 hA M1 hL, List.forall_mem_cons.mpr ⟨law_pair hd hX hQ okP24 (fun _ h => absurd h List.not_mem_nil) lawc610 hA M1 hL, List.forall_mem_cons.mpr ⟨law_pair hd hX hQ okP45 (fun _ h => absurd h List.not_mem_nil) lawc633 hA M1 hL, List.forall_mem_cons.mpr ⟨law_pair hd hX hQ okP26 (fun _ h => absurd h List.not_mem_nil) lawc646 hA M1 hL, List.forall_mem_cons.mpr ⟨law_pair hd hX hQ okP31 (fun _ h => absurd h List.not_mem_nil) lawc659 hA M1 hL, List.forall_mem_cons.mpr ⟨law_pair hd hX hQ okP37 (fun _ h => absurd h List.not_mem_nil) lawc712 hA M1 hL, List.forall_mem_cons.mpr ⟨law_case hd hX hQ (List.forall_mem_cons.mpr ⟨ok197, List.forall_mem_cons.mpr ⟨ok105, fun _ h => absurd h List.not_mem_nil⟩⟩) lawc745 hA M1 hL, List.forall_mem_cons.mpr ⟨law_pair hd hX hQ okP38 (fun _ h => absurd h List.not_mem_nil) lawc778 hA M1 hL, List.forall_mem_cons.mpr ⟨law_pair hd hX hQ okP39 (fun _ h => absurd h List.not_mem_nil) lawc811 hA M1 hL, List.forall_mem_cons.mpr ⟨law_pair hd hX hQ okP14 (fun _ h => absurd h List.not_mem_nil) lawc834 hA M1 hL, List.forall_mem_cons.mpr ⟨law_pair hd hX hQ okP42 (fun _ h => absurd h List.not_mem_nil) lawc867 hA M1 hL, List.forall_mem_cons.mpr ⟨law_pair hd hX hQ okP40 (fun _ h => absurd h List.not_mem_nil) lawc890 hA M1 hL, List.forall_mem_cons.mpr ⟨law_case hd hX hQ (List.forall_mem_cons.mpr ⟨ok204, List.forall_mem_cons.mpr ⟨ok123, fun _ h => absurd h List.not_mem_nil⟩⟩) lawc913 hA M1 hL, List.forall_mem_cons.mpr ⟨law_case hd hX hQ (fun _ h => absurd h List.not_mem_nil) lawc936 hA M1 hL, List.forall_mem_cons.mpr ⟨law_case hd hX hQ (fun _ h => absurd h List.not_mem_nil) lawc979 hA M1 hL, List.forall_mem_cons.mpr ⟨law_pair hd hX hQ okP44 (fun _ h => absurd h List.not_mem_nil) lawc1002 hA M1 hL, List.forall_mem_cons.mpr ⟨law_case hd hX hQ (List.forall_mem_cons.mpr ⟨ok206, List.forall_mem_cons.mpr ⟨ok126, fun _ h => absurd h List.not_mem_nil⟩⟩) lawc1025 hA M1 hL, List.forall_mem_cons.mpr ⟨law_pair hd hX hQ okP28 (fun _ h => absurd h List.not_mem_nil) lawc1058 hA M1 hL, List.forall_mem_cons.mpr ⟨law_case hd hX hQ (List.forall_mem_cons.mpr ⟨ok209, List.forall_mem_cons.mpr ⟨ok128, fun _ h => absurd h List.not_mem_nil⟩⟩) lawc1081 hA M1 hL, List.forall_mem_cons.mpr ⟨law_pair hd hX hQ okP29 (fun _ h => absurd h List.not_mem_nil) lawc1134 hA M1 hL, List.forall_mem_cons.mpr ⟨law_pair hd hX hQ okP30 (fun _ h => absurd h List.not_mem_nil) lawc1157 hA M1 hL, List.forall_mem_cons.mpr ⟨law_pair hd hX hQ okP32 (fun _ h => absurd h List.not_mem_nil) lawc1190 hA M1 hL, List.forall_mem_cons.mpr ⟨law_pair hd hX hQ okP33 (fun _ h => absurd h List.not_mem_nil) lawc1213 hA M1 hL, List.forall_mem_cons.mpr ⟨law_pair hd hX hQ okP34 (fun _ h => absurd h List.not_mem_nil) lawc1246 hA M1 hL, List.forall_mem_cons.mpr ⟨law_pair hd hX hQ okP35 (fun _ h => absurd h List.not_mem_nil) lawc1269 hA M1 hL, List.forall_mem_cons.mpr ⟨law_pair hd hX hQ okP36 (fun _ h => absurd h List.not_mem_nil) lawc1302 hA M1 hL, List.forall_mem_cons.mpr ⟨law_pair hd hX hQ okP41 (fun _ h => absurd h List.not_mem_nil) lawc1335 hA M1 hL, List.forall_mem_cons.mpr ⟨law_case hd hX hQ (fun _ h => absurd h List.not_mem_nil) lawc1358 hA M1 hL, List.forall_mem_cons.mpr ⟨law_pair hd hX hQ okP43 (fun _ h => absurd h List.not_mem_nil) lawc1381 hA M1 hL, List.forall_mem_cons.mpr ⟨law_case hd hX hQ (List.forall_mem_cons.mpr ⟨ok223, List.forall_mem_cons.mpr ⟨ok150, fun _ h => absurd h List.not_mem_nil⟩⟩) lawc1404 hA M1 hL, List.forall_mem_cons.mpr ⟨law_case hd hX hQ (List.forall_mem_cons.mpr ⟨ok224, List.forall_mem_cons.mpr ⟨ok152, fun _ h => absurd h List.not_mem_nil⟩⟩) lawc1447 hA M1 hL, List.forall_mem_cons.mpr ⟨law_case hd hX hQ (List.forall_mem_cons.mpr ⟨ok225, List.forall_mem_cons.mpr ⟨ok153, fun _ h => absurd h List.not_mem_nil⟩⟩) lawc1490 hA M1 hL, List.forall_mem_cons.mpr ⟨law_case hd hX hQ (List.forall_mem_cons.mpr ⟨ok226, List.forall_mem_cons.mpr ⟨ok155, fun _ h => absurd h List.not_mem_nil⟩⟩) lawc1533 hA M1 hL, List.forall_mem_cons.mpr ⟨law_case hd hX hQ (List.forall_mem_cons.mpr ⟨ok227, List.forall_mem_cons.mpr ⟨ok157, fun _ h => absurd h List.not_mem_nil⟩⟩) lawc1596 hA M1 hL, List.forall_mem_cons.mpr ⟨law_case hd hX hQ (fun _ h => absurd h List.not_mem_nil) lawc1619 hA M1 hL, List.forall_mem_cons.mpr ⟨law_case hd hX hQ (List.forall_mem_cons.mpr ⟨ok229, List.forall_mem_cons.mpr ⟨ok178, fun _ h => absurd h List.not_mem_nil⟩⟩) lawc1642 hA M1 hL, List.forall_mem_cons.mpr ⟨law_case hd hX hQ (List.forall_mem_cons.mpr ⟨ok232, List.forall_mem_cons.mpr ⟨ok_setAside_66_67r, fun _ h => absurd h List.not_mem_nil⟩⟩) lawc1665 hA M1 hL, List.forall_mem_cons.mpr ⟨law_case hd hX hQ (List.forall_mem_cons.mpr ⟨ok233, List.forall_mem_cons.mpr ⟨ok_setAside_67_66r, fun _ h => absurd h List.not_mem_nil⟩⟩) lawc1678 hA M1 hL, List.forall_mem_cons.mpr ⟨law_case hd hX hQ (List.forall_mem_cons.mpr ⟨ok230, List.forall_mem_cons.mpr ⟨ok181, fun _ h => absurd h List.not_mem_nil⟩⟩) lawc1691 hA M1 hL, fun _ hq => absurd hq List.not_mem_nil⟩⟩⟩⟩⟩⟩⟩⟩⟩⟩⟩⟩⟩⟩⟩⟩⟩⟩⟩⟩⟩⟩⟩⟩⟩⟩⟩⟩⟩⟩⟩⟩⟩⟩⟩⟩⟩⟩⟩⟩⟩⟩⟩⟩⟩⟩⟩⟩
theorem law_X {X : Cf → Prop} {d : Nat} (hd : 118 ≤ d) {G : List Kb} {sc : Nat × (Nat → Int32)} (hsc : sc.1 ≤ 3072) (hG : rgT.all (rg0C G) = true) (hf : h0w G 66 4 = 0 ∧ h0w G 67 4 = 0 ∧ h0w G 66 0 = 0 ∧ h0w G 67 0 = 0) (hfx : h0w G 2 2 = 0 ∧ h0w G 66 1 = 0 ∧ h0w G 13 2 = 0 ∧ h0w G 67 1 = 0 ∧ h0w G 4 2 = 0 ∧ h0w G 66 2 = 0 ∧ h0w G 15 2 = 0 ∧ h0w G 67 2 = 0 ∧ h0w G 8 2 = 0 ∧ h0w G 66 4 = 0 ∧ h0w G 19 2 = 0 ∧ h0w G 67 4 = 0 ∧ h0w G 10 2 = 0 ∧ h0w G 66 5 = 0 ∧ h0w G 21 2 = 0 ∧ h0w G 67 5 = 0 ∧ h0w G 1 5 = 0 ∧ h0w G 12 5 = 0 ∧ h0w G 0 12 = 0 ∧ h0w G 65 3 = 0 ∧ h0w G 53 1 = 0 ∧ h0w G 65 16 = 0 ∧ h0w G 1 6 = 0 ∧ h0w G 66 6 = 0 ∧ h0w G 12 6 = 0 ∧ h0w G 67 6 = 0 ∧ h0w G 6 2 = 0 ∧ h0w G 66 3 = 0 ∧ h0w G 17 2 = 0 ∧ h0w G 67 3 = 0 ∧ h0w G 0 11 = 0 ∧ h0w G 65 34 = 0 ∧ rl0 G 0 = true ∧ rl0 G 5 = true ∧ rl0 G 16 = true ∧ rl0 G 21 = true ∧ rl0 G 32 = true ∧ rl0 G 37 = true ∧ rl0 G 48 = true ∧ rl0 G 53 = true ∧ rl0 G 64 = true ∧ rl0 G 69 = true ∧ rl0 G 80 = true ∧ rl0 G 85 = true ∧ rl0 G 96 = true ∧ rl0 G 101 = true ∧ rl0 G 112 = true ∧ rl0 G 117 = true ∧ rl0 G 128 = true ∧ rl0 G 133 = true ∧ rl0 G 144 = true ∧ rl0 G 149 = true ∧ rl0 G 208 = true ∧ rl0 G 213 = true ∧ rl0 G 224 = true ∧ rl0 G 229 = true ∧ rl0 G 240 = true ∧ rl0 G 245 = true ∧ rl0 G 256 = true ∧ rl0 G 261 = true ∧ rl0 G 288 = true ∧ rl0 G 293 = true ∧ rl0 G 304 = true ∧ rl0 G 309 = true ∧ rl0 G 320 = true ∧ rl0 G 325 = true ∧ rl0 G 336 = true ∧ rl0 G 341 = true ∧ rl0 G 352 = true ∧ rl0 G 357 = true ∧ rl0 G 368 = true ∧ rl0 G 373 = true ∧ rl0 G 384 = true ∧ rl0 G 389 = true ∧ rl0 G 400 = true ∧ rl0 G 405 = true ∧ rl0 G 416 = true ∧ rl0 G 421 = true ∧ rl0 G 432 = true ∧ rl0 G 437 = true ∧ rl0 G 448 = true ∧ rl0 G 453 = true ∧ rl0 G 464 = true ∧ rl0 G 469 = true ∧ rl0 G 480 = true ∧ rl0 G 485 = true ∧ rl0 G 512 = true ∧ rl0 G 517 = true ∧ rl0 G 528 = true ∧ rl0 G 533 = true ∧ rl0 G 544 = true ∧ rl0 G 549 = true ∧ rl0 G 560 = true ∧ rl0 G 565 = true ∧ rl0 G 576 = true ∧ rl0 G 581 = true ∧ rl0 G 592 = true ∧ rl0 G 597 = true ∧ rl0 G 2003 = true ∧ rl0 G 2005 = true ∧ rl0 G 2007 = true ∧ zr0 G 64 = true ∧ zr0 G 68 = true ∧ zr0 G 80 = true ∧ zr0 G 84 = true ∧ zr0 G 96 = true ∧ zr0 G 100 = true ∧ zr0 G 208 = true ∧ zr0 G 212 = true ∧ zr0 G 224 = true ∧ zr0 G 228 = true ∧ zr0 G 288 = true ∧ zr0 G 292 = true ∧ zr0 G 304 = true ∧ zr0 G 308 = true ∧ zr0 G 432 = true ∧ zr0 G 436 = true ∧ bg0 G 0 = true ∧ bg0 G 5 = true ∧ ub0 G 0 = true ∧ ub0 G 4 = true ∧ ub0 G 8 = true ∧ ub0 G 12 = true ∧ ub0 G 16 = true ∧ True ∧ hn0 G 0 = true ∧ hn0 G 0 = true ∧ ub0 G 1 = true ∧ ub0 G 5 = true ∧ ub0 G 9 = true ∧ ub0 G 13 = true ∧ ub0 G 17 = true ∧ True ∧ hn0 G 1 = true ∧ hn0 G 1 = true ∧ h0w G 74 0 = 0 ∧ h0w G 74 1 = 0 ∧ h0w G 74 2 = 0) {Q : Option Value → Hp → Prop} (hX : Clo (Call d) cdL (some .boolean) Q X) (hQ : ∀ h, Q (some (.int 1)) h) : X (16, lcK, [], HG G sc) := by
  obtain ⟨f1, f2, f3, f4⟩ := hf
  obtain ⟨x0, x1, x2, x3, x4, x5, x6, x7, x8, x9, x10, x11, x12, x13, x14, x15, x16, x17, x18, x19, x20, x21, x22, x23, x24, x25, x26, x27, x28, x29, x30, x31, x32, x33, x34, x35, x36, x37, x38, x39, x40, x41, x42, x43, x44, x45, x46, x47, x48, x49, x50, x51, x52, x53, x54, x55, x56, x57, x58, x59, x60, x61, x62, x63, x64, x65, x66, x67, x68, x69, x70, x71, x72, x73, x74, x75, x76, x77, x78, x79, x80, x81, x82, x83, x84, x85, x86, x87, x88, x89, x90, x91, x92, x93, x94, x95, x96, x97, x98, x99, x100, x101, x102, x103, x104, x105, x106, x107, x108, x109, x110, x111, x112, x113, x114, x115, x116, x117, x118, x119, x120, x121, x122, x123, x124, x125, x126, x127, x128, x129, x130, x131, x132, x133, x134, x135, x136, x137⟩ := hfx
  let ρ : Nat → Int := fun k => if k = 0 then (sc.1 : Int) else 0
  have M : Mo rgT wsLw (HG G sc) ρ PL.1 (HG G sc) := by
    refine ⟨⟨fun q hq => ?_, List.forall_mem_nil _⟩, fun c hc => ?_, rg0' hG, Frm.rf⟩
    · have hq : q ∈ ([(1, 0, 3072), (2, 0, 999), (3, 0, 999), (4, 0, 0), (5, 0, 0), (6, 0, 3), (7, 0, 3), (8, 0, 10), (9, 0, 10), (10, 0, 12), (11, 0, 12), (12, 0, 40), (13, 0, 40), (14, 0, 1), (15, 0, 96), (16, 0, 65535), (17, 0, 65535), (18, 0, 30), (19, 0, 30), (20, 0, 60), (0, 0, 3072)] : List (Nat × Int × Int)) := hq
      simp only [List.mem_cons, List.not_mem_nil, or_false] at hq
      rcases hq with rfl | rfl | rfl | rfl | rfl | rfl | rfl | rfl | rfl | rfl | rfl | rfl | rfl | rfl | rfl | rfl | rfl | rfl | rfl | rfl | rfl
      · exact ⟨by decide, by show (0 : Int) ≤ 0; omega, by show (0 : Int) ≤ 3072; omega⟩
      · exact ⟨by decide, by show (0 : Int) ≤ 0; omega, by show (0 : Int) ≤ 999; omega⟩
      · exact ⟨by decide, by show (0 : Int) ≤ 0; omega, by show (0 : Int) ≤ 999; omega⟩
      · exact ⟨by decide, by show (0 : Int) ≤ 0; omega, by show (0 : Int) ≤ 0; omega⟩
      · exact ⟨by decide, by show (0 : Int) ≤ 0; omega, by show (0 : Int) ≤ 0; omega⟩
      · exact ⟨by decide, by show (0 : Int) ≤ 0; omega, by show (0 : Int) ≤ 3; omega⟩
      · exact ⟨by decide, by show (0 : Int) ≤ 0; omega, by show (0 : Int) ≤ 3; omega⟩
      · exact ⟨by decide, by show (0 : Int) ≤ 0; omega, by show (0 : Int) ≤ 10; omega⟩
      · exact ⟨by decide, by show (0 : Int) ≤ 0; omega, by show (0 : Int) ≤ 10; omega⟩
      · exact ⟨by decide, by show (0 : Int) ≤ 0; omega, by show (0 : Int) ≤ 12; omega⟩
      · exact ⟨by decide, by show (0 : Int) ≤ 0; omega, by show (0 : Int) ≤ 12; omega⟩
      · exact ⟨by decide, by show (0 : Int) ≤ 0; omega, by show (0 : Int) ≤ 40; omega⟩
      · exact ⟨by decide, by show (0 : Int) ≤ 0; omega, by show (0 : Int) ≤ 40; omega⟩
      · exact ⟨by decide, by show (0 : Int) ≤ 0; omega, by show (0 : Int) ≤ 1; omega⟩
      · exact ⟨by decide, by show (0 : Int) ≤ 0; omega, by show (0 : Int) ≤ 96; omega⟩
      · exact ⟨by decide, by show (0 : Int) ≤ 0; omega, by show (0 : Int) ≤ 65535; omega⟩
      · exact ⟨by decide, by show (0 : Int) ≤ 0; omega, by show (0 : Int) ≤ 65535; omega⟩
      · exact ⟨by decide, by show (0 : Int) ≤ 0; omega, by show (0 : Int) ≤ 30; omega⟩
      · exact ⟨by decide, by show (0 : Int) ≤ 0; omega, by show (0 : Int) ≤ 30; omega⟩
      · exact ⟨by decide, by show (0 : Int) ≤ 0; omega, by show (0 : Int) ≤ 60; omega⟩
      · exact ⟨by decide, by show (0 : Int) ≤ (sc.1 : Int); omega, by show (sc.1 : Int) ≤ 3072; omega⟩
    · have hc : c ∈ ([(0, 66, (0, []), (0, [(2, 1)])), (0, 67, (0, []), (0, [(3, 1)])), (5, 66, (0, []), (0, [(4, 1)])), (5, 67, (0, []), (0, [(5, 1)])), (2, 1300, (0, []), (0, [(0, 1)])), (0, 2, (2, []), (0, [(6, 1)])), (0, 66, (1, []), (0, [(6, 1)])), (0, 13, (2, []), (0, [(7, 1)])), (0, 67, (1, []), (0, [(7, 1)])), (0, 4, (2, []), (0, [(8, 1)])), (0, 66, (2, []), (0, [(8, 1)])), (0, 15, (2, []), (0, [(9, 1)])), (0, 67, (2, []), (0, [(9, 1)])), (0, 8, (2, []), (0, [(10, 1)])), (0, 66, (4, []), (0, [(10, 1)])), (0, 19, (2, []), (0, [(11, 1)])), (0, 67, (4, []), (0, [(11, 1)])), (0, 10, (2, []), (0, [(12, 1)])), (0, 66, (5, []), (0, [(12, 1)])), (0, 21, (2, []), (0, [(13, 1)])), (0, 67, (5, []), (0, [(13, 1)])), (0, 1, (5, []), (0, [(2, 1)])), (0, 12, (5, []), (0, [(3, 1)])), (0, 0, (12, []), (0, [(14, 1)])), (0, 65, (3, []), (0, [(14, 1)])), (0, 53, (1, []), (0, [(15, 1)])), (0, 65, (16, []), (0, [(15, 1)])), (0, 1, (6, []), (0, [(16, 1)])), (0, 66, (6, []), (0, [(16, 1)])), (0, 12, (6, []), (0, [(17, 1)])), (0, 67, (6, []), (0, [(17, 1)])), (0, 6, (2, []), (0, [(18, 1)])), (0, 66, (3, []), (0, [(18, 1)])), (0, 17, (2, []), (0, [(19, 1)])), (0, 67, (3, []), (0, [(19, 1)])), (0, 0, (11, []), (0, [(20, 1)])), (0, 65, (34, []), (0, [(20, 1)])), (9, 0, (0, []), (0, [])), (9, 5, (0, []), (0, [])), (9, 16, (0, []), (0, [])), (9, 21, (0, []), (0, [])), (9, 32, (0, []), (0, [])), (9, 37, (0, []), (0, [])), (9, 48, (0, []), (0, [])), (9, 53, (0, []), (0, [])), (9, 64, (0, []), (0, [])), (9, 69, (0, []), (0, [])), (9, 80, (0, []), (0, [])), (9, 85, (0, []), (0, [])), (9, 96, (0, []), (0, [])), (9, 101, (0, []), (0, [])), (9, 112, (0, []), (0, [])), (9, 117, (0, []), (0, [])), (9, 128, (0, []), (0, [])), (9, 133, (0, []), (0, [])), (9, 144, (0, []), (0, [])), (9, 149, (0, []), (0, [])), (9, 208, (0, []), (0, [])), (9, 213, (0, []), (0, [])), (9, 224, (0, []), (0, [])), (9, 229, (0, []), (0, [])), (9, 240, (0, []), (0, [])), (9, 245, (0, []), (0, [])), (9, 256, (0, []), (0, [])), (9, 261, (0, []), (0, [])), (9, 288, (0, []), (0, [])), (9, 293, (0, []), (0, [])), (9, 304, (0, []), (0, [])), (9, 309, (0, []), (0, [])), (9, 320, (0, []), (0, [])), (9, 325, (0, []), (0, [])), (9, 336, (0, []), (0, [])), (9, 341, (0, []), (0, [])), (9, 352, (0, []), (0, [])), (9, 357, (0, []), (0, [])), (9, 368, (0, []), (0, [])), (9, 373, (0, []), (0, [])), (9, 384, (0, []), (0, [])), (9, 389, (0, []), (0, [])), (9, 400, (0, []), (0, [])), (9, 405, (0, []), (0, [])), (9, 416, (0, []), (0, [])), (9, 421, (0, []), (0, [])), (9, 432, (0, []), (0, [])), (9, 437, (0, []), (0, [])), (9, 448, (0, []), (0, [])), (9, 453, (0, []), (0, [])), (9, 464, (0, []), (0, [])), (9, 469, (0, []), (0, [])), (9, 480, (0, []), (0, [])), (9, 485, (0, []), (0, [])), (9, 512, (0, []), (0, [])), (9, 517, (0, []), (0, [])), (9, 528, (0, []), (0, [])), (9, 533, (0, []), (0, [])), (9, 544, (0, []), (0, [])), (9, 549, (0, []), (0, [])), (9, 560, (0, []), (0, [])), (9, 565, (0, []), (0, [])), (9, 576, (0, []), (0, [])), (9, 581, (0, []), (0, [])), (9, 592, (0, []), (0, [])), (9, 597, (0, []), (0, [])), (9, 2003, (0, []), (0, [])), (9, 2005, (0, []), (0, [])), (9, 2007, (0, []), (0, [])), (11, 64, (0, []), (0, [(6, 1)])), (11, 68, (0, []), (0, [(7, 1)])), (11, 80, (0, []), (0, [(6, 1)])), (11, 84, (0, []), (0, [(7, 1)])), (11, 96, (0, []), (0, [(6, 1)])), (11, 100, (0, []), (0, [(7, 1)])), (11, 208, (0, []), (0, [(8, 1)])), (11, 212, (0, []), (0, [(9, 1)])), (11, 224, (0, []), (0, [(8, 1)])), (11, 228, (0, []), (0, [(9, 1)])), (11, 288, (0, []), (0, [(8, 1)])), (11, 292, (0, []), (0, [(9, 1)])), (11, 304, (0, []), (0, [(8, 1)])), (11, 308, (0, []), (0, [(9, 1)])), (11, 432, (0, []), (0, [(18, 1)])), (11, 436, (0, []), (0, [(19, 1)])), (12, 0, (0, []), (0, [(8, 1)])), (12, 5, (0, []), (0, [(9, 1)])), (14, 0, (0, []), (0, [])), (14, 4, (0, []), (0, [])), (14, 8, (0, []), (0, [])), (14, 12, (0, []), (0, [])), (14, 16, (0, []), (0, [(2, 10)])), (15, 0, (0, []), (0, [(10, 1)])), (16, 0, (0, []), (0, [])), (17, 0, (0, []), ((-1), [])), (14, 1, (0, []), (0, [])), (14, 5, (0, []), (0, [])), (14, 9, (0, []), (0, [])), (14, 13, (0, []), (0, [])), (14, 17, (0, []), (0, [(3, 10)])), (15, 5, (0, []), (0, [(11, 1)])), (16, 1, (0, []), (0, [])), (17, 1, (0, []), ((-1), [])), (0, 74, (0, []), (0, [])), (0, 74, (1, []), (0, [])), (0, 74, (2, []), (0, []))] : List Kc) := hc
      simp only [List.mem_cons, List.not_mem_nil, or_false] at hc
      have s0 : leS PL.1.1 ((0, []) : LE) := leS_C (c := 0)
      have e0 : leV ρ ((0, []) : LE) = 0 := leV_C ρ 0
      have c0 : (0 : Int32).toInt = 0 := rfl
      rcases hc with rfl | rfl | rfl | rfl | rfl | rfl | rfl | rfl | rfl | rfl | rfl | rfl | rfl | rfl | rfl | rfl | rfl | rfl | rfl | rfl | rfl | rfl | rfl | rfl | rfl | rfl | rfl | rfl | rfl | rfl | rfl | rfl | rfl | rfl | rfl | rfl | rfl | rfl | rfl | rfl | rfl | rfl | rfl | rfl | rfl | rfl | rfl | rfl | rfl | rfl | rfl | rfl | rfl | rfl | rfl | rfl | rfl | rfl | rfl | rfl | rfl | rfl | rfl | rfl | rfl | rfl | rfl | rfl | rfl | rfl | rfl | rfl | rfl | rfl | rfl | rfl | rfl | rfl | rfl | rfl | rfl | rfl | rfl | rfl | rfl | rfl | rfl | rfl | rfl | rfl | rfl | rfl | rfl | rfl | rfl | rfl | rfl | rfl | rfl | rfl | rfl | rfl | rfl | rfl | rfl | rfl | rfl | rfl | rfl | rfl | rfl | rfl | rfl | rfl | rfl | rfl | rfl | rfl | rfl | rfl | rfl | rfl | rfl | rfl | rfl | rfl | rfl | rfl | rfl | rfl | rfl | rfl | rfl | rfl | rfl | rfl | rfl | rfl | rfl | rfl | rfl | rfl | rfl
      · refine ⟨s0, leS_X (k := 2) (by decide), 0, by dsimp only; rw [e0, c0], ?_⟩
        show leV ρ (leX 2) = ((HG G sc).1 66 0).toInt
        rw [leV_X, HG_1, f3]
        rfl
      · refine ⟨s0, leS_X (k := 3) (by decide), 0, by dsimp only; rw [e0, c0], ?_⟩
        show leV ρ (leX 3) = ((HG G sc).1 67 0).toInt
        rw [leV_X, HG_1, f4]
        rfl
      · exact ⟨s0, leS_X (k := 4) (by decide), leV_X ρ 4, wfx0 f1⟩
      · exact ⟨s0, leS_X (k := 5) (by decide), leV_X ρ 5, wfx0 f2⟩
      · refine ⟨s0, leS_X (k := 0) (by decide), ?_⟩
        show leV ρ (leX 0) = ((HG G sc).2.2.1 : Int)
        rw [leV_X]
        rfl
      · refine ⟨leS_C (c := 2), leS_X (k := 6) (by decide), 2, by show leV ρ (leC 2) = (2 : Int32).toInt; rw [leV_C]; rfl, ?_⟩
        show leV ρ (leX 6) = ((HG G sc).1 2 2).toInt
        rw [leV_X, HG_1, x0]
        rfl
      · refine ⟨leS_C (c := 1), leS_X (k := 6) (by decide), 1, by show leV ρ (leC 1) = (1 : Int32).toInt; rw [leV_C]; rfl, ?_⟩
        show leV ρ (leX 6) = ((HG G sc).1 66 1).toInt
        rw [leV_X, HG_1, x1]
        rfl
      · refine ⟨leS_C (c := 2), leS_X (k := 7) (by decide), 2, by show leV ρ (leC 2) = (2 : Int32).toInt; rw [leV_C]; rfl, ?_⟩
        show leV ρ (leX 7) = ((HG G sc).1 13 2).toInt
        rw [leV_X, HG_1, x2]
        rfl
      · refine ⟨leS_C (c := 1), leS_X (k := 7) (by decide), 1, by show leV ρ (leC 1) = (1 : Int32).toInt; rw [leV_C]; rfl, ?_⟩
        show leV ρ (leX 7) = ((HG G sc).1 67 1).toInt
        rw [leV_X, HG_1, x3]
        rfl
      · refine ⟨leS_C (c := 2), leS_X (k := 8) (by decide), 2, by show leV ρ (leC 2) = (2 : Int32).toInt; rw [leV_C]; rfl, ?_⟩
        show leV ρ (leX 8) = ((HG G sc).1 4 2).toInt
        rw [leV_X, HG_1, x4]
        rfl
      · refine ⟨leS_C (c := 2), leS_X (k := 8) (by decide), 2, by show leV ρ (leC 2) = (2 : Int32).toInt; rw [leV_C]; rfl, ?_⟩
        show leV ρ (leX 8) = ((HG G sc).1 66 2).toInt
        rw [leV_X, HG_1, x5]
        rfl
      · refine ⟨leS_C (c := 2), leS_X (k := 9) (by decide), 2, by show leV ρ (leC 2) = (2 : Int32).toInt; rw [leV_C]; rfl, ?_⟩
        show leV ρ (leX 9) = ((HG G sc).1 15 2).toInt
        rw [leV_X, HG_1, x6]
        rfl
      · refine ⟨leS_C (c := 2), leS_X (k := 9) (by decide), 2, by show leV ρ (leC 2) = (2 : Int32).toInt; rw [leV_C]; rfl, ?_⟩
        show leV ρ (leX 9) = ((HG G sc).1 67 2).toInt
        rw [leV_X, HG_1, x7]
        rfl
      · refine ⟨leS_C (c := 2), leS_X (k := 10) (by decide), 2, by show leV ρ (leC 2) = (2 : Int32).toInt; rw [leV_C]; rfl, ?_⟩
        show leV ρ (leX 10) = ((HG G sc).1 8 2).toInt
        rw [leV_X, HG_1, x8]
        rfl
      · refine ⟨leS_C (c := 4), leS_X (k := 10) (by decide), 4, by show leV ρ (leC 4) = (4 : Int32).toInt; rw [leV_C]; rfl, ?_⟩
        show leV ρ (leX 10) = ((HG G sc).1 66 4).toInt
        rw [leV_X, HG_1, x9]
        rfl
      · refine ⟨leS_C (c := 2), leS_X (k := 11) (by decide), 2, by show leV ρ (leC 2) = (2 : Int32).toInt; rw [leV_C]; rfl, ?_⟩
        show leV ρ (leX 11) = ((HG G sc).1 19 2).toInt
        rw [leV_X, HG_1, x10]
        rfl
      · refine ⟨leS_C (c := 4), leS_X (k := 11) (by decide), 4, by show leV ρ (leC 4) = (4 : Int32).toInt; rw [leV_C]; rfl, ?_⟩
        show leV ρ (leX 11) = ((HG G sc).1 67 4).toInt
        rw [leV_X, HG_1, x11]
        rfl
      · refine ⟨leS_C (c := 2), leS_X (k := 12) (by decide), 2, by show leV ρ (leC 2) = (2 : Int32).toInt; rw [leV_C]; rfl, ?_⟩
        show leV ρ (leX 12) = ((HG G sc).1 10 2).toInt
        rw [leV_X, HG_1, x12]
        rfl
      · refine ⟨leS_C (c := 5), leS_X (k := 12) (by decide), 5, by show leV ρ (leC 5) = (5 : Int32).toInt; rw [leV_C]; rfl, ?_⟩
        show leV ρ (leX 12) = ((HG G sc).1 66 5).toInt
        rw [leV_X, HG_1, x13]
        rfl
      · refine ⟨leS_C (c := 2), leS_X (k := 13) (by decide), 2, by show leV ρ (leC 2) = (2 : Int32).toInt; rw [leV_C]; rfl, ?_⟩
        show leV ρ (leX 13) = ((HG G sc).1 21 2).toInt
        rw [leV_X, HG_1, x14]
        rfl
      · refine ⟨leS_C (c := 5), leS_X (k := 13) (by decide), 5, by show leV ρ (leC 5) = (5 : Int32).toInt; rw [leV_C]; rfl, ?_⟩
        show leV ρ (leX 13) = ((HG G sc).1 67 5).toInt
        rw [leV_X, HG_1, x15]
        rfl
      · refine ⟨leS_C (c := 5), leS_X (k := 2) (by decide), 5, by show leV ρ (leC 5) = (5 : Int32).toInt; rw [leV_C]; rfl, ?_⟩
        show leV ρ (leX 2) = ((HG G sc).1 1 5).toInt
        rw [leV_X, HG_1, x16]
        rfl
      · refine ⟨leS_C (c := 5), leS_X (k := 3) (by decide), 5, by show leV ρ (leC 5) = (5 : Int32).toInt; rw [leV_C]; rfl, ?_⟩
        show leV ρ (leX 3) = ((HG G sc).1 12 5).toInt
        rw [leV_X, HG_1, x17]
        rfl
      · refine ⟨leS_C (c := 12), leS_X (k := 14) (by decide), 12, by show leV ρ (leC 12) = (12 : Int32).toInt; rw [leV_C]; rfl, ?_⟩
        show leV ρ (leX 14) = ((HG G sc).1 0 12).toInt
        rw [leV_X, HG_1, x18]
        rfl
      · refine ⟨leS_C (c := 3), leS_X (k := 14) (by decide), 3, by show leV ρ (leC 3) = (3 : Int32).toInt; rw [leV_C]; rfl, ?_⟩
        show leV ρ (leX 14) = ((HG G sc).1 65 3).toInt
        rw [leV_X, HG_1, x19]
        rfl
      · refine ⟨leS_C (c := 1), leS_X (k := 15) (by decide), 1, by show leV ρ (leC 1) = (1 : Int32).toInt; rw [leV_C]; rfl, ?_⟩
        show leV ρ (leX 15) = ((HG G sc).1 53 1).toInt
        rw [leV_X, HG_1, x20]
        rfl
      · refine ⟨leS_C (c := 16), leS_X (k := 15) (by decide), 16, by show leV ρ (leC 16) = (16 : Int32).toInt; rw [leV_C]; rfl, ?_⟩
        show leV ρ (leX 15) = ((HG G sc).1 65 16).toInt
        rw [leV_X, HG_1, x21]
        rfl
      · refine ⟨leS_C (c := 6), leS_X (k := 16) (by decide), 6, by show leV ρ (leC 6) = (6 : Int32).toInt; rw [leV_C]; rfl, ?_⟩
        show leV ρ (leX 16) = ((HG G sc).1 1 6).toInt
        rw [leV_X, HG_1, x22]
        rfl
      · refine ⟨leS_C (c := 6), leS_X (k := 16) (by decide), 6, by show leV ρ (leC 6) = (6 : Int32).toInt; rw [leV_C]; rfl, ?_⟩
        show leV ρ (leX 16) = ((HG G sc).1 66 6).toInt
        rw [leV_X, HG_1, x23]
        rfl
      · refine ⟨leS_C (c := 6), leS_X (k := 17) (by decide), 6, by show leV ρ (leC 6) = (6 : Int32).toInt; rw [leV_C]; rfl, ?_⟩
        show leV ρ (leX 17) = ((HG G sc).1 12 6).toInt
        rw [leV_X, HG_1, x24]
        rfl
      · refine ⟨leS_C (c := 6), leS_X (k := 17) (by decide), 6, by show leV ρ (leC 6) = (6 : Int32).toInt; rw [leV_C]; rfl, ?_⟩
        show leV ρ (leX 17) = ((HG G sc).1 67 6).toInt
        rw [leV_X, HG_1, x25]
        rfl
      · refine ⟨leS_C (c := 2), leS_X (k := 18) (by decide), 2, by show leV ρ (leC 2) = (2 : Int32).toInt; rw [leV_C]; rfl, ?_⟩
        show leV ρ (leX 18) = ((HG G sc).1 6 2).toInt
        rw [leV_X, HG_1, x26]
        rfl
      · refine ⟨leS_C (c := 3), leS_X (k := 18) (by decide), 3, by show leV ρ (leC 3) = (3 : Int32).toInt; rw [leV_C]; rfl, ?_⟩
        show leV ρ (leX 18) = ((HG G sc).1 66 3).toInt
        rw [leV_X, HG_1, x27]
        rfl
      · refine ⟨leS_C (c := 2), leS_X (k := 19) (by decide), 2, by show leV ρ (leC 2) = (2 : Int32).toInt; rw [leV_C]; rfl, ?_⟩
        show leV ρ (leX 19) = ((HG G sc).1 17 2).toInt
        rw [leV_X, HG_1, x28]
        rfl
      · refine ⟨leS_C (c := 3), leS_X (k := 19) (by decide), 3, by show leV ρ (leC 3) = (3 : Int32).toInt; rw [leV_C]; rfl, ?_⟩
        show leV ρ (leX 19) = ((HG G sc).1 67 3).toInt
        rw [leV_X, HG_1, x29]
        rfl
      · refine ⟨leS_C (c := 11), leS_X (k := 20) (by decide), 11, by show leV ρ (leC 11) = (11 : Int32).toInt; rw [leV_C]; rfl, ?_⟩
        show leV ρ (leX 20) = ((HG G sc).1 0 11).toInt
        rw [leV_X, HG_1, x30]
        rfl
      · refine ⟨leS_C (c := 34), leS_X (k := 20) (by decide), 34, by show leV ρ (leC 34) = (34 : Int32).toInt; rw [leV_C]; rfl, ?_⟩
        show leV ρ (leX 20) = ((HG G sc).1 65 34).toInt
        rw [leV_X, HG_1, x31]
        rfl
      · refine ⟨leS_C, leS_C, ?_⟩
        show RLO (HG G sc) 0 (leV ρ (leC 0)) (leV ρ (leC 0))
        rw [leV_C]
        exact rl0_sp x32
      · refine ⟨leS_C, leS_C, ?_⟩
        show RLO (HG G sc) 5 (leV ρ (leC 0)) (leV ρ (leC 0))
        rw [leV_C]
        exact rl0_sp x33
      · refine ⟨leS_C, leS_C, ?_⟩
        show RLO (HG G sc) 16 (leV ρ (leC 0)) (leV ρ (leC 0))
        rw [leV_C]
        exact rl0_sp x34
      · refine ⟨leS_C, leS_C, ?_⟩
        show RLO (HG G sc) 21 (leV ρ (leC 0)) (leV ρ (leC 0))
        rw [leV_C]
        exact rl0_sp x35
      · refine ⟨leS_C, leS_C, ?_⟩
        show RLO (HG G sc) 32 (leV ρ (leC 0)) (leV ρ (leC 0))
        rw [leV_C]
        exact rl0_sp x36
      · refine ⟨leS_C, leS_C, ?_⟩
        show RLO (HG G sc) 37 (leV ρ (leC 0)) (leV ρ (leC 0))
        rw [leV_C]
        exact rl0_sp x37
      · refine ⟨leS_C, leS_C, ?_⟩
        show RLO (HG G sc) 48 (leV ρ (leC 0)) (leV ρ (leC 0))
        rw [leV_C]
        exact rl0_sp x38
      · refine ⟨leS_C, leS_C, ?_⟩
        show RLO (HG G sc) 53 (leV ρ (leC 0)) (leV ρ (leC 0))
        rw [leV_C]
        exact rl0_sp x39
      · refine ⟨leS_C, leS_C, ?_⟩
        show RLO (HG G sc) 64 (leV ρ (leC 0)) (leV ρ (leC 0))
        rw [leV_C]
        exact rl0_sp x40
      · refine ⟨leS_C, leS_C, ?_⟩
        show RLO (HG G sc) 69 (leV ρ (leC 0)) (leV ρ (leC 0))
        rw [leV_C]
        exact rl0_sp x41
      · refine ⟨leS_C, leS_C, ?_⟩
        show RLO (HG G sc) 80 (leV ρ (leC 0)) (leV ρ (leC 0))
        rw [leV_C]
        exact rl0_sp x42
      · refine ⟨leS_C, leS_C, ?_⟩
        show RLO (HG G sc) 85 (leV ρ (leC 0)) (leV ρ (leC 0))
        rw [leV_C]
        exact rl0_sp x43
      · refine ⟨leS_C, leS_C, ?_⟩
        show RLO (HG G sc) 96 (leV ρ (leC 0)) (leV ρ (leC 0))
        rw [leV_C]
        exact rl0_sp x44
      · refine ⟨leS_C, leS_C, ?_⟩
        show RLO (HG G sc) 101 (leV ρ (leC 0)) (leV ρ (leC 0))
        rw [leV_C]
        exact rl0_sp x45
      · refine ⟨leS_C, leS_C, ?_⟩
        show RLO (HG G sc) 112 (leV ρ (leC 0)) (leV ρ (leC 0))
        rw [leV_C]
        exact rl0_sp x46
      · refine ⟨leS_C, leS_C, ?_⟩
        show RLO (HG G sc) 117 (leV ρ (leC 0)) (leV ρ (leC 0))
        rw [leV_C]
        exact rl0_sp x47
      · refine ⟨leS_C, leS_C, ?_⟩
        show RLO (HG G sc) 128 (leV ρ (leC 0)) (leV ρ (leC 0))
        rw [leV_C]
        exact rl0_sp x48
      · refine ⟨leS_C, leS_C, ?_⟩
        show RLO (HG G sc) 133 (leV ρ (leC 0)) (leV ρ (leC 0))
        rw [leV_C]
        exact rl0_sp x49
      · refine ⟨leS_C, leS_C, ?_⟩
        show RLO (HG G sc) 144 (leV ρ (leC 0)) (leV ρ (leC 0))
        rw [leV_C]
        exact rl0_sp x50
      · refine ⟨leS_C, leS_C, ?_⟩
        show RLO (HG G sc) 149 (leV ρ (leC 0)) (leV ρ (leC 0))
        rw [leV_C]
        exact rl0_sp x51
      · refine ⟨leS_C, leS_C, ?_⟩
        show RLO (HG G sc) 208 (leV ρ (leC 0)) (leV ρ (leC 0))
        rw [leV_C]
        exact rl0_sp x52
      · refine ⟨leS_C, leS_C, ?_⟩
        show RLO (HG G sc) 213 (leV ρ (leC 0)) (leV ρ (leC 0))
        rw [leV_C]
        exact rl0_sp x53
      · refine ⟨leS_C, leS_C, ?_⟩
        show RLO (HG G sc) 224 (leV ρ (leC 0)) (leV ρ (leC 0))
        rw [leV_C]
        exact rl0_sp x54
      · refine ⟨leS_C, leS_C, ?_⟩
        show RLO (HG G sc) 229 (leV ρ (leC 0)) (leV ρ (leC 0))
        rw [leV_C]
        exact rl0_sp x55
      · refine ⟨leS_C, leS_C, ?_⟩
        show RLO (HG G sc) 240 (leV ρ (leC 0)) (leV ρ (leC 0))
        rw [leV_C]
        exact rl0_sp x56
      · refine ⟨leS_C, leS_C, ?_⟩
        show RLO (HG G sc) 245 (leV ρ (leC 0)) (leV ρ (leC 0))
        rw [leV_C]
        exact rl0_sp x57
      · refine ⟨leS_C, leS_C, ?_⟩
        show RLO (HG G sc) 256 (leV ρ (leC 0)) (leV ρ (leC 0))
        rw [leV_C]
        exact rl0_sp x58
      · refine ⟨leS_C, leS_C, ?_⟩
        show RLO (HG G sc) 261 (leV ρ (leC 0)) (leV ρ (leC 0))
        rw [leV_C]
        exact rl0_sp x59
      · refine ⟨leS_C, leS_C, ?_⟩
        show RLO (HG G sc) 288 (leV ρ (leC 0)) (leV ρ (leC 0))
        rw [leV_C]
        exact rl0_sp x60
      · refine ⟨leS_C, leS_C, ?_⟩
        show RLO (HG G sc) 293 (leV ρ (leC 0)) (leV ρ (leC 0))
        rw [leV_C]
        exact rl0_sp x61
      · refine ⟨leS_C, leS_C, ?_⟩
        show RLO (HG G sc) 304 (leV ρ (leC 0)) (leV ρ (leC 0))
        rw [leV_C]
        exact rl0_sp x62
      · refine ⟨leS_C, leS_C, ?_⟩
        show RLO (HG G sc) 309 (leV ρ (leC 0)) (leV ρ (leC 0))
        rw [leV_C]
        exact rl0_sp x63
      · refine ⟨leS_C, leS_C, ?_⟩
        show RLO (HG G sc) 320 (leV ρ (leC 0)) (leV ρ (leC 0))
        rw [leV_C]
        exact rl0_sp x64
      · refine ⟨leS_C, leS_C, ?_⟩
        show RLO (HG G sc) 325 (leV ρ (leC 0)) (leV ρ (leC 0))
        rw [leV_C]
        exact rl0_sp x65
      · refine ⟨leS_C, leS_C, ?_⟩
        show RLO (HG G sc) 336 (leV ρ (leC 0)) (leV ρ (leC 0))
        rw [leV_C]
        exact rl0_sp x66
      · refine ⟨leS_C, leS_C, ?_⟩
        show RLO (HG G sc) 341 (leV ρ (leC 0)) (leV ρ (leC 0))
        rw [leV_C]
        exact rl0_sp x67
      · refine ⟨leS_C, leS_C, ?_⟩
        show RLO (HG G sc) 352 (leV ρ (leC 0)) (leV ρ (leC 0))
        rw [leV_C]
        exact rl0_sp x68
      · refine ⟨leS_C, leS_C, ?_⟩
        show RLO (HG G sc) 357 (leV ρ (leC 0)) (leV ρ (leC 0))
        rw [leV_C]
        exact rl0_sp x69
      · refine ⟨leS_C, leS_C, ?_⟩
        show RLO (HG G sc) 368 (leV ρ (leC 0)) (leV ρ (leC 0))
        rw [leV_C]
        exact rl0_sp x70
      · refine ⟨leS_C, leS_C, ?_⟩
        show RLO (HG G sc) 373 (leV ρ (leC 0)) (leV ρ (leC 0))
        rw [leV_C]
        exact rl0_sp x71
      · refine ⟨leS_C, leS_C, ?_⟩
        show RLO (HG G sc) 384 (leV ρ (leC 0)) (leV ρ (leC 0))
        rw [leV_C]
        exact rl0_sp x72
      · refine ⟨leS_C, leS_C, ?_⟩
        show RLO (HG G sc) 389 (leV ρ (leC 0)) (leV ρ (leC 0))
        rw [leV_C]
        exact rl0_sp x73
      · refine ⟨leS_C, leS_C, ?_⟩
        show RLO (HG G sc) 400 (leV ρ (leC 0)) (leV ρ (leC 0))
        rw [leV_C]
        exact rl0_sp x74
      · refine ⟨leS_C, leS_C, ?_⟩
        show RLO (HG G sc) 405 (leV ρ (leC 0)) (leV ρ (leC 0))
        rw [leV_C]
        exact rl0_sp x75
      · refine ⟨leS_C, leS_C, ?_⟩
        show RLO (HG G sc) 416 (leV ρ (leC 0)) (leV ρ (leC 0))
        rw [leV_C]
        exact rl0_sp x76
      · refine ⟨leS_C, leS_C, ?_⟩
        show RLO (HG G sc) 421 (leV ρ (leC 0)) (leV ρ (leC 0))
        rw [leV_C]
        exact rl0_sp x77
      · refine ⟨leS_C, leS_C, ?_⟩
        show RLO (HG G sc) 432 (leV ρ (leC 0)) (leV ρ (leC 0))
        rw [leV_C]
        exact rl0_sp x78
      · refine ⟨leS_C, leS_C, ?_⟩
        show RLO (HG G sc) 437 (leV ρ (leC 0)) (leV ρ (leC 0))
        rw [leV_C]
        exact rl0_sp x79
      · refine ⟨leS_C, leS_C, ?_⟩
        show RLO (HG G sc) 448 (leV ρ (leC 0)) (leV ρ (leC 0))
        rw [leV_C]
        exact rl0_sp x80
      · refine ⟨leS_C, leS_C, ?_⟩
        show RLO (HG G sc) 453 (leV ρ (leC 0)) (leV ρ (leC 0))
        rw [leV_C]
        exact rl0_sp x81
      · refine ⟨leS_C, leS_C, ?_⟩
        show RLO (HG G sc) 464 (leV ρ (leC 0)) (leV ρ (leC 0))
        rw [leV_C]
        exact rl0_sp x82
      · refine ⟨leS_C, leS_C, ?_⟩
        show RLO (HG G sc) 469 (leV ρ (leC 0)) (leV ρ (leC 0))
        rw [leV_C]
        exact rl0_sp x83
      · refine ⟨leS_C, leS_C, ?_⟩
        show RLO (HG G sc) 480 (leV ρ (leC 0)) (leV ρ (leC 0))
        rw [leV_C]
        exact rl0_sp x84
      · refine ⟨leS_C, leS_C, ?_⟩
        show RLO (HG G sc) 485 (leV ρ (leC 0)) (leV ρ (leC 0))
        rw [leV_C]
        exact rl0_sp x85
      · refine ⟨leS_C, leS_C, ?_⟩
        show RLO (HG G sc) 512 (leV ρ (leC 0)) (leV ρ (leC 0))
        rw [leV_C]
        exact rl0_sp x86
      · refine ⟨leS_C, leS_C, ?_⟩
        show RLO (HG G sc) 517 (leV ρ (leC 0)) (leV ρ (leC 0))
        rw [leV_C]
        exact rl0_sp x87
      · refine ⟨leS_C, leS_C, ?_⟩
        show RLO (HG G sc) 528 (leV ρ (leC 0)) (leV ρ (leC 0))
        rw [leV_C]
        exact rl0_sp x88
      · refine ⟨leS_C, leS_C, ?_⟩
        show RLO (HG G sc) 533 (leV ρ (leC 0)) (leV ρ (leC 0))
        rw [leV_C]
        exact rl0_sp x89
      · refine ⟨leS_C, leS_C, ?_⟩
        show RLO (HG G sc) 544 (leV ρ (leC 0)) (leV ρ (leC 0))
        rw [leV_C]
        exact rl0_sp x90
      · refine ⟨leS_C, leS_C, ?_⟩
        show RLO (HG G sc) 549 (leV ρ (leC 0)) (leV ρ (leC 0))
        rw [leV_C]
        exact rl0_sp x91
      · refine ⟨leS_C, leS_C, ?_⟩
        show RLO (HG G sc) 560 (leV ρ (leC 0)) (leV ρ (leC 0))
        rw [leV_C]
        exact rl0_sp x92
      · refine ⟨leS_C, leS_C, ?_⟩
        show RLO (HG G sc) 565 (leV ρ (leC 0)) (leV ρ (leC 0))
        rw [leV_C]
        exact rl0_sp x93
      · refine ⟨leS_C, leS_C, ?_⟩
        show RLO (HG G sc) 576 (leV ρ (leC 0)) (leV ρ (leC 0))
        rw [leV_C]
        exact rl0_sp x94
      · refine ⟨leS_C, leS_C, ?_⟩
        show RLO (HG G sc) 581 (leV ρ (leC 0)) (leV ρ (leC 0))
        rw [leV_C]
        exact rl0_sp x95
      · refine ⟨leS_C, leS_C, ?_⟩
        show RLO (HG G sc) 592 (leV ρ (leC 0)) (leV ρ (leC 0))
        rw [leV_C]
        exact rl0_sp x96
      · refine ⟨leS_C, leS_C, ?_⟩
        show RLO (HG G sc) 597 (leV ρ (leC 0)) (leV ρ (leC 0))
        rw [leV_C]
        exact rl0_sp x97
      · refine ⟨leS_C, leS_C, ?_⟩
        show RLO (HG G sc) 2003 (leV ρ (leC 0)) (leV ρ (leC 0))
        rw [leV_C]
        exact rl0_sp x98
      · refine ⟨leS_C, leS_C, ?_⟩
        show RLO (HG G sc) 2005 (leV ρ (leC 0)) (leV ρ (leC 0))
        rw [leV_C]
        exact rl0_sp x99
      · refine ⟨leS_C, leS_C, ?_⟩
        show RLO (HG G sc) 2007 (leV ρ (leC 0)) (leV ρ (leC 0))
        rw [leV_C]
        exact rl0_sp x100
      · refine ⟨leS_C, leS_X (k := 6) (by decide), ?_⟩
        show ZRO (HG G sc) 64 (leV ρ (leX 6))
        rw [leV_X]
        exact zr0_sp x101
      · refine ⟨leS_C, leS_X (k := 7) (by decide), ?_⟩
        show ZRO (HG G sc) 68 (leV ρ (leX 7))
        rw [leV_X]
        exact zr0_sp x102
      · refine ⟨leS_C, leS_X (k := 6) (by decide), ?_⟩
        show ZRO (HG G sc) 80 (leV ρ (leX 6))
        rw [leV_X]
        exact zr0_sp x103
      · refine ⟨leS_C, leS_X (k := 7) (by decide), ?_⟩
        show ZRO (HG G sc) 84 (leV ρ (leX 7))
        rw [leV_X]
        exact zr0_sp x104
      · refine ⟨leS_C, leS_X (k := 6) (by decide), ?_⟩
        show ZRO (HG G sc) 96 (leV ρ (leX 6))
        rw [leV_X]
        exact zr0_sp x105
      · refine ⟨leS_C, leS_X (k := 7) (by decide), ?_⟩
        show ZRO (HG G sc) 100 (leV ρ (leX 7))
        rw [leV_X]
        exact zr0_sp x106
      · refine ⟨leS_C, leS_X (k := 8) (by decide), ?_⟩
        show ZRO (HG G sc) 208 (leV ρ (leX 8))
        rw [leV_X]
        exact zr0_sp x107
      · refine ⟨leS_C, leS_X (k := 9) (by decide), ?_⟩
        show ZRO (HG G sc) 212 (leV ρ (leX 9))
        rw [leV_X]
        exact zr0_sp x108
      · refine ⟨leS_C, leS_X (k := 8) (by decide), ?_⟩
        show ZRO (HG G sc) 224 (leV ρ (leX 8))
        rw [leV_X]
        exact zr0_sp x109
      · refine ⟨leS_C, leS_X (k := 9) (by decide), ?_⟩
        show ZRO (HG G sc) 228 (leV ρ (leX 9))
        rw [leV_X]
        exact zr0_sp x110
      · refine ⟨leS_C, leS_X (k := 8) (by decide), ?_⟩
        show ZRO (HG G sc) 288 (leV ρ (leX 8))
        rw [leV_X]
        exact zr0_sp x111
      · refine ⟨leS_C, leS_X (k := 9) (by decide), ?_⟩
        show ZRO (HG G sc) 292 (leV ρ (leX 9))
        rw [leV_X]
        exact zr0_sp x112
      · refine ⟨leS_C, leS_X (k := 8) (by decide), ?_⟩
        show ZRO (HG G sc) 304 (leV ρ (leX 8))
        rw [leV_X]
        exact zr0_sp x113
      · refine ⟨leS_C, leS_X (k := 9) (by decide), ?_⟩
        show ZRO (HG G sc) 308 (leV ρ (leX 9))
        rw [leV_X]
        exact zr0_sp x114
      · refine ⟨leS_C, leS_X (k := 18) (by decide), ?_⟩
        show ZRO (HG G sc) 432 (leV ρ (leX 18))
        rw [leV_X]
        exact zr0_sp x115
      · refine ⟨leS_C, leS_X (k := 19) (by decide), ?_⟩
        show ZRO (HG G sc) 436 (leV ρ (leX 19))
        rw [leV_X]
        exact zr0_sp x116
      · refine ⟨leS_C, leS_X (k := 8) (by decide), ?_⟩
        show BG (HG G sc) 0 (leV ρ (leX 8))
        rw [leV_X]
        exact bg0_sp x117
      · refine ⟨leS_C, leS_X (k := 9) (by decide), ?_⟩
        show BG (HG G sc) 5 (leV ρ (leX 9))
        rw [leV_X]
        exact bg0_sp x118
      · refine ⟨leS_C, scB_S (by decide), ?_⟩
        exact ub0_sp x119
      · refine ⟨leS_C, scB_S (by decide), ?_⟩
        exact ub0_sp x120
      · refine ⟨leS_C, scB_S (by decide), ?_⟩
        exact ub0_sp x121
      · refine ⟨leS_C, scB_S (by decide), ?_⟩
        exact ub0_sp x122
      · refine ⟨leS_C, scB_S (by decide), ?_⟩
        exact ub0_sp x123
      · refine ⟨leS_C, scB_S (by decide), ?_⟩
        exact sm0_sp (show leV ρ (leX 10) ≤ 0 by rw [leV_X]; exact Int.le_refl 0)
      · refine ⟨leS_C, leS_C, leV_C _ 0, ?_⟩
        exact pl0_sp x125
      · refine ⟨leS_C, leS_C, ?_⟩
        exact fr0_sp x126
      · refine ⟨leS_C, scB_S (by decide), ?_⟩
        exact ub0_sp x127
      · refine ⟨leS_C, scB_S (by decide), ?_⟩
        exact ub0_sp x128
      · refine ⟨leS_C, scB_S (by decide), ?_⟩
        exact ub0_sp x129
      · refine ⟨leS_C, scB_S (by decide), ?_⟩
        exact ub0_sp x130
      · refine ⟨leS_C, scB_S (by decide), ?_⟩
        exact ub0_sp x131
      · refine ⟨leS_C, scB_S (by decide), ?_⟩
        exact sm0_sp (show leV ρ (leX 11) ≤ 0 by rw [leV_X]; exact Int.le_refl 0)
      · refine ⟨leS_C, leS_C, leV_C _ 0, ?_⟩
        exact pl0_sp x133
      · refine ⟨leS_C, leS_C, ?_⟩
        exact fr0_sp x134
      · refine ⟨leS_C (c := 0), leS_C (c := 0), 0, by show leV ρ (leC 0) = (0 : Int32).toInt; rw [leV_C]; rfl, ?_⟩
        show leV ρ (leC 0) = ((HG G sc).1 74 0).toInt
        rw [leV_C, HG_1, x135]
        rfl
      · refine ⟨leS_C (c := 1), leS_C (c := 0), 1, by show leV ρ (leC 1) = (1 : Int32).toInt; rw [leV_C]; rfl, ?_⟩
        show leV ρ (leC 0) = ((HG G sc).1 74 1).toInt
        rw [leV_C, HG_1, x136]
        rfl
      · refine ⟨leS_C (c := 2), leS_C (c := 0), 2, by show leV ρ (leC 2) = (2 : Int32).toInt; rw [leV_C]; rfl, ?_⟩
        show leV ρ (leC 0) = ((HG G sc).1 74 2).toInt
        rw [leV_C, HG_1, x137]
        rfl
  have hLR : LR ρ 21 lsL [some (.ref 1300), some (.ref 0), some (.ref 65), some (.int 0)] := LR.cons (ls := _) (lc := _) ⟨1300, rfl, rfl⟩ (LR.cons (ls := _) (lc := _) ⟨0, rfl, rfl⟩ (LR.cons (ls := _) (lc := _) ⟨65, rfl, rfl⟩ (LR.cons (ls := _) (lc := _) ⟨0, rfl, leS_X (k := 1) (by decide), leV_X ρ 1⟩ (LR.nil (m := 0)))))
  generalize HG G sc = h at M ⊢
  refine go hX 2 (gs := [True, True]) (z' := (18, [some (.ref 1300), some (.ref 0), some (.ref 65), some (.int 0)], [], h)) rfl ⟨trivial, trivial, trivial⟩ ?_
  exact law_head hd hX hQ 3073 ρ _ ⟨M, rfl, hLR, rfl⟩ (by show (3072 - (0 : Int)).toNat < 3073; decide)
set_option maxRecDepth 1000000 in
theorem h0_m0 : h0w GK 2 2 = 0 ∧ h0w GK 66 1 = 0 ∧ h0w GK 13 2 = 0 ∧ h0w GK 67 1 = 0 ∧ h0w GK 4 2 = 0 ∧ h0w GK 66 2 = 0 ∧ h0w GK 15 2 = 0 ∧ h0w GK 67 2 = 0 ∧ h0w GK 8 2 = 0 ∧ h0w GK 66 4 = 0 ∧ h0w GK 19 2 = 0 ∧ h0w GK 67 4 = 0 ∧ h0w GK 10 2 = 0 ∧ h0w GK 66 5 = 0 ∧ h0w GK 21 2 = 0 ∧ h0w GK 67 5 = 0 ∧ h0w GK 1 5 = 0 ∧ h0w GK 12 5 = 0 ∧ h0w GK 0 12 = 0 ∧ h0w GK 65 3 = 0 := by decide +kernel
set_option maxRecDepth 1000000 in
theorem h0_m1 : h0w GK 53 1 = 0 ∧ h0w GK 65 16 = 0 ∧ h0w GK 1 6 = 0 ∧ h0w GK 66 6 = 0 ∧ h0w GK 12 6 = 0 ∧ h0w GK 67 6 = 0 ∧ h0w GK 6 2 = 0 ∧ h0w GK 66 3 = 0 ∧ h0w GK 17 2 = 0 ∧ h0w GK 67 3 = 0 ∧ h0w GK 0 11 = 0 ∧ h0w GK 65 34 = 0 ∧ rl0 GK 0 = true ∧ rl0 GK 5 = true ∧ rl0 GK 16 = true ∧ rl0 GK 21 = true ∧ rl0 GK 32 = true ∧ rl0 GK 37 = true ∧ rl0 GK 48 = true ∧ rl0 GK 53 = true := by decide +kernel
set_option maxRecDepth 1000000 in
theorem h0_m2 : rl0 GK 64 = true ∧ rl0 GK 69 = true ∧ rl0 GK 80 = true ∧ rl0 GK 85 = true ∧ rl0 GK 96 = true ∧ rl0 GK 101 = true ∧ rl0 GK 112 = true ∧ rl0 GK 117 = true ∧ rl0 GK 128 = true ∧ rl0 GK 133 = true ∧ rl0 GK 144 = true ∧ rl0 GK 149 = true ∧ rl0 GK 208 = true ∧ rl0 GK 213 = true ∧ rl0 GK 224 = true ∧ rl0 GK 229 = true ∧ rl0 GK 240 = true ∧ rl0 GK 245 = true ∧ rl0 GK 256 = true ∧ rl0 GK 261 = true := by decide +kernel
set_option maxRecDepth 1000000 in
theorem h0_m3 : rl0 GK 288 = true ∧ rl0 GK 293 = true ∧ rl0 GK 304 = true ∧ rl0 GK 309 = true ∧ rl0 GK 320 = true ∧ rl0 GK 325 = true ∧ rl0 GK 336 = true ∧ rl0 GK 341 = true ∧ rl0 GK 352 = true ∧ rl0 GK 357 = true ∧ rl0 GK 368 = true ∧ rl0 GK 373 = true ∧ rl0 GK 384 = true ∧ rl0 GK 389 = true ∧ rl0 GK 400 = true ∧ rl0 GK 405 = true ∧ rl0 GK 416 = true ∧ rl0 GK 421 = true ∧ rl0 GK 432 = true ∧ rl0 GK 437 = true := by decide +kernel
set_option maxRecDepth 1000000 in
theorem h0_m4 : rl0 GK 448 = true ∧ rl0 GK 453 = true ∧ rl0 GK 464 = true ∧ rl0 GK 469 = true ∧ rl0 GK 480 = true ∧ rl0 GK 485 = true ∧ rl0 GK 512 = true ∧ rl0 GK 517 = true ∧ rl0 GK 528 = true ∧ rl0 GK 533 = true ∧ rl0 GK 544 = true ∧ rl0 GK 549 = true ∧ rl0 GK 560 = true ∧ rl0 GK 565 = true ∧ rl0 GK 576 = true ∧ rl0 GK 581 = true ∧ rl0 GK 592 = true ∧ rl0 GK 597 = true ∧ rl0 GK 2003 = true ∧ rl0 GK 2005 = true := by decide +kernel
set_option maxRecDepth 1000000 in
theorem h0_m5 : rl0 GK 2007 = true ∧ zr0 GK 64 = true ∧ zr0 GK 68 = true ∧ zr0 GK 80 = true ∧ zr0 GK 84 = true ∧ zr0 GK 96 = true ∧ zr0 GK 100 = true ∧ zr0 GK 208 = true ∧ zr0 GK 212 = true ∧ zr0 GK 224 = true ∧ zr0 GK 228 = true ∧ zr0 GK 288 = true ∧ zr0 GK 292 = true ∧ zr0 GK 304 = true ∧ zr0 GK 308 = true ∧ zr0 GK 432 = true ∧ zr0 GK 436 = true ∧ bg0 GK 0 = true ∧ bg0 GK 5 = true ∧ ub0 GK 0 = true := by decide +kernel
set_option maxRecDepth 1000000 in
theorem h0_m6 : ub0 GK 4 = true ∧ ub0 GK 8 = true ∧ ub0 GK 12 = true ∧ ub0 GK 16 = true ∧ True ∧ hn0 GK 0 = true ∧ hn0 GK 0 = true ∧ ub0 GK 1 = true ∧ ub0 GK 5 = true ∧ ub0 GK 9 = true ∧ ub0 GK 13 = true ∧ ub0 GK 17 = true ∧ True ∧ hn0 GK 1 = true ∧ hn0 GK 1 = true ∧ h0w GK 74 0 = 0 ∧ h0w GK 74 1 = 0 ∧ h0w GK 74 2 = 0 := by decide +kernel
theorem h0_more : h0w GK 2 2 = 0 ∧ h0w GK 66 1 = 0 ∧ h0w GK 13 2 = 0 ∧ h0w GK 67 1 = 0 ∧ h0w GK 4 2 = 0 ∧ h0w GK 66 2 = 0 ∧ h0w GK 15 2 = 0 ∧ h0w GK 67 2 = 0 ∧ h0w GK 8 2 = 0 ∧ h0w GK 66 4 = 0 ∧ h0w GK 19 2 = 0 ∧ h0w GK 67 4 = 0 ∧ h0w GK 10 2 = 0 ∧ h0w GK 66 5 = 0 ∧ h0w GK 21 2 = 0 ∧ h0w GK 67 5 = 0 ∧ h0w GK 1 5 = 0 ∧ h0w GK 12 5 = 0 ∧ h0w GK 0 12 = 0 ∧ h0w GK 65 3 = 0 ∧ h0w GK 53 1 = 0 ∧ h0w GK 65 16 = 0 ∧ h0w GK 1 6 = 0 ∧ h0w GK 66 6 = 0 ∧ h0w GK 12 6 = 0 ∧ h0w GK 67 6 = 0 ∧ h0w GK 6 2 = 0 ∧ h0w GK 66 3 = 0 ∧ h0w GK 17 2 = 0 ∧ h0w GK 67 3 = 0 ∧ h0w GK 0 11 = 0 ∧ h0w GK 65 34 = 0 ∧ rl0 GK 0 = true ∧ rl0 GK 5 = true ∧ rl0 GK 16 = true ∧ rl0 GK 21 = true ∧ rl0 GK 32 = true ∧ rl0 GK 37 = true ∧ rl0 GK 48 = true ∧ rl0 GK 53 = true ∧ rl0 GK 64 = true ∧ rl0 GK 69 = true ∧ rl0 GK 80 = true ∧ rl0 GK 85 = true ∧ rl0 GK 96 = true ∧ rl0 GK 101 = true ∧ rl0 GK 112 = true ∧ rl0 GK 117 = true ∧ rl0 GK 128 = true ∧ rl0 GK 133 = true ∧ rl0 GK 144 = true ∧ rl0 GK 149 = true ∧ rl0 GK 208 = true ∧ rl0 GK 213 = true ∧ rl0 GK 224 = true ∧ rl0 GK 229 = true ∧ rl0 GK 240 = true ∧ rl0 GK 245 = true ∧ rl0 GK 256 = true ∧ rl0 GK 261 = true ∧ rl0 GK 288 = true ∧ rl0 GK 293 = true ∧ rl0 GK 304 = true ∧ rl0 GK 309 = true ∧ rl0 GK 320 = true ∧ rl0 GK 325 = true ∧ rl0 GK 336 = true ∧ rl0 GK 341 = true ∧ rl0 GK 352 = true ∧ rl0 GK 357 = true ∧ rl0 GK 368 = true ∧ rl0 GK 373 = true ∧ rl0 GK 384 = true ∧ rl0 GK 389 = true ∧ rl0 GK 400 = true ∧ rl0 GK 405 = true ∧ rl0 GK 416 = true ∧ rl0 GK 421 = true ∧ rl0 GK 432 = true ∧ rl0 GK 437 = true ∧ rl0 GK 448 = true ∧ rl0 GK 453 = true ∧ rl0 GK 464 = true ∧ rl0 GK 469 = true ∧ rl0 GK 480 = true ∧ rl0 GK 485 = true ∧ rl0 GK 512 = true ∧ rl0 GK 517 = true ∧ rl0 GK 528 = true ∧ rl0 GK 533 = true ∧ rl0 GK 544 = true ∧ rl0 GK 549 = true ∧ rl0 GK 560 = true ∧ rl0 GK 565 = true ∧ rl0 GK 576 = true ∧ rl0 GK 581 = true ∧ rl0 GK 592 = true ∧ rl0 GK 597 = true ∧ rl0 GK 2003 = true ∧ rl0 GK 2005 = true ∧ rl0 GK 2007 = true ∧ zr0 GK 64 = true ∧ zr0 GK 68 = true ∧ zr0 GK 80 = true ∧ zr0 GK 84 = true ∧ zr0 GK 96 = true ∧ zr0 GK 100 = true ∧ zr0 GK 208 = true ∧ zr0 GK 212 = true ∧ zr0 GK 224 = true ∧ zr0 GK 228 = true ∧ zr0 GK 288 = true ∧ zr0 GK 292 = true ∧ zr0 GK 304 = true ∧ zr0 GK 308 = true ∧ zr0 GK 432 = true ∧ zr0 GK 436 = true ∧ bg0 GK 0 = true ∧ bg0 GK 5 = true ∧ ub0 GK 0 = true ∧ ub0 GK 4 = true ∧ ub0 GK 8 = true ∧ ub0 GK 12 = true ∧ ub0 GK 16 = true ∧ True ∧ hn0 GK 0 = true ∧ hn0 GK 0 = true ∧ ub0 GK 1 = true ∧ ub0 GK 5 = true ∧ ub0 GK 9 = true ∧ ub0 GK 13 = true ∧ ub0 GK 17 = true ∧ True ∧ hn0 GK 1 = true ∧ hn0 GK 1 = true ∧ h0w GK 74 0 = 0 ∧ h0w GK 74 1 = 0 ∧ h0w GK 74 2 = 0 := ⟨h0_m0.1, h0_m0.2.1, h0_m0.2.2.1, h0_m0.2.2.2.1, h0_m0.2.2.2.2.1, h0_m0.2.2.2.2.2.1, h0_m0.2.2.2.2.2.2.1, h0_m0.2.2.2.2.2.2.2.1, h0_m0.2.2.2.2.2.2.2.2.1, h0_m0.2.2.2.2.2.2.2.2.2.1, h0_m0.2.2.2.2.2.2.2.2.2.2.1, h0_m0.2.2.2.2.2.2.2.2.2.2.2.1, h0_m0.2.2.2.2.2.2.2.2.2.2.2.2.1, h0_m0.2.2.2.2.2.2.2.2.2.2.2.2.2.1, h0_m0.2.2.2.2.2.2.2.2.2.2.2.2.2.2.1, h0_m0.2.2.2.2.2.2.2.2.2.2.2.2.2.2.2.1, h0_m0.2.2.2.2.2.2.2.2.2.2.2.2.2.2.2.2.1, h0_m0.2.2.2.2.2.2.2.2.2.2.2.2.2.2.2.2.2.1, h0_m0.2.2.2.2.2.2.2.2.2.2.2.2.2.2.2.2.2.2.1, h0_m0.2.2.2.2.2.2.2.2.2.2.2.2.2.2.2.2.2.2.2, h0_m1.1, h0_m1.2.1, h0_m1.2.2.1, h0_m1.2.2.2.1, h0_m1.2.2.2.2.1, h0_m1.2.2.2.2.2.1, h0_m1.2.2.2.2.2.2.1, h0_m1.2.2.2.2.2.2.2.1, h0_m1.2.2.2.2.2.2.2.2.1, h0_m1.2.2.2.2.2.2.2.2.2.1, h0_m1.2.2.2.2.2.2.2.2.2.2.1, h0_m1.2.2.2.2.2.2.2.2.2.2.2.1, h0_m1.2.2.2.2.2.2.2.2.2.2.2.2.1, h0_m1.2.2.2.2.2.2.2.2.2.2.2.2.2.1, h0_m1.2.2.2.2.2.2.2.2.2.2.2.2.2.2.1, h0_m1.2.2.2.2.2.2.2.2.2.2.2.2.2.2.2.1, h0_m1.2.2.2.2.2.2.2.2.2.2.2.2.2.2.2.2.1, h0_m1.2.2.2.2.2.2.2.2.2.2.2.2.2.2.2.2.2.1, h0_m1.2.2.2.2.2.2.2.2.2.2.2.2.2.2.2.2.2.2.1, h0_m1.2.2.2.2.2.2.2.2.2.2.2.2.2.2.2.2.2.2.2, h0_m2.1, h0_m2.2.1, h0_m2.2.2.1, h0_m2.2.2.2.1, h0_m2.2.2.2.2.1, h0_m2.2.2.2.2.2.1, h0_m2.2.2.2.2.2.2.1, h0_m2.2.2.2.2.2.2.2.1, h0_m2.2.2.2.2.2.2.2.2.1, h0_m2.2.2.2.2.2.2.2.2.2.1, h0_m2.2.2.2.2.2.2.2.2.2.2.1, h0_m2.2.2.2.2.2.2.2.2.2.2.2.1, h0_m2.2.2.2.2.2.2.2.2.2.2.2.2.1, h0_m2.2.2.2.2.2.2.2.2.2.2.2.2.2.1, h0_m2.2.2.2.2.2.2.2.2.2.2.2.2.2.2.1, h0_m2.2.2.2.2.2.2.2.2.2.2.2.2.2.2.2.1, h0_m2.2.2.2.2.2.2.2.2.2.2.2.2.2.2.2.2.1, h0_m2.2.2.2.2.2.2.2.2.2.2.2.2.2.2.2.2.2.1, h0_m2.2.2.2.2.2.2.2.2.2.2.2.2.2.2.2.2.2.2.1, h0_m2.2.2.2.2.2.2.2.2.2.2.2.2.2.2.2.2.2.2.2, h0_m3.1, h0_m3.2.1, h0_m3.2.2.1, h0_m3.2.2.2.1, h0_m3.2.2.2.2.1, h0_m3.2.2.2.2.2.1, h0_m3.2.2.2.2.2.2.1, h0_m3.2.2.2.2.2.2.2.1, h0_m3.2.2.2.2.2.2.2.2.1, h0_m3.2.2.2.2.2.2.2.2.2.1, h0_m3.2.2.2.2.2.2.2.2.2.2.1, h0_m3.2.2.2.2.2.2.2.2.2.2.2.1, h0_m3.2.2.2.2.2.2.2.2.2.2.2.2.1, h0_m3.2.2.2.2.2.2.2.2.2.2.2.2.2.1, h0_m3.2.2.2.2.2.2.2.2.2.2.2.2.2.2.1, h0_m3.2.2.2.2.2.2.2.2.2.2.2.2.2.2.2.1, h0_m3.2.2.2.2.2.2.2.2.2.2.2.2.2.2.2.2.1, h0_m3.2.2.2.2.2.2.2.2.2.2.2.2.2.2.2.2.2.1, h0_m3.2.2.2.2.2.2.2.2.2.2.2.2.2.2.2.2.2.2.1, h0_m3.2.2.2.2.2.2.2.2.2.2.2.2.2.2.2.2.2.2.2, h0_m4.1, h0_m4.2.1, h0_m4.2.2.1, h0_m4.2.2.2.1, h0_m4.2.2.2.2.1, h0_m4.2.2.2.2.2.1, h0_m4.2.2.2.2.2.2.1, h0_m4.2.2.2.2.2.2.2.1, h0_m4.2.2.2.2.2.2.2.2.1, h0_m4.2.2.2.2.2.2.2.2.2.1, h0_m4.2.2.2.2.2.2.2.2.2.2.1, h0_m4.2.2.2.2.2.2.2.2.2.2.2.1, h0_m4.2.2.2.2.2.2.2.2.2.2.2.2.1, h0_m4.2.2.2.2.2.2.2.2.2.2.2.2.2.1, h0_m4.2.2.2.2.2.2.2.2.2.2.2.2.2.2.1, h0_m4.2.2.2.2.2.2.2.2.2.2.2.2.2.2.2.1, h0_m4.2.2.2.2.2.2.2.2.2.2.2.2.2.2.2.2.1, h0_m4.2.2.2.2.2.2.2.2.2.2.2.2.2.2.2.2.2.1, h0_m4.2.2.2.2.2.2.2.2.2.2.2.2.2.2.2.2.2.2.1, h0_m4.2.2.2.2.2.2.2.2.2.2.2.2.2.2.2.2.2.2.2, h0_m5.1, h0_m5.2.1, h0_m5.2.2.1, h0_m5.2.2.2.1, h0_m5.2.2.2.2.1, h0_m5.2.2.2.2.2.1, h0_m5.2.2.2.2.2.2.1, h0_m5.2.2.2.2.2.2.2.1, h0_m5.2.2.2.2.2.2.2.2.1, h0_m5.2.2.2.2.2.2.2.2.2.1, h0_m5.2.2.2.2.2.2.2.2.2.2.1, h0_m5.2.2.2.2.2.2.2.2.2.2.2.1, h0_m5.2.2.2.2.2.2.2.2.2.2.2.2.1, h0_m5.2.2.2.2.2.2.2.2.2.2.2.2.2.1, h0_m5.2.2.2.2.2.2.2.2.2.2.2.2.2.2.1, h0_m5.2.2.2.2.2.2.2.2.2.2.2.2.2.2.2.1, h0_m5.2.2.2.2.2.2.2.2.2.2.2.2.2.2.2.2.1, h0_m5.2.2.2.2.2.2.2.2.2.2.2.2.2.2.2.2.2.1, h0_m5.2.2.2.2.2.2.2.2.2.2.2.2.2.2.2.2.2.2.1, h0_m5.2.2.2.2.2.2.2.2.2.2.2.2.2.2.2.2.2.2.2, h0_m6.1, h0_m6.2.1, h0_m6.2.2.1, h0_m6.2.2.2.1, h0_m6.2.2.2.2.1, h0_m6.2.2.2.2.2.1, h0_m6.2.2.2.2.2.2.1, h0_m6.2.2.2.2.2.2.2.1, h0_m6.2.2.2.2.2.2.2.2.1, h0_m6.2.2.2.2.2.2.2.2.2.1, h0_m6.2.2.2.2.2.2.2.2.2.2.1, h0_m6.2.2.2.2.2.2.2.2.2.2.2.1, h0_m6.2.2.2.2.2.2.2.2.2.2.2.2.1, h0_m6.2.2.2.2.2.2.2.2.2.2.2.2.2.1, h0_m6.2.2.2.2.2.2.2.2.2.2.2.2.2.2.1, h0_m6.2.2.2.2.2.2.2.2.2.2.2.2.2.2.2.1, h0_m6.2.2.2.2.2.2.2.2.2.2.2.2.2.2.2.2.1, h0_m6.2.2.2.2.2.2.2.2.2.2.2.2.2.2.2.2.2⟩
set_option maxRecDepth 100000 in
theorem kcd12 : kcd 12 = (13, cdk12) := rfl
