/-! Printed by wip/ai/tab.py. -/
noncomputable def muG0 : LE := (10, [(0, (-1))])
set_option maxRecDepth 100000 in
noncomputable def smrec0_0 : Sm := (12, 4, [(2, 42, 0), (0, 0, 10), (0, (-2147483648), 2147483647), (0, (-2147483648), 2147483647)], [], [(10, [(0, (-1))]), (0, [(0, 1)])], [(0, 42, 11, 12), (0, 46, 0, 2), (0, 47, 0, 2), (0, 48, 0, 9), (0, 49, 0, 9)], [([], none, [], [])])
set_option maxRecDepth 100000 in
noncomputable def smlo0_0 : Sm := (12, 2, [(2, 42, 0), (0, 0, 10), (0, (-2147483648), 2147483647), (0, (-2147483648), 2147483647)], [], [(10, [(0, (-1))]), (0, [(0, 1)]), ((-1), [(0, 1), (500, (-1))])], [(0, 42, 11, 12), (0, 46, 0, 2), (0, 47, 0, 2), (0, 48, 0, 9), (0, 49, 0, 9)], [([], none, [], [])])
set_option maxRecDepth 100000 in
theorem e_lo0_0 : smlo0_0 = moreF smrec0_0 2 [leK (leSub (mu5 muG0) muG0) (-1)] := rfl
set_option maxRecDepth 1000000 in
noncomputable def anr0_0 : List (Nat × List (Nat × An)) := [(12, [(55, ([((0, 4, 0, (0, [])), 0, 2147483647)], ([], [], []), [], [], [(0, 42, 11, 11), (0, 46, 2, 2), (0, 46, 1, 1), (0, 46, 0, 0), (0, 42, 12, 12)], 0, true))])]
set_option maxRecDepth 1000000 in
theorem vr0_0 : vfy rgT [smlo0_0] anr0_0 1000 smrec0_0 = true := by decide +kernel
theorem recG0 : ∀ n : Nat, SmR rgT muG0 2 n smrec0_0 := by
  intro n
  induction n with
  | zero => exact SmR.zero (by decide +kernel)
  | succ n ih =>
    have h0 := ih
    have p0 : SmR rgT muG0 2 (n + 1) smrec0_0 := SmR.up vr0_0 (fun ρ0 hm => List.forall_mem_cons.mpr ⟨(by rw [e_lo0_0]; exact SmR.lo h0 (scB_S (by decide +kernel)) rfl hm), fun _ h => absurd h List.not_mem_nil⟩)
    exact p0
theorem ok0 : SmOK rgT sm0 := SmR.ok (D := 26) (recG0 11) (by decide +kernel) (by decide +kernel)
set_option maxRecDepth 1000000 in
noncomputable def an1 : List (Nat × List (Nat × An)) := [(190, [(37, ([((0, 4, 0, (0, [])), 0, 2147483647), ((0, 3, 0, (0, [])), 0, 1)], ([], [], []), [], [], [], 0, true))])]
set_option maxRecDepth 1000000 in
theorem ok1 : SmOK rgT sm1 := vfy_sp (T := []) (AN := an1) (g := 994) (fun _ h => absurd h List.not_mem_nil) (by decide +kernel)
noncomputable def muG1 : LE := (10, [(0, (-1))])
set_option maxRecDepth 100000 in
noncomputable def smrec1_0 : Sm := (191, 5, [(2, 65, 0), (0, 0, 10), (0, (-2147483648), 2147483647), (0, (-2147483648), 2147483647)], [((1, 0, 66, (2, [])), 0, 10)], [(0, [(0, (-1)), (3, 1)]), (10, [(0, (-1))]), (0, [(0, 1)])], [(0, 65, 10, 11), (0, 72, 0, 9), (0, 73, 0, 9), (0, 74, 0, 2)], [([], none, [], [])])
set_option maxRecDepth 100000 in
noncomputable def smlo1_0 : Sm := (191, 4, [(2, 65, 0), (0, 0, 10), (0, (-2147483648), 2147483647), (0, (-2147483648), 2147483647)], [((1, 0, 66, (2, [])), 0, 10)], [(0, [(0, (-1)), (3, 1)]), (10, [(0, (-1))]), (0, [(0, 1)]), ((-1), [(0, 1), (500, (-1))])], [(0, 65, 10, 11), (0, 72, 0, 9), (0, 73, 0, 9), (0, 74, 0, 2)], [([], none, [], [])])
set_option maxRecDepth 100000 in
theorem e_lo1_0 : smlo1_0 = moreF smrec1_0 4 [leK (leSub (mu5 muG1) muG1) (-1)] := rfl
set_option maxRecDepth 1000000 in
noncomputable def anr1_0 : List (Nat × List (Nat × An)) := [(191, [(62, ([((0, 5, 0, (0, [])), 0, 2147483647)], ([], [], []), [], [], [], 0, true)), (92, ([((0, 5, 0, (0, [])), 0, 2147483647)], ([], [], []), [], [], [(0, 65, 10, 10), (0, 65, 11, 11)], 0, true))])]
set_option maxRecDepth 1000000 in
theorem vr1_0 : vfy rgT [smlo1_0, sm1] anr1_0 299 smrec1_0 = true := by decide +kernel
theorem recG1 : ∀ n : Nat, SmR rgT muG1 1 n smrec1_0 := by
  intro n
  induction n with
  | zero => exact SmR.zero (by decide +kernel)
  | succ n ih =>
    have h0 := ih
    have p0 : SmR rgT muG1 1 (n + 1) smrec1_0 := SmR.up vr1_0 (fun ρ0 hm => List.forall_mem_cons.mpr ⟨(by rw [e_lo1_0]; exact SmR.lo h0 (scB_S (by decide +kernel)) rfl hm), List.forall_mem_cons.mpr ⟨ok1.q, fun _ h => absurd h List.not_mem_nil⟩⟩)
    exact p0
theorem ok2 : SmOK rgT sm2 := SmR.ok (D := 16) (recG1 11) (by decide +kernel) (by decide +kernel)
set_option maxRecDepth 1000000 in
noncomputable def an7 : List (Nat × List (Nat × An)) := [(211, [(34, ([((1, 0, 65, (18, [])), 0, 96)], ([(0, [(0, (-1)), (1000, 1)]), (0, [(0, 1), (1001, (-1))])], [], []), [], [], [(0, 65, 18, 18)], 0, true)), (128, ([((1, 0, 65, (18, [])), 0, 96)], ([(0, [(0, (-1)), (1000, 1)]), ((-1), [(0, 1), (2000, (-1))])], [(1, 0, 65, (17, []))], [((1, 0, 65, (18, [])), (1, 0, 65, (17, [])))]), [], [], [(0, 65, 18, 18)], 0, true)), (214, ([((1, 0, 65, (18, [])), 0, 96)], ([(0, [(0, (-1)), (1000, 1)]), ((-1), [(0, 1), (2000, (-1))])], [(1, 0, 65, (17, []))], [((1, 0, 65, (18, [])), (1, 0, 65, (17, [])))]), [], [], [(0, 65, 18, 18), (0, 65, 20, 20)], 0, true))])]
set_option maxRecDepth 1000000 in
theorem ok7 : SmOK rgT sm7 := vfy_sp (T := []) (AN := an7) (g := 4820) (fun _ h => absurd h List.not_mem_nil) (by decide +kernel)
