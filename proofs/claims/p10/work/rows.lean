section
-- ===== PART A: goes FIRST, ahead of the names: the tables' words, and 'selects' of the private methods out of them =====
/-- a private method of a class that the tables say can be made, by its rows of tables_1 -/
def lw_okq (q : MethodName × Nat) : Prop := (q.1.cls ≠ "java/lang/invoke/MethodHandle" ∧ q.1.cls ≠ "java/lang/invoke/VarHandle") ∧ Cond.instantiable q.1.cls q.2 ∈ tables_1 ∧ Cond.privateMethod q.1 ∈ tables_1 ∧ Cond.instanceMethod q.1 ∈ tables_1
theorem lw_p0 : lw_okq (⟨"PrisonShops", "canBecome", "(II)Z"⟩, 13) := ⟨⟨by decide +kernel, by decide +kernel⟩, List.mem_of_getElem? (i := 22) (by decide +kernel), List.mem_of_getElem? (i := 404) (by decide +kernel), List.mem_of_getElem? (i := 405) (by decide +kernel)⟩
theorem lw_p1 : lw_okq (⟨"PrisonShops$Filling", "sumLeastTurns", "()V"⟩, 13) := ⟨⟨by decide +kernel, by decide +kernel⟩, List.mem_of_getElem? (i := 156) (by decide +kernel), List.mem_of_getElem? (i := 474) (by decide +kernel), List.mem_of_getElem? (i := 475) (by decide +kernel)⟩
theorem lw_p2 : lw_okq (⟨"PrisonShops$Filling", "sortIn", "(II)V"⟩, 13) := ⟨⟨by decide +kernel, by decide +kernel⟩, List.mem_of_getElem? (i := 156) (by decide +kernel), List.mem_of_getElem? (i := 478) (by decide +kernel), List.mem_of_getElem? (i := 479) (by decide +kernel)⟩
theorem lw_p3 : lw_okq (⟨"PrisonShops$Filling", "place", "(III)V"⟩, 13) := ⟨⟨by decide +kernel, by decide +kernel⟩, List.mem_of_getElem? (i := 156) (by decide +kernel), List.mem_of_getElem? (i := 482) (by decide +kernel), List.mem_of_getElem? (i := 483) (by decide +kernel)⟩
theorem lw_p4 : lw_okq (⟨"PrisonShops$Filling", "canBeBetter", "(III)Z"⟩, 13) := ⟨⟨by decide +kernel, by decide +kernel⟩, List.mem_of_getElem? (i := 156) (by decide +kernel), List.mem_of_getElem? (i := 486) (by decide +kernel), List.mem_of_getElem? (i := 487) (by decide +kernel)⟩
theorem lw_p5 : lw_okq (⟨"PrisonShops$Filling", "placeIn", "(IIII)V"⟩, 13) := ⟨⟨by decide +kernel, by decide +kernel⟩, List.mem_of_getElem? (i := 156) (by decide +kernel), List.mem_of_getElem? (i := 493) (by decide +kernel), List.mem_of_getElem? (i := 494) (by decide +kernel)⟩
theorem lw_p6 : lw_okq (⟨"PrisonShops$Filling", "fits", "(II)Z"⟩, 13) := ⟨⟨by decide +kernel, by decide +kernel⟩, List.mem_of_getElem? (i := 156) (by decide +kernel), List.mem_of_getElem? (i := 497) (by decide +kernel), List.mem_of_getElem? (i := 498) (by decide +kernel)⟩
theorem lw_p7 : lw_okq (⟨"PrisonShops$Filling", "leaveOut", "(III)V"⟩, 13) := ⟨⟨by decide +kernel, by decide +kernel⟩, List.mem_of_getElem? (i := 156) (by decide +kernel), List.mem_of_getElem? (i := 501) (by decide +kernel), List.mem_of_getElem? (i := 502) (by decide +kernel)⟩
theorem lw_p8 : lw_okq (⟨"PrisonShops$Forecast", "listOrders", "(LPrisonShops$State;I)V"⟩, 5) := ⟨⟨by decide +kernel, by decide +kernel⟩, List.mem_of_getElem? (i := 134) (by decide +kernel), List.mem_of_getElem? (i := 597) (by decide +kernel), List.mem_of_getElem? (i := 598) (by decide +kernel)⟩
theorem lw_p9 : lw_okq (⟨"PrisonShops$State", "comesAhead", "(II)Z"⟩, 7) := ⟨⟨by decide +kernel, by decide +kernel⟩, List.mem_of_getElem? (i := 30) (by decide +kernel), List.mem_of_getElem? (i := 610) (by decide +kernel), List.mem_of_getElem? (i := 611) (by decide +kernel)⟩
theorem lw_p10 : lw_okq (⟨"PrisonShops$Forecast", "listWorkers", "(LPrisonShops$State;I)V"⟩, 5) := ⟨⟨by decide +kernel, by decide +kernel⟩, List.mem_of_getElem? (i := 134) (by decide +kernel), List.mem_of_getElem? (i := 615) (by decide +kernel), List.mem_of_getElem? (i := 616) (by decide +kernel)⟩
theorem lw_p11 : lw_okq (⟨"PrisonShops$Forecast", "madeOn", "(II)I"⟩, 5) := ⟨⟨by decide +kernel, by decide +kernel⟩, List.mem_of_getElem? (i := 134) (by decide +kernel), List.mem_of_getElem? (i := 620) (by decide +kernel), List.mem_of_getElem? (i := 621) (by decide +kernel)⟩
theorem lw_p12 : lw_okq (⟨"PrisonShops$Reader", "startAnew", "()V"⟩, 12) := ⟨⟨by decide +kernel, by decide +kernel⟩, List.mem_of_getElem? (i := 215) (by decide +kernel), List.mem_of_getElem? (i := 659) (by decide +kernel), List.mem_of_getElem? (i := 660) (by decide +kernel)⟩
theorem lw_p13 : lw_okq (⟨"PrisonShops$Reader", "goOn", "()V"⟩, 12) := ⟨⟨by decide +kernel, by decide +kernel⟩, List.mem_of_getElem? (i := 215) (by decide +kernel), List.mem_of_getElem? (i := 667) (by decide +kernel), List.mem_of_getElem? (i := 668) (by decide +kernel)⟩
theorem lw_p14 : lw_okq (⟨"PrisonShops$Reader", "skipLetters", "()V"⟩, 12) := ⟨⟨by decide +kernel, by decide +kernel⟩, List.mem_of_getElem? (i := 215) (by decide +kernel), List.mem_of_getElem? (i := 679) (by decide +kernel), List.mem_of_getElem? (i := 680) (by decide +kernel)⟩
theorem lw_p15 : lw_okq (⟨"PrisonShops$Reader", "readDigits", "()V"⟩, 12) := ⟨⟨by decide +kernel, by decide +kernel⟩, List.mem_of_getElem? (i := 215) (by decide +kernel), List.mem_of_getElem? (i := 686) (by decide +kernel), List.mem_of_getElem? (i := 687) (by decide +kernel)⟩
def lw_privs_1 : List (MethodName × Nat) := [(⟨"PrisonShops", "canBecome", "(II)Z"⟩, 13), (⟨"PrisonShops$Filling", "sumLeastTurns", "()V"⟩, 13), (⟨"PrisonShops$Filling", "sortIn", "(II)V"⟩, 13), (⟨"PrisonShops$Filling", "place", "(III)V"⟩, 13), (⟨"PrisonShops$Filling", "canBeBetter", "(III)Z"⟩, 13), (⟨"PrisonShops$Filling", "placeIn", "(IIII)V"⟩, 13), (⟨"PrisonShops$Filling", "fits", "(II)Z"⟩, 13), (⟨"PrisonShops$Filling", "leaveOut", "(III)V"⟩, 13), (⟨"PrisonShops$Forecast", "listOrders", "(LPrisonShops$State;I)V"⟩, 5), (⟨"PrisonShops$State", "comesAhead", "(II)Z"⟩, 7), (⟨"PrisonShops$Forecast", "listWorkers", "(LPrisonShops$State;I)V"⟩, 5), (⟨"PrisonShops$Forecast", "madeOn", "(II)I"⟩, 5), (⟨"PrisonShops$Reader", "startAnew", "()V"⟩, 12), (⟨"PrisonShops$Reader", "goOn", "()V"⟩, 12), (⟨"PrisonShops$Reader", "skipLetters", "()V"⟩, 12), (⟨"PrisonShops$Reader", "readDigits", "()V"⟩, 12)]
theorem lw_r1 : ∀ q ∈ lw_privs_1, lw_okq q := List.forall_mem_cons.mpr ⟨lw_p0, List.forall_mem_cons.mpr ⟨lw_p1, List.forall_mem_cons.mpr ⟨lw_p2, List.forall_mem_cons.mpr ⟨lw_p3, List.forall_mem_cons.mpr ⟨lw_p4, List.forall_mem_cons.mpr ⟨lw_p5, List.forall_mem_cons.mpr ⟨lw_p6, List.forall_mem_cons.mpr ⟨lw_p7, List.forall_mem_cons.mpr ⟨lw_p8, List.forall_mem_cons.mpr ⟨lw_p9, List.forall_mem_cons.mpr ⟨lw_p10, List.forall_mem_cons.mpr ⟨lw_p11, List.forall_mem_cons.mpr ⟨lw_p12, List.forall_mem_cons.mpr ⟨lw_p13, List.forall_mem_cons.mpr ⟨lw_p14, List.forall_mem_cons.mpr ⟨lw_p15, fun _ h => absurd h List.not_mem_nil⟩⟩⟩⟩⟩⟩⟩⟩⟩⟩⟩⟩⟩⟩⟩⟩
theorem lw_p16 : lw_okq (⟨"PrisonShops$Reader", "keyHere", "()I"⟩, 12) := ⟨⟨by decide +kernel, by decide +kernel⟩, List.mem_of_getElem? (i := 215) (by decide +kernel), List.mem_of_getElem? (i := 691) (by decide +kernel), List.mem_of_getElem? (i := 692) (by decide +kernel)⟩
theorem lw_p17 : lw_okq (⟨"PrisonShops$Reader", "isSpelt", "(Ljava/lang/String;)Z"⟩, 12) := ⟨⟨by decide +kernel, by decide +kernel⟩, List.mem_of_getElem? (i := 215) (by decide +kernel), List.mem_of_getElem? (i := 704) (by decide +kernel), List.mem_of_getElem? (i := 705) (by decide +kernel)⟩
theorem lw_p18 : lw_okq (⟨"PrisonShops$Reader", "readPart", "()Z"⟩, 12) := ⟨⟨by decide +kernel, by decide +kernel⟩, List.mem_of_getElem? (i := 215) (by decide +kernel), List.mem_of_getElem? (i := 757) (by decide +kernel), List.mem_of_getElem? (i := 758) (by decide +kernel)⟩
theorem lw_p19 : lw_okq (⟨"PrisonShops$Reader", "takePart", "(I)Z"⟩, 12) := ⟨⟨by decide +kernel, by decide +kernel⟩, List.mem_of_getElem? (i := 215) (by decide +kernel), List.mem_of_getElem? (i := 761) (by decide +kernel), List.mem_of_getElem? (i := 762) (by decide +kernel)⟩
theorem lw_p20 : lw_okq (⟨"PrisonShops$Reader", "endPart", "()V"⟩, 12) := ⟨⟨by decide +kernel, by decide +kernel⟩, List.mem_of_getElem? (i := 215) (by decide +kernel), List.mem_of_getElem? (i := 769) (by decide +kernel), List.mem_of_getElem? (i := 770) (by decide +kernel)⟩
theorem lw_p21 : lw_okq (⟨"PrisonShops$Reader", "takeName", "()Z"⟩, 12) := ⟨⟨by decide +kernel, by decide +kernel⟩, List.mem_of_getElem? (i := 215) (by decide +kernel), List.mem_of_getElem? (i := 781) (by decide +kernel), List.mem_of_getElem? (i := 782) (by decide +kernel)⟩
theorem lw_p22 : lw_okq (⟨"PrisonShops$Reader", "takeOpening", "()Z"⟩, 12) := ⟨⟨by decide +kernel, by decide +kernel⟩, List.mem_of_getElem? (i := 215) (by decide +kernel), List.mem_of_getElem? (i := 849) (by decide +kernel), List.mem_of_getElem? (i := 850) (by decide +kernel)⟩
theorem lw_p23 : lw_okq (⟨"PrisonShops$Reader", "readSign", "()Z"⟩, 12) := ⟨⟨by decide +kernel, by decide +kernel⟩, List.mem_of_getElem? (i := 215) (by decide +kernel), List.mem_of_getElem? (i := 853) (by decide +kernel), List.mem_of_getElem? (i := 854) (by decide +kernel)⟩
theorem lw_p24 : lw_okq (⟨"PrisonShops$Reader", "takeClosing", "()Z"⟩, 12) := ⟨⟨by decide +kernel, by decide +kernel⟩, List.mem_of_getElem? (i := 215) (by decide +kernel), List.mem_of_getElem? (i := 857) (by decide +kernel), List.mem_of_getElem? (i := 858) (by decide +kernel)⟩
theorem lw_p25 : lw_okq (⟨"PrisonShops$Reader", "settle", "(I)V"⟩, 12) := ⟨⟨by decide +kernel, by decide +kernel⟩, List.mem_of_getElem? (i := 215) (by decide +kernel), List.mem_of_getElem? (i := 861) (by decide +kernel), List.mem_of_getElem? (i := 862) (by decide +kernel)⟩
theorem lw_p26 : lw_okq (⟨"PrisonShops$Rules", "workOut", "(LPrisonShops$Table;IIII)I"⟩, 1) := ⟨⟨by decide +kernel, by decide +kernel⟩, List.mem_of_getElem? (i := 101) (by decide +kernel), List.mem_of_getElem? (i := 905) (by decide +kernel), List.mem_of_getElem? (i := 906) (by decide +kernel)⟩
theorem lw_p27 : lw_okq (⟨"PrisonShops", "refusalOfEvent", "(I)I"⟩, 13) := ⟨⟨by decide +kernel, by decide +kernel⟩, List.mem_of_getElem? (i := 22) (by decide +kernel), List.mem_of_getElem? (i := 944) (by decide +kernel), List.mem_of_getElem? (i := 945) (by decide +kernel)⟩
theorem lw_p28 : lw_okq (⟨"PrisonShops$State", "countsOn", "(II)Z"⟩, 7) := ⟨⟨by decide +kernel, by decide +kernel⟩, List.mem_of_getElem? (i := 30) (by decide +kernel), List.mem_of_getElem? (i := 974) (by decide +kernel), List.mem_of_getElem? (i := 975) (by decide +kernel)⟩
theorem lw_p29 : lw_okq (⟨"PrisonShops$Days", "work", "(LPrisonShops$State;I)V"⟩, 1) := ⟨⟨by decide +kernel, by decide +kernel⟩, List.mem_of_getElem? (i := 124) (by decide +kernel), List.mem_of_getElem? (i := 987) (by decide +kernel), List.mem_of_getElem? (i := 988) (by decide +kernel)⟩
theorem lw_p30 : lw_okq (⟨"PrisonShops$Days", "learn", "(LPrisonShops$State;I)V"⟩, 1) := ⟨⟨by decide +kernel, by decide +kernel⟩, List.mem_of_getElem? (i := 124) (by decide +kernel), List.mem_of_getElem? (i := 1000) (by decide +kernel), List.mem_of_getElem? (i := 1001) (by decide +kernel)⟩
theorem lw_p31 : lw_okq (⟨"PrisonShops$Days", "finishOrders", "(LPrisonShops$State;I)V"⟩, 1) := ⟨⟨by decide +kernel, by decide +kernel⟩, List.mem_of_getElem? (i := 124) (by decide +kernel), List.mem_of_getElem? (i := 1006) (by decide +kernel), List.mem_of_getElem? (i := 1007) (by decide +kernel)⟩
def lw_privs_2 : List (MethodName × Nat) := [(⟨"PrisonShops$Reader", "keyHere", "()I"⟩, 12), (⟨"PrisonShops$Reader", "isSpelt", "(Ljava/lang/String;)Z"⟩, 12), (⟨"PrisonShops$Reader", "readPart", "()Z"⟩, 12), (⟨"PrisonShops$Reader", "takePart", "(I)Z"⟩, 12), (⟨"PrisonShops$Reader", "endPart", "()V"⟩, 12), (⟨"PrisonShops$Reader", "takeName", "()Z"⟩, 12), (⟨"PrisonShops$Reader", "takeOpening", "()Z"⟩, 12), (⟨"PrisonShops$Reader", "readSign", "()Z"⟩, 12), (⟨"PrisonShops$Reader", "takeClosing", "()Z"⟩, 12), (⟨"PrisonShops$Reader", "settle", "(I)V"⟩, 12), (⟨"PrisonShops$Rules", "workOut", "(LPrisonShops$Table;IIII)I"⟩, 1), (⟨"PrisonShops", "refusalOfEvent", "(I)I"⟩, 13), (⟨"PrisonShops$State", "countsOn", "(II)Z"⟩, 7), (⟨"PrisonShops$Days", "work", "(LPrisonShops$State;I)V"⟩, 1), (⟨"PrisonShops$Days", "learn", "(LPrisonShops$State;I)V"⟩, 1), (⟨"PrisonShops$Days", "finishOrders", "(LPrisonShops$State;I)V"⟩, 1)]
theorem lw_r2 : ∀ q ∈ lw_privs_2, lw_okq q := List.forall_mem_cons.mpr ⟨lw_p16, List.forall_mem_cons.mpr ⟨lw_p17, List.forall_mem_cons.mpr ⟨lw_p18, List.forall_mem_cons.mpr ⟨lw_p19, List.forall_mem_cons.mpr ⟨lw_p20, List.forall_mem_cons.mpr ⟨lw_p21, List.forall_mem_cons.mpr ⟨lw_p22, List.forall_mem_cons.mpr ⟨lw_p23, List.forall_mem_cons.mpr ⟨lw_p24, List.forall_mem_cons.mpr ⟨lw_p25, List.forall_mem_cons.mpr ⟨lw_p26, List.forall_mem_cons.mpr ⟨lw_p27, List.forall_mem_cons.mpr ⟨lw_p28, List.forall_mem_cons.mpr ⟨lw_p29, List.forall_mem_cons.mpr ⟨lw_p30, List.forall_mem_cons.mpr ⟨lw_p31, fun _ h => absurd h List.not_mem_nil⟩⟩⟩⟩⟩⟩⟩⟩⟩⟩⟩⟩⟩⟩⟩⟩
theorem lw_p32 : lw_okq (⟨"PrisonShops$Days", "openGate", "(LPrisonShops$State;I)V"⟩, 1) := ⟨⟨by decide +kernel, by decide +kernel⟩, List.mem_of_getElem? (i := 124) (by decide +kernel), List.mem_of_getElem? (i := 1013) (by decide +kernel), List.mem_of_getElem? (i := 1014) (by decide +kernel)⟩
theorem lw_p33 : lw_okq (⟨"PrisonShops$Sheets", "hasPlace", "(II)Z"⟩, 3) := ⟨⟨by decide +kernel, by decide +kernel⟩, List.mem_of_getElem? (i := 260) (by decide +kernel), List.mem_of_getElem? (i := 1060) (by decide +kernel), List.mem_of_getElem? (i := 1061) (by decide +kernel)⟩
theorem lw_p34 : lw_okq (⟨"PrisonShops$Sheets", "hasRow", "(III)Z"⟩, 3) := ⟨⟨by decide +kernel, by decide +kernel⟩, List.mem_of_getElem? (i := 260) (by decide +kernel), List.mem_of_getElem? (i := 1081) (by decide +kernel), List.mem_of_getElem? (i := 1082) (by decide +kernel)⟩
theorem lw_p35 : lw_okq (⟨"PrisonShops", "wasTold", "(III)Z"⟩, 13) := ⟨⟨by decide +kernel, by decide +kernel⟩, List.mem_of_getElem? (i := 22) (by decide +kernel), List.mem_of_getElem? (i := 1116) (by decide +kernel), List.mem_of_getElem? (i := 1117) (by decide +kernel)⟩
theorem lw_p36 : lw_okq (⟨"PrisonShopsModel", "shopAt", "(I)I"⟩, 36) := ⟨⟨by decide +kernel, by decide +kernel⟩, List.mem_of_getElem? (i := 1144) (by decide +kernel), List.mem_of_getElem? (i := 1271) (by decide +kernel), List.mem_of_getElem? (i := 1272) (by decide +kernel)⟩
theorem lw_p37 : lw_okq (⟨"PrisonShopsModel", "isShop", "(I)Z"⟩, 36) := ⟨⟨by decide +kernel, by decide +kernel⟩, List.mem_of_getElem? (i := 1144) (by decide +kernel), List.mem_of_getElem? (i := 1279) (by decide +kernel), List.mem_of_getElem? (i := 1280) (by decide +kernel)⟩
theorem lw_p38 : lw_okq (⟨"PrisonShopsModel", "becomes", "(II)I"⟩, 36) := ⟨⟨by decide +kernel, by decide +kernel⟩, List.mem_of_getElem? (i := 1144) (by decide +kernel), List.mem_of_getElem? (i := 1284) (by decide +kernel), List.mem_of_getElem? (i := 1285) (by decide +kernel)⟩
theorem lw_p39 : lw_okq (⟨"PrisonShopsModel", "tools", "(II)I"⟩, 36) := ⟨⟨by decide +kernel, by decide +kernel⟩, List.mem_of_getElem? (i := 1144) (by decide +kernel), List.mem_of_getElem? (i := 1297) (by decide +kernel), List.mem_of_getElem? (i := 1298) (by decide +kernel)⟩
theorem lw_p40 : lw_okq (⟨"PrisonShopsModel", "isTool", "(I)Z"⟩, 36) := ⟨⟨by decide +kernel, by decide +kernel⟩, List.mem_of_getElem? (i := 1144) (by decide +kernel), List.mem_of_getElem? (i := 1301) (by decide +kernel), List.mem_of_getElem? (i := 1302) (by decide +kernel)⟩
theorem lw_p41 : lw_okq (⟨"PrisonShopsModel", "thingAt", "(I)I"⟩, 36) := ⟨⟨by decide +kernel, by decide +kernel⟩, List.mem_of_getElem? (i := 1144) (by decide +kernel), List.mem_of_getElem? (i := 1305) (by decide +kernel), List.mem_of_getElem? (i := 1306) (by decide +kernel)⟩
theorem lw_p42 : lw_okq (⟨"PrisonShopsModel", "handsIn", "(I)I"⟩, 36) := ⟨⟨by decide +kernel, by decide +kernel⟩, List.mem_of_getElem? (i := 1144) (by decide +kernel), List.mem_of_getElem? (i := 1309) (by decide +kernel), List.mem_of_getElem? (i := 1310) (by decide +kernel)⟩
theorem lw_p43 : lw_okq (⟨"PrisonShopsModel", "handAt", "(I)I"⟩, 36) := ⟨⟨by decide +kernel, by decide +kernel⟩, List.mem_of_getElem? (i := 1144) (by decide +kernel), List.mem_of_getElem? (i := 1313) (by decide +kernel), List.mem_of_getElem? (i := 1314) (by decide +kernel)⟩
theorem lw_p44 : lw_okq (⟨"PrisonShopsModel", "isHand", "(I)Z"⟩, 36) := ⟨⟨by decide +kernel, by decide +kernel⟩, List.mem_of_getElem? (i := 1144) (by decide +kernel), List.mem_of_getElem? (i := 1326) (by decide +kernel), List.mem_of_getElem? (i := 1327) (by decide +kernel)⟩
theorem lw_p45 : lw_okq (⟨"PrisonShopsModel", "mayWork", "(II)Z"⟩, 36) := ⟨⟨by decide +kernel, by decide +kernel⟩, List.mem_of_getElem? (i := 1144) (by decide +kernel), List.mem_of_getElem? (i := 1348) (by decide +kernel), List.mem_of_getElem? (i := 1349) (by decide +kernel)⟩
theorem lw_p46 : lw_okq (⟨"PrisonShopsModel", "isFree", "(I)Z"⟩, 36) := ⟨⟨by decide +kernel, by decide +kernel⟩, List.mem_of_getElem? (i := 1144) (by decide +kernel), List.mem_of_getElem? (i := 1352) (by decide +kernel), List.mem_of_getElem? (i := 1353) (by decide +kernel)⟩
theorem lw_p47 : lw_okq (⟨"PrisonShopsModel", "isBarred", "(II)Z"⟩, 36) := ⟨⟨by decide +kernel, by decide +kernel⟩, List.mem_of_getElem? (i := 1144) (by decide +kernel), List.mem_of_getElem? (i := 1360) (by decide +kernel), List.mem_of_getElem? (i := 1361) (by decide +kernel)⟩
def lw_privs_3 : List (MethodName × Nat) := [(⟨"PrisonShops$Days", "openGate", "(LPrisonShops$State;I)V"⟩, 1), (⟨"PrisonShops$Sheets", "hasPlace", "(II)Z"⟩, 3), (⟨"PrisonShops$Sheets", "hasRow", "(III)Z"⟩, 3), (⟨"PrisonShops", "wasTold", "(III)Z"⟩, 13), (⟨"PrisonShopsModel", "shopAt", "(I)I"⟩, 36), (⟨"PrisonShopsModel", "isShop", "(I)Z"⟩, 36), (⟨"PrisonShopsModel", "becomes", "(II)I"⟩, 36), (⟨"PrisonShopsModel", "tools", "(II)I"⟩, 36), (⟨"PrisonShopsModel", "isTool", "(I)Z"⟩, 36), (⟨"PrisonShopsModel", "thingAt", "(I)I"⟩, 36), (⟨"PrisonShopsModel", "handsIn", "(I)I"⟩, 36), (⟨"PrisonShopsModel", "handAt", "(I)I"⟩, 36), (⟨"PrisonShopsModel", "isHand", "(I)Z"⟩, 36), (⟨"PrisonShopsModel", "mayWork", "(II)Z"⟩, 36), (⟨"PrisonShopsModel", "isFree", "(I)Z"⟩, 36), (⟨"PrisonShopsModel", "isBarred", "(II)Z"⟩, 36)]
theorem lw_r3 : ∀ q ∈ lw_privs_3, lw_okq q := List.forall_mem_cons.mpr ⟨lw_p32, List.forall_mem_cons.mpr ⟨lw_p33, List.forall_mem_cons.mpr ⟨lw_p34, List.forall_mem_cons.mpr ⟨lw_p35, List.forall_mem_cons.mpr ⟨lw_p36, List.forall_mem_cons.mpr ⟨lw_p37, List.forall_mem_cons.mpr ⟨lw_p38, List.forall_mem_cons.mpr ⟨lw_p39, List.forall_mem_cons.mpr ⟨lw_p40, List.forall_mem_cons.mpr ⟨lw_p41, List.forall_mem_cons.mpr ⟨lw_p42, List.forall_mem_cons.mpr ⟨lw_p43, List.forall_mem_cons.mpr ⟨lw_p44, List.forall_mem_cons.mpr ⟨lw_p45, List.forall_mem_cons.mpr ⟨lw_p46, List.forall_mem_cons.mpr ⟨lw_p47, fun _ h => absurd h List.not_mem_nil⟩⟩⟩⟩⟩⟩⟩⟩⟩⟩⟩⟩⟩⟩⟩⟩
theorem lw_p48 : lw_okq (⟨"PrisonShopsModel", "goes", "(II)V"⟩, 36) := ⟨⟨by decide +kernel, by decide +kernel⟩, List.mem_of_getElem? (i := 1144) (by decide +kernel), List.mem_of_getElem? (i := 1365) (by decide +kernel), List.mem_of_getElem? (i := 1366) (by decide +kernel)⟩
theorem lw_p49 : lw_okq (⟨"PrisonShopsModel", "findFilling", "()V"⟩, 36) := ⟨⟨by decide +kernel, by decide +kernel⟩, List.mem_of_getElem? (i := 1144) (by decide +kernel), List.mem_of_getElem? (i := 1373) (by decide +kernel), List.mem_of_getElem? (i := 1374) (by decide +kernel)⟩
theorem lw_p50 : lw_okq (⟨"PrisonShopsModel", "seek", "(III)V"⟩, 36) := ⟨⟨by decide +kernel, by decide +kernel⟩, List.mem_of_getElem? (i := 1144) (by decide +kernel), List.mem_of_getElem? (i := 1377) (by decide +kernel), List.mem_of_getElem? (i := 1378) (by decide +kernel)⟩
theorem lw_p51 : lw_okq (⟨"PrisonShopsModel", "canHave", "(II)Z"⟩, 36) := ⟨⟨by decide +kernel, by decide +kernel⟩, List.mem_of_getElem? (i := 1144) (by decide +kernel), List.mem_of_getElem? (i := 1381) (by decide +kernel), List.mem_of_getElem? (i := 1382) (by decide +kernel)⟩
theorem lw_p52 : lw_okq (⟨"PrisonShopsModel", "isThing", "(I)Z"⟩, 36) := ⟨⟨by decide +kernel, by decide +kernel⟩, List.mem_of_getElem? (i := 1144) (by decide +kernel), List.mem_of_getElem? (i := 1404) (by decide +kernel), List.mem_of_getElem? (i := 1405) (by decide +kernel)⟩
theorem lw_p53 : lw_okq (⟨"PrisonShopsModel", "nextOrder", "(I)I"⟩, 36) := ⟨⟨by decide +kernel, by decide +kernel⟩, List.mem_of_getElem? (i := 1144) (by decide +kernel), List.mem_of_getElem? (i := 1438) (by decide +kernel), List.mem_of_getElem? (i := 1439) (by decide +kernel)⟩
theorem lw_p54 : lw_okq (⟨"PrisonShopsModel", "parse", "()I"⟩, 36) := ⟨⟨by decide +kernel, by decide +kernel⟩, List.mem_of_getElem? (i := 1144) (by decide +kernel), List.mem_of_getElem? (i := 1454) (by decide +kernel), List.mem_of_getElem? (i := 1455) (by decide +kernel)⟩
theorem lw_p55 : lw_okq (⟨"PrisonShopsModel", "textAt", "(I)I"⟩, 36) := ⟨⟨by decide +kernel, by decide +kernel⟩, List.mem_of_getElem? (i := 1144) (by decide +kernel), List.mem_of_getElem? (i := 1458) (by decide +kernel), List.mem_of_getElem? (i := 1459) (by decide +kernel)⟩
theorem lw_p56 : lw_okq (⟨"PrisonShopsModel", "next", "()V"⟩, 36) := ⟨⟨by decide +kernel, by decide +kernel⟩, List.mem_of_getElem? (i := 1144) (by decide +kernel), List.mem_of_getElem? (i := 1462) (by decide +kernel), List.mem_of_getElem? (i := 1463) (by decide +kernel)⟩
theorem lw_p57 : lw_okq (⟨"PrisonShopsModel", "isLetter", "(I)Z"⟩, 36) := ⟨⟨by decide +kernel, by decide +kernel⟩, List.mem_of_getElem? (i := 1144) (by decide +kernel), List.mem_of_getElem? (i := 1466) (by decide +kernel), List.mem_of_getElem? (i := 1467) (by decide +kernel)⟩
theorem lw_p58 : lw_okq (⟨"PrisonShopsModel", "isDigit", "(I)Z"⟩, 36) := ⟨⟨by decide +kernel, by decide +kernel⟩, List.mem_of_getElem? (i := 1144) (by decide +kernel), List.mem_of_getElem? (i := 1472) (by decide +kernel), List.mem_of_getElem? (i := 1473) (by decide +kernel)⟩
theorem lw_p59 : lw_okq (⟨"PrisonShopsModel", "key", "()I"⟩, 36) := ⟨⟨by decide +kernel, by decide +kernel⟩, List.mem_of_getElem? (i := 1144) (by decide +kernel), List.mem_of_getElem? (i := 1478) (by decide +kernel), List.mem_of_getElem? (i := 1479) (by decide +kernel)⟩
theorem lw_p60 : lw_okq (⟨"PrisonShopsModel", "isWordAt", "(IIII)Z"⟩, 36) := ⟨⟨by decide +kernel, by decide +kernel⟩, List.mem_of_getElem? (i := 1144) (by decide +kernel), List.mem_of_getElem? (i := 1482) (by decide +kernel), List.mem_of_getElem? (i := 1483) (by decide +kernel)⟩
theorem lw_p61 : lw_okq (⟨"PrisonShopsModel", "isLong", "(IIIIII)Z"⟩, 36) := ⟨⟨by decide +kernel, by decide +kernel⟩, List.mem_of_getElem? (i := 1144) (by decide +kernel), List.mem_of_getElem? (i := 1486) (by decide +kernel), List.mem_of_getElem? (i := 1487) (by decide +kernel)⟩
theorem lw_p62 : lw_okq (⟨"PrisonShopsModel", "either", "(I)Z"⟩, 36) := ⟨⟨by decide +kernel, by decide +kernel⟩, List.mem_of_getElem? (i := 1144) (by decide +kernel), List.mem_of_getElem? (i := 1490) (by decide +kernel), List.mem_of_getElem? (i := 1491) (by decide +kernel)⟩
theorem lw_p63 : lw_okq (⟨"PrisonShopsModel", "both", "(I)Z"⟩, 36) := ⟨⟨by decide +kernel, by decide +kernel⟩, List.mem_of_getElem? (i := 1144) (by decide +kernel), List.mem_of_getElem? (i := 1494) (by decide +kernel), List.mem_of_getElem? (i := 1495) (by decide +kernel)⟩
def lw_privs_4 : List (MethodName × Nat) := [(⟨"PrisonShopsModel", "goes", "(II)V"⟩, 36), (⟨"PrisonShopsModel", "findFilling", "()V"⟩, 36), (⟨"PrisonShopsModel", "seek", "(III)V"⟩, 36), (⟨"PrisonShopsModel", "canHave", "(II)Z"⟩, 36), (⟨"PrisonShopsModel", "isThing", "(I)Z"⟩, 36), (⟨"PrisonShopsModel", "nextOrder", "(I)I"⟩, 36), (⟨"PrisonShopsModel", "parse", "()I"⟩, 36), (⟨"PrisonShopsModel", "textAt", "(I)I"⟩, 36), (⟨"PrisonShopsModel", "next", "()V"⟩, 36), (⟨"PrisonShopsModel", "isLetter", "(I)Z"⟩, 36), (⟨"PrisonShopsModel", "isDigit", "(I)Z"⟩, 36), (⟨"PrisonShopsModel", "key", "()I"⟩, 36), (⟨"PrisonShopsModel", "isWordAt", "(IIII)Z"⟩, 36), (⟨"PrisonShopsModel", "isLong", "(IIIIII)Z"⟩, 36), (⟨"PrisonShopsModel", "either", "(I)Z"⟩, 36), (⟨"PrisonShopsModel", "both", "(I)Z"⟩, 36)]
theorem lw_r4 : ∀ q ∈ lw_privs_4, lw_okq q := List.forall_mem_cons.mpr ⟨lw_p48, List.forall_mem_cons.mpr ⟨lw_p49, List.forall_mem_cons.mpr ⟨lw_p50, List.forall_mem_cons.mpr ⟨lw_p51, List.forall_mem_cons.mpr ⟨lw_p52, List.forall_mem_cons.mpr ⟨lw_p53, List.forall_mem_cons.mpr ⟨lw_p54, List.forall_mem_cons.mpr ⟨lw_p55, List.forall_mem_cons.mpr ⟨lw_p56, List.forall_mem_cons.mpr ⟨lw_p57, List.forall_mem_cons.mpr ⟨lw_p58, List.forall_mem_cons.mpr ⟨lw_p59, List.forall_mem_cons.mpr ⟨lw_p60, List.forall_mem_cons.mpr ⟨lw_p61, List.forall_mem_cons.mpr ⟨lw_p62, List.forall_mem_cons.mpr ⟨lw_p63, fun _ h => absurd h List.not_mem_nil⟩⟩⟩⟩⟩⟩⟩⟩⟩⟩⟩⟩⟩⟩⟩⟩
theorem lw_p64 : lw_okq (⟨"PrisonShopsModel", "test", "(I)Z"⟩, 36) := ⟨⟨by decide +kernel, by decide +kernel⟩, List.mem_of_getElem? (i := 1144) (by decide +kernel), List.mem_of_getElem? (i := 1498) (by decide +kernel), List.mem_of_getElem? (i := 1499) (by decide +kernel)⟩
theorem lw_p65 : lw_okq (⟨"PrisonShopsModel", "sum", "(I)Z"⟩, 36) := ⟨⟨by decide +kernel, by decide +kernel⟩, List.mem_of_getElem? (i := 1144) (by decide +kernel), List.mem_of_getElem? (i := 1502) (by decide +kernel), List.mem_of_getElem? (i := 1503) (by decide +kernel)⟩
theorem lw_p66 : lw_okq (⟨"PrisonShopsModel", "term", "(I)Z"⟩, 36) := ⟨⟨by decide +kernel, by decide +kernel⟩, List.mem_of_getElem? (i := 1144) (by decide +kernel), List.mem_of_getElem? (i := 1506) (by decide +kernel), List.mem_of_getElem? (i := 1507) (by decide +kernel)⟩
theorem lw_p67 : lw_okq (⟨"PrisonShopsModel", "part0", "(I)Z"⟩, 36) := ⟨⟨by decide +kernel, by decide +kernel⟩, List.mem_of_getElem? (i := 1144) (by decide +kernel), List.mem_of_getElem? (i := 1510) (by decide +kernel), List.mem_of_getElem? (i := 1511) (by decide +kernel)⟩
theorem lw_p68 : lw_okq (⟨"PrisonShopsModel", "step", "(II)V"⟩, 36) := ⟨⟨by decide +kernel, by decide +kernel⟩, List.mem_of_getElem? (i := 1144) (by decide +kernel), List.mem_of_getElem? (i := 1514) (by decide +kernel), List.mem_of_getElem? (i := 1515) (by decide +kernel)⟩
theorem lw_p69 : lw_okq (⟨"PrisonShopsModel", "isSign", "(I)Z"⟩, 36) := ⟨⟨by decide +kernel, by decide +kernel⟩, List.mem_of_getElem? (i := 1144) (by decide +kernel), List.mem_of_getElem? (i := 1521) (by decide +kernel), List.mem_of_getElem? (i := 1522) (by decide +kernel)⟩
theorem lw_p70 : lw_okq (⟨"PrisonShopsModel", "isText", "(I)Z"⟩, 36) := ⟨⟨by decide +kernel, by decide +kernel⟩, List.mem_of_getElem? (i := 1144) (by decide +kernel), List.mem_of_getElem? (i := 1529) (by decide +kernel), List.mem_of_getElem? (i := 1530) (by decide +kernel)⟩
theorem lw_p71 : lw_okq (⟨"PrisonShopsModel", "counts", "(I)I"⟩, 36) := ⟨⟨by decide +kernel, by decide +kernel⟩, List.mem_of_getElem? (i := 1144) (by decide +kernel), List.mem_of_getElem? (i := 1538) (by decide +kernel), List.mem_of_getElem? (i := 1539) (by decide +kernel)⟩
theorem lw_p72 : lw_okq (⟨"PrisonShopsModel", "ruleOf", "(IIII)I"⟩, 36) := ⟨⟨by decide +kernel, by decide +kernel⟩, List.mem_of_getElem? (i := 1144) (by decide +kernel), List.mem_of_getElem? (i := 1546) (by decide +kernel), List.mem_of_getElem? (i := 1547) (by decide +kernel)⟩
theorem lw_p73 : lw_okq (⟨"PrisonShopsModel", "worked", "(I)I"⟩, 36) := ⟨⟨by decide +kernel, by decide +kernel⟩, List.mem_of_getElem? (i := 1144) (by decide +kernel), List.mem_of_getElem? (i := 1550) (by decide +kernel), List.mem_of_getElem? (i := 1551) (by decide +kernel)⟩
theorem lw_p74 : lw_okq (⟨"PrisonShopsModel", "reckon", "(I)V"⟩, 36) := ⟨⟨by decide +kernel, by decide +kernel⟩, List.mem_of_getElem? (i := 1144) (by decide +kernel), List.mem_of_getElem? (i := 1564) (by decide +kernel), List.mem_of_getElem? (i := 1565) (by decide +kernel)⟩
theorem lw_p75 : lw_okq (⟨"PrisonShopsModel", "gets", "(III)V"⟩, 36) := ⟨⟨by decide +kernel, by decide +kernel⟩, List.mem_of_getElem? (i := 1144) (by decide +kernel), List.mem_of_getElem? (i := 1568) (by decide +kernel), List.mem_of_getElem? (i := 1569) (by decide +kernel)⟩
theorem lw_p76 : lw_okq (⟨"PrisonShopsModel", "newEvent", "(II)I"⟩, 36) := ⟨⟨by decide +kernel, by decide +kernel⟩, List.mem_of_getElem? (i := 1144) (by decide +kernel), List.mem_of_getElem? (i := 1581) (by decide +kernel), List.mem_of_getElem? (i := 1582) (by decide +kernel)⟩
theorem lw_p77 : lw_okq (⟨"PrisonShopsModel", "eventAt", "(I)I"⟩, 36) := ⟨⟨by decide +kernel, by decide +kernel⟩, List.mem_of_getElem? (i := 1144) (by decide +kernel), List.mem_of_getElem? (i := 1585) (by decide +kernel), List.mem_of_getElem? (i := 1586) (by decide +kernel)⟩
theorem lw_p78 : lw_okq (⟨"PrisonShopsModel", "isEvent", "(I)Z"⟩, 36) := ⟨⟨by decide +kernel, by decide +kernel⟩, List.mem_of_getElem? (i := 1144) (by decide +kernel), List.mem_of_getElem? (i := 1597) (by decide +kernel), List.mem_of_getElem? (i := 1598) (by decide +kernel)⟩
theorem lw_p79 : lw_okq (⟨"PrisonShopsModel", "endOf", "(II)I"⟩, 36) := ⟨⟨by decide +kernel, by decide +kernel⟩, List.mem_of_getElem? (i := 1144) (by decide +kernel), List.mem_of_getElem? (i := 1609) (by decide +kernel), List.mem_of_getElem? (i := 1610) (by decide +kernel)⟩
def lw_privs_5 : List (MethodName × Nat) := [(⟨"PrisonShopsModel", "test", "(I)Z"⟩, 36), (⟨"PrisonShopsModel", "sum", "(I)Z"⟩, 36), (⟨"PrisonShopsModel", "term", "(I)Z"⟩, 36), (⟨"PrisonShopsModel", "part0", "(I)Z"⟩, 36), (⟨"PrisonShopsModel", "step", "(II)V"⟩, 36), (⟨"PrisonShopsModel", "isSign", "(I)Z"⟩, 36), (⟨"PrisonShopsModel", "isText", "(I)Z"⟩, 36), (⟨"PrisonShopsModel", "counts", "(I)I"⟩, 36), (⟨"PrisonShopsModel", "ruleOf", "(IIII)I"⟩, 36), (⟨"PrisonShopsModel", "worked", "(I)I"⟩, 36), (⟨"PrisonShopsModel", "reckon", "(I)V"⟩, 36), (⟨"PrisonShopsModel", "gets", "(III)V"⟩, 36), (⟨"PrisonShopsModel", "newEvent", "(II)I"⟩, 36), (⟨"PrisonShopsModel", "eventAt", "(I)I"⟩, 36), (⟨"PrisonShopsModel", "isEvent", "(I)Z"⟩, 36), (⟨"PrisonShopsModel", "endOf", "(II)I"⟩, 36)]
theorem lw_r5 : ∀ q ∈ lw_privs_5, lw_okq q := List.forall_mem_cons.mpr ⟨lw_p64, List.forall_mem_cons.mpr ⟨lw_p65, List.forall_mem_cons.mpr ⟨lw_p66, List.forall_mem_cons.mpr ⟨lw_p67, List.forall_mem_cons.mpr ⟨lw_p68, List.forall_mem_cons.mpr ⟨lw_p69, List.forall_mem_cons.mpr ⟨lw_p70, List.forall_mem_cons.mpr ⟨lw_p71, List.forall_mem_cons.mpr ⟨lw_p72, List.forall_mem_cons.mpr ⟨lw_p73, List.forall_mem_cons.mpr ⟨lw_p74, List.forall_mem_cons.mpr ⟨lw_p75, List.forall_mem_cons.mpr ⟨lw_p76, List.forall_mem_cons.mpr ⟨lw_p77, List.forall_mem_cons.mpr ⟨lw_p78, List.forall_mem_cons.mpr ⟨lw_p79, fun _ h => absurd h List.not_mem_nil⟩⟩⟩⟩⟩⟩⟩⟩⟩⟩⟩⟩⟩⟩⟩⟩
theorem lw_p80 : lw_okq (⟨"PrisonShopsModel", "oneDay", "()V"⟩, 36) := ⟨⟨by decide +kernel, by decide +kernel⟩, List.mem_of_getElem? (i := 1144) (by decide +kernel), List.mem_of_getElem? (i := 1618) (by decide +kernel), List.mem_of_getElem? (i := 1619) (by decide +kernel)⟩
theorem lw_p81 : lw_okq (⟨"PrisonShopsModel", "works", "(I)V"⟩, 36) := ⟨⟨by decide +kernel, by decide +kernel⟩, List.mem_of_getElem? (i := 1144) (by decide +kernel), List.mem_of_getElem? (i := 1622) (by decide +kernel), List.mem_of_getElem? (i := 1623) (by decide +kernel)⟩
theorem lw_p82 : lw_okq (⟨"PrisonShopsModel", "delivers", "(I)V"⟩, 36) := ⟨⟨by decide +kernel, by decide +kernel⟩, List.mem_of_getElem? (i := 1144) (by decide +kernel), List.mem_of_getElem? (i := 1626) (by decide +kernel), List.mem_of_getElem? (i := 1627) (by decide +kernel)⟩
theorem lw_p83 : lw_okq (⟨"PrisonShopsModel", "leaves", "(I)V"⟩, 36) := ⟨⟨by decide +kernel, by decide +kernel⟩, List.mem_of_getElem? (i := 1144) (by decide +kernel), List.mem_of_getElem? (i := 1630) (by decide +kernel), List.mem_of_getElem? (i := 1631) (by decide +kernel)⟩
theorem lw_p84 : lw_okq (⟨"PrisonShopsModel", "lacks", "(II)I"⟩, 36) := ⟨⟨by decide +kernel, by decide +kernel⟩, List.mem_of_getElem? (i := 1144) (by decide +kernel), List.mem_of_getElem? (i := 1657) (by decide +kernel), List.mem_of_getElem? (i := 1658) (by decide +kernel)⟩
theorem lw_p85 : lw_okq (⟨"PrisonShopsModel", "setAside", "([I[I)V"⟩, 36) := ⟨⟨by decide +kernel, by decide +kernel⟩, List.mem_of_getElem? (i := 1144) (by decide +kernel), List.mem_of_getElem? (i := 1688) (by decide +kernel), List.mem_of_getElem? (i := 1689) (by decide +kernel)⟩
def lw_privs_6 : List (MethodName × Nat) := [(⟨"PrisonShopsModel", "oneDay", "()V"⟩, 36), (⟨"PrisonShopsModel", "works", "(I)V"⟩, 36), (⟨"PrisonShopsModel", "delivers", "(I)V"⟩, 36), (⟨"PrisonShopsModel", "leaves", "(I)V"⟩, 36), (⟨"PrisonShopsModel", "lacks", "(II)I"⟩, 36), (⟨"PrisonShopsModel", "setAside", "([I[I)V"⟩, 36)]
theorem lw_r6 : ∀ q ∈ lw_privs_6, lw_okq q := List.forall_mem_cons.mpr ⟨lw_p80, List.forall_mem_cons.mpr ⟨lw_p81, List.forall_mem_cons.mpr ⟨lw_p82, List.forall_mem_cons.mpr ⟨lw_p83, List.forall_mem_cons.mpr ⟨lw_p84, List.forall_mem_cons.mpr ⟨lw_p85, fun _ h => absurd h List.not_mem_nil⟩⟩⟩⟩⟩⟩
def lw_privs : List (MethodName × Nat) := lw_privs_1 ++ (lw_privs_2 ++ (lw_privs_3 ++ (lw_privs_4 ++ (lw_privs_5 ++ (lw_privs_6)))))
def lw_tbl : List Cond := k2_sels lw_privs ++ tables_1
theorem lw_privs_ok : ∀ q ∈ lw_privs, lw_okq q := by
  show ∀ q ∈ lw_privs_1 ++ (lw_privs_2 ++ (lw_privs_3 ++ (lw_privs_4 ++ (lw_privs_5 ++ (lw_privs_6))))), lw_okq q
  exact List.forall_mem_append.mpr ⟨lw_r1, List.forall_mem_append.mpr ⟨lw_r2, List.forall_mem_append.mpr ⟨lw_r3, List.forall_mem_append.mpr ⟨lw_r4, List.forall_mem_append.mpr ⟨lw_r5, lw_r6⟩⟩⟩⟩⟩
def RX0 : String := "PrisonShops$Days"
def TX0 : u_T := fun k => match k with
  | _ => ("PrisonShops$Days", "rules", "LPrisonShops$Rules;", true)
def tyX0 : Nat → FieldType := fun k => match k with
  | _ => .object "PrisonShops$Rules"
theorem nmX0 : ∀ a, a < 1 → ∀ b, b < 1 → a ≠ b → (TX0 a).2.1 ≠ (TX0 b).2.1 := by decide +kernel
theorem tyX0_ok : ∀ k, k < 1 → parseFieldDescriptor (TX0 k).2.2.1 = some (tyX0 k) := by decide +kernel
def RX1 : String := "PrisonShops$Filling"
def TX1 : u_T := fun k => match k with
  | 0 => ("PrisonShops$Filling", "choices", "[I", true)
  | 1 => ("PrisonShops$Filling", "bars", "[I", true)
  | 2 => ("PrisonShops$Filling", "turns", "[I", true)
  | 3 => ("PrisonShops$Filling", "room", "[I", true)
  | 4 => ("PrisonShops$Filling", "members", "[I", true)
  | 5 => ("PrisonShops$Filling", "tried", "[I", true)
  | 6 => ("PrisonShops$Filling", "best", "[I", true)
  | 7 => ("PrisonShops$Filling", "able", "[I", true)
  | 8 => ("PrisonShops$Filling", "leastTurns", "[I", true)
  | 9 => ("PrisonShops$Filling", "sorted", "[I", true)
  | 10 => ("PrisonShops$Filling", "hands", "I", false)
  | 11 => ("PrisonShops$Filling", "bestCount", "I", false)
  | _ => ("PrisonShops$Filling", "bestTurns", "I", false)
def tyX1 : Nat → FieldType := fun k => match k with
  | 0 => .array .int
  | 1 => .array .int
  | 2 => .array .int
  | 3 => .array .int
  | 4 => .array .int
  | 5 => .array .int
  | 6 => .array .int
  | 7 => .array .int
  | 8 => .array .int
  | 9 => .array .int
  | 10 => .int
  | 11 => .int
  | _ => .int
theorem nmX1 : ∀ a, a < 13 → ∀ b, b < 13 → a ≠ b → (TX1 a).2.1 ≠ (TX1 b).2.1 := by decide +kernel
theorem tyX1_ok : ∀ k, k < 13 → parseFieldDescriptor (TX1 k).2.2.1 = some (tyX1 k) := by decide +kernel
def RX2 : String := "PrisonShops$Forecast"
def TX2 : u_T := fun k => match k with
  | 0 => ("PrisonShops$Forecast", "pieces", "[I", true)
  | 1 => ("PrisonShops$Forecast", "skill", "[I", true)
  | 2 => ("PrisonShops$Forecast", "learnt", "[I", true)
  | 3 => ("PrisonShops$Forecast", "orders", "I", false)
  | _ => ("PrisonShops$Forecast", "workers", "I", false)
def tyX2 : Nat → FieldType := fun k => match k with
  | 0 => .array .int
  | 1 => .array .int
  | 2 => .array .int
  | 3 => .int
  | _ => .int
theorem nmX2 : ∀ a, a < 5 → ∀ b, b < 5 → a ≠ b → (TX2 a).2.1 ≠ (TX2 b).2.1 := by decide +kernel
theorem tyX2_ok : ∀ k, k < 5 → parseFieldDescriptor (TX2 k).2.2.1 = some (tyX2 k) := by decide +kernel
def RX3 : String := "PrisonShops$Pile"
def TX3 : u_T := fun k => match k with
  | 0 => ("PrisonShops$Pile", "cells", "[I", true)
  | _ => ("PrisonShops$Pile", "size", "I", false)
def tyX3 : Nat → FieldType := fun k => match k with
  | 0 => .array .int
  | _ => .int
theorem nmX3 : ∀ a, a < 2 → ∀ b, b < 2 → a ≠ b → (TX3 a).2.1 ≠ (TX3 b).2.1 := by decide +kernel
theorem tyX3_ok : ∀ k, k < 2 → parseFieldDescriptor (TX3 k).2.2.1 = some (tyX3 k) := by decide +kernel
def RX4 : String := "PrisonShops$Reader"
def TX4 : u_T := fun k => match k with
  | 0 => ("PrisonShops$Reader", "tape", "LPrisonShops$Tape;", true)
  | 1 => ("PrisonShops$Reader", "steps", "LPrisonShops$Pile;", true)
  | 2 => ("PrisonShops$Reader", "signs", "LPrisonShops$Pile;", true)
  | 3 => ("PrisonShops$Reader", "key", "I", false)
  | 4 => ("PrisonShops$Reader", "parts", "I", false)
  | 5 => ("PrisonShops$Reader", "start", "I", false)
  | 6 => ("PrisonShops$Reader", "next", "I", false)
  | 7 => ("PrisonShops$Reader", "token", "I", false)
  | 8 => ("PrisonShops$Reader", "value", "I", false)
  | 9 => ("PrisonShops$Reader", "partDue", "Z", false)
  | 10 => ("PrisonShops$Reader", "openBrackets", "I", false)
  | _ => ("PrisonShops$Reader", "openNots", "I", false)
def tyX4 : Nat → FieldType := fun k => match k with
  | 0 => .object "PrisonShops$Tape"
  | 1 => .object "PrisonShops$Pile"
  | 2 => .object "PrisonShops$Pile"
  | 3 => .int
  | 4 => .int
  | 5 => .int
  | 6 => .int
  | 7 => .int
  | 8 => .int
  | 9 => .boolean
  | 10 => .int
  | _ => .int
theorem nmX4 : ∀ a, a < 12 → ∀ b, b < 12 → a ≠ b → (TX4 a).2.1 ≠ (TX4 b).2.1 := by decide +kernel
theorem tyX4_ok : ∀ k, k < 12 → parseFieldDescriptor (TX4 k).2.2.1 = some (tyX4 k) := by decide +kernel
def RX5 : String := "PrisonShops$Rules"
def TX5 : u_T := fun k => match k with
  | _ => ("PrisonShops$Rules", "values", "LPrisonShops$Pile;", true)
def tyX5 : Nat → FieldType := fun k => match k with
  | _ => .object "PrisonShops$Pile"
theorem nmX5 : ∀ a, a < 1 → ∀ b, b < 1 → a ≠ b → (TX5 a).2.1 ≠ (TX5 b).2.1 := by decide +kernel
theorem tyX5_ok : ∀ k, k < 1 → parseFieldDescriptor (TX5 k).2.2.1 = some (tyX5 k) := by decide +kernel
def RX6 : String := "PrisonShops$Sheets"
def TX6 : u_T := fun k => match k with
  | 0 => ("PrisonShops$Sheets", "sorts", "[I", true)
  | 1 => ("PrisonShops$Sheets", "sizes", "[I", true)
  | _ => ("PrisonShops$Sheets", "cells", "[J", true)
def tyX6 : Nat → FieldType := fun k => match k with
  | 0 => .array .int
  | 1 => .array .int
  | _ => .array .long
theorem nmX6 : ∀ a, a < 3 → ∀ b, b < 3 → a ≠ b → (TX6 a).2.1 ≠ (TX6 b).2.1 := by decide +kernel
theorem tyX6_ok : ∀ k, k < 3 → parseFieldDescriptor (TX6 k).2.2.1 = some (tyX6 k) := by decide +kernel
def RX7 : String := "PrisonShops$State"
def TX7 : u_T := fun k => match k with
  | 0 => ("PrisonShops$State", "shops", "LPrisonShops$Table;", true)
  | 1 => ("PrisonShops$State", "hands", "LPrisonShops$Table;", true)
  | 2 => ("PrisonShops$State", "things", "LPrisonShops$Table;", true)
  | 3 => ("PrisonShops$State", "texts", "LPrisonShops$Table;", true)
  | 4 => ("PrisonShops$State", "events", "LPrisonShops$Table;", true)
  | 5 => ("PrisonShops$State", "day", "I", false)
  | _ => ("PrisonShops$State", "seed", "I", false)
def tyX7 : Nat → FieldType := fun k => match k with
  | 0 => .object "PrisonShops$Table"
  | 1 => .object "PrisonShops$Table"
  | 2 => .object "PrisonShops$Table"
  | 3 => .object "PrisonShops$Table"
  | 4 => .object "PrisonShops$Table"
  | 5 => .int
  | _ => .int
theorem nmX7 : ∀ a, a < 7 → ∀ b, b < 7 → a ≠ b → (TX7 a).2.1 ≠ (TX7 b).2.1 := by decide +kernel
theorem tyX7_ok : ∀ k, k < 7 → parseFieldDescriptor (TX7 k).2.2.1 = some (tyX7 k) := by decide +kernel
def RX8 : String := "PrisonShops$Table"
def TX8 : u_T := fun k => match k with
  | 0 => ("PrisonShops$Table", "fields", "I", true)
  | 1 => ("PrisonShops$Table", "cells", "[I", true)
  | 2 => ("PrisonShops$Table", "rows", "I", false)
  | _ => ("PrisonShops$Table", "most", "I", true)
def tyX8 : Nat → FieldType := fun k => match k with
  | 0 => .int
  | 1 => .array .int
  | 2 => .int
  | _ => .int
theorem nmX8 : ∀ a, a < 4 → ∀ b, b < 4 → a ≠ b → (TX8 a).2.1 ≠ (TX8 b).2.1 := by decide +kernel
theorem tyX8_ok : ∀ k, k < 4 → parseFieldDescriptor (TX8 k).2.2.1 = some (tyX8 k) := by decide +kernel
def RX9 : String := "PrisonShops$Tape"
def TX9 : u_T := fun k => match k with
  | 0 => ("PrisonShops$Tape", "bytes", "[I", true)
  | _ => ("PrisonShops$Tape", "size", "I", false)
def tyX9 : Nat → FieldType := fun k => match k with
  | 0 => .array .int
  | _ => .int
theorem nmX9 : ∀ a, a < 2 → ∀ b, b < 2 → a ≠ b → (TX9 a).2.1 ≠ (TX9 b).2.1 := by decide +kernel
theorem tyX9_ok : ∀ k, k < 2 → parseFieldDescriptor (TX9 k).2.2.1 = some (tyX9 k) := by decide +kernel
def RX10 : String := "PrisonShops"
def TX10 : u_T := fun k => match k with
  | 0 => ("PrisonShops", "now", "LPrisonShops$State;", true)
  | 1 => ("PrisonShops", "image", "LPrisonShops$State;", true)
  | 2 => ("PrisonShops", "trial", "LPrisonShops$State;", true)
  | 3 => ("PrisonShops", "rules", "LPrisonShops$Rules;", true)
  | 4 => ("PrisonShops", "days", "LPrisonShops$Days;", true)
  | 5 => ("PrisonShops", "forecast", "LPrisonShops$Forecast;", true)
  | 6 => ("PrisonShops", "filling", "LPrisonShops$Filling;", true)
  | 7 => ("PrisonShops", "tape", "LPrisonShops$Tape;", true)
  | 8 => ("PrisonShops", "reader", "LPrisonShops$Reader;", true)
  | 9 => ("PrisonShops", "sheets", "LPrisonShops$Sheets;", true)
  | 10 => ("PrisonShops", "waiting", "[I", true)
  | 11 => ("PrisonShops", "waits", "I", false)
  | _ => ("PrisonShops", "hasImage", "Z", false)
def tyX10 : Nat → FieldType := fun k => match k with
  | 0 => .object "PrisonShops$State"
  | 1 => .object "PrisonShops$State"
  | 2 => .object "PrisonShops$State"
  | 3 => .object "PrisonShops$Rules"
  | 4 => .object "PrisonShops$Days"
  | 5 => .object "PrisonShops$Forecast"
  | 6 => .object "PrisonShops$Filling"
  | 7 => .object "PrisonShops$Tape"
  | 8 => .object "PrisonShops$Reader"
  | 9 => .object "PrisonShops$Sheets"
  | 10 => .array .int
  | 11 => .int
  | _ => .boolean
theorem nmX10 : ∀ a, a < 13 → ∀ b, b < 13 → a ≠ b → (TX10 a).2.1 ≠ (TX10 b).2.1 := by decide +kernel
theorem tyX10_ok : ∀ k, k < 13 → parseFieldDescriptor (TX10 k).2.2.1 = some (tyX10 k) := by decide +kernel
def RX11 : String := "PrisonShopsModel"
def TX11 : u_T := fun k => match k with
  | 0 => ("PrisonShopsModel", "s", "[I", true)
  | 1 => ("PrisonShopsModel", "image", "[I", true)
  | 2 => ("PrisonShopsModel", "aside", "[I", true)
  | 3 => ("PrisonShopsModel", "hasImage", "Z", false)
  | 4 => ("PrisonShopsModel", "cSort", "[I", true)
  | 5 => ("PrisonShopsModel", "cSize", "[I", true)
  | 6 => ("PrisonShopsModel", "cNumber", "[J", true)
  | 7 => ("PrisonShopsModel", "given", "[I", true)
  | 8 => ("PrisonShopsModel", "filled", "[I", true)
  | 9 => ("PrisonShopsModel", "inShop", "[I", true)
  | 10 => ("PrisonShopsModel", "bestMany", "I", false)
  | 11 => ("PrisonShopsModel", "bestTurns", "I", false)
  | 12 => ("PrisonShopsModel", "isDone", "[Z", true)
  | 13 => ("PrisonShopsModel", "skills", "[I", true)
  | 14 => ("PrisonShopsModel", "learnt", "[I", true)
  | 15 => ("PrisonShopsModel", "tape", "[I", true)
  | 16 => ("PrisonShopsModel", "taped", "I", false)
  | 17 => ("PrisonShopsModel", "begin", "I", false)
  | 18 => ("PrisonShopsModel", "behind", "I", false)
  | 19 => ("PrisonShopsModel", "token", "I", false)
  | 20 => ("PrisonShopsModel", "number", "I", false)
  | 21 => ("PrisonShopsModel", "letter", "I", false)
  | 22 => ("PrisonShopsModel", "deep", "I", false)
  | 23 => ("PrisonShopsModel", "turned", "I", false)
  | 24 => ("PrisonShopsModel", "laid", "I", false)
  | 25 => ("PrisonShopsModel", "laidAt", "I", false)
  | 26 => ("PrisonShopsModel", "said", "I", false)
  | 27 => ("PrisonShopsModel", "named", "[I", true)
  | 28 => ("PrisonShopsModel", "pile", "[I", true)
  | 29 => ("PrisonShopsModel", "toVictims", "I", false)
  | 30 => ("PrisonShopsModel", "toSaved", "I", false)
  | 31 => ("PrisonShopsModel", "toCoin", "I", false)
  | 32 => ("PrisonShopsModel", "carried", "[J", true)
  | 33 => ("PrisonShopsModel", "waits", "[I", true)
  | 34 => ("PrisonShopsModel", "waiting", "I", false)
  | _ => ("PrisonShopsModel", "due", "[I", true)
def tyX11 : Nat → FieldType := fun k => match k with
  | 0 => .array .int
  | 1 => .array .int
  | 2 => .array .int
  | 3 => .boolean
  | 4 => .array .int
  | 5 => .array .int
  | 6 => .array .long
  | 7 => .array .int
  | 8 => .array .int
  | 9 => .array .int
  | 10 => .int
  | 11 => .int
  | 12 => .array .boolean
  | 13 => .array .int
  | 14 => .array .int
  | 15 => .array .int
  | 16 => .int
  | 17 => .int
  | 18 => .int
  | 19 => .int
  | 20 => .int
  | 21 => .int
  | 22 => .int
  | 23 => .int
  | 24 => .int
  | 25 => .int
  | 26 => .int
  | 27 => .array .int
  | 28 => .array .int
  | 29 => .int
  | 30 => .int
  | 31 => .int
  | 32 => .array .long
  | 33 => .array .int
  | 34 => .int
  | _ => .array .int
theorem nmX11 : ∀ a, a < 36 → ∀ b, b < 36 → a ≠ b → (TX11 a).2.1 ≠ (TX11 b).2.1 := by decide +kernel
theorem tyX11_ok : ∀ k, k < 36 → parseFieldDescriptor (TX11 k).2.2.1 = some (tyX11 k) := by decide +kernel
def RJ6 : String := "java/lang/Integer"
abbrev vwCl : List vw_C := [(RX0, TX0, 1), (RX1, TX1, 13), (RX2, TX2, 5), (RX3, TX3, 2), (RX4, TX4, 12), (RX5, TX5, 1), (RX6, TX6, 3), (RX7, TX7, 7), (RX8, TX8, 4), (RX9, TX9, 2), (RX10, TX10, 13), (RX11, TX11, 36)]
end
section
def lwB (j : Nat) : List Jvm.Cond := if j = 0 then k2_sels lw_privs else if j = 1 then tables_1_1 else if j = 2 then tables_1_2 else if j = 3 then tables_1_3 else if j = 4 then tables_1_4 else if j = 5 then tables_1_5 else if j = 6 then tables_1_6 else if j = 7 then tables_1_7 else tables_1_8
abbrev En : Type := Instr × Nat × Nat × Nat × Int32 × Int64 × List (Int32 × Nat)
abbrev Cd : Type := List (Option En)
abbrev e1 (i : Instr) : Option En := some (i, 1, 0, 0, 0, 0, [])
abbrev e2 (i : Instr) : Option En := some (i, 2, 0, 0, 0, 0, [])
abbrev e3 (i : Instr) : Option En := some (i, 3, 0, 0, 0, 0, [])
abbrev eA (i : Instr) (n a : Nat) : Option En := some (i, n, a, 0, 0, 0, [])
abbrev eV (i : Instr) (n : Nat) (v : Int32) : Option En := some (i, n, 0, 0, v, 0, [])
abbrev eS (i : Instr) (a b k : Nat) : Option En := some (i, 3, a, b, 0, 0, [(0, k)])
abbrev eG (i : Instr) (a b : Nat) (v : Int32) (k : Nat) : Option En := some (i, 3, a, b, v, 0, [(0, k)])
set_option maxRecDepth 100000 in
def cd0 : Cd := [e1 (.iconst 0), e1 (.istore_n 2), e1 (.iload_n 2), e1 (.aload_n 1), eG (.getfield 15) 7 1 1 10, none, none, eS (.invokevirtual 21) 91 0 149, none, none, eA (.if_icmp .ge 15) 3 25, none, none, e1 (.aload_n 0), 
  e1 (.aload_n 1), e1 (.iload_n 2), eS (.invokevirtual 27) 1 2 150, none, none, eV (.iinc 2 1) 3 1, none, none, eA (.goto (-20)) 3 2, none, none, e1 (.iconst 0), e1 (.istore_n 2), e1 (.iload_n 2), e1 (.aload_n 1), 
  eS (.getfield 31) 7 0 6, none, none, eS (.invokevirtual 21) 91 0 149, none, none, eA (.if_icmp .ge 39) 3 74, none, none, e1 (.aload_n 0), e1 (.aload_n 1), e1 (.iload_n 2), eS (.invokevirtual 34) 3 2 158, none, none, 
  e1 (.aload_n 1), eS (.getfield 31) 7 0 6, none, none, e1 (.iload_n 2), eV (.iconst 4) 1 4, e1 (.iconst 0), e1 (.aload_n 1), eS (.getfield 31) 7 0 6, none, none, e1 (.iload_n 2), eV (.iconst 4) 1 4, 
  eS (.invokevirtual 37) 94 2 151, none, none, eV (.iconst 1) 1 1, e1 .isub, eS (.invokestatic 41) 1001 2 16, none, none, eS (.invokevirtual 46) 95 3 157, none, none, eV (.iinc 2 1) 3 1, none, none, eA (.goto (-44)) 3 27, 
  none, none, e1 (.iconst 0), e1 (.istore_n 2), e1 (.iload_n 2), e1 (.aload_n 1), eG (.getfield 15) 7 1 1 10, none, none, eS (.invokevirtual 21) 91 0 149, none, none, eA (.if_icmp .ge 39) 3 123, none, none, e1 (.aload_n 1), 
  e1 (.iload_n 2), eS (.invokevirtual 50) 62 1 152, none, none, eA (.ifCond .ne 25) 3 117, none, none, e1 (.aload_n 1), e1 (.iload_n 2), e1 (.aload_n 1), eG (.getfield 54) 7 5 5 25, none, none, 
  eS (.invokevirtual 58) 86 2 160, none, none, e1 (.aload_n 1), eG (.getfield 54) 7 5 5 25, none, none, eA (.if_icmp .gt 9) 3 117, none, none, e1 (.aload_n 0), e1 (.aload_n 1), e1 (.iload_n 2), 
  eS (.invokevirtual 61) 4 2 161, none, none, eV (.iinc 2 1) 3 1, none, none, eA (.goto (-44)) 3 76, none, none, e1 (.aload_n 1), e1 .dup, eG (.getfield 54) 7 5 5 25, none, none, eV (.iconst 1) 1 1, e1 .iadd, 
  eG (.putfield 54) 7 5 5 25, none, none, e1 .return_]
set_option maxRecDepth 100000 in
def cd1 : Cd := [e1 (.aload_n 1), eG (.getfield 15) 7 1 1 10, none, none, e1 (.iload_n 2), eV (.bipush 8) 2 8, none, eS (.invokevirtual 37) 94 2 151, none, none, e1 (.istore_n 3), e1 (.iload_n 3), 
  some (.ldc 64, 2, 0, 0, -1000000005, 0, [(0, 15)]), none, eA (.if_icmp .eq 28) 3 42, none, none, e1 (.aload_n 1), e1 (.iload_n 2), eS (.invokevirtual 50) 62 1 152, none, none, eA (.ifCond .ne 20) 3 42, none, none, 
  e1 (.aload_n 1), eG (.getfield 15) 7 1 1 10, none, none, e1 (.iload_n 2), eV (.bipush 9) 2 9, none, eS (.invokevirtual 37) 94 2 151, none, none, e1 (.aload_n 1), eG (.getfield 54) 7 5 5 25, none, none, 
  eA (.if_icmp .ne 4) 3 43, none, none, e1 .return_, e1 (.aload_n 1), eG (.getfield 15) 7 1 1 10, none, none, e1 (.iload_n 2), eV (.iconst 1) 1 1, eS (.invokevirtual 37) 94 2 151, none, none, e2 (.istore 4), none, 
  e1 (.aload_n 1), eS (.getfield 31) 7 0 6, none, none, e1 (.iload_n 3), eV (.iconst 4) 1 4, eS (.invokevirtual 37) 94 2 151, none, none, eA (.ifCond .le 24) 3 87, none, none, e1 (.aload_n 1), e1 (.iload_n 2), 
  eV (.bipush 10) 2 10, none, e1 (.aload_n 0), eS (.getfield 9) 0 0 34, none, none, e1 (.aload_n 1), eV (.iconst 1) 1 1, e2 (.iload 4), none, e1 (.iconst 0), e1 (.iconst 0), eS (.invokevirtual 65) 48 5 153, none, none, 
  eS (.invokevirtual 71) 84 3 154, none, none, e1 .return_, e1 (.aload_n 1), eS (.getfield 31) 7 0 6, none, none, e1 (.iload_n 3), eV (.iconst 3) 1 3, eS (.invokevirtual 37) 94 2 151, none, none, e2 (.iload 4), none, 
  e1 .iadd, e2 (.istore 5), none, e1 (.aload_n 1), eG (.getfield 15) 7 1 1 10, none, none, e1 (.iload_n 2), e1 (.iconst 0), eS (.invokevirtual 37) 94 2 151, none, none, e2 (.istore 6), none, e1 (.aload_n 1), 
  e1 (.iload_n 2), eV (.bipush 10) 2 10, none, e1 (.aload_n 0), eS (.getfield 9) 0 0 34, none, none, e1 (.aload_n 1), e1 (.iconst 0), e2 (.iload 5), none, e2 (.iload 4), none, e2 (.iload 6), none, 
  eS (.invokevirtual 65) 48 5 153, none, none, eS (.invokevirtual 71) 84 3 154, none, none, e1 (.aload_n 1), eS (.getfield 31) 7 0 6, none, none, e1 (.iload_n 3), eV (.bipush 6) 2 6, none, e2 (.iload 5), none, 
  eS (.invokevirtual 74) 97 3 155, none, none, e1 (.aload_n 1), eG (.getfield 15) 7 1 1 10, none, none, e1 (.iload_n 2), eV (.bipush 6) 2 6, none, eV (.iconst 1) 1 1, eS (.invokevirtual 74) 97 3 155, none, none, 
  e1 (.aload_n 0), e1 (.aload_n 1), e1 (.iload_n 2), eS (.invokevirtual 77) 2 2 156, none, none, e1 .return_]
set_option maxRecDepth 100000 in
def cd2 : Cd := [e1 (.aload_n 1), eG (.getfield 15) 7 1 1 10, none, none, e1 (.iload_n 2), eV (.bipush 7) 2 7, none, eS (.invokevirtual 37) 94 2 151, none, none, eV (.iconst 1) 1 1, e1 .iadd, e1 (.istore_n 3), e1 (.iload_n 3), 
  eV (.bipush 10) 2 10, none, eA (.if_icmp .ne 29) 3 45, none, none, e1 (.iconst 0), e1 (.istore_n 3), e1 (.aload_n 1), eG (.getfield 15) 7 1 1 10, none, none, e1 (.iload_n 2), eV (.iconst 1) 1 1, eV (.iconst 3) 1 3, 
  e1 (.aload_n 1), eG (.getfield 15) 7 1 1 10, none, none, e1 (.iload_n 2), eV (.iconst 1) 1 1, eS (.invokevirtual 37) 94 2 151, none, none, eV (.iconst 1) 1 1, e1 .iadd, eS (.invokestatic 80) 1002 2 15, none, none, 
  eS (.invokevirtual 46) 95 3 157, none, none, e1 (.aload_n 1), eG (.getfield 15) 7 1 1 10, none, none, e1 (.iload_n 2), eV (.bipush 7) 2 7, none, e1 (.iload_n 3), eS (.invokevirtual 46) 95 3 157, none, none, e1 .return_]
set_option maxRecDepth 100000 in
def cd3 : Cd := [e1 (.iconst 0), e1 (.istore_n 3), e1 (.iload_n 3), eV (.bipush 30) 2 30, none, eA (.if_icmp .ge 82) 3 87, none, none, e1 (.aload_n 1), e1 (.iload_n 2), some (.ldc 64, 2, 0, 0, -1000000005, 0, [(0, 15)]), none, 
  eS (.invokevirtual 83) 81 2 159, none, none, e2 (.istore 4), none, e2 (.iload 4), none, some (.ldc 64, 2, 0, 0, -1000000005, 0, [(0, 15)]), none, eA (.if_icmp .ne 4) 3 25, none, none, e1 .return_, e1 (.aload_n 1), 
  eG (.getfield 86) 7 2 2 17, none, none, e2 (.iload 4), none, eV (.iconst 2) 1 2, eS (.invokevirtual 37) 94 2 151, none, none, e2 (.istore 5), none, e1 (.aload_n 1), eS (.getfield 31) 7 0 6, none, none, e1 (.iload_n 2), 
  eV (.bipush 6) 2 6, none, eS (.invokevirtual 37) 94 2 151, none, none, e2 (.iload 5), none, eA (.if_icmp .ge 4) 3 53, none, none, e1 .return_, e1 (.aload_n 1), eG (.getfield 86) 7 2 2 17, none, none, e2 (.iload 4), none, 
  eV (.bipush 6) 2 6, none, e1 (.aload_n 1), eG (.getfield 54) 7 5 5 25, none, none, eS (.invokevirtual 46) 95 3 157, none, none, e1 (.aload_n 1), eS (.getfield 31) 7 0 6, none, none, e1 (.iload_n 2), eV (.bipush 6) 2 6, 
  none, e2 (.iload 5), none, e1 .ineg, eS (.invokevirtual 74) 97 3 155, none, none, eV (.iinc 3 1) 3 1, none, none, eA (.goto (-82)) 3 2, none, none, e1 .return_]
set_option maxRecDepth 100000 in
def cd4 : Cd := [e1 (.aload_n 1), e1 (.iload_n 2), eV (.iconst 4) 1 4, e1 (.aload_n 1), eG (.getfield 15) 7 1 1 10, none, none, e1 (.iload_n 2), eV (.bipush 10) 2 10, none, e1 (.iconst 0), eS (.invokevirtual 89) 96 3 162, none, none, 
  eS (.invokevirtual 71) 84 3 154, none, none, e1 (.aload_n 1), e1 (.iload_n 2), eV (.iconst 4) 1 4, e1 (.aload_n 1), eG (.getfield 15) 7 1 1 10, none, none, e1 (.iload_n 2), eV (.iconst 5) 1 5, e1 (.iconst 0), 
  eS (.invokevirtual 89) 96 3 162, none, none, eS (.invokevirtual 71) 84 3 154, none, none, e1 (.aload_n 1), e1 (.iload_n 2), eV (.iconst 2) 1 2, eS (.invokevirtual 93) 70 2 163, none, none, e1 (.aload_n 1), 
  eG (.getfield 15) 7 1 1 10, none, none, e1 (.iload_n 2), eV (.bipush 8) 2 8, none, some (.ldc 64, 2, 0, 0, -1000000005, 0, [(0, 15)]), none, eS (.invokevirtual 46) 95 3 157, none, none, e1 (.aload_n 1), 
  eG (.getfield 15) 7 1 1 10, none, none, e1 (.iload_n 2), eV (.bipush 11) 2 11, none, eV (.iconst 1) 1 1, eS (.invokevirtual 46) 95 3 157, none, none, e1 .return_]
set_option maxRecDepth 100000 in
def cd5 : Cd := [e1 (.aload_n 0), eG (.getfield 46) 1 11 11 51, none, none, e1 .ireturn]
set_option maxRecDepth 100000 in
def cd6 : Cd := [e1 (.aload_n 0), eG (.getfield 49) 1 12 12 52, none, none, e1 .ireturn]
set_option maxRecDepth 100000 in
def cd7 : Cd := [e1 (.iload_n 1), eA (.ifCond .lt 29) 3 30, none, none, e1 (.iload_n 1), e1 (.aload_n 0), eG (.getfield 42) 1 10 10 50, none, none, eA (.if_icmp .ge 21) 3 30, none, none, e1 (.iload_n 1), e1 (.aload_n 0), 
  eG (.getfield 30) 1 6 6 46, none, none, e1 .arraylength, eA (.if_icmp .ge 12) 3 30, none, none, e1 (.aload_n 0), eG (.getfield 30) 1 6 6 46, none, none, e1 (.iload_n 1), e1 .iaload, eA (.goto 5) 3 32, none, none, 
  some (.ldc 52, 2, 0, 0, -1000000005, 0, [(0, 9)]), none, e1 .ireturn]
set_option maxRecDepth 100000 in
def cd8 : Cd := [e1 (.aload_n 0), eV (.bipush 10) 2 10, none, e1 (.aload_n 1), eG (.getfield 53) 7 1 1 12, none, none, eS (.invokevirtual 58) 91 0 40, none, none, eS (.invokestatic 64) 1002 2 1, none, none, eG (.putfield 42) 1 10 10 50, 
  none, none, e1 (.iconst 0), e1 (.istore_n 2), e1 (.iload_n 2), eV (.iconst 3) 1 3, eA (.if_icmp .ge 31) 3 51, none, none, e1 (.aload_n 0), eG (.getfield 21) 1 3 3 43, none, none, e1 (.iload_n 2), e1 (.aload_n 1), 
  eS (.getfield 70) 7 0 8, none, none, e1 (.iload_n 2), e1 (.iconst 0), eS (.invokevirtual 73) 94 2 41, none, none, e1 .iastore, e1 (.aload_n 0), eG (.getfield 24) 1 4 4 44, none, none, e1 (.iload_n 2), e1 (.iconst 0), 
  e1 .iastore, eV (.iinc 2 1) 3 1, none, none, eA (.goto (-30)) 3 18, none, none, e1 (.iconst 0), e1 (.istore_n 2), e1 (.iload_n 2), e1 (.aload_n 0), eG (.getfield 42) 1 10 10 50, none, none, eA (.if_icmp .ge 52) 3 110, 
  none, none, e1 (.aload_n 0), eS (.getfield 9) 1 0 40, none, none, e1 (.iload_n 2), e1 (.aload_n 1), e1 (.iload_n 2), eS (.invokestatic 76) 9 2 42, none, none, e1 .iastore, e1 (.aload_n 0), eG (.getfield 15) 1 1 1 41, 
  none, none, e1 (.iload_n 2), e1 (.aload_n 1), eG (.getfield 53) 7 1 1 12, none, none, e1 (.iload_n 2), eV (.bipush 12) 2 12, none, eS (.invokevirtual 73) 94 2 41, none, none, e1 .iastore, e1 (.aload_n 0), 
  eG (.getfield 18) 1 2 2 42, none, none, e1 (.iload_n 2), e1 (.aload_n 1), eG (.getfield 53) 7 1 1 12, none, none, e1 (.iload_n 2), eV (.bipush 6) 2 6, none, eS (.invokevirtual 73) 94 2 41, none, none, e1 .iastore, 
  eV (.iinc 2 1) 3 1, none, none, eA (.goto (-54)) 3 53, none, none, e1 (.aload_n 0), eS (.invokevirtual 80) 10 0 44, none, none, e1 (.aload_n 0), eV (.iconst (-1)) 1 (-1), eG (.putfield 46) 1 11 11 51, none, none, 
  e1 (.aload_n 0), e1 (.iconst 0), eG (.putfield 49) 1 12 12 52, none, none, e1 (.aload_n 0), e1 (.iconst 0), e1 (.iconst 0), e1 (.iconst 0), eS (.invokevirtual 83) 12 3 46, none, none, e1 .return_]
set_option maxRecDepth 100000 in
def cd9 : Cd := [e1 (.iconst 0), e1 (.istore_n 2), e1 (.iconst 0), e1 (.istore_n 3), e1 (.iload_n 3), e1 (.aload_n 0), eS (.getfield 70) 7 0 8, none, none, eS (.invokevirtual 58) 91 0 40, none, none, eA (.if_icmp .ge 28) 3 40, none, none, 
  e1 (.iload_n 2), e1 (.aload_n 0), e1 (.iload_n 1), e1 (.iload_n 3), eS (.invokevirtual 87) 66 2 43, none, none, eA (.ifCond .eq 9) 3 31, none, none, eV (.iconst 1) 1 1, e1 (.iload_n 3), e1 .ishl, eA (.goto 4) 3 32, none, 
  none, e1 (.iconst 0), e1 .ior, e1 (.istore_n 2), eV (.iinc 3 1) 3 1, none, none, eA (.goto (-33)) 3 4, none, none, e1 (.iload_n 2), e1 .ireturn]
set_option maxRecDepth 100000 in
def cd10 : Cd := [e1 (.iconst 0), e1 (.istore_n 1), e1 (.aload_n 0), eG (.getfield 33) 1 7 7 47, none, none, e1 (.aload_n 0), eG (.getfield 42) 1 10 10 50, none, none, e1 (.iconst 0), e1 .iastore, e1 (.aload_n 0), 
  eG (.getfield 36) 1 8 8 48, none, none, e1 (.aload_n 0), eG (.getfield 42) 1 10 10 50, none, none, eV (.bipush 11) 2 11, none, e1 .imul, e1 (.iconst 0), e1 .iastore, e1 (.aload_n 0), eG (.getfield 42) 1 10 10 50, none, 
  none, eV (.iconst 1) 1 1, e1 .isub, e1 (.istore_n 2), e1 (.iload_n 2), eA (.ifCond .lt 89) 3 122, none, none, e1 (.aload_n 0), eS (.getfield 9) 1 0 40, none, none, e1 (.iload_n 2), e1 .iaload, eA (.ifCond .eq 17) 3 59, 
  none, none, e1 (.aload_n 0), e1 (.aload_n 0), eG (.getfield 18) 1 2 2 42, none, none, e1 (.iload_n 2), e1 .iaload, e1 (.iload_n 1), eS (.invokevirtual 91) 11 2 45, none, none, eV (.iinc 1 1) 3 1, none, none, 
  e1 (.aload_n 0), eG (.getfield 33) 1 7 7 47, none, none, e1 (.iload_n 2), e1 (.iload_n 1), e1 .iastore, e1 (.iconst 0), e1 (.istore_n 3), e1 (.iconst 0), e2 (.istore 4), none, e2 (.iload 4), none, e1 (.iload_n 1), 
  eA (.if_icmp .gt 42) 3 116, none, none, e2 (.iload 4), none, e1 (.aload_n 0), eG (.getfield 39) 1 9 9 49, none, none, e1 .arraylength, eA (.if_icmp .ge 32) 3 116, none, none, e1 (.aload_n 0), eG (.getfield 36) 1 8 8 48, 
  none, none, e1 (.iload_n 2), eV (.bipush 11) 2 11, none, e1 .imul, e2 (.iload 4), none, e1 .iadd, e1 (.iload_n 3), e1 .iastore, e1 (.iload_n 3), e1 (.aload_n 0), eG (.getfield 39) 1 9 9 49, none, none, e2 (.iload 4), 
  none, e1 .iaload, e1 .iadd, e1 (.istore_n 3), eV (.iinc 4 1) 3 1, none, none, eA (.goto (-42)) 3 71, none, none, eV (.iinc 2 (-1)) 3 (-1), none, none, eA (.goto (-87)) 3 32, none, none, e1 .return_]
set_option maxRecDepth 100000 in
def cd11 : Cd := [e1 (.iload_n 2), eA (.ifCond .lt 12) 3 13, none, none, e1 (.iload_n 2), e1 (.aload_n 0), eG (.getfield 39) 1 9 9 49, none, none, e1 .arraylength, eA (.if_icmp .lt 4) 3 14, none, none, e1 .return_, e1 (.iload_n 2), 
  e1 (.istore_n 3), e1 (.iload_n 3), eA (.ifCond .le 35) 3 52, none, none, e1 (.aload_n 0), eG (.getfield 39) 1 9 9 49, none, none, e1 (.iload_n 3), eV (.iconst 1) 1 1, e1 .isub, e1 .iaload, e1 (.iload_n 1), 
  eA (.if_icmp .le 23) 3 52, none, none, e1 (.aload_n 0), eG (.getfield 39) 1 9 9 49, none, none, e1 (.iload_n 3), e1 (.aload_n 0), eG (.getfield 39) 1 9 9 49, none, none, e1 (.iload_n 3), eV (.iconst 1) 1 1, e1 .isub, 
  e1 .iaload, e1 .iastore, eV (.iinc 3 (-1)) 3 (-1), none, none, eA (.goto (-33)) 3 16, none, none, e1 (.aload_n 0), eG (.getfield 39) 1 9 9 49, none, none, e1 (.iload_n 3), e1 (.iload_n 1), e1 .iastore, e1 .return_]
set_option maxRecDepth 100000 in
def cd12 : Cd := [e1 (.aload_n 0), e1 (.iload_n 1), e1 (.iload_n 2), e1 (.iload_n 3), eS (.invokevirtual 95) 16 3 47, none, none, eA (.ifCond .ne 4) 3 11, none, none, e1 .return_, e1 (.iload_n 1), eA (.ifCond .lt 11) 3 23, none, none, 
  e1 (.iload_n 1), e1 (.aload_n 0), eG (.getfield 42) 1 10 10 50, none, none, eA (.if_icmp .lt 32) 3 52, none, none, e1 (.aload_n 0), e1 (.iload_n 2), eG (.putfield 46) 1 11 11 51, none, none, e1 (.aload_n 0), 
  e1 (.iload_n 3), eG (.putfield 49) 1 12 12 52, none, none, e1 (.aload_n 0), eG (.getfield 27) 1 5 5 45, none, none, e1 (.iconst 0), e1 (.aload_n 0), eG (.getfield 30) 1 6 6 46, none, none, e1 (.iconst 0), e1 (.aload_n 0), 
  eG (.getfield 27) 1 5 5 45, none, none, e1 .arraylength, eS (.invokestatic 99) 1003 5 2, none, none, e1 .return_, e1 (.iconst 0), e2 (.istore 4), none, e2 (.iload 4), none, eV (.iconst 3) 1 3, eA (.if_icmp .ge 18) 3 76, 
  none, none, e1 (.aload_n 0), e1 (.iload_n 1), e2 (.iload 4), none, e1 (.iload_n 2), e1 (.iload_n 3), eS (.invokevirtual 105) 13 4 48, none, none, eV (.iinc 4 1) 3 1, none, none, eA (.goto (-18)) 3 55, none, none, 
  e1 (.aload_n 0), e1 (.iload_n 1), e1 (.iload_n 2), e1 (.iload_n 3), eS (.invokevirtual 109) 14 3 50, none, none, e1 .return_]
set_option maxRecDepth 100000 in
def cd13 : Cd := [e1 (.aload_n 0), e1 (.iload_n 1), e1 (.iload_n 2), eS (.invokevirtual 112) 15 2 49, none, none, eA (.ifCond .ne 4) 3 10, none, none, e1 .return_, e1 (.aload_n 0), eG (.getfield 27) 1 5 5 45, none, none, e1 (.iload_n 1), 
  e1 (.iload_n 2), e1 .iastore, e1 (.aload_n 0), eG (.getfield 21) 1 3 3 43, none, none, e1 (.iload_n 2), e1 .dup2, e1 .iaload, eV (.iconst 1) 1 1, e1 .isub, e1 .iastore, e1 (.aload_n 0), eG (.getfield 24) 1 4 4 44, none, 
  none, e1 (.iload_n 2), e1 .dup2, e1 .iaload, eV (.iconst 1) 1 1, e1 (.iload_n 1), e1 .ishl, e1 .ior, e1 .iastore, e1 (.aload_n 0), e1 (.iload_n 1), eV (.iconst 1) 1 1, e1 .iadd, e1 (.iload_n 3), eV (.iconst 1) 1 1, 
  e1 .iadd, e2 (.iload 4), none, e1 (.aload_n 0), eG (.getfield 18) 1 2 2 42, none, none, e1 (.iload_n 1), e1 .iaload, e1 .iadd, eS (.invokevirtual 83) 12 3 46, none, none, e1 (.aload_n 0), eG (.getfield 24) 1 4 4 44, none, 
  none, e1 (.iload_n 2), e1 .dup2, e1 .iaload, eV (.iconst 1) 1 1, e1 (.iload_n 1), e1 .ishl, eV (.iconst (-1)) 1 (-1), e1 .ixor, e1 .iand, e1 .iastore, e1 (.aload_n 0), eG (.getfield 21) 1 3 3 43, none, none, 
  e1 (.iload_n 2), e1 .dup2, e1 .iaload, eV (.iconst 1) 1 1, e1 .iadd, e1 .iastore, e1 .return_]
set_option maxRecDepth 100000 in
def cd14 : Cd := [e1 (.iload_n 1), eA (.ifCond .lt 12) 3 13, none, none, e1 (.iload_n 1), e1 (.aload_n 0), eG (.getfield 27) 1 5 5 45, none, none, e1 .arraylength, eA (.if_icmp .lt 4) 3 14, none, none, e1 .return_, e1 (.aload_n 0), 
  eG (.getfield 27) 1 5 5 45, none, none, e1 (.iload_n 1), some (.ldc 52, 2, 0, 0, -1000000005, 0, [(0, 9)]), none, e1 .iastore, e1 (.aload_n 0), e1 (.iload_n 1), eV (.iconst 1) 1 1, e1 .iadd, e1 (.iload_n 2), 
  e1 (.iload_n 3), eS (.invokevirtual 83) 12 3 46, none, none, e1 .return_]
set_option maxRecDepth 100000 in
def cd15 : Cd := [e1 (.iload_n 1), eA (.ifCond .lt 18) 3 19, none, none, e1 (.iload_n 1), eV (.bipush 10) 2 10, none, eA (.if_icmp .ge 12) 3 19, none, none, e1 (.iload_n 2), eA (.ifCond .lt 8) 3 19, none, none, e1 (.iload_n 2), 
  eV (.iconst 3) 1 3, eA (.if_icmp .lt 5) 3 21, none, none, e1 (.iconst 0), e1 .ireturn, e1 (.aload_n 0), eS (.getfield 9) 1 0 40, none, none, e1 (.iload_n 1), e1 .iaload, e1 (.iload_n 2), e1 .ishr, eV (.iconst 1) 1 1, 
  e1 .iand, eV (.iconst 1) 1 1, eA (.if_icmp .ne 32) 3 64, none, none, e1 (.aload_n 0), eG (.getfield 21) 1 3 3 43, none, none, e1 (.iload_n 2), e1 .iaload, eA (.ifCond .le 23) 3 64, none, none, e1 (.aload_n 0), 
  eG (.getfield 24) 1 4 4 44, none, none, e1 (.iload_n 2), e1 .iaload, e1 (.aload_n 0), eG (.getfield 15) 1 1 1 41, none, none, e1 (.iload_n 1), e1 .iaload, e1 .iand, eA (.ifCond .ne 7) 3 64, none, none, eV (.iconst 1) 1 1, 
  eA (.goto 4) 3 65, none, none, e1 (.iconst 0), e1 .ireturn]
set_option maxRecDepth 100000 in
def cd16 : Cd := [e1 (.iload_n 1), eA (.ifCond .lt 9) 3 10, none, none, e1 (.iload_n 1), eV (.bipush 11) 2 11, none, eA (.if_icmp .lt 5) 3 12, none, none, e1 (.iconst 0), e1 .ireturn, e1 (.iload_n 2), e1 (.aload_n 0), 
  eG (.getfield 33) 1 7 7 47, none, none, e1 (.iload_n 1), e1 .iaload, e1 (.aload_n 0), eG (.getfield 21) 1 3 3 43, none, none, e1 (.iconst 0), e1 .iaload, e1 (.aload_n 0), eG (.getfield 21) 1 3 3 43, none, none, 
  eV (.iconst 1) 1 1, e1 .iaload, e1 .iadd, e1 (.aload_n 0), eG (.getfield 21) 1 3 3 43, none, none, eV (.iconst 2) 1 2, e1 .iaload, e1 .iadd, eS (.invokestatic 64) 1002 2 1, none, none, e1 .iadd, e2 (.istore 4), none, 
  e1 (.aload_n 0), eG (.getfield 46) 1 11 11 51, none, none, e1 (.iload_n 2), e1 .isub, e2 (.istore 5), none, e2 (.iload 4), none, e1 (.aload_n 0), eG (.getfield 46) 1 11 11 51, none, none, eA (.if_icmp .ne 15) 3 74, none, 
  none, e2 (.iload 5), none, eA (.ifCond .lt 10) 3 74, none, none, e2 (.iload 5), none, eV (.bipush 11) 2 11, none, eA (.if_icmp .lt 18) 3 89, none, none, e2 (.iload 4), none, e1 (.aload_n 0), eG (.getfield 46) 1 11 11 51, 
  none, none, eA (.if_icmp .le 7) 3 87, none, none, eV (.iconst 1) 1 1, eA (.goto 4) 3 88, none, none, e1 (.iconst 0), e1 .ireturn, e1 (.iload_n 3), e1 (.aload_n 0), eG (.getfield 36) 1 8 8 48, none, none, e1 (.iload_n 1), 
  eV (.bipush 11) 2 11, none, e1 .imul, e2 (.iload 5), none, e1 .iadd, e1 .iaload, e1 .iadd, e1 (.aload_n 0), eG (.getfield 49) 1 12 12 52, none, none, eA (.if_icmp .ge 7) 3 114, none, none, eV (.iconst 1) 1 1, 
  eA (.goto 4) 3 115, none, none, e1 (.iconst 0), e1 .ireturn]
set_option maxRecDepth 100000 in
def cd17 : Cd := [e1 (.aload_n 0), e1 (.aload_n 1), e1 (.iload_n 2), eS (.invokevirtual 28) 18 2 74, none, none, e1 (.aload_n 0), e1 (.aload_n 1), e1 (.iload_n 2), eS (.invokevirtual 32) 19 2 79, none, none, e1 (.aload_n 1), 
  eS (.getfield 35) 7 0 5, none, none, e1 (.iload_n 2), eV (.iconst 3) 1 3, eS (.invokevirtual 41) 94 2 78, none, none, e1 (.istore_n 3), e1 (.aload_n 1), eS (.getfield 35) 7 0 5, none, none, e1 (.iload_n 2), 
  eV (.bipush 6) 2 6, none, eS (.invokevirtual 41) 94 2 78, none, none, e2 (.istore 4), none, e1 (.iconst 0), e2 (.istore 5), none, e1 (.iconst 0), e2 (.istore 6), none, e2 (.iload 6), none, eV (.sipush 1000) 3 1000, none, 
  none, eA (.if_icmp .ge 87) 3 132, none, none, e2 (.iload 4), none, e1 (.aload_n 0), e2 (.iload 6), none, e1 (.iload_n 3), eS (.invokevirtual 47) 20 2 81, none, none, e1 .iadd, e2 (.istore 4), none, e2 (.iload 5), none, 
  e1 (.aload_n 0), eG (.getfield 21) 2 3 3 38, none, none, eA (.if_icmp .ge 43) 3 109, none, none, e2 (.iload 5), none, e1 (.aload_n 0), eS (.getfield 9) 2 0 35, none, none, e1 .arraylength, eA (.if_icmp .ge 33) 3 109, 
  none, none, e2 (.iload 4), none, e1 (.aload_n 0), eS (.getfield 9) 2 0 35, none, none, e2 (.iload 5), none, e1 .iaload, eA (.if_icmp .lt 21) 3 109, none, none, e2 (.iload 4), none, e1 (.aload_n 0), 
  eS (.getfield 9) 2 0 35, none, none, e2 (.iload 5), none, e1 .iaload, e1 .isub, e2 (.istore 4), none, eV (.iinc 5 1) 3 1, none, none, eA (.goto (-46)) 3 60, none, none, e2 (.iload 5), none, e1 (.aload_n 0), 
  eG (.getfield 21) 2 3 3 38, none, none, eA (.if_icmp .lt 11) 3 126, none, none, e1 (.aload_n 1), eG (.getfield 50) 7 5 5 26, none, none, e2 (.iload 6), none, e1 .iadd, e1 .ireturn, eV (.iinc 6 1) 3 1, none, none, 
  eA (.goto (-89)) 3 40, none, none, some (.ldc 53, 2, 0, 0, -1000000005, 0, [(0, 11)]), none, e1 .ireturn]
set_option maxRecDepth 100000 in
def cd18 : Cd := [e1 (.aload_n 0), e1 (.iconst 0), eG (.putfield 21) 2 3 3 38, none, none, e1 (.aload_n 1), e1 (.iload_n 2), some (.ldc 53, 2, 0, 0, -1000000005, 0, [(0, 11)]), none, eS (.invokevirtual 54) 81 2 75, none, none, 
  e1 (.istore_n 3), e1 (.iload_n 3), some (.ldc 53, 2, 0, 0, -1000000005, 0, [(0, 11)]), none, eA (.if_icmp .eq 53) 3 69, none, none, e1 (.aload_n 0), eG (.getfield 21) 2 3 3 38, none, none, e1 (.aload_n 0), 
  eS (.getfield 9) 2 0 35, none, none, e1 .arraylength, eA (.if_icmp .ge 41) 3 69, none, none, e1 (.aload_n 0), eS (.getfield 9) 2 0 35, none, none, e1 (.aload_n 0), eG (.getfield 21) 2 3 3 38, none, none, e1 (.aload_n 1), 
  eG (.getfield 57) 7 2 2 16, none, none, e1 (.iload_n 3), eV (.iconst 2) 1 2, eS (.invokevirtual 41) 94 2 78, none, none, e1 .iastore, e1 (.aload_n 0), e1 .dup, eG (.getfield 21) 2 3 3 38, none, none, eV (.iconst 1) 1 1, 
  e1 .iadd, eG (.putfield 21) 2 3 3 38, none, none, e1 (.aload_n 1), e1 (.iload_n 2), e1 (.iload_n 3), eS (.invokevirtual 54) 81 2 75, none, none, e1 (.istore_n 3), eA (.goto (-53)) 3 13, none, none, e1 .return_]
set_option maxRecDepth 100000 in
def cd19 : Cd := [e1 (.aload_n 0), e1 (.iconst 0), eG (.putfield 25) 2 4 4 39, none, none, e1 (.iconst 0), e1 (.istore_n 3), e1 (.iload_n 3), e1 (.aload_n 1), eG (.getfield 60) 7 1 1 11, none, none, eS (.invokevirtual 63) 91 0 80, none, 
  none, eA (.if_icmp .ge 94) 3 109, none, none, e1 (.aload_n 0), eG (.getfield 25) 2 4 4 39, none, none, e1 (.aload_n 0), eG (.getfield 15) 2 1 1 36, none, none, e1 .arraylength, eA (.if_icmp .ge 82) 3 109, none, none, 
  e1 (.aload_n 0), eG (.getfield 25) 2 4 4 39, none, none, e1 (.aload_n 0), eG (.getfield 18) 2 2 2 37, none, none, e1 .arraylength, eA (.if_icmp .ge 70) 3 109, none, none, e1 (.aload_n 1), eG (.getfield 60) 7 1 1 11, none, 
  none, e1 (.iload_n 3), eV (.bipush 8) 2 8, none, eS (.invokevirtual 41) 94 2 78, none, none, e1 (.iload_n 2), eA (.if_icmp .ne 50) 3 103, none, none, e1 (.aload_n 0), eG (.getfield 15) 2 1 1 36, none, none, 
  e1 (.aload_n 0), eG (.getfield 25) 2 4 4 39, none, none, e1 (.aload_n 1), eG (.getfield 60) 7 1 1 11, none, none, e1 (.iload_n 3), eV (.iconst 1) 1 1, eS (.invokevirtual 41) 94 2 78, none, none, e1 .iastore, 
  e1 (.aload_n 0), eG (.getfield 18) 2 2 2 37, none, none, e1 (.aload_n 0), eG (.getfield 25) 2 4 4 39, none, none, e1 (.aload_n 1), eG (.getfield 60) 7 1 1 11, none, none, e1 (.iload_n 3), eV (.bipush 7) 2 7, none, 
  eS (.invokevirtual 41) 94 2 78, none, none, e1 .iastore, e1 (.aload_n 0), e1 .dup, eG (.getfield 25) 2 4 4 39, none, none, eV (.iconst 1) 1 1, e1 .iadd, eG (.putfield 25) 2 4 4 39, none, none, eV (.iinc 3 1) 3 1, none, 
  none, eA (.goto (-99)) 3 7, none, none, e1 .return_]
set_option maxRecDepth 100000 in
def cd20 : Cd := [e1 (.iconst 0), e1 (.istore_n 3), e1 (.iconst 0), e2 (.istore 4), none, e2 (.iload 4), none, e1 (.aload_n 0), eG (.getfield 25) 2 4 4 39, none, none, eA (.if_icmp .ge 58) 3 69, none, none, e2 (.iload 4), none, 
  e1 (.aload_n 0), eG (.getfield 15) 2 1 1 36, none, none, e1 .arraylength, eA (.if_icmp .ge 48) 3 69, none, none, e2 (.iload 4), none, e1 (.aload_n 0), eG (.getfield 18) 2 2 2 37, none, none, e1 .arraylength, 
  eA (.if_icmp .ge 38) 3 69, none, none, e1 (.iload_n 3), e1 (.iload_n 2), eV (.iconst 3) 1 3, e1 (.aload_n 0), eG (.getfield 15) 2 1 1 36, none, none, e2 (.iload 4), none, e1 .iaload, e1 (.aload_n 0), 
  eG (.getfield 18) 2 2 2 37, none, none, e2 (.iload 4), none, e1 .iaload, e1 (.iload_n 1), e1 .iadd, eV (.bipush 10) 2 10, none, e1 .idiv, e1 .iadd, eS (.invokestatic 67) 1002 2 3, none, none, e1 .iadd, e1 .iadd, 
  e1 (.istore_n 3), eV (.iinc 4 1) 3 1, none, none, eA (.goto (-61)) 3 5, none, none, e1 (.iload_n 3), e1 .ireturn]
set_option maxRecDepth 100000 in
def cd21 : Cd := [e1 (.aload_n 0), eG (.getfield 15) 3 1 1 32, none, none, e1 .ireturn]
set_option maxRecDepth 100000 in
def cd22 : Cd := [e1 (.aload_n 0), e1 (.iconst 0), eG (.putfield 15) 3 1 1 32, none, none, e1 .return_]
set_option maxRecDepth 100000 in
def cd23 : Cd := [e1 (.aload_n 0), eG (.getfield 15) 3 1 1 32, none, none, eA (.ifCond .lt 15) 3 19, none, none, e1 (.aload_n 0), eG (.getfield 15) 3 1 1 32, none, none, e1 (.aload_n 0), eS (.getfield 9) 3 0 31, none, none, 
  e1 .arraylength, eA (.if_icmp .lt 4) 3 20, none, none, e1 .return_, e1 (.aload_n 0), eS (.getfield 9) 3 0 31, none, none, e1 (.aload_n 0), eG (.getfield 15) 3 1 1 32, none, none, e1 (.iload_n 1), e1 .iastore, 
  e1 (.aload_n 0), e1 .dup, eG (.getfield 15) 3 1 1 32, none, none, eV (.iconst 1) 1 1, e1 .iadd, eG (.putfield 15) 3 1 1 32, none, none, e1 .return_]
set_option maxRecDepth 100000 in
def cd24 : Cd := [e1 (.iload_n 1), eA (.ifCond .lt 29) 3 30, none, none, e1 (.iload_n 1), e1 (.aload_n 0), eG (.getfield 15) 3 1 1 32, none, none, eA (.if_icmp .ge 21) 3 30, none, none, e1 (.iload_n 1), e1 (.aload_n 0), 
  eS (.getfield 9) 3 0 31, none, none, e1 .arraylength, eA (.if_icmp .ge 12) 3 30, none, none, e1 (.aload_n 0), eS (.getfield 9) 3 0 31, none, none, e1 (.iload_n 1), e1 .iaload, eA (.goto 4) 3 31, none, none, 
  e1 (.iconst 0), e1 .ireturn]
set_option maxRecDepth 100000 in
def cd25 : Cd := [e1 (.aload_n 0), eG (.getfield 15) 3 1 1 32, none, none, eA (.ifCond .le 29) 3 33, none, none, e1 (.aload_n 0), eG (.getfield 15) 3 1 1 32, none, none, e1 (.aload_n 0), eS (.getfield 9) 3 0 31, none, none, 
  e1 .arraylength, eA (.if_icmp .gt 17) 3 33, none, none, e1 (.aload_n 0), eS (.getfield 9) 3 0 31, none, none, e1 (.aload_n 0), eG (.getfield 15) 3 1 1 32, none, none, eV (.iconst 1) 1 1, e1 .isub, e1 .iaload, 
  eA (.goto 4) 3 34, none, none, e1 (.iconst 0), e1 .ireturn]
set_option maxRecDepth 100000 in
def cd26 : Cd := [e1 (.aload_n 0), eG (.getfield 15) 3 1 1 32, none, none, eA (.ifCond .le 15) 3 19, none, none, e1 (.aload_n 0), eG (.getfield 15) 3 1 1 32, none, none, e1 (.aload_n 0), eS (.getfield 9) 3 0 31, none, none, 
  e1 .arraylength, eA (.if_icmp .le 5) 3 21, none, none, e1 (.iconst 0), e1 .ireturn, e1 (.aload_n 0), e1 .dup, eG (.getfield 15) 3 1 1 32, none, none, eV (.iconst 1) 1 1, e1 .isub, eG (.putfield 15) 3 1 1 32, none, none, 
  e1 (.aload_n 0), eS (.getfield 9) 3 0 31, none, none, e1 (.aload_n 0), eG (.getfield 15) 3 1 1 32, none, none, e1 .iaload, e1 .ireturn]
set_option maxRecDepth 100000 in
def cd27 : Cd := [e1 (.aload_n 0), eS (.invokevirtual 54) 29 0 90, none, none, e1 (.aload_n 0), eS (.invokevirtual 57) 30 0 92, none, none, e1 (.aload_n 0), e1 (.aload_n 0), eS (.invokevirtual 60) 35 0 99, none, none, 
  eG (.putfield 21) 4 3 3 58, none, none, e1 (.aload_n 0), eG (.getfield 21) 4 3 3 58, none, none, some (.ldc 64, 2, 0, 0, -1000000005, 0, [(0, 12)]), none, eA (.if_icmp .ne 8) 3 30, none, none, e1 (.aload_n 0), 
  eG (.getfield 28) 4 5 5 60, none, none, e1 .ireturn, e1 (.aload_n 0), eS (.invokevirtual 57) 30 0 92, none, none, e1 (.iconst 0), e1 (.istore_n 1), e1 (.iload_n 1), eV (.bipush 96) 2 96, none, eA (.if_icmp .ge 48) 3 87, 
  none, none, e1 (.aload_n 0), eG (.getfield 34) 4 7 7 62, none, none, eA (.ifCond .eq 41) 3 87, none, none, e1 (.aload_n 0), eG (.getfield 40) 4 9 9 64, none, none, eA (.ifCond .eq 10) 3 63, none, none, e1 (.aload_n 0), 
  eS (.invokevirtual 65) 39 0 102, none, none, eA (.goto 7) 3 67, none, none, e1 (.aload_n 0), eS (.invokevirtual 69) 43 0 111, none, none, e1 (.istore_n 2), e1 (.iload_n 2), eA (.ifCond .ne 8) 3 77, none, none, 
  e1 (.aload_n 0), eG (.getfield 28) 4 5 5 60, none, none, e1 .ireturn, e1 (.aload_n 0), eS (.invokevirtual 57) 30 0 92, none, none, eV (.iinc 1 1) 3 1, none, none, eA (.goto (-48)) 3 36, none, none, e1 (.aload_n 0), 
  eG (.getfield 40) 4 9 9 64, none, none, eA (.ifCond .ne 10) 3 101, none, none, e1 (.aload_n 0), eG (.getfield 44) 4 10 10 65, none, none, eA (.ifCond .le 8) 3 106, none, none, e1 (.aload_n 0), eG (.getfield 28) 4 5 5 60, 
  none, none, e1 .ireturn, e1 (.aload_n 0), eV (.iconst 1) 1 1, eS (.invokevirtual 72) 46 1 113, none, none, some (.ldc 64, 2, 0, 0, -1000000005, 0, [(0, 12)]), none, e1 .ireturn]
set_option maxRecDepth 100000 in
def cd28 : Cd := [e1 (.aload_n 1), e1 (.iload_n 2), e1 (.iconst 0), e1 (.aload_n 0), eG (.getfield 21) 4 3 3 58, none, none, eS (.invokevirtual 76) 95 3 116, none, none, e1 (.aload_n 1), e1 (.iload_n 2), eV (.iconst 2) 1 2, 
  e1 (.aload_n 0), eG (.getfield 25) 4 4 4 59, none, none, eS (.invokevirtual 76) 95 3 116, none, none, e1 (.aload_n 1), e1 (.iload_n 2), eV (.iconst 3) 1 3, e1 (.aload_n 0), eG (.getfield 12) 4 1 1 56, none, none, 
  eS (.invokevirtual 82) 21 0 117, none, none, eS (.invokevirtual 76) 95 3 116, none, none, e1 (.iconst 0), e1 (.istore_n 3), e1 (.iload_n 3), e1 (.aload_n 0), eG (.getfield 12) 4 1 1 56, none, none, 
  eS (.invokevirtual 82) 21 0 117, none, none, eA (.if_icmp .ge 25) 3 68, none, none, e1 (.aload_n 1), e1 (.iload_n 2), eV (.iconst 4) 1 4, e1 (.iload_n 3), e1 .iadd, e1 (.aload_n 0), eG (.getfield 12) 4 1 1 56, none, none, 
  e1 (.iload_n 3), eS (.invokevirtual 85) 24 1 118, none, none, eS (.invokevirtual 76) 95 3 116, none, none, eV (.iinc 3 1) 3 1, none, none, eA (.goto (-30)) 3 35, none, none, e1 .return_]
set_option maxRecDepth 100000 in
def cd29 : Cd := [e1 (.aload_n 0), eG (.getfield 12) 4 1 1 56, none, none, eS (.invokevirtual 89) 22 0 91, none, none, e1 (.aload_n 0), eG (.getfield 18) 4 2 2 57, none, none, eS (.invokevirtual 89) 22 0 91, none, none, e1 (.aload_n 0), 
  e1 (.iconst 0), eG (.putfield 25) 4 4 4 59, none, none, e1 (.aload_n 0), e1 (.iconst 0), eG (.putfield 31) 4 6 6 61, none, none, e1 (.aload_n 0), eV (.iconst 3) 1 3, eG (.putfield 34) 4 7 7 62, none, none, 
  e1 (.aload_n 0), eV (.iconst 1) 1 1, eG (.putfield 40) 4 9 9 64, none, none, e1 (.aload_n 0), e1 (.iconst 0), eG (.putfield 44) 4 10 10 65, none, none, e1 (.aload_n 0), e1 (.iconst 0), eG (.putfield 47) 4 11 11 66, none, 
  none, e1 .return_]
set_option maxRecDepth 100000 in
def cd30 : Cd := [e1 (.aload_n 0), eG (.getfield 34) 4 7 7 62, none, none, eV (.iconst 1) 1 1, eA (.if_icmp .eq 11) 3 16, none, none, e1 (.aload_n 0), eG (.getfield 34) 4 7 7 62, none, none, eV (.iconst 2) 1 2, eA (.if_icmp .ne 7) 3 20, 
  none, none, eV (.iconst 1) 1 1, eA (.goto 4) 3 21, none, none, e1 (.iconst 0), e1 (.istore_n 1), e1 (.aload_n 0), eG (.getfield 31) 4 6 6 61, none, none, e1 (.istore_n 2), e1 (.aload_n 0), eG (.getfield 31) 4 6 6 61, 
  none, none, e1 (.aload_n 0), eS (.getfield 50) 4 0 55, none, none, eS (.invokevirtual 92) 100 0 93, none, none, eA (.if_icmp .ge 32) 3 70, none, none, e1 (.aload_n 0), eS (.getfield 50) 4 0 55, none, none, 
  e1 (.aload_n 0), eG (.getfield 31) 4 6 6 61, none, none, eS (.invokevirtual 95) 104 1 94, none, none, eV (.bipush 32) 2 32, none, eA (.if_icmp .ne 16) 3 70, none, none, e1 (.aload_n 0), e1 .dup, 
  eG (.getfield 31) 4 6 6 61, none, none, eV (.iconst 1) 1 1, e1 .iadd, eG (.putfield 31) 4 6 6 61, none, none, eA (.goto (-40)) 3 27, none, none, e1 (.aload_n 0), e1 (.aload_n 0), eG (.getfield 31) 4 6 6 61, none, none, 
  eG (.putfield 28) 4 5 5 60, none, none, e1 (.aload_n 0), eS (.getfield 50) 4 0 55, none, none, e1 (.aload_n 0), eG (.getfield 28) 4 5 5 60, none, none, eS (.invokevirtual 95) 104 1 94, none, none, e1 (.istore_n 3), 
  e1 (.iload_n 3), eA (.ifCond .ge 11) 3 102, none, none, e1 (.aload_n 0), e1 (.iconst 0), eG (.putfield 34) 4 7 7 62, none, none, eA (.goto 61) 3 160, none, none, e1 (.iload_n 3), eS (.invokestatic 96) 33 1 95, none, none, 
  eA (.ifCond .eq 15) 3 121, none, none, e1 (.aload_n 0), eV (.iconst 1) 1 1, eG (.putfield 34) 4 7 7 62, none, none, e1 (.aload_n 0), eS (.invokevirtual 100) 31 0 96, none, none, eA (.goto 42) 3 160, none, none, 
  e1 (.iload_n 3), eS (.invokestatic 103) 34 1 97, none, none, eA (.ifCond .eq 15) 3 140, none, none, e1 (.aload_n 0), eV (.iconst 2) 1 2, eG (.putfield 34) 4 7 7 62, none, none, e1 (.aload_n 0), 
  eS (.invokevirtual 106) 32 0 98, none, none, eA (.goto 23) 3 160, none, none, e1 (.aload_n 0), eV (.iconst 3) 1 3, eG (.putfield 34) 4 7 7 62, none, none, e1 (.aload_n 0), e1 (.iload_n 3), eG (.putfield 37) 4 8 8 63, 
  none, none, e1 (.aload_n 0), e1 .dup, eG (.getfield 31) 4 6 6 61, none, none, eV (.iconst 1) 1 1, e1 .iadd, eG (.putfield 31) 4 6 6 61, none, none, e1 (.iload_n 1), eA (.ifCond .eq 32) 3 193, none, none, e1 (.aload_n 0), 
  eG (.getfield 28) 4 5 5 60, none, none, e1 (.iload_n 2), eA (.if_icmp .ne 24) 3 193, none, none, e1 (.aload_n 0), eG (.getfield 34) 4 7 7 62, none, none, eV (.iconst 1) 1 1, eA (.if_icmp .eq 11) 3 188, none, none, 
  e1 (.aload_n 0), eG (.getfield 34) 4 7 7 62, none, none, eV (.iconst 2) 1 2, eA (.if_icmp .ne 8) 3 193, none, none, e1 (.aload_n 0), eV (.iconst 4) 1 4, eG (.putfield 34) 4 7 7 62, none, none, e1 .return_]
set_option maxRecDepth 100000 in
def cd31 : Cd := [e1 (.aload_n 0), eG (.getfield 31) 4 6 6 61, none, none, e1 (.aload_n 0), eS (.getfield 50) 4 0 55, none, none, eS (.invokevirtual 92) 100 0 93, none, none, eA (.if_icmp .ge 33) 3 44, none, none, e1 (.aload_n 0), 
  eS (.getfield 50) 4 0 55, none, none, e1 (.aload_n 0), eG (.getfield 31) 4 6 6 61, none, none, eS (.invokevirtual 95) 104 1 94, none, none, eS (.invokestatic 96) 33 1 95, none, none, eA (.ifCond .eq 16) 3 44, none, none, 
  e1 (.aload_n 0), e1 .dup, eG (.getfield 31) 4 6 6 61, none, none, eV (.iconst 1) 1 1, e1 .iadd, eG (.putfield 31) 4 6 6 61, none, none, e3 (.goto (-41)), none, none, e1 .return_]
set_option maxRecDepth 100000 in
def cd32 : Cd := [e1 (.aload_n 0), e1 (.iconst 0), eG (.putfield 37) 4 8 8 63, none, none, e1 (.aload_n 0), eG (.getfield 31) 4 6 6 61, none, none, e1 (.aload_n 0), eS (.getfield 50) 4 0 55, none, none, eS (.invokevirtual 92) 100 0 93, 
  none, none, eA (.if_icmp .ge 65) 3 81, none, none, e1 (.aload_n 0), eS (.getfield 50) 4 0 55, none, none, e1 (.aload_n 0), eG (.getfield 31) 4 6 6 61, none, none, eS (.invokevirtual 95) 104 1 94, none, none, 
  eS (.invokestatic 103) 34 1 97, none, none, eA (.ifCond .eq 48) 3 81, none, none, e1 (.aload_n 0), eV (.sipush 9999) 3 9999, none, none, e1 (.aload_n 0), eG (.getfield 37) 4 8 8 63, none, none, eV (.bipush 10) 2 10, none, 
  e1 .imul, e1 (.aload_n 0), eS (.getfield 50) 4 0 55, none, none, e1 (.aload_n 0), eG (.getfield 31) 4 6 6 61, none, none, eS (.invokevirtual 95) 104 1 94, none, none, e1 .iadd, eV (.bipush 48) 2 48, none, e1 .isub, 
  eS (.invokestatic 109) 1002 2 6, none, none, eG (.putfield 37) 4 8 8 63, none, none, e1 (.aload_n 0), e1 .dup, eG (.getfield 31) 4 6 6 61, none, none, eV (.iconst 1) 1 1, e1 .iadd, eG (.putfield 31) 4 6 6 61, none, none, 
  eA (.goto (-73)) 3 5, none, none, e1 .return_]
set_option maxRecDepth 100000 in
def cd33 : Cd := [e1 (.iload_n 0), eV (.bipush 97) 2 97, none, eA (.if_icmp .lt 13) 3 16, none, none, e1 (.iload_n 0), eV (.bipush 122) 2 122, none, eA (.if_icmp .gt 7) 3 16, none, none, eV (.iconst 1) 1 1, eA (.goto 4) 3 17, none, none, 
  e1 (.iconst 0), e1 .ireturn]
set_option maxRecDepth 100000 in
def cd34 : Cd := [e1 (.iload_n 0), eV (.bipush 48) 2 48, none, eA (.if_icmp .lt 13) 3 16, none, none, e1 (.iload_n 0), eV (.bipush 57) 2 57, none, eA (.if_icmp .gt 7) 3 16, none, none, eV (.iconst 1) 1 1, eA (.goto 4) 3 17, none, none, 
  e1 (.iconst 0), e1 .ireturn]
set_option maxRecDepth 100000 in
def cd35 : Cd := [e1 (.iconst 0), e1 (.istore_n 1), e1 (.iload_n 1), eV (.bipush 6) 2 6, none, eA (.if_icmp .ge 30) 3 35, none, none, e1 (.aload_n 0), eG (.getfield 34) 4 7 7 62, none, none, eV (.iconst 1) 1 1, eA (.if_icmp .ne 22) 3 35, 
  none, none, e1 (.aload_n 0), e1 (.iload_n 1), eS (.invokestatic 115) 37 1 100, none, none, eS (.invokevirtual 119) 36 1 101, none, none, eA (.ifCond .eq 5) 3 29, none, none, e1 (.iload_n 1), e1 .ireturn, 
  eV (.iinc 1 1) 3 1, none, none, eA (.goto (-30)) 3 2, none, none, some (.ldc 64, 2, 0, 0, -1000000005, 0, [(0, 12)]), none, e1 .ireturn]
set_option maxRecDepth 100000 in
def cd36 : Cd := [e1 (.aload_n 1), eA (.ifnull 19) 3 20, none, none, e1 (.aload_n 1), eS (.invokevirtual 123) 900 0 7, none, none, e1 (.aload_n 0), eG (.getfield 31) 4 6 6 61, none, none, e1 (.aload_n 0), eG (.getfield 28) 4 5 5 60, none, 
  none, e1 .isub, eA (.if_icmp .eq 5) 3 22, none, none, e1 (.iconst 0), e1 .ireturn, e1 (.iconst 0), e1 (.istore_n 2), e1 (.iload_n 2), e1 (.aload_n 1), eS (.invokevirtual 123) 900 0 7, none, none, 
  eA (.if_icmp .ge 32) 3 61, none, none, e1 (.aload_n 1), e1 (.iload_n 2), eS (.invokevirtual 128) 901 1 8, none, none, e1 (.aload_n 0), eS (.getfield 50) 4 0 55, none, none, e1 (.aload_n 0), eG (.getfield 28) 4 5 5 60, 
  none, none, e1 (.iload_n 2), e1 .iadd, eS (.invokevirtual 95) 104 1 94, none, none, eA (.if_icmp .eq 5) 3 55, none, none, e1 (.iconst 0), e1 .ireturn, eV (.iinc 2 1) 3 1, none, none, eA (.goto (-34)) 3 24, none, none, 
  eV (.iconst 1) 1 1, e1 .ireturn]
set_option maxRecDepth 100000 in
def cd37 : Cd := [e1 (.iload_n 0), some (.tableswitch 50 0 4 #[35, 38, 41, 44, 47], 35, 51, 0, 0, 0, [(0, 36), (1, 39), (2, 42), (3, 45), (4, 48)]), none, none, none, none, none, none, none, none, none, none, none, none, none, none, none, 
  none, none, none, none, none, none, none, none, none, none, none, none, none, none, none, none, none, none, none, some (.ldc 132, 2, 1000, 0, 0, 0, [(0, 0)]), none, e1 .areturn, 
  some (.ldc 134, 2, 1001, 0, 0, 0, [(0, 1)]), none, e1 .areturn, some (.ldc 136, 2, 1002, 0, 0, 0, [(0, 2)]), none, e1 .areturn, some (.ldc 138, 2, 1003, 0, 0, 0, [(0, 3)]), none, e1 .areturn, 
  some (.ldc 140, 2, 1004, 0, 0, 0, [(0, 4)]), none, e1 .areturn, some (.ldc 142, 2, 1005, 0, 0, 0, [(0, 5)]), none, e1 .areturn]
set_option maxRecDepth 100000 in
def cd38 : Cd := [e1 (.iload_n 0), some (.tableswitch 50 0 4 #[35, 38, 41, 44, 47], 35, 51, 0, 0, 0, [(0, 36), (1, 39), (2, 42), (3, 45), (4, 48)]), none, none, none, none, none, none, none, none, none, none, none, none, none, none, none, 
  none, none, none, none, none, none, none, none, none, none, none, none, none, none, none, none, none, none, none, some (.ldc 144, 2, 1006, 0, 0, 0, [(0, 6)]), none, e1 .areturn, 
  some (.ldc 146, 2, 1007, 0, 0, 0, [(0, 7)]), none, e1 .areturn, some (.ldc 148, 2, 1008, 0, 0, 0, [(0, 8)]), none, e1 .areturn, some (.ldc 150, 2, 1009, 0, 0, 0, [(0, 9)]), none, e1 .areturn, 
  some (.ldc 152, 2, 1010, 0, 0, 0, [(0, 10)]), none, e1 .areturn, some (.ldc 154, 2, 1011, 0, 0, 0, [(0, 11)]), none, e1 .areturn]
set_option maxRecDepth 100000 in
def cd39 : Cd := [e1 (.aload_n 0), eG (.getfield 34) 4 7 7 62, none, none, some (.tableswitch 68 1 3 #[58, 28, 63], 28, 72, 0, 0, 0, [(1, 62), (2, 32), (3, 67)]), none, none, none, none, none, none, none, none, none, none, none, none, 
  none, none, none, none, none, none, none, none, none, none, none, none, none, none, none, e1 (.aload_n 0), eG (.getfield 31) 4 6 6 61, none, none, e1 (.aload_n 0), eG (.getfield 28) 4 5 5 60, none, none, e1 .isub, 
  eV (.iconst 4) 1 4, eA (.if_icmp .gt 18) 3 60, none, none, e1 (.aload_n 0), e1 (.aload_n 0), eG (.getfield 37) 4 8 8 63, none, none, eS (.invokevirtual 156) 41 1 103, none, none, eA (.ifCond .eq 7) 3 60, none, none, 
  eV (.iconst 1) 1 1, eA (.goto 4) 3 61, none, none, e1 (.iconst 0), e1 .ireturn, e1 (.aload_n 0), eS (.invokevirtual 159) 40 0 108, none, none, e1 .ireturn, e1 (.aload_n 0), eS (.invokevirtual 162) 42 0 110, none, none, 
  e1 .ireturn, e1 (.iconst 0), e1 .ireturn]
set_option maxRecDepth 100000 in
def cd40 : Cd := [e1 (.aload_n 0), eG (.getfield 31) 4 6 6 61, none, none, e1 (.aload_n 0), eG (.getfield 28) 4 5 5 60, none, none, e1 .isub, eV (.iconst 1) 1 1, eA (.if_icmp .ne 28) 3 38, none, none, e1 (.aload_n 0), 
  eG (.getfield 21) 4 3 3 58, none, none, eS (.invokestatic 165) 38 1 109, none, none, e1 (.aload_n 0), eS (.getfield 50) 4 0 55, none, none, e1 (.aload_n 0), eG (.getfield 28) 4 5 5 60, none, none, 
  eS (.invokevirtual 95) 104 1 94, none, none, e1 .i2c, eS (.invokevirtual 168) 902 1 9, none, none, eA (.goto 4) 3 39, none, none, eV (.iconst (-1)) 1 (-1), e1 (.istore_n 1), e1 (.iload_n 1), eA (.ifCond .lt 19) 3 60, 
  none, none, e1 (.aload_n 0), eV (.sipush 10000) 3 10000, none, none, e1 (.iload_n 1), e1 .iadd, eS (.invokevirtual 156) 41 1 103, none, none, eA (.ifCond .eq 7) 3 60, none, none, eV (.iconst 1) 1 1, eA (.goto 4) 3 61, 
  none, none, e1 (.iconst 0), e1 .ireturn]
set_option maxRecDepth 100000 in
def cd41 : Cd := [e1 (.aload_n 0), eG (.getfield 12) 4 1 1 56, none, none, e1 (.iload_n 1), eS (.invokevirtual 171) 23 1 104, none, none, e1 (.aload_n 0), e1 .dup, eG (.getfield 25) 4 4 4 59, none, none, eV (.iconst 1) 1 1, e1 .iadd, 
  eG (.putfield 25) 4 4 4 59, none, none, e1 (.aload_n 0), eS (.invokevirtual 174) 45 0 105, none, none, eV (.iconst 1) 1 1, e1 .ireturn]
set_option maxRecDepth 100000 in
def cd42 : Cd := [e1 (.aload_n 0), eG (.getfield 37) 4 8 8 63, none, none, eV (.bipush 33) 2 33, none, eA (.if_icmp .ne 25) 3 31, none, none, e1 (.aload_n 0), eG (.getfield 47) 4 11 11 66, none, none, eV (.bipush 8) 2 8, none, 
  eA (.if_icmp .ge 16) 3 31, none, none, e1 (.aload_n 0), e1 .dup, eG (.getfield 47) 4 11 11 66, none, none, eV (.iconst 1) 1 1, e1 .iadd, eG (.putfield 47) 4 11 11 66, none, none, eA (.goto 36) 3 64, none, none, 
  e1 (.aload_n 0), eG (.getfield 37) 4 8 8 63, none, none, eV (.bipush 40) 2 40, none, eA (.if_icmp .ne 25) 3 62, none, none, e1 (.aload_n 0), eG (.getfield 44) 4 10 10 65, none, none, eV (.bipush 8) 2 8, none, 
  eA (.if_icmp .ge 16) 3 62, none, none, e1 (.aload_n 0), e1 .dup, eG (.getfield 44) 4 10 10 65, none, none, eV (.iconst 1) 1 1, e1 .iadd, eG (.putfield 44) 4 10 10 65, none, none, eA (.goto 5) 3 64, none, none, 
  e1 (.iconst 0), e1 .ireturn, e1 (.aload_n 0), eG (.getfield 18) 4 2 2 57, none, none, e1 (.aload_n 0), eG (.getfield 37) 4 8 8 63, none, none, eS (.invokevirtual 171) 23 1 104, none, none, eV (.iconst 1) 1 1, e1 .ireturn]
set_option maxRecDepth 100000 in
def cd43 : Cd := [e1 (.aload_n 0), eG (.getfield 34) 4 7 7 62, none, none, eV (.iconst 3) 1 3, eA (.if_icmp .eq 5) 3 10, none, none, e1 (.iconst 0), e1 .ireturn, e1 (.aload_n 0), eG (.getfield 37) 4 8 8 63, none, none, 
  eV (.bipush 41) 2 41, none, eA (.if_icmp .ne 8) 3 24, none, none, e1 (.aload_n 0), eS (.invokevirtual 177) 44 0 112, none, none, e1 .ireturn, e1 (.aload_n 0), eG (.getfield 37) 4 8 8 63, none, none, 
  eS (.invokestatic 180) 47 1 114, none, none, e1 (.istore_n 1), e1 (.aload_n 0), e1 (.iload_n 1), eV (.iconst 3) 1 3, eA (.if_icmp .ne 9) 3 44, none, none, e1 (.iload_n 1), eV (.iconst 1) 1 1, e1 .iadd, eA (.goto 8) 3 49, 
  none, none, e1 (.iload_n 1), eV (.iconst 1) 1 1, eS (.invokestatic 183) 1001 2 10, none, none, eS (.invokevirtual 72) 46 1 113, none, none, e1 (.iload_n 1), eA (.ifCond .eq 22) 3 75, none, none, e1 (.iload_n 1), 
  eV (.iconst 3) 1 3, eA (.if_icmp .ne 19) 3 77, none, none, e1 (.aload_n 0), eG (.getfield 18) 4 2 2 57, none, none, eS (.invokevirtual 186) 25 0 106, none, none, eS (.invokestatic 180) 47 1 114, none, none, 
  eV (.iconst 3) 1 3, eA (.if_icmp .ne 5) 3 77, none, none, e1 (.iconst 0), e1 .ireturn, e1 (.aload_n 0), eG (.getfield 18) 4 2 2 57, none, none, e1 (.aload_n 0), eG (.getfield 37) 4 8 8 63, none, none, 
  eS (.invokevirtual 171) 23 1 104, none, none, e1 (.aload_n 0), eV (.iconst 1) 1 1, eG (.putfield 40) 4 9 9 64, none, none, eV (.iconst 1) 1 1, e1 .ireturn]
set_option maxRecDepth 100000 in
def cd44 : Cd := [e1 (.aload_n 0), eG (.getfield 44) 4 10 10 65, none, none, eA (.ifCond .ne 5) 3 9, none, none, e1 (.iconst 0), e1 .ireturn, e1 (.aload_n 0), eV (.iconst 1) 1 1, eS (.invokevirtual 72) 46 1 113, none, none, 
  e1 (.aload_n 0), eG (.getfield 18) 4 2 2 57, none, none, eS (.invokevirtual 189) 26 0 107, none, none, e1 .pop, e1 (.aload_n 0), e1 .dup, eG (.getfield 44) 4 10 10 65, none, none, eV (.iconst 1) 1 1, e1 .isub, 
  eG (.putfield 44) 4 10 10 65, none, none, e1 (.aload_n 0), eS (.invokevirtual 174) 45 0 105, none, none, eV (.iconst 1) 1 1, e1 .ireturn]
set_option maxRecDepth 100000 in
def cd45 : Cd := [e1 (.aload_n 0), eG (.getfield 47) 4 11 11 66, none, none, eA (.ifCond .le 46) 3 50, none, none, e1 (.aload_n 0), eG (.getfield 18) 4 2 2 57, none, none, eS (.invokevirtual 186) 25 0 106, none, none, eV (.bipush 33) 2 33, 
  none, eA (.if_icmp .ne 34) 3 50, none, none, e1 (.aload_n 0), eG (.getfield 12) 4 1 1 56, none, none, eV (.sipush 20000) 3 20000, none, none, e1 (.aload_n 0), eG (.getfield 18) 4 2 2 57, none, none, 
  eS (.invokevirtual 189) 26 0 107, none, none, e1 .iadd, eS (.invokevirtual 171) 23 1 104, none, none, e1 (.aload_n 0), e1 .dup, eG (.getfield 47) 4 11 11 66, none, none, eV (.iconst 1) 1 1, e1 .isub, 
  eG (.putfield 47) 4 11 11 66, none, none, e3 (.goto (-47)), none, none, e1 (.aload_n 0), e1 (.iconst 0), eG (.putfield 40) 4 9 9 64, none, none, e1 .return_]
set_option maxRecDepth 100000 in
def cd46 : Cd := [e1 (.iconst 0), e1 (.istore_n 2), e1 (.iload_n 2), eV (.bipush 96) 2 96, none, eA (.if_icmp .ge 41) 3 46, none, none, e1 (.aload_n 0), eG (.getfield 18) 4 2 2 57, none, none, eS (.invokevirtual 186) 25 0 106, none, none, 
  eS (.invokestatic 180) 47 1 114, none, none, e1 (.iload_n 1), eA (.if_icmp .lt 27) 3 46, none, none, e1 (.aload_n 0), eG (.getfield 12) 4 1 1 56, none, none, eV (.sipush 20000) 3 20000, none, none, e1 (.aload_n 0), 
  eG (.getfield 18) 4 2 2 57, none, none, eS (.invokevirtual 189) 26 0 107, none, none, e1 .iadd, eS (.invokevirtual 171) 23 1 104, none, none, eV (.iinc 2 1) 3 1, none, none, eA (.goto (-41)) 3 2, none, none, e1 .return_]
set_option maxRecDepth 100000 in
def cd47 : Cd := [e1 (.iload_n 0), 
  some (.lookupswitch 93 #[(38, 85), (42, 91), (43, 89), (45, 89), (47, 91), (60, 87), (61, 87), (62, 87), (124, 83)], 83, 94, 0, 0, 0, [(38, 86), (42, 92), (43, 90), (45, 90), (47, 92), (60, 88), (61, 88), (62, 88), (124, 84)]), 
  none, none, none, none, none, none, none, none, none, none, none, none, none, none, none, none, none, none, none, none, none, none, none, none, none, none, none, none, none, none, none, none, none, none, none, none, none, 
  none, none, none, none, none, none, none, none, none, none, none, none, none, none, none, none, none, none, none, none, none, none, none, none, none, none, none, none, none, none, none, none, none, none, none, none, none, 
  none, none, none, none, none, none, none, none, eV (.iconst 1) 1 1, e1 .ireturn, eV (.iconst 2) 1 2, e1 .ireturn, eV (.iconst 3) 1 3, e1 .ireturn, eV (.iconst 4) 1 4, e1 .ireturn, eV (.iconst 5) 1 5, e1 .ireturn, 
  e1 (.iconst 0), e1 .ireturn]
set_option maxRecDepth 100000 in
def cd48 : Cd := [e1 (.aload_n 1), e1 (.iload_n 2), eS (.invokevirtual 18) 83 1 124, none, none, e2 (.istore 6), none, e2 (.iload 6), none, some (.ldc 24, 2, 0, 0, -1000000005, 0, [(0, 13)]), none, eA (.if_icmp .ne 13) 3 24, none, none, 
  e1 (.iload_n 2), eA (.ifCond .ne 7) 3 22, none, none, e1 (.iload_n 3), eA (.goto 4) 3 23, none, none, e1 (.iconst 0), e1 .ireturn, e1 (.iconst 0), eV (.sipush 9999) 3 9999, none, none, e1 (.aload_n 0), e1 (.aload_n 1), 
  eG (.getfield 25) 7 3 3 20, none, none, e2 (.iload 6), none, e1 (.iload_n 3), e2 (.iload 4), none, e2 (.iload 5), none, eS (.invokevirtual 29) 49 5 125, none, none, eS (.invokestatic 33) 1002 2 11, none, none, 
  eS (.invokestatic 39) 1001 2 12, none, none, e1 .ireturn]
set_option maxRecDepth 100000 in
def cd49 : Cd := [e1 (.aload_n 0), eS (.getfield 12) 5 0 33, none, none, eS (.invokevirtual 42) 22 0 126, none, none, eV (.iconst 4) 1 4, e1 (.aload_n 1), e1 (.iload_n 2), eV (.iconst 3) 1 3, eS (.invokevirtual 45) 94 2 127, none, none, 
  e1 .iadd, e2 (.istore 6), none, eV (.iconst 4) 1 4, e2 (.istore 7), none, e2 (.iload 7), none, e2 (.iload 6), none, eA (.if_icmp .ge 157) 3 181, none, none, e1 (.aload_n 1), e1 (.iload_n 2), e2 (.iload 7), none, 
  eS (.invokevirtual 45) 94 2 127, none, none, e2 (.istore 8), none, e2 (.iload 8), none, eV (.sipush 10000) 3 10000, none, none, eA (.if_icmp .ge 15) 3 56, none, none, e1 (.aload_n 0), eS (.getfield 12) 5 0 33, none, none, 
  e2 (.iload 8), none, eS (.invokevirtual 50) 23 1 128, none, none, eA (.goto 122) 3 175, none, none, e2 (.iload 8), none, eV (.sipush 20000) 3 20000, none, none, eA (.if_icmp .ge 40) 3 101, none, none, e1 (.aload_n 0), 
  eS (.getfield 12) 5 0 33, none, none, e2 (.iload 8), none, eV (.sipush 10000) 3 10000, none, none, eA (.if_icmp .ne 7) 3 80, none, none, e1 (.iload_n 3), eA (.goto 18) 3 95, none, none, e2 (.iload 8), none, 
  eV (.sipush 10001) 3 10001, none, none, eA (.if_icmp .ne 8) 3 93, none, none, e2 (.iload 4), none, eA (.goto 5) 3 95, none, none, e2 (.iload 5), none, eS (.invokevirtual 50) 23 1 128, none, none, eA (.goto 77) 3 175, 
  none, none, e2 (.iload 8), none, eV (.sipush 20033) 3 20033, none, none, eA (.if_icmp .ne 31) 3 137, none, none, e1 (.aload_n 0), eS (.getfield 12) 5 0 33, none, none, e1 (.aload_n 0), eS (.getfield 12) 5 0 33, none, 
  none, eS (.invokevirtual 54) 26 0 129, none, none, eA (.ifCond .ne 7) 3 127, none, none, eV (.iconst 1) 1 1, eA (.goto 4) 3 128, none, none, e1 (.iconst 0), eS (.invokestatic 58) 51 1 130, none, none, 
  eS (.invokevirtual 50) 23 1 128, none, none, eA (.goto 41) 3 175, none, none, e1 (.aload_n 0), eS (.getfield 12) 5 0 33, none, none, eS (.invokevirtual 54) 26 0 129, none, none, e2 (.istore 9), none, e1 (.aload_n 0), 
  eS (.getfield 12) 5 0 33, none, none, eS (.invokevirtual 54) 26 0 129, none, none, e2 (.istore 10), none, e1 (.aload_n 0), eS (.getfield 12) 5 0 33, none, none, e2 (.iload 8), none, eV (.sipush 20000) 3 20000, none, none, 
  e1 .isub, e2 (.iload 10), none, e2 (.iload 9), none, eS (.invokestatic 62) 50 3 131, none, none, eS (.invokevirtual 50) 23 1 128, none, none, eV (.iinc 7 1) 3 1, none, none, eA (.goto (-158)) 3 20, none, none, 
  e1 (.aload_n 0), eS (.getfield 12) 5 0 33, none, none, eS (.invokevirtual 54) 26 0 129, none, none, e1 .ireturn]
set_option maxRecDepth 100000 in
def cd50 : Cd := [e1 (.iload_n 0), 
  some (.lookupswitch 183 #[(38, 149), (42, 91), (43, 83), (45, 87), (47, 95), (60, 107), (61, 121), (62, 135), (124, 166)], 83, 184, 0, 0, 0, [(38, 150), (42, 92), (43, 84), (45, 88), (47, 96), (60, 108), (61, 122), (62, 136), (124, 167)]), 
  none, none, none, none, none, none, none, none, none, none, none, none, none, none, none, none, none, none, none, none, none, none, none, none, none, none, none, none, none, none, none, none, none, none, none, none, none, 
  none, none, none, none, none, none, none, none, none, none, none, none, none, none, none, none, none, none, none, none, none, none, none, none, none, none, none, none, none, none, none, none, none, none, none, none, none, 
  none, none, none, none, none, none, none, none, e1 (.iload_n 1), e1 (.iload_n 2), e1 .iadd, e1 .ireturn, e1 (.iload_n 1), e1 (.iload_n 2), e1 .isub, e1 .ireturn, e1 (.iload_n 1), e1 (.iload_n 2), e1 .imul, e1 .ireturn, 
  e1 (.iload_n 2), eA (.ifCond .ne 7) 3 104, none, none, e1 (.iconst 0), eA (.goto 6) 3 107, none, none, e1 (.iload_n 1), e1 (.iload_n 2), e1 .idiv, e1 .ireturn, e1 (.iload_n 1), e1 (.iload_n 2), eA (.if_icmp .ge 7) 3 117, 
  none, none, eV (.iconst 1) 1 1, eA (.goto 4) 3 118, none, none, e1 (.iconst 0), eS (.invokestatic 58) 51 1 130, none, none, e1 .ireturn, e1 (.iload_n 1), e1 (.iload_n 2), eA (.if_icmp .ne 7) 3 131, none, none, 
  eV (.iconst 1) 1 1, eA (.goto 4) 3 132, none, none, e1 (.iconst 0), eS (.invokestatic 58) 51 1 130, none, none, e1 .ireturn, e1 (.iload_n 1), e1 (.iload_n 2), eA (.if_icmp .le 7) 3 145, none, none, eV (.iconst 1) 1 1, 
  eA (.goto 4) 3 146, none, none, e1 (.iconst 0), eS (.invokestatic 58) 51 1 130, none, none, e1 .ireturn, e1 (.iload_n 1), eA (.ifCond .eq 11) 3 162, none, none, e1 (.iload_n 2), eA (.ifCond .eq 7) 3 162, none, none, 
  eV (.iconst 1) 1 1, eA (.goto 4) 3 163, none, none, e1 (.iconst 0), eS (.invokestatic 58) 51 1 130, none, none, e1 .ireturn, e1 (.iload_n 1), eA (.ifCond .ne 7) 3 175, none, none, e1 (.iload_n 2), 
  eA (.ifCond .eq 7) 3 179, none, none, eV (.iconst 1) 1 1, eA (.goto 4) 3 180, none, none, e1 (.iconst 0), eS (.invokestatic 58) 51 1 130, none, none, e1 .ireturn, e1 (.iconst 0), e1 .ireturn]
set_option maxRecDepth 100000 in
def cd51 : Cd := [e1 (.iload_n 0), eA (.ifCond .eq 7) 3 8, none, none, eV (.iconst 1) 1 1, eA (.goto 4) 3 9, none, none, e1 (.iconst 0), e1 .ireturn]
set_option maxRecDepth 100000 in
def cd52 : Cd := [e1 (.aload_n 1), eG (.getfield 66) 7 1 1 13, none, none, e1 (.iload_n 2), eV (.bipush 10) 2 10, none, eS (.invokevirtual 45) 94 2 127, none, none, e2 (.istore 4), none, e1 (.aload_n 1), eG (.getfield 66) 7 1 1 13, none, 
  none, e1 (.iload_n 2), eV (.iconst 3) 1 3, eS (.invokevirtual 45) 94 2 127, none, none, e2 (.istore 5), none, e1 (.aload_n 1), eG (.getfield 66) 7 1 1 13, none, none, e1 (.iload_n 2), eV (.iconst 2) 1 2, 
  eS (.invokevirtual 45) 94 2 127, none, none, e1 (.aload_n 1), eG (.getfield 69) 7 5 5 27, none, none, e1 .isub, e2 (.istore 6), none, e1 (.iconst 0), e2 (.iload 4), none, e1 (.aload_n 0), e1 (.aload_n 1), 
  eV (.iconst 4) 1 4, e2 (.iload 4), none, e1 (.iconst 0), e1 (.iconst 0), eS (.invokevirtual 73) 48 5 134, none, none, e1 .isub, eS (.invokestatic 39) 1001 2 12, none, none, e2 (.istore 7), none, e1 (.aload_n 0), 
  e1 (.aload_n 1), eV (.iconst 2) 1 2, e2 (.iload 4), none, e2 (.iload 5), none, e1 (.iconst 0), eS (.invokevirtual 73) 48 5 134, none, none, e2 (.iload 5), none, eS (.invokestatic 33) 1002 2 11, none, none, e2 (.iload 7), 
  none, eS (.invokestatic 33) 1002 2 11, none, none, e2 (.istore 8), none, e1 (.aload_n 0), e1 (.aload_n 1), eV (.iconst 3) 1 3, e2 (.iload 4), none, e2 (.iload 6), none, e1 (.iconst 0), eS (.invokevirtual 73) 48 5 134, 
  none, none, e2 (.iload 7), none, e2 (.iload 8), none, e1 .isub, eS (.invokestatic 33) 1002 2 11, none, none, e2 (.istore 9), none, e1 (.iload_n 3), 
  some (.lookupswitch 31 #[(0, 25), (1, 28)], 25, 134, 0, 0, 0, [(0, 128), (1, 131)]), none, none, none, none, none, none, none, none, none, none, none, none, none, none, none, none, none, none, none, none, none, none, 
  none, none, e2 (.iload 8), none, e1 .ireturn, e2 (.iload 9), none, e1 .ireturn, e2 (.iload 4), none, e2 (.iload 8), none, e1 .isub, e2 (.iload 9), none, e1 .isub, e1 .ireturn]
set_option maxRecDepth 100000 in
def cd53 : Cd := [e1 (.iload_n 1), eS (.invokestatic 22) 57 1 170, none, none, eA (.ifCond .eq 23) 3 27, none, none, e1 (.iload_n 2), eV (.iconst (-1)) 1 (-1), eV (.iconst 2) 1 2, some (.invokestatic 26, 3, 156, 3, 0, 0, []), none, none, 
  eA (.ifCond .eq 14) 3 27, none, none, e1 (.iload_n 2), eV (.iconst (-1)) 1 (-1), eA (.if_icmp .eq 12) 3 30, none, none, e1 (.iload_n 3), eV (.bipush 24) 2 24, none, eA (.if_icmp .le 6) 3 30, none, none, 
  some (.ldc 30, 2, 0, 0, -1000000001, 0, [(0, 18)]), none, e1 .ireturn, e1 (.iload_n 2), eV (.iconst (-1)) 1 (-1), eA (.if_icmp .eq 10) 3 42, none, none, e1 (.iload_n 3), eA (.ifCond .ge 6) 3 42, none, none, 
  some (.ldc 31, 2, 0, 0, -1000000014, 0, [(0, 19)]), none, e1 .ireturn, e1 (.aload_n 0), eS (.getfield 11) 6 0 67, none, none, e1 (.iload_n 1), e1 (.iload_n 2), e1 .iastore, e1 (.aload_n 0), eG (.getfield 15) 6 1 1 68, 
  none, none, e1 (.iload_n 1), e1 (.iload_n 2), eV (.iconst (-1)) 1 (-1), eA (.if_icmp .ne 7) 3 63, none, none, e1 (.iconst 0), eA (.goto 4) 3 64, none, none, e1 (.iload_n 3), e1 .iastore, e1 (.iconst 0), e2 (.istore 4), 
  none, e2 (.iload 4), none, eV (.bipush 24) 2 24, none, eA (.if_icmp .ge 22) 3 94, none, none, e1 (.aload_n 0), eG (.getfield 18) 6 2 2 69, none, none, e1 (.iload_n 1), eV (.bipush 24) 2 24, none, e1 .imul, e2 (.iload 4), 
  none, e1 .iadd, e1 (.lconst 0), e1 .lastore, eV (.iinc 4 1) 3 1, none, none, eA (.goto (-23)) 3 68, none, none, e1 (.aload_n 0), eG (.getfield 15) 6 1 1 68, none, none, e1 (.iload_n 1), e1 .iaload, e1 .ireturn]
set_option maxRecDepth 100000 in
def cd54 : Cd := [e1 (.iload_n 1), eS (.invokestatic 22) 57 1 170, none, none, eA (.ifCond .ne 6) 3 10, none, none, some (.ldc 30, 2, 0, 0, -1000000001, 0, [(0, 18)]), none, e1 .ireturn, e1 (.aload_n 0), eS (.getfield 11) 6 0 67, none, 
  none, e1 (.iload_n 1), e1 .iaload, eV (.iconst (-1)) 1 (-1), eA (.if_icmp .ne 6) 3 23, none, none, some (.ldc 32, 2, 0, 0, -1000000011, 0, [(0, 20)]), none, e1 .ireturn, e1 (.aload_n 0), e1 (.iload_n 1), e1 (.iload_n 2), 
  eS (.invokevirtual 33) 58 2 173, none, none, eA (.ifCond .ne 6) 3 35, none, none, some (.ldc 37, 2, 0, 0, -1000000013, 0, [(0, 21)]), none, e1 .ireturn, e1 (.iload_n 1), eV (.bipush 24) 2 24, none, e1 .imul, 
  e1 (.iload_n 2), e1 .iadd, e2 (.istore 5), none, e1 (.aload_n 0), eG (.getfield 18) 6 2 2 69, none, none, e2 (.iload 5), none, e1 (.aload_n 0), eS (.getfield 11) 6 0 67, none, none, e1 (.iload_n 1), e1 .iaload, 
  e1 (.aload_n 0), eG (.getfield 18) 6 2 2 69, none, none, e2 (.iload 5), none, e1 .laload, e1 (.iload_n 3), e1 .i2l, e1 .lmul, e2 (.iload 4), none, e1 .i2l, e1 .ladd, eS (.invokestatic 38) 60 2 174, none, none, 
  e1 .lastore, e1 (.aload_n 0), eG (.getfield 18) 6 2 2 69, none, none, e2 (.iload 5), none, e1 .laload, e1 .l2i, e1 .ireturn]
set_option maxRecDepth 100000 in
def cd55 : Cd := [e1 (.iload_n 1), eS (.invokestatic 22) 57 1 170, none, none, eA (.ifCond .eq 10) 3 14, none, none, e1 (.iload_n 3), eS (.invokestatic 22) 57 1 170, none, none, eA (.ifCond .ne 6) 3 17, none, none, 
  some (.ldc 30, 2, 0, 0, -1000000001, 0, [(0, 18)]), none, e1 .ireturn, e1 (.aload_n 0), eS (.getfield 11) 6 0 67, none, none, e1 (.iload_n 1), e1 .iaload, eV (.iconst (-1)) 1 (-1), eA (.if_icmp .eq 13) 3 37, none, none, 
  e1 (.aload_n 0), eS (.getfield 11) 6 0 67, none, none, e1 (.iload_n 3), e1 .iaload, eV (.iconst (-1)) 1 (-1), eA (.if_icmp .ne 6) 3 40, none, none, some (.ldc 32, 2, 0, 0, -1000000011, 0, [(0, 20)]), none, e1 .ireturn, 
  e1 (.aload_n 0), eS (.getfield 11) 6 0 67, none, none, e1 (.iload_n 1), e1 .iaload, e1 (.aload_n 0), eS (.getfield 11) 6 0 67, none, none, e1 (.iload_n 3), e1 .iaload, eA (.if_icmp .eq 6) 3 58, none, none, 
  some (.ldc 42, 2, 0, 0, -1000000012, 0, [(0, 22)]), none, e1 .ireturn, e1 (.aload_n 0), e1 (.iload_n 1), e1 (.iload_n 2), e2 (.iload 5), none, eS (.invokevirtual 43) 59 3 178, none, none, eA (.ifCond .eq 15) 3 81, none, 
  none, e1 (.aload_n 0), e1 (.iload_n 3), e2 (.iload 4), none, e2 (.iload 5), none, eS (.invokevirtual 43) 59 3 178, none, none, eA (.ifCond .ne 6) 3 84, none, none, some (.ldc 37, 2, 0, 0, -1000000013, 0, [(0, 21)]), none, 
  e1 .ireturn, e1 (.aload_n 0), eG (.getfield 18) 6 2 2 69, none, none, e1 (.iload_n 1), eV (.bipush 24) 2 24, none, e1 .imul, e1 (.iload_n 2), e1 .iadd, e1 (.aload_n 0), eG (.getfield 18) 6 2 2 69, none, none, 
  e1 (.iload_n 3), eV (.bipush 24) 2 24, none, e1 .imul, e2 (.iload 4), none, e1 .iadd, e2 (.iload 5), none, eS (.invokestatic 46) 1003 5 17, none, none, e2 (.iload 5), none, e1 .ireturn]
set_option maxRecDepth 100000 in
def cd56 : Cd := [e1 (.iload_n 1), eA (.ifCond .ge 6) 3 7, none, none, some (.ldc 30, 2, 0, 0, -1000000001, 0, [(0, 18)]), none, e1 .ireturn, some (.ldc 52, 2, 0, 0, -1000000005, 0, [(0, 23)]), none, e1 (.istore_n 2), e1 (.iconst 0), 
  e1 (.istore_n 3), e1 (.iconst 0), e2 (.istore 4), none, e2 (.iload 4), none, eV (.iconst 4) 1 4, eA (.if_icmp .ge 67) 3 85, none, none, e1 (.aload_n 0), e2 (.iload 4), none, e1 (.iload_n 1), 
  eS (.invokevirtual 33) 58 2 173, none, none, eA (.ifCond .eq 51) 3 79, none, none, e1 (.iload_n 2), some (.ldc 52, 2, 0, 0, -1000000005, 0, [(0, 23)]), none, eA (.if_icmp .ne 8) 3 42, none, none, e2 (.iload 4), none, 
  eA (.goto 4) 3 43, none, none, e1 (.iload_n 2), e1 (.istore_n 2), e1 (.iload_n 3), e1 (.aload_n 0), eG (.getfield 18) 6 2 2 69, none, none, e2 (.iload 4), none, eV (.bipush 24) 2 24, none, e1 .imul, e1 (.iload_n 1), 
  e1 .iadd, e1 .laload, e1 (.aload_n 0), eG (.getfield 18) 6 2 2 69, none, none, e1 (.iload_n 2), eV (.bipush 24) 2 24, none, e1 .imul, e1 (.iload_n 1), e1 .iadd, e1 .laload, e1 .lcmp, eA (.ifCond .ne 7) 3 76, none, none, 
  e1 (.iconst 0), eA (.goto 4) 3 77, none, none, eV (.iconst 1) 1 1, e1 .iadd, e1 (.istore_n 3), eV (.iinc 4 1) 3 1, none, none, eA (.goto (-67)) 3 15, none, none, e1 (.iload_n 2), 
  some (.ldc 52, 2, 0, 0, -1000000005, 0, [(0, 23)]), none, eA (.if_icmp .ne 8) 3 96, none, none, some (.ldc 52, 2, 0, 0, -1000000005, 0, [(0, 23)]), none, eA (.goto 4) 3 97, none, none, e1 (.iload_n 3), e1 .ireturn]
set_option maxRecDepth 100000 in
def cd57 : Cd := [e1 (.iload_n 0), eA (.ifCond .lt 12) 3 13, none, none, e1 (.iload_n 0), eV (.iconst 4) 1 4, eA (.if_icmp .ge 7) 3 13, none, none, eV (.iconst 1) 1 1, eA (.goto 4) 3 14, none, none, e1 (.iconst 0), e1 .ireturn]
set_option maxRecDepth 100000 in
def cd58 : Cd := [e1 (.iload_n 2), eA (.ifCond .lt 17) 3 18, none, none, e1 (.iload_n 2), e1 (.aload_n 0), eG (.getfield 15) 6 1 1 68, none, none, e1 (.iload_n 1), e1 .iaload, eA (.if_icmp .ge 7) 3 18, none, none, eV (.iconst 1) 1 1, 
  eA (.goto 4) 3 19, none, none, e1 (.iconst 0), e1 .ireturn]
set_option maxRecDepth 100000 in
def cd59 : Cd := [e1 (.iload_n 2), eA (.ifCond .lt 33) 3 34, none, none, e1 (.iload_n 3), eA (.ifCond .lt 29) 3 34, none, none, e1 (.iload_n 3), e1 (.aload_n 0), eG (.getfield 15) 6 1 1 68, none, none, e1 (.iload_n 1), e1 .iaload, 
  eA (.if_icmp .gt 19) 3 34, none, none, e1 (.iload_n 2), e1 (.aload_n 0), eG (.getfield 15) 6 1 1 68, none, none, e1 (.iload_n 1), e1 .iaload, e1 (.iload_n 3), e1 .isub, eA (.if_icmp .gt 7) 3 34, none, none, 
  eV (.iconst 1) 1 1, eA (.goto 4) 3 35, none, none, e1 (.iconst 0), e1 .ireturn]
set_option maxRecDepth 100000 in
def cd60 : Cd := [e1 (.iload_n 0), some (.lookupswitch 37 #[(0, 27), (1, 32)], 27, 38, 0, 0, 0, [(0, 28), (1, 33)]), none, none, none, none, none, none, none, none, none, none, none, none, none, none, none, none, none, none, none, none, 
  none, none, none, none, none, none, e1 (.lload_n 1), e1 .l2i, e1 .i2b, e1 .i2l, e1 .lreturn, e1 (.lload_n 1), e1 .l2i, e1 .i2s, e1 .i2l, e1 .lreturn, e1 (.lload_n 1), e1 .lreturn]
set_option maxRecDepth 100000 in
def cd61 : Cd := [e1 (.aload_n 1), eA (.ifnonnull 4) 3 5, none, none, e1 .return_, e1 (.aload_n 0), eS (.getfield 14) 7 0 4, none, none, e1 (.aload_n 1), eS (.getfield 14) 7 0 4, none, none, eS (.invokevirtual 39) 99 1 184, none, none, 
  e1 (.aload_n 0), eG (.getfield 20) 7 1 1 9, none, none, e1 (.aload_n 1), eG (.getfield 20) 7 1 1 9, none, none, eS (.invokevirtual 39) 99 1 184, none, none, e1 (.aload_n 0), eG (.getfield 23) 7 2 2 15, none, none, 
  e1 (.aload_n 1), eG (.getfield 23) 7 2 2 15, none, none, eS (.invokevirtual 39) 99 1 184, none, none, e1 (.aload_n 0), eG (.getfield 26) 7 3 3 19, none, none, e1 (.aload_n 1), eG (.getfield 26) 7 3 3 19, none, none, 
  eS (.invokevirtual 39) 99 1 184, none, none, e1 (.aload_n 0), eG (.getfield 29) 7 4 4 22, none, none, e1 (.aload_n 1), eG (.getfield 29) 7 4 4 22, none, none, eS (.invokevirtual 39) 99 1 184, none, none, e1 (.aload_n 0), 
  e1 (.aload_n 1), eG (.getfield 32) 7 5 5 24, none, none, eG (.putfield 32) 7 5 5 24, none, none, e1 (.aload_n 0), e1 (.aload_n 1), eG (.getfield 36) 7 6 6 29, none, none, eG (.putfield 36) 7 6 6 29, none, none, 
  e1 .return_]
set_option maxRecDepth 100000 in
def cd62 : Cd := [e1 (.aload_n 0), eG (.getfield 20) 7 1 1 9, none, none, e1 (.iload_n 1), eV (.bipush 11) 2 11, none, eS (.invokevirtual 43) 94 2 14, none, none, eV (.iconst 1) 1 1, eA (.if_icmp .ne 7) 3 18, none, none, 
  eV (.iconst 1) 1 1, eA (.goto 4) 3 19, none, none, e1 (.iconst 0), e1 .ireturn]
set_option maxRecDepth 100000 in
def cd63 : Cd := [e1 (.iconst 0), e1 (.istore_n 1), e1 (.iconst 0), e1 (.istore_n 2), e1 (.iload_n 2), e1 (.aload_n 0), eG (.getfield 20) 7 1 1 9, none, none, eS (.invokevirtual 47) 91 0 13, none, none, eA (.if_icmp .ge 27) 3 39, none, 
  none, e1 (.iload_n 1), e1 (.aload_n 0), e1 (.iload_n 2), eS (.invokevirtual 51) 62 1 29, none, none, eA (.ifCond .eq 7) 3 28, none, none, e1 (.iconst 0), eA (.goto 6) 3 31, none, none, eV (.iconst 1) 1 1, e1 (.iload_n 2), 
  e1 .ishl, e1 .ior, e1 (.istore_n 1), eV (.iinc 2 1) 3 1, none, none, eA (.goto (-32)) 3 4, none, none, e1 (.iload_n 1), e1 .ireturn]
set_option maxRecDepth 100000 in
def cd64 : Cd := [e1 (.aload_n 0), eG (.getfield 20) 7 1 1 9, none, none, e1 (.iload_n 1), eV (.bipush 12) 2 12, none, eS (.invokevirtual 43) 94 2 14, none, none, e1 (.iload_n 2), e1 .ishr, eV (.iconst 1) 1 1, e1 .iand, eV (.iconst 1) 1 1, 
  eA (.if_icmp .ne 7) 3 22, none, none, eV (.iconst 1) 1 1, eA (.goto 4) 3 23, none, none, e1 (.iconst 0), e1 .ireturn]
set_option maxRecDepth 100000 in
def cd65 : Cd := [eV (.iconst 1) 1 1, e1 (.iload_n 2), e1 .ishl, e2 (.istore 4), none, e1 (.aload_n 0), eG (.getfield 20) 7 1 1 9, none, none, e1 (.iload_n 1), eV (.bipush 12) 2 12, none, eS (.invokevirtual 43) 94 2 14, none, none, 
  e2 (.istore 5), none, e1 (.aload_n 0), eG (.getfield 20) 7 1 1 9, none, none, e1 (.iload_n 1), eV (.bipush 12) 2 12, none, e1 (.iload_n 3), eA (.ifCond .eq 11) 3 36, none, none, e2 (.iload 5), none, e2 (.iload 4), none, 
  e1 .ior, eA (.goto 10) 3 43, none, none, e2 (.iload 5), none, e2 (.iload 4), none, eV (.iconst (-1)) 1 (-1), e1 .ixor, e1 .iand, eS (.invokevirtual 55) 95 3 26, none, none, e1 .return_]
set_option maxRecDepth 100000 in
def cd66 : Cd := [e1 (.aload_n 0), e1 (.iload_n 1), eS (.invokevirtual 51) 62 1 29, none, none, eA (.ifCond .ne 78) 3 83, none, none, e1 (.aload_n 0), eG (.getfield 20) 7 1 1 9, none, none, e1 (.iload_n 1), e1 (.iconst 0), 
  eS (.invokevirtual 43) 94 2 14, none, none, e1 (.aload_n 0), eS (.getfield 14) 7 0 4, none, none, e1 (.iload_n 2), eV (.iconst 1) 1 1, eS (.invokevirtual 43) 94 2 14, none, none, eA (.if_icmp .gt 57) 3 83, none, none, 
  e1 (.aload_n 0), eG (.getfield 20) 7 1 1 9, none, none, e1 (.iload_n 1), eV (.iconst 1) 1 1, eS (.invokevirtual 43) 94 2 14, none, none, e1 (.aload_n 0), eS (.getfield 14) 7 0 4, none, none, e1 (.iload_n 2), 
  eV (.iconst 2) 1 2, eS (.invokevirtual 43) 94 2 14, none, none, eA (.if_icmp .lt 36) 3 83, none, none, e1 (.aload_n 0), eG (.getfield 20) 7 1 1 9, none, none, e1 (.iload_n 1), eV (.bipush 9) 2 9, none, 
  eS (.invokevirtual 43) 94 2 14, none, none, e1 (.aload_n 0), eG (.getfield 32) 7 5 5 24, none, none, eA (.if_icmp .eq 19) 3 83, none, none, e1 (.aload_n 0), eS (.getfield 14) 7 0 4, none, none, e1 (.iload_n 2), 
  eV (.iconst 4) 1 4, eS (.invokevirtual 43) 94 2 14, none, none, eA (.ifCond .ne 7) 3 83, none, none, eV (.iconst 1) 1 1, eA (.goto 4) 3 84, none, none, e1 (.iconst 0), e1 .ireturn]
set_option maxRecDepth 100000 in
def cd67 : Cd := [e1 (.iconst 0), e1 (.istore_n 2), e1 (.iconst 0), e1 (.istore_n 3), e1 (.iload_n 3), e1 (.aload_n 0), eG (.getfield 20) 7 1 1 9, none, none, eS (.invokevirtual 47) 91 0 13, none, none, eA (.if_icmp .ge 33) 3 45, none, 
  none, e1 (.iload_n 2), e1 (.aload_n 0), eG (.getfield 20) 7 1 1 9, none, none, e1 (.iload_n 3), eV (.bipush 8) 2 8, none, eS (.invokevirtual 43) 94 2 14, none, none, e1 (.iload_n 1), eA (.if_icmp .ne 9) 3 36, none, none, 
  eV (.iconst 1) 1 1, e1 (.iload_n 3), e1 .ishl, eA (.goto 4) 3 37, none, none, e1 (.iconst 0), e1 .ior, e1 (.istore_n 2), eV (.iinc 3 1) 3 1, none, none, eA (.goto (-38)) 3 4, none, none, e1 (.iload_n 2), e1 .ireturn]
set_option maxRecDepth 100000 in
def cd68 : Cd := [e1 (.aload_n 0), e1 (.iload_n 2), eS (.invokevirtual 59) 67 1 32, none, none, eV (.iconst 1) 1 1, e1 (.iload_n 1), e1 .ishl, eV (.iconst (-1)) 1 (-1), e1 .ixor, e1 .iand, e1 (.istore_n 3), e1 (.iload_n 3), 
  eS (.invokestatic 63) 265 1 33, none, none, e1 (.aload_n 0), eS (.getfield 14) 7 0 4, none, none, e1 (.iload_n 2), e1 (.iconst 0), eS (.invokevirtual 43) 94 2 14, none, none, eA (.if_icmp .ge 22) 3 47, none, none, 
  e1 (.iload_n 3), e1 (.aload_n 0), eG (.getfield 20) 7 1 1 9, none, none, e1 (.iload_n 1), eV (.bipush 12) 2 12, none, eS (.invokevirtual 43) 94 2 14, none, none, e1 .iand, eA (.ifCond .ne 7) 3 47, none, none, 
  eV (.iconst 1) 1 1, eA (.goto 4) 3 48, none, none, e1 (.iconst 0), e1 .ireturn]
set_option maxRecDepth 100000 in
def cd69 : Cd := [e1 (.aload_n 0), eG (.getfield 20) 7 1 1 9, none, none, e1 (.iload_n 1), eV (.bipush 8) 2 8, none, eS (.invokevirtual 43) 94 2 14, none, none, e1 (.iload_n 2), eA (.if_icmp .eq 20) 3 31, none, none, e1 (.aload_n 0), 
  e1 (.iload_n 1), e1 (.iconst 0), eS (.invokevirtual 68) 70 2 35, none, none, e1 (.aload_n 0), eG (.getfield 20) 7 1 1 9, none, none, e1 (.iload_n 1), eV (.bipush 8) 2 8, none, e1 (.iload_n 2), 
  eS (.invokevirtual 55) 95 3 26, none, none, e1 .return_]
set_option maxRecDepth 100000 in
def cd70 : Cd := [e1 (.iconst 0), e1 (.istore_n 3), e1 (.iload_n 3), e1 (.aload_n 0), eG (.getfield 23) 7 2 2 15, none, none, eS (.invokevirtual 47) 91 0 13, none, none, eA (.if_icmp .ge 39) 3 49, none, none, e1 (.aload_n 0), 
  e1 (.iload_n 3), e1 (.iload_n 1), eS (.invokevirtual 71) 71 2 36, none, none, eA (.ifCond .eq 24) 3 43, none, none, e1 (.aload_n 0), eG (.getfield 23) 7 2 2 15, none, none, e1 (.iload_n 3), eV (.iconst 4) 1 4, 
  e1 (.iload_n 2), eS (.invokevirtual 55) 95 3 26, none, none, e1 (.aload_n 0), eG (.getfield 23) 7 2 2 15, none, none, e1 (.iload_n 3), eV (.iconst 5) 1 5, some (.ldc 75, 2, 0, 0, -1000000005, 0, [(0, 7)]), none, 
  eS (.invokevirtual 55) 95 3 26, none, none, eV (.iinc 3 1) 3 1, none, none, eA (.goto (-44)) 3 2, none, none, e1 .return_]
set_option maxRecDepth 100000 in
def cd71 : Cd := [e1 (.aload_n 0), eG (.getfield 23) 7 2 2 15, none, none, e1 (.iload_n 1), eV (.iconst 4) 1 4, eS (.invokevirtual 43) 94 2 14, none, none, eV (.iconst 1) 1 1, eA (.if_icmp .ne 20) 3 30, none, none, e1 (.aload_n 0), 
  eG (.getfield 23) 7 2 2 15, none, none, e1 (.iload_n 1), eV (.iconst 5) 1 5, eS (.invokevirtual 43) 94 2 14, none, none, e1 (.iload_n 2), eA (.if_icmp .ne 7) 3 30, none, none, eV (.iconst 1) 1 1, eA (.goto 4) 3 31, none, 
  none, e1 (.iconst 0), e1 .ireturn]
set_option maxRecDepth 100000 in
def cd72 : Cd := [e1 (.iconst 0), e1 (.istore_n 2), e1 (.iconst 0), e1 (.istore_n 3), e1 (.iload_n 3), e1 (.aload_n 0), eG (.getfield 23) 7 2 2 15, none, none, eS (.invokevirtual 47) 91 0 13, none, none, eA (.if_icmp .ge 26) 3 38, none, 
  none, e1 (.iload_n 2), e1 (.aload_n 0), e1 (.iload_n 3), e1 (.iload_n 1), eS (.invokevirtual 71) 71 2 36, none, none, eA (.ifCond .eq 7) 3 29, none, none, eV (.iconst 1) 1 1, eA (.goto 4) 3 30, none, none, e1 (.iconst 0), 
  e1 .iadd, e1 (.istore_n 2), eV (.iinc 3 1) 3 1, none, none, eA (.goto (-31)) 3 4, none, none, e1 (.iload_n 2), e1 .ireturn]
set_option maxRecDepth 100000 in
def cd73 : Cd := [e1 (.iconst 0), e1 (.istore_n 1), e1 (.iconst 0), e1 (.istore_n 2), e1 (.iload_n 2), e1 (.aload_n 0), eG (.getfield 20) 7 1 1 9, none, none, eS (.invokevirtual 47) 91 0 13, none, none, eA (.if_icmp .ge 32) 3 44, none, 
  none, e1 (.iload_n 1), e1 (.aload_n 0), eG (.getfield 20) 7 1 1 9, none, none, e1 (.iload_n 2), eV (.bipush 8) 2 8, none, eS (.invokevirtual 43) 94 2 14, none, none, some (.ldc 75, 2, 0, 0, -1000000005, 0, [(0, 7)]), 
  none, eA (.if_icmp .ne 7) 3 35, none, none, e1 (.iconst 0), eA (.goto 4) 3 36, none, none, eV (.iconst 1) 1 1, e1 .iadd, e1 (.istore_n 1), eV (.iinc 2 1) 3 1, none, none, eA (.goto (-37)) 3 4, none, none, e1 (.iload_n 1), 
  e1 .ireturn]
set_option maxRecDepth 100000 in
def cd74 : Cd := [e1 (.aload_n 0), eG (.getfield 23) 7 2 2 15, none, none, e1 (.iload_n 1), e1 (.iconst 0), eS (.invokevirtual 43) 94 2 14, none, none, e1 (.istore_n 3), e1 (.iconst 0), e2 (.istore 4), none, e2 (.iload 4), none, 
  eV (.bipush 6) 2 6, none, eA (.if_icmp .ge 34) 3 51, none, none, e1 (.iload_n 3), eA (.ifCond .lt 30) 3 51, none, none, e1 (.iload_n 3), eA (.getstatic 76) 3 1200, none, none, e1 .arraylength, eA (.if_icmp .ge 22) 3 51, 
  none, none, e1 (.iload_n 3), e1 (.iload_n 2), eA (.if_icmp .ne 5) 3 39, none, none, eV (.iconst 1) 1 1, e1 .ireturn, eA (.getstatic 76) 3 1200, none, none, e1 (.iload_n 3), e1 .iaload, e1 (.istore_n 3), 
  eV (.iinc 4 1) 3 1, none, none, eA (.goto (-35)) 3 13, none, none, e1 (.iconst 0), e1 .ireturn]
set_option maxRecDepth 100000 in
def cd75 : Cd := [e1 (.aload_n 0), eG (.getfield 23) 7 2 2 15, none, none, e1 (.iload_n 1), eV (.iconst 1) 1 1, eS (.invokevirtual 43) 94 2 14, none, none, e1 (.iload_n 2), eA (.if_icmp .ne 16) 3 26, none, none, e1 (.aload_n 0), 
  e1 (.iload_n 1), eV (.iconst 1) 1 1, eS (.invokevirtual 80) 74 2 17, none, none, eA (.ifCond .eq 7) 3 26, none, none, eV (.iconst 1) 1 1, eA (.goto 4) 3 27, none, none, e1 (.iconst 0), e1 .ireturn]
set_option maxRecDepth 100000 in
def cd76 : Cd := [e1 (.iconst 0), e1 (.istore_n 3), e1 (.iconst 0), e2 (.istore 4), none, e2 (.iload 4), none, e1 (.aload_n 0), eG (.getfield 23) 7 2 2 15, none, none, eS (.invokevirtual 47) 91 0 13, none, none, eA (.if_icmp .ge 79) 3 93, 
  none, none, e1 (.iload_n 1), some (.ldc 75, 2, 0, 0, -1000000005, 0, [(0, 7)]), none, eA (.if_icmp .eq 17) 3 37, none, none, e1 (.aload_n 0), eG (.getfield 23) 7 2 2 15, none, none, e2 (.iload 4), none, 
  eV (.iconst 1) 1 1, eS (.invokevirtual 43) 94 2 14, none, none, e1 (.iload_n 1), eA (.if_icmp .ne 27) 3 61, none, none, e1 (.iload_n 2), some (.ldc 75, 2, 0, 0, -1000000005, 0, [(0, 7)]), none, eA (.if_icmp .eq 17) 3 57, 
  none, none, e1 (.aload_n 0), eG (.getfield 23) 7 2 2 15, none, none, e2 (.iload 4), none, eV (.iconst 4) 1 4, eS (.invokevirtual 43) 94 2 14, none, none, e1 (.iload_n 2), eA (.if_icmp .ne 7) 3 61, none, none, 
  eV (.iconst 1) 1 1, eA (.goto 4) 3 62, none, none, e1 (.iconst 0), e2 (.istore 5), none, e1 (.iload_n 3), e2 (.iload 5), none, eA (.ifCond .eq 17) 3 84, none, none, e1 (.aload_n 0), e2 (.iload 4), none, 
  eV (.iconst 1) 1 1, eS (.invokevirtual 80) 74 2 17, none, none, eA (.ifCond .eq 7) 3 84, none, none, eV (.iconst 1) 1 1, eA (.goto 4) 3 85, none, none, e1 (.iconst 0), e1 .iadd, e1 (.istore_n 3), eV (.iinc 4 1) 3 1, none, 
  none, eA (.goto (-85)) 3 5, none, none, e1 (.iload_n 3), e1 .ireturn]
set_option maxRecDepth 100000 in
def cd77 : Cd := [e1 (.aload_n 0), eG (.getfield 23) 7 2 2 15, none, none, e1 (.iload_n 2), eV (.iconst 1) 1 1, eS (.invokevirtual 43) 94 2 14, none, none, e1 (.istore_n 3), e1 (.aload_n 0), eG (.getfield 23) 7 2 2 15, none, none, 
  e1 (.iload_n 2), eV (.iconst 4) 1 4, eS (.invokevirtual 43) 94 2 14, none, none, eA (.ifCond .ne 76) 3 95, none, none, e1 (.aload_n 0), eG (.getfield 20) 7 1 1 9, none, none, e1 (.iload_n 1), eV (.bipush 8) 2 8, none, 
  eS (.invokevirtual 43) 94 2 14, none, none, e1 (.iload_n 3), eA (.if_icmp .ne 62) 3 95, none, none, e1 (.aload_n 0), eS (.getfield 14) 7 0 4, none, none, e1 (.iload_n 3), eV (.bipush 7) 2 7, none, 
  eS (.invokevirtual 43) 94 2 14, none, none, eA (.ifCond .ne 49) 3 95, none, none, e1 (.aload_n 0), eS (.getfield 14) 7 0 4, none, none, e1 (.iload_n 3), eV (.iconst 4) 1 4, eS (.invokevirtual 43) 94 2 14, none, none, 
  eA (.ifCond .ne 37) 3 95, none, none, e1 (.aload_n 0), e1 (.iload_n 2), eV (.iconst 2) 1 2, eS (.invokevirtual 80) 74 2 17, none, none, eA (.ifCond .eq 24) 3 91, none, none, e1 (.aload_n 0), eG (.getfield 20) 7 1 1 9, 
  none, none, e1 (.iload_n 1), e1 (.iconst 0), eS (.invokevirtual 43) 94 2 14, none, none, e1 (.aload_n 0), eG (.getfield 23) 7 2 2 15, none, none, e1 (.iload_n 2), eV (.iconst 2) 1 2, eS (.invokevirtual 43) 94 2 14, none, 
  none, eA (.if_icmp .gt 7) 3 95, none, none, eV (.iconst 1) 1 1, eA (.goto 4) 3 96, none, none, e1 (.iconst 0), e1 .ireturn]
set_option maxRecDepth 100000 in
def cd78 : Cd := [e1 (.aload_n 0), eG (.getfield 23) 7 2 2 15, none, none, e1 (.iload_n 1), eV (.iconst 4) 1 4, eS (.invokevirtual 43) 94 2 14, none, none, e1 (.istore_n 3), e1 (.iload_n 3), eA (.ifCond .ne 11) 3 22, none, none, 
  e1 (.iload_n 2), eA (.ifCond .ne 7) 3 22, none, none, eV (.iconst 1) 1 1, eA (.goto 4) 3 23, none, none, e1 (.iconst 0), e2 (.istore 4), none, e2 (.iload 4), none, eA (.ifCond .eq 27) 3 54, none, none, e1 (.aload_n 0), 
  eG (.getfield 23) 7 2 2 15, none, none, e1 (.iload_n 1), eV (.bipush 7) 2 7, none, eS (.invokevirtual 43) 94 2 14, none, none, eV (.iconst 1) 1 1, eA (.if_icmp .ne 13) 3 54, none, none, e1 (.aload_n 0), 
  eG (.getfield 23) 7 2 2 15, none, none, e1 (.iload_n 1), eV (.iconst 4) 1 4, eV (.iconst 2) 1 2, eS (.invokevirtual 55) 95 3 26, none, none, e1 (.aload_n 0), eG (.getfield 23) 7 2 2 15, none, none, e1 (.iload_n 1), 
  eV (.bipush 7) 2 7, none, e2 (.iload 4), none, eA (.ifCond .eq 7) 3 70, none, none, eV (.iconst 1) 1 1, eA (.goto 4) 3 71, none, none, e1 (.iconst 0), eS (.invokevirtual 55) 95 3 26, none, none, e2 (.iload 4), none, 
  eA (.ifCond .ne 16) 3 92, none, none, e1 (.iload_n 3), eV (.iconst 1) 1 1, eA (.if_icmp .ne 7) 3 88, none, none, e1 (.iload_n 2), eA (.ifCond .ne 7) 3 92, none, none, eV (.iconst 1) 1 1, eA (.goto 4) 3 93, none, none, 
  e1 (.iconst 0), e1 .ireturn]
set_option maxRecDepth 100000 in
def cd79 : Cd := [e1 (.aload_n 0), eG (.getfield 23) 7 2 2 15, none, none, e1 (.iload_n 1), eV (.bipush 6) 2 6, none, eS (.invokevirtual 43) 94 2 14, none, none, some (.ldc 75, 2, 0, 0, -1000000005, 0, [(0, 7)]), none, 
  eA (.if_icmp .ne 16) 3 28, none, none, e1 (.aload_n 0), e1 (.iload_n 1), eV (.iconst 5) 1 5, eS (.invokevirtual 80) 74 2 17, none, none, eA (.ifCond .eq 7) 3 28, none, none, eV (.iconst 1) 1 1, eA (.goto 4) 3 29, none, 
  none, e1 (.iconst 0), e1 .ireturn]
set_option maxRecDepth 100000 in
def cd80 : Cd := [e1 (.iconst 0), e1 (.istore_n 1), e1 (.iconst 0), e1 (.istore_n 2), e1 (.iload_n 2), e1 (.aload_n 0), eG (.getfield 23) 7 2 2 15, none, none, eS (.invokevirtual 47) 91 0 13, none, none, eA (.if_icmp .ge 25) 3 37, none, 
  none, e1 (.iload_n 1), e1 (.aload_n 0), e1 (.iload_n 2), eS (.invokevirtual 83) 79 1 76, none, none, eA (.ifCond .eq 7) 3 28, none, none, eV (.iconst 1) 1 1, eA (.goto 4) 3 29, none, none, e1 (.iconst 0), e1 .iadd, 
  e1 (.istore_n 1), eV (.iinc 2 1) 3 1, none, none, eA (.goto (-30)) 3 4, none, none, e1 (.iload_n 1), e1 .ireturn]
set_option maxRecDepth 100000 in
def cd81 : Cd := [some (.ldc 75, 2, 0, 0, -1000000005, 0, [(0, 7)]), none, e1 (.istore_n 3), e1 (.iconst 0), e2 (.istore 4), none, e2 (.iload 4), none, e1 (.aload_n 0), eG (.getfield 23) 7 2 2 15, none, none, 
  eS (.invokevirtual 47) 91 0 13, none, none, eA (.if_icmp .ge 67) 3 82, none, none, e1 (.aload_n 0), eG (.getfield 23) 7 2 2 15, none, none, e2 (.iload 4), none, eV (.iconst 1) 1 1, eS (.invokevirtual 43) 94 2 14, none, 
  none, e1 (.iload_n 1), eA (.if_icmp .ne 47) 3 76, none, none, e1 (.aload_n 0), e2 (.iload 4), none, eS (.invokevirtual 83) 79 1 76, none, none, eA (.ifCond .eq 38) 3 76, none, none, e1 (.iload_n 2), 
  some (.ldc 75, 2, 0, 0, -1000000005, 0, [(0, 7)]), none, eA (.if_icmp .eq 13) 3 57, none, none, e1 (.aload_n 0), e1 (.iload_n 2), e2 (.iload 4), none, eS (.invokevirtual 86) 82 2 77, none, none, eA (.ifCond .eq 22) 3 76, 
  none, none, e1 (.iload_n 3), some (.ldc 75, 2, 0, 0, -1000000005, 0, [(0, 7)]), none, eA (.if_icmp .eq 13) 3 73, none, none, e1 (.aload_n 0), e2 (.iload 4), none, e1 (.iload_n 3), eS (.invokevirtual 86) 82 2 77, none, 
  none, eA (.ifCond .eq 6) 3 76, none, none, e2 (.iload 4), none, e1 (.istore_n 3), eV (.iinc 4 1) 3 1, none, none, eA (.goto (-73)) 3 6, none, none, e1 (.iload_n 3), e1 .ireturn]
set_option maxRecDepth 100000 in
def cd82 : Cd := [e1 (.aload_n 0), eG (.getfield 23) 7 2 2 15, none, none, e1 (.iload_n 1), eV (.iconst 3) 1 3, eS (.invokevirtual 43) 94 2 14, none, none, e1 (.istore_n 3), e1 (.aload_n 0), eG (.getfield 23) 7 2 2 15, none, none, 
  e1 (.iload_n 2), eV (.iconst 3) 1 3, eS (.invokevirtual 43) 94 2 14, none, none, e2 (.istore 4), none, e1 (.iload_n 3), e2 (.iload 4), none, eA (.if_icmp .lt 14) 3 38, none, none, e1 (.iload_n 3), e2 (.iload 4), none, 
  eA (.if_icmp .ne 12) 3 42, none, none, e1 (.iload_n 1), e1 (.iload_n 2), eA (.if_icmp .ge 7) 3 42, none, none, eV (.iconst 1) 1 1, eA (.goto 4) 3 43, none, none, e1 (.iconst 0), e1 .ireturn]
set_option maxRecDepth 100000 in
def cd83 : Cd := [some (.ldc 75, 2, 0, 0, -1000000005, 0, [(0, 7)]), none, e1 (.istore_n 2), e1 (.iconst 0), e1 (.istore_n 3), e1 (.iload_n 3), e1 (.aload_n 0), eG (.getfield 26) 7 3 3 19, none, none, eS (.invokevirtual 47) 91 0 13, none, 
  none, eA (.if_icmp .ge 64) 3 77, none, none, e1 (.aload_n 0), eG (.getfield 26) 7 3 3 19, none, none, e1 (.iload_n 3), eV (.iconst 1) 1 1, eS (.invokevirtual 43) 94 2 14, none, none, e2 (.istore 4), none, e1 (.aload_n 0), 
  eG (.getfield 26) 7 3 3 19, none, none, e1 (.iload_n 3), e1 (.iconst 0), eS (.invokevirtual 43) 94 2 14, none, none, e1 (.iload_n 1), eA (.if_icmp .ne 34) 3 71, none, none, e2 (.iload 4), none, e1 (.aload_n 0), 
  eG (.getfield 32) 7 5 5 24, none, none, eA (.if_icmp .gt 25) 3 71, none, none, e1 (.iload_n 2), some (.ldc 75, 2, 0, 0, -1000000005, 0, [(0, 7)]), none, eA (.if_icmp .eq 17) 3 69, none, none, e2 (.iload 4), none, 
  e1 (.aload_n 0), eG (.getfield 26) 7 3 3 19, none, none, e1 (.iload_n 2), eV (.iconst 1) 1 1, eS (.invokevirtual 43) 94 2 14, none, none, eA (.if_icmp .lt 5) 3 71, none, none, e1 (.iload_n 3), e1 (.istore_n 2), 
  eV (.iinc 3 1) 3 1, none, none, eA (.goto (-69)) 3 5, none, none, e1 (.iload_n 2), e1 .ireturn]
set_option maxRecDepth 100000 in
def cd84 : Cd := [e1 (.aload_n 0), eG (.getfield 20) 7 1 1 9, none, none, e1 (.iload_n 1), e1 (.iload_n 2), some (.ldc 89, 2, 0, 0, 99999, 0, [(0, 14)]), none, e1 (.aload_n 0), eG (.getfield 20) 7 1 1 9, none, none, e1 (.iload_n 1), 
  e1 (.iload_n 2), eS (.invokevirtual 43) 94 2 14, none, none, e1 (.iload_n 3), e1 .iadd, eS (.invokestatic 90) 1002 2 13, none, none, eS (.invokevirtual 55) 95 3 26, none, none, e1 .return_]
set_option maxRecDepth 100000 in
def cd85 : Cd := [e1 (.aload_n 0), eG (.getfield 29) 7 4 4 22, none, none, eS (.invokevirtual 95) 98 0 140, none, none, e1 (.istore_n 3), e1 (.aload_n 0), eG (.getfield 29) 7 4 4 22, none, none, e1 (.iload_n 3), e1 (.iconst 0), 
  e1 (.iload_n 1), eS (.invokevirtual 55) 95 3 26, none, none, e1 (.aload_n 0), eG (.getfield 29) 7 4 4 22, none, none, e1 (.iload_n 3), eV (.iconst 1) 1 1, e1 (.iload_n 2), eS (.invokevirtual 55) 95 3 26, none, none, 
  e1 (.aload_n 0), eG (.getfield 29) 7 4 4 22, none, none, e1 (.iload_n 3), eV (.iconst 2) 1 2, e1 (.aload_n 0), eG (.getfield 32) 7 5 5 24, none, none, eS (.invokevirtual 55) 95 3 26, none, none, e1 (.aload_n 0), 
  eG (.getfield 29) 7 4 4 22, none, none, e1 (.iload_n 3), eV (.iconst 3) 1 3, some (.ldc 75, 2, 0, 0, -1000000005, 0, [(0, 7)]), none, eS (.invokevirtual 55) 95 3 26, none, none, e1 (.iload_n 3), e1 .ireturn]
set_option maxRecDepth 100000 in
def cd86 : Cd := [e1 (.aload_n 0), eG (.getfield 20) 7 1 1 9, none, none, e1 (.iload_n 1), eV (.iconst 2) 1 2, eS (.invokevirtual 43) 94 2 14, none, none, e1 (.istore_n 3), e1 (.iconst 0), e2 (.istore 4), none, e2 (.iload 4), none, 
  e1 (.aload_n 0), eG (.getfield 29) 7 4 4 22, none, none, eS (.invokevirtual 47) 91 0 13, none, none, eA (.if_icmp .ge 46) 3 68, none, none, e1 (.aload_n 0), eG (.getfield 29) 7 4 4 22, none, none, e2 (.iload 4), none, 
  e1 (.iconst 0), eS (.invokevirtual 43) 94 2 14, none, none, e1 (.iload_n 1), eA (.if_icmp .ne 26) 3 62, none, none, e1 (.aload_n 0), e2 (.iload 4), none, e1 (.iload_n 2), eS (.invokevirtual 98) 87 2 146, none, none, 
  eA (.ifCond .eq 16) 3 62, none, none, e1 (.iload_n 3), e1 (.aload_n 0), eG (.getfield 29) 7 4 4 22, none, none, e2 (.iload 4), none, eV (.iconst 1) 1 1, eS (.invokevirtual 43) 94 2 14, none, none, e1 .isub, 
  e1 (.istore_n 3), eV (.iinc 4 1) 3 1, none, none, eA (.goto (-52)) 3 13, none, none, e1 (.iload_n 3), e1 .ireturn]
set_option maxRecDepth 100000 in
def cd87 : Cd := [e1 (.aload_n 0), eG (.getfield 29) 7 4 4 22, none, none, e1 (.iload_n 1), eV (.iconst 3) 1 3, eS (.invokevirtual 43) 94 2 14, none, none, e1 (.istore_n 3), e1 (.aload_n 0), eG (.getfield 29) 7 4 4 22, none, none, 
  e1 (.iload_n 1), eV (.iconst 2) 1 2, eS (.invokevirtual 43) 94 2 14, none, none, e1 (.iload_n 2), eA (.if_icmp .gt 18) 3 38, none, none, e1 (.iload_n 3), some (.ldc 75, 2, 0, 0, -1000000005, 0, [(0, 7)]), none, 
  eA (.if_icmp .eq 8) 3 34, none, none, e1 (.iload_n 3), e1 (.iload_n 2), eA (.if_icmp .le 7) 3 38, none, none, eV (.iconst 1) 1 1, eA (.goto 4) 3 39, none, none, e1 (.iconst 0), e1 .ireturn]
set_option maxRecDepth 100000 in
def cd88 : Cd := [e1 (.aload_n 0), e1 (.aload_n 0), eG (.getfield 36) 7 6 6 29, none, none, eV (.sipush 25173) 3 25173, none, none, e1 .imul, eV (.sipush 13849) 3 13849, none, none, e1 .iadd, some (.ldc 101, 2, 0, 0, 65536, 0, [(0, 17)]), 
  none, e1 .irem, eG (.putfield 36) 7 6 6 29, none, none, e1 (.iload_n 1), eS (.invokestatic 63) 265 1 33, none, none, e1 (.istore_n 2), e1 (.iload_n 2), eA (.ifCond .le 12) 3 37, none, none, e1 (.aload_n 0), 
  eG (.getfield 36) 7 6 6 29, none, none, e1 (.iload_n 2), e1 .irem, eA (.goto 4) 3 38, none, none, e1 (.iconst 0), e1 (.istore_n 3), e1 (.iconst 0), e2 (.istore 4), none, e2 (.iload 4), none, eV (.bipush 10) 2 10, none, 
  eA (.if_icmp .ge 51) 3 97, none, none, e1 (.iload_n 1), e2 (.iload 4), none, e1 .ishr, eV (.iconst 1) 1 1, e1 .iand, eV (.iconst 1) 1 1, eA (.if_icmp .ne 7) 3 63, none, none, eV (.iconst 1) 1 1, eA (.goto 4) 3 64, none, 
  none, e1 (.iconst 0), e2 (.istore 5), none, e2 (.iload 5), none, eA (.ifCond .eq 10) 3 78, none, none, e1 (.iload_n 3), eA (.ifCond .ne 6) 3 78, none, none, e2 (.iload 4), none, e1 .ireturn, e1 (.iload_n 3), 
  e2 (.iload 5), none, eA (.ifCond .eq 7) 3 88, none, none, eV (.iconst 1) 1 1, eA (.goto 4) 3 89, none, none, e1 (.iconst 0), e1 .isub, e1 (.istore_n 3), eV (.iinc 4 1) 3 1, none, none, eA (.goto (-52)) 3 42, none, none, 
  e1 (.iconst 0), e1 .ireturn]
set_option maxRecDepth 100000 in
def cd89 : Cd := [e1 (.iconst 0), e1 (.istore_n 1), e1 (.iconst 0), e1 (.istore_n 2), e1 (.iload_n 2), e1 (.aload_n 0), eG (.getfield 20) 7 1 1 9, none, none, eS (.invokevirtual 47) 91 0 13, none, none, eA (.if_icmp .ge 22) 3 34, none, 
  none, e1 (.iload_n 1), e1 (.aload_n 0), eG (.getfield 20) 7 1 1 9, none, none, e1 (.iload_n 2), eV (.bipush 10) 2 10, none, eS (.invokevirtual 43) 94 2 14, none, none, e1 .iadd, e1 (.istore_n 1), eV (.iinc 2 1) 3 1, none, 
  none, eA (.goto (-27)) 3 4, none, none, e1 (.iload_n 1), e1 .ireturn]
set_option maxRecDepth 100000 in
def cd90 : Cd := [e1 (.iconst 0), e1 (.istore_n 1), e1 (.iconst 0), e1 (.istore_n 2), e1 (.iload_n 2), e1 (.aload_n 0), eS (.getfield 14) 7 0 4, none, none, eS (.invokevirtual 47) 91 0 13, none, none, eA (.if_icmp .ge 22) 3 34, none, none, 
  e1 (.iload_n 1), e1 (.aload_n 0), eS (.getfield 14) 7 0 4, none, none, e1 (.iload_n 2), eV (.bipush 6) 2 6, none, eS (.invokevirtual 43) 94 2 14, none, none, e1 .iadd, e1 (.istore_n 1), eV (.iinc 2 1) 3 1, none, none, 
  eA (.goto (-27)) 3 4, none, none, e1 (.iload_n 1), e1 .ireturn]
set_option maxRecDepth 100000 in
def cd91 : Cd := [e1 (.aload_n 0), eG (.getfield 9) 8 2 2 2, none, none, e1 .ireturn]
set_option maxRecDepth 100000 in
def cd92 : Cd := [e1 (.aload_n 0), eG (.getfield 9) 8 2 2 2, none, none, e1 (.aload_n 0), eG (.getfield 21) 8 3 3 3, none, none, eA (.if_icmp .lt 7) 3 15, none, none, eV (.iconst 1) 1 1, eA (.goto 4) 3 16, none, none, e1 (.iconst 0), 
  e1 .ireturn]
set_option maxRecDepth 100000 in
def cd93 : Cd := [e1 (.iload_n 1), eA (.ifCond .lt 15) 3 16, none, none, e1 (.iload_n 1), e1 (.aload_n 0), eG (.getfield 9) 8 2 2 2, none, none, eA (.if_icmp .ge 7) 3 16, none, none, eV (.iconst 1) 1 1, eA (.goto 4) 3 17, none, none, 
  e1 (.iconst 0), e1 .ireturn]
set_option maxRecDepth 100000 in
def cd94 : Cd := [e1 (.iload_n 1), eA (.ifCond .lt 23) 3 24, none, none, e1 (.iload_n 1), e1 (.aload_n 0), eG (.getfield 9) 8 2 2 2, none, none, eA (.if_icmp .ge 15) 3 24, none, none, e1 (.iload_n 2), eA (.ifCond .lt 11) 3 24, none, none, 
  e1 (.iload_n 2), e1 (.aload_n 0), eS (.getfield 24) 8 0 0, none, none, eA (.if_icmp .lt 5) 3 26, none, none, e1 (.iconst 0), e1 .ireturn, e1 (.aload_n 0), eG (.getfield 27) 8 1 1 1, none, none, e1 (.iload_n 1), 
  e1 (.aload_n 0), eS (.getfield 24) 8 0 0, none, none, e1 .imul, e1 (.iload_n 2), e1 .iadd, e1 .iaload, e1 .ireturn]
set_option maxRecDepth 100000 in
def cd95 : Cd := [e1 (.iload_n 1), eA (.ifCond .lt 23) 3 24, none, none, e1 (.iload_n 1), e1 (.aload_n 0), eG (.getfield 9) 8 2 2 2, none, none, eA (.if_icmp .ge 15) 3 24, none, none, e1 (.iload_n 2), eA (.ifCond .lt 11) 3 24, none, none, 
  e1 (.iload_n 2), e1 (.aload_n 0), eS (.getfield 24) 8 0 0, none, none, eA (.if_icmp .lt 4) 3 25, none, none, e1 .return_, e1 (.aload_n 0), eG (.getfield 27) 8 1 1 1, none, none, e1 (.iload_n 1), e1 (.aload_n 0), 
  eS (.getfield 24) 8 0 0, none, none, e1 .imul, e1 (.iload_n 2), e1 .iadd, e1 (.iload_n 3), e1 .iastore, e1 .return_]
set_option maxRecDepth 100000 in
def cd96 : Cd := [e1 (.aload_n 0), e1 (.iload_n 1), e1 (.iload_n 2), eS (.invokevirtual 31) 94 2 8, none, none, e2 (.istore 4), none, e1 (.aload_n 0), e1 (.iload_n 1), e1 (.iload_n 2), e1 (.iload_n 3), eS (.invokevirtual 34) 95 3 9, none, 
  none, e2 (.iload 4), none, e1 .ireturn]
set_option maxRecDepth 100000 in
def cd97 : Cd := [e1 (.aload_n 0), e1 (.iload_n 1), e1 (.iload_n 2), e1 (.aload_n 0), e1 (.iload_n 1), e1 (.iload_n 2), eS (.invokevirtual 31) 94 2 8, none, none, e1 (.iload_n 3), e1 .iadd, eS (.invokevirtual 34) 95 3 9, none, none, 
  e1 .return_]
set_option maxRecDepth 100000 in
def cd98 : Cd := [e1 (.aload_n 0), eG (.getfield 9) 8 2 2 2, none, none, e1 (.aload_n 0), eG (.getfield 21) 8 3 3 3, none, none, eA (.if_icmp .lt 6) 3 14, none, none, some (.ldc 38, 2, 0, 0, -1000000005, 0, [(0, 2)]), none, e1 .ireturn, 
  e1 (.aload_n 0), e1 .dup, eG (.getfield 9) 8 2 2 2, none, none, eV (.iconst 1) 1 1, e1 .iadd, eG (.putfield 9) 8 2 2 2, none, none, e1 (.aload_n 0), eG (.getfield 9) 8 2 2 2, none, none, eV (.iconst 1) 1 1, e1 .isub, 
  e1 .ireturn]
set_option maxRecDepth 100000 in
def cd99 : Cd := [e1 (.aload_n 1), eA (.ifnull 16) 3 17, none, none, e1 (.aload_n 1), eG (.getfield 27) 8 1 1 1, none, none, e1 .arraylength, e1 (.aload_n 0), eG (.getfield 27) 8 1 1 1, none, none, e1 .arraylength, 
  eA (.if_icmp .eq 4) 3 18, none, none, e1 .return_, e1 (.aload_n 1), eG (.getfield 27) 8 1 1 1, none, none, e1 (.iconst 0), e1 (.aload_n 0), eG (.getfield 27) 8 1 1 1, none, none, e1 (.iconst 0), e1 (.aload_n 0), 
  eG (.getfield 27) 8 1 1 1, none, none, e1 .arraylength, eS (.invokestatic 39) 1003 5 18, none, none, e1 (.aload_n 0), e1 (.aload_n 1), eG (.getfield 9) 8 2 2 2, none, none, eG (.putfield 9) 8 2 2 2, none, none, 
  e1 .return_]
set_option maxRecDepth 100000 in
def cd100 : Cd := [e1 (.aload_n 0), eG (.getfield 15) 9 1 1 54, none, none, e1 .ireturn]
set_option maxRecDepth 100000 in
def cd101 : Cd := [e1 (.aload_n 0), eG (.getfield 15) 9 1 1 54, none, none, eV (.bipush 12) 2 12, none, e1 .iadd, e1 (.aload_n 0), eS (.getfield 9) 9 0 53, none, none, e1 .arraylength, eA (.if_icmp .gt 7) 3 19, none, none, 
  eV (.iconst 1) 1 1, eA (.goto 4) 3 20, none, none, e1 (.iconst 0), e1 .ireturn]
set_option maxRecDepth 100000 in
def cd102 : Cd := [eV (.bipush 24) 2 24, none, e1 (.istore_n 2), e1 (.iload_n 2), eA (.ifCond .lt 54) 3 58, none, none, e1 (.aload_n 0), eG (.getfield 15) 9 1 1 54, none, none, eA (.ifCond .lt 47) 3 58, none, none, e1 (.aload_n 0), 
  eG (.getfield 15) 9 1 1 54, none, none, e1 (.aload_n 0), eS (.getfield 9) 9 0 53, none, none, e1 .arraylength, eA (.if_icmp .ge 35) 3 58, none, none, e1 (.aload_n 0), eS (.getfield 9) 9 0 53, none, none, e1 (.aload_n 0), 
  eG (.getfield 15) 9 1 1 54, none, none, e1 (.iload_n 1), e1 (.iload_n 2), e1 .ishr, eV (.sipush 255) 3 255, none, none, e1 .iand, e1 .iastore, e1 (.aload_n 0), e1 .dup, eG (.getfield 15) 9 1 1 54, none, none, 
  eV (.iconst 1) 1 1, e1 .iadd, eG (.putfield 15) 9 1 1 54, none, none, eV (.iinc 2 (-8)) 3 (-8), none, none, eA (.goto (-52)) 3 3, none, none, e1 .return_]
set_option maxRecDepth 100000 in
def cd103 : Cd := [e1 (.aload_n 0), e1 (.iconst 0), e1 (.iload_n 1), e1 (.aload_n 0), eG (.getfield 15) 9 1 1 54, none, none, eS (.invokestatic 19) 1002 2 4, none, none, eS (.invokestatic 25) 1001 2 5, none, none, 
  eG (.putfield 15) 9 1 1 54, none, none, e1 .return_]
set_option maxRecDepth 100000 in
def cd104 : Cd := [e1 (.iload_n 1), eA (.ifCond .lt 29) 3 30, none, none, e1 (.iload_n 1), e1 (.aload_n 0), eG (.getfield 15) 9 1 1 54, none, none, eA (.if_icmp .ge 21) 3 30, none, none, e1 (.iload_n 1), e1 (.aload_n 0), 
  eS (.getfield 9) 9 0 53, none, none, e1 .arraylength, eA (.if_icmp .ge 12) 3 30, none, none, e1 (.aload_n 0), eS (.getfield 9) 9 0 53, none, none, e1 (.iload_n 1), e1 .iaload, eA (.goto 4) 3 31, none, none, 
  eV (.iconst (-1)) 1 (-1), e1 .ireturn]
set_option maxRecDepth 100000 in
def cd105 : Cd := [e1 (.iload_n 1), eV (.iconst 1) 1 1, eV (.iconst 5) 1 5, eS (.invokestatic 87) 156 3 1, none, none, eA (.ifCond .eq 21) 3 27, none, none, e1 (.iload_n 2), e1 (.iconst 0), eV (.iconst 3) 1 3, eS (.invokestatic 87) 156 3 1, 
  none, none, eA (.ifCond .eq 12) 3 27, none, none, e1 (.iload_n 3), e1 (.iconst 0), eV (.iconst 3) 1 3, eS (.invokestatic 87) 156 3 1, none, none, eA (.ifCond .ne 6) 3 30, none, none, 
  some (.ldc 91, 2, 0, 0, -1000000001, 0, [(0, 0)]), none, e1 .ireturn, e1 (.aload_n 0), eS (.getfield 12) 10 0 70, none, none, eS (.getfield 92) 7 0 7, none, none, eS (.invokevirtual 96) 92 0 2, none, none, 
  eA (.ifCond .eq 6) 3 46, none, none, some (.ldc 102, 2, 0, 0, -1000000003, 0, [(0, 1)]), none, e1 .ireturn, e1 (.aload_n 0), eS (.getfield 12) 10 0 70, none, none, eS (.getfield 92) 7 0 7, none, none, 
  eS (.invokevirtual 103) 98 0 3, none, none, e2 (.istore 4), none, e1 (.aload_n 0), eS (.getfield 12) 10 0 70, none, none, eS (.getfield 92) 7 0 7, none, none, e2 (.iload 4), none, e1 (.iconst 0), e1 (.iload_n 1), 
  eS (.invokevirtual 107) 95 3 4, none, none, e1 (.aload_n 0), eS (.getfield 12) 10 0 70, none, none, eS (.getfield 92) 7 0 7, none, none, e2 (.iload 4), none, eV (.iconst 1) 1 1, e1 (.iload_n 2), 
  eS (.invokevirtual 107) 95 3 4, none, none, e1 (.aload_n 0), eS (.getfield 12) 10 0 70, none, none, eS (.getfield 92) 7 0 7, none, none, e2 (.iload 4), none, eV (.iconst 2) 1 2, e1 (.iload_n 3), 
  eS (.invokevirtual 107) 95 3 4, none, none, e1 (.aload_n 0), eS (.getfield 12) 10 0 70, none, none, eS (.getfield 92) 7 0 7, none, none, e2 (.iload 4), none, eV (.iconst 3) 1 3, eV (.iconst 5) 1 5, 
  eS (.invokevirtual 107) 95 3 4, none, none, e2 (.iload 4), none, e1 .ireturn]
set_option maxRecDepth 100000 in
def cd106 : Cd := [e1 (.aload_n 0), eS (.getfield 12) 10 0 70, none, none, eS (.getfield 92) 7 0 7, none, none, e1 (.iload_n 1), eS (.invokevirtual 111) 93 1 6, none, none, eA (.ifCond .eq 13) 3 24, none, none, e1 (.iload_n 2), 
  e1 (.iconst 0), eV (.bipush 99) 2 99, none, eS (.invokestatic 87) 156 3 1, none, none, eA (.ifCond .ne 6) 3 27, none, none, some (.ldc 91, 2, 0, 0, -1000000001, 0, [(0, 0)]), none, e1 .ireturn, e1 (.aload_n 0), 
  eS (.getfield 12) 10 0 70, none, none, eS (.getfield 92) 7 0 7, none, none, e1 (.iload_n 1), eV (.iconst 3) 1 3, e1 (.iload_n 2), eS (.invokevirtual 115) 96 3 7, none, none, e1 .ireturn]
set_option maxRecDepth 100000 in
def cd107 : Cd := [e1 (.aload_n 0), eS (.getfield 12) 10 0 70, none, none, eS (.getfield 92) 7 0 7, none, none, e1 (.iload_n 1), eS (.invokevirtual 111) 93 1 6, none, none, eA (.ifCond .eq 13) 3 24, none, none, e1 (.iload_n 2), 
  e1 (.iconst 0), eV (.bipush 99) 2 99, none, eS (.invokestatic 87) 156 3 1, none, none, eA (.ifCond .ne 6) 3 27, none, none, some (.ldc 91, 2, 0, 0, -1000000001, 0, [(0, 0)]), none, e1 .ireturn, e1 (.aload_n 0), 
  eS (.getfield 12) 10 0 70, none, none, eS (.getfield 92) 7 0 7, none, none, e1 (.iload_n 1), eV (.iconst 4) 1 4, e1 (.iload_n 2), eS (.invokevirtual 115) 96 3 7, none, none, e1 .ireturn]
set_option maxRecDepth 100000 in
def cd108 : Cd := [e1 (.aload_n 0), eS (.getfield 12) 10 0 70, none, none, eS (.getfield 92) 7 0 7, none, none, e1 (.iload_n 1), eS (.invokevirtual 111) 93 1 6, none, none, eA (.ifCond .eq 13) 3 24, none, none, e1 (.iload_n 2), 
  e1 (.iconst 0), eV (.bipush 10) 2 10, none, eS (.invokestatic 87) 156 3 1, none, none, eA (.ifCond .ne 6) 3 27, none, none, some (.ldc 91, 2, 0, 0, -1000000001, 0, [(0, 0)]), none, e1 .ireturn, e1 (.iload_n 2), 
  some (.tableswitch 83 5 10 #[40, 83, 83, 52, 63, 73], 40, 111, 0, 0, 0, [(5, 68), (6, 111), (7, 111), (8, 80), (9, 91), (10, 101)]), none, none, none, none, none, none, none, none, none, none, none, none, none, none, 
  none, none, none, none, none, none, none, none, none, none, none, none, none, none, none, none, none, none, none, none, none, none, none, none, none, e1 (.aload_n 0), eS (.getfield 12) 10 0 70, none, none, 
  e1 (.iload_n 1), eS (.invokevirtual 119) 67 1 12, none, none, eS (.invokestatic 123) 265 1 15, none, none, e1 .ireturn, e1 (.aload_n 0), eS (.getfield 12) 10 0 70, none, none, e1 (.iload_n 1), 
  some (.ldc 128, 2, 0, 0, -1000000005, 0, [(0, 6)]), none, eS (.invokevirtual 129) 76 2 16, none, none, e1 .ireturn, e1 (.aload_n 0), eS (.getfield 12) 10 0 70, none, none, e1 (.iload_n 1), eV (.iconst 1) 1 1, 
  eS (.invokevirtual 129) 76 2 16, none, none, e1 .ireturn, e1 (.aload_n 0), eS (.getfield 12) 10 0 70, none, none, e1 (.iload_n 1), eV (.iconst 2) 1 2, eS (.invokevirtual 129) 76 2 16, none, none, e1 .ireturn, 
  e1 (.aload_n 0), eS (.getfield 12) 10 0 70, none, none, eS (.getfield 92) 7 0 7, none, none, e1 (.iload_n 1), e1 (.iload_n 2), eS (.invokevirtual 133) 94 2 18, none, none, e1 .ireturn]
set_option maxRecDepth 100000 in
def cd109 : Cd := [e1 (.iload_n 1), e1 (.iconst 0), eV (.iconst 3) 1 3, eS (.invokestatic 87) 156 3 1, none, none, eA (.ifCond .eq 23) 3 29, none, none, e1 (.iload_n 2), e1 (.iconst 0), eV (.iconst 3) 1 3, eS (.invokestatic 87) 156 3 1, 
  none, none, eA (.ifCond .eq 14) 3 29, none, none, e1 (.iload_n 3), eV (.iconst 1) 1 1, eV (.sipush 999) 3 999, none, none, eS (.invokestatic 87) 156 3 1, none, none, eA (.ifCond .ne 6) 3 32, none, none, 
  some (.ldc 91, 2, 0, 0, -1000000001, 0, [(0, 0)]), none, e1 .ireturn, e1 (.aload_n 0), eS (.getfield 12) 10 0 70, none, none, eG (.getfield 136) 7 1 1 14, none, none, eS (.invokevirtual 96) 92 0 2, none, none, 
  eA (.ifCond .eq 6) 3 48, none, none, some (.ldc 102, 2, 0, 0, -1000000003, 0, [(0, 1)]), none, e1 .ireturn, e1 (.aload_n 0), eS (.getfield 12) 10 0 70, none, none, eG (.getfield 136) 7 1 1 14, none, none, 
  eS (.invokevirtual 103) 98 0 3, none, none, e2 (.istore 4), none, e1 (.aload_n 0), eS (.getfield 12) 10 0 70, none, none, eG (.getfield 136) 7 1 1 14, none, none, e2 (.iload 4), none, e1 (.iconst 0), e1 (.iload_n 1), 
  eS (.invokevirtual 107) 95 3 4, none, none, e1 (.aload_n 0), eS (.getfield 12) 10 0 70, none, none, eG (.getfield 136) 7 1 1 14, none, none, e2 (.iload 4), none, eV (.iconst 1) 1 1, e1 (.iload_n 2), 
  eS (.invokevirtual 107) 95 3 4, none, none, e1 (.aload_n 0), eS (.getfield 12) 10 0 70, none, none, eG (.getfield 136) 7 1 1 14, none, none, e2 (.iload 4), none, eV (.iconst 2) 1 2, e1 (.iload_n 3), 
  eS (.invokevirtual 107) 95 3 4, none, none, e1 (.aload_n 0), eS (.getfield 12) 10 0 70, none, none, eG (.getfield 136) 7 1 1 14, none, none, e2 (.iload 4), none, eV (.bipush 8) 2 8, none, 
  some (.ldc 128, 2, 0, 0, -1000000005, 0, [(0, 6)]), none, eS (.invokevirtual 107) 95 3 4, none, none, e1 (.aload_n 0), eS (.getfield 12) 10 0 70, none, none, eG (.getfield 136) 7 1 1 14, none, none, e2 (.iload 4), none, 
  eV (.bipush 9) 2 9, none, some (.ldc 128, 2, 0, 0, -1000000005, 0, [(0, 6)]), none, eS (.invokevirtual 107) 95 3 4, none, none, e2 (.iload 4), none, e1 .ireturn]
set_option maxRecDepth 100000 in
def cd110 : Cd := [e1 (.aload_n 0), eS (.getfield 12) 10 0 70, none, none, eG (.getfield 136) 7 1 1 14, none, none, e1 (.iload_n 1), eS (.invokevirtual 111) 93 1 6, none, none, eA (.ifCond .eq 13) 3 24, none, none, e1 (.iload_n 2), 
  e1 (.iconst 0), eV (.bipush 11) 2 11, none, eS (.invokestatic 87) 156 3 1, none, none, eA (.ifCond .ne 6) 3 27, none, none, some (.ldc 91, 2, 0, 0, -1000000001, 0, [(0, 0)]), none, e1 .ireturn, e1 (.aload_n 0), 
  eS (.getfield 12) 10 0 70, none, none, eG (.getfield 136) 7 1 1 14, none, none, e1 (.iload_n 1), e1 (.iload_n 2), eS (.invokevirtual 133) 94 2 18, none, none, e1 .ireturn]
set_option maxRecDepth 100000 in
def cd111 : Cd := [e1 (.aload_n 0), eS (.getfield 12) 10 0 70, none, none, eG (.getfield 136) 7 1 1 14, none, none, e1 (.iload_n 1), eS (.invokevirtual 111) 93 1 6, none, none, eA (.ifCond .eq 12) 3 23, none, none, e1 (.aload_n 0), 
  e1 (.iload_n 2), e1 (.iload_n 3), eS (.invokevirtual 139) 112 2 22, none, none, eA (.ifCond .ne 6) 3 26, none, none, some (.ldc 91, 2, 0, 0, -1000000001, 0, [(0, 0)]), none, e1 .ireturn, e1 (.aload_n 0), 
  eS (.getfield 12) 10 0 70, none, none, eG (.getfield 136) 7 1 1 14, none, none, e1 (.iload_n 1), e1 (.iload_n 2), e1 (.iload_n 3), eS (.invokevirtual 115) 96 3 7, none, none, e1 .ireturn]
set_option maxRecDepth 100000 in
def cd112 : Cd := [e1 (.iload_n 1), some (.tableswitch 107 0 9 #[55, 62, 107, 69, 107, 107, 107, 107, 107, 78], 55, 108, 0, 0, 0, [(0, 56), (1, 63), (2, 108), (3, 70), (4, 108), (5, 108), (6, 108), (7, 108), (8, 108), (9, 79)]), none, none, 
  none, none, none, none, none, none, none, none, none, none, none, none, none, none, none, none, none, none, none, none, none, none, none, none, none, none, none, none, none, none, none, none, none, none, none, none, none, 
  none, none, none, none, none, none, none, none, none, none, none, none, none, none, none, e1 (.iload_n 2), e1 (.iconst 0), eV (.iconst 3) 1 3, eS (.invokestatic 87) 156 3 1, none, none, e1 .ireturn, e1 (.iload_n 2), 
  e1 (.iconst 0), eV (.iconst 3) 1 3, eS (.invokestatic 87) 156 3 1, none, none, e1 .ireturn, e1 (.iload_n 2), e1 (.iconst 0), eV (.sipush 9999) 3 9999, none, none, eS (.invokestatic 87) 156 3 1, none, none, e1 .ireturn, 
  e1 (.iload_n 2), some (.ldc 128, 2, 0, 0, -1000000005, 0, [(0, 6)]), none, eA (.if_icmp .eq 20) 3 102, none, none, e1 (.iload_n 2), e1 (.aload_n 0), eS (.getfield 12) 10 0 70, none, none, eG (.getfield 143) 7 5 5 28, 
  none, none, eV (.sipush 999) 3 999, none, none, eS (.invokestatic 87) 156 3 1, none, none, eA (.ifCond .eq 7) 3 106, none, none, eV (.iconst 1) 1 1, eA (.goto 4) 3 107, none, none, e1 (.iconst 0), e1 .ireturn, 
  e1 (.iconst 0), e1 .ireturn]
set_option maxRecDepth 100000 in
def cd113 : Cd := [e1 (.aload_n 0), eS (.getfield 12) 10 0 70, none, none, eG (.getfield 136) 7 1 1 14, none, none, e1 (.iload_n 1), eS (.invokevirtual 111) 93 1 6, none, none, eA (.ifCond .eq 31) 3 42, none, none, e1 (.aload_n 0), 
  eS (.getfield 12) 10 0 70, none, none, eG (.getfield 136) 7 1 1 14, none, none, e1 (.iload_n 2), eS (.invokevirtual 111) 93 1 6, none, none, eA (.ifCond .eq 17) 3 42, none, none, e1 (.iload_n 1), e1 (.iload_n 2), 
  eA (.if_icmp .eq 12) 3 42, none, none, e1 (.iload_n 3), e1 (.iconst 0), eV (.iconst 1) 1 1, eS (.invokestatic 87) 156 3 1, none, none, eA (.ifCond .ne 6) 3 45, none, none, 
  some (.ldc 91, 2, 0, 0, -1000000001, 0, [(0, 0)]), none, e1 .ireturn, e1 (.aload_n 0), eS (.getfield 12) 10 0 70, none, none, e1 (.iload_n 1), e1 (.iload_n 2), eS (.invokevirtual 146) 64 2 24, none, none, 
  eA (.ifCond .eq 7) 3 61, none, none, eV (.iconst 1) 1 1, eA (.goto 4) 3 62, none, none, e1 (.iconst 0), e2 (.istore 4), none, e1 (.aload_n 0), eS (.getfield 12) 10 0 70, none, none, e1 (.iload_n 1), e1 (.iload_n 2), 
  e1 (.iload_n 3), eV (.iconst 1) 1 1, eA (.if_icmp .ne 7) 3 79, none, none, eV (.iconst 1) 1 1, eA (.goto 4) 3 80, none, none, e1 (.iconst 0), eS (.invokevirtual 149) 65 3 25, none, none, e1 (.aload_n 0), 
  eS (.getfield 12) 10 0 70, none, none, e1 (.iload_n 2), e1 (.iload_n 1), e1 (.iload_n 3), eV (.iconst 1) 1 1, eA (.if_icmp .ne 7) 3 98, none, none, eV (.iconst 1) 1 1, eA (.goto 4) 3 99, none, none, e1 (.iconst 0), 
  eS (.invokevirtual 149) 65 3 25, none, none, e2 (.iload 4), none, e1 .ireturn]
set_option maxRecDepth 100000 in
def cd114 : Cd := [e1 (.aload_n 0), eS (.getfield 12) 10 0 70, none, none, eG (.getfield 136) 7 1 1 14, none, none, e1 (.iload_n 1), eS (.invokevirtual 111) 93 1 6, none, none, eA (.ifCond .eq 17) 3 28, none, none, e1 (.aload_n 0), 
  eS (.getfield 12) 10 0 70, none, none, eS (.getfield 92) 7 0 7, none, none, e1 (.iload_n 2), eS (.invokevirtual 111) 93 1 6, none, none, eA (.ifCond .ne 6) 3 31, none, none, 
  some (.ldc 91, 2, 0, 0, -1000000001, 0, [(0, 0)]), none, e1 .ireturn, e1 (.aload_n 0), eS (.getfield 12) 10 0 70, none, none, e1 (.iload_n 1), e1 (.iload_n 2), eS (.invokevirtual 153) 66 2 28, none, none, 
  eA (.ifCond .eq 7) 3 47, none, none, eV (.iconst 1) 1 1, eA (.goto 4) 3 48, none, none, e1 (.iconst 0), e1 .ireturn]
set_option maxRecDepth 100000 in
def cd115 : Cd := [e1 (.aload_n 0), eS (.getfield 12) 10 0 70, none, none, eG (.getfield 136) 7 1 1 14, none, none, e1 (.iload_n 1), eS (.invokevirtual 111) 93 1 6, none, none, eA (.ifCond .eq 23) 3 34, none, none, e1 (.iload_n 2), 
  some (.ldc 128, 2, 0, 0, -1000000005, 0, [(0, 6)]), none, eA (.if_icmp .eq 20) 3 37, none, none, e1 (.aload_n 0), eS (.getfield 12) 10 0 70, none, none, eS (.getfield 92) 7 0 7, none, none, e1 (.iload_n 2), 
  eS (.invokevirtual 111) 93 1 6, none, none, eA (.ifCond .ne 6) 3 37, none, none, some (.ldc 91, 2, 0, 0, -1000000001, 0, [(0, 0)]), none, e1 .ireturn, e1 (.iload_n 2), some (.ldc 128, 2, 0, 0, -1000000005, 0, [(0, 6)]), 
  none, eA (.if_icmp .eq 30) 3 70, none, none, e1 (.aload_n 0), eS (.getfield 12) 10 0 70, none, none, e1 (.iload_n 1), e1 (.iload_n 2), eS (.invokevirtual 153) 66 2 28, none, none, eA (.ifCond .eq 15) 3 67, none, none, 
  e1 (.aload_n 0), eS (.getfield 12) 10 0 70, none, none, e1 (.iload_n 1), e1 (.iload_n 2), eS (.invokevirtual 156) 68 2 31, none, none, eA (.ifCond .ne 6) 3 70, none, none, 
  some (.ldc 159, 2, 0, 0, -1000000002, 0, [(0, 8)]), none, e1 .ireturn, e1 (.aload_n 0), eS (.getfield 12) 10 0 70, none, none, eG (.getfield 136) 7 1 1 14, none, none, e1 (.iload_n 1), eV (.bipush 8) 2 8, none, 
  eS (.invokevirtual 133) 94 2 18, none, none, e1 (.istore_n 3), e1 (.aload_n 0), eS (.getfield 12) 10 0 70, none, none, e1 (.iload_n 1), e1 (.iload_n 2), eS (.invokevirtual 160) 69 2 34, none, none, e1 (.iload_n 3), 
  e1 .ireturn]
set_option maxRecDepth 100000 in
def cd116 : Cd := [e1 (.iload_n 1), e1 (.iconst 0), eV (.iconst 1) 1 1, e1 (.aload_n 0), eS (.getfield 12) 10 0 70, none, none, eG (.getfield 136) 7 1 1 14, none, none, eS (.invokevirtual 164) 91 0 38, none, none, e1 .iadd, 
  eS (.invokestatic 87) 156 3 1, none, none, eA (.ifCond .ne 6) 3 23, none, none, some (.ldc 91, 2, 0, 0, -1000000001, 0, [(0, 0)]), none, e1 .ireturn, e1 (.aload_n 0), eG (.getfield 48) 10 6 6 76, none, none, 
  e1 (.aload_n 0), eS (.getfield 12) 10 0 70, none, none, eS (.invokevirtual 167) 8 1 39, none, none, e1 (.iload_n 1), some (.lookupswitch 41 #[(0, 25), (1, 33)], 25, 76, 0, 0, 0, [(0, 60), (1, 68)]), none, none, none, 
  none, none, none, none, none, none, none, none, none, none, none, none, none, none, none, none, none, none, none, none, none, e1 (.aload_n 0), eG (.getfield 48) 10 6 6 76, none, none, eS (.invokevirtual 171) 5 0 51, none, 
  none, e1 .ireturn, e1 (.aload_n 0), eG (.getfield 48) 10 6 6 76, none, none, eS (.invokevirtual 174) 6 0 52, none, none, e1 .ireturn, e1 (.aload_n 0), eG (.getfield 48) 10 6 6 76, none, none, e1 (.iload_n 1), 
  eV (.iconst 2) 1 2, e1 .isub, eS (.invokevirtual 177) 7 1 53, none, none, e1 .ireturn]
set_option maxRecDepth 100000 in
def cd117 : Cd := [e1 (.aload_n 0), eG (.getfield 48) 10 6 6 76, none, none, e1 (.aload_n 0), eS (.getfield 12) 10 0 70, none, none, eS (.invokevirtual 167) 8 1 39, none, none, e1 (.iconst 0), e1 (.istore_n 1), e1 (.iconst 0), 
  e1 (.istore_n 2), e1 (.iload_n 2), e1 (.aload_n 0), eS (.getfield 12) 10 0 70, none, none, eG (.getfield 136) 7 1 1 14, none, none, eS (.invokevirtual 164) 91 0 38, none, none, eA (.if_icmp .ge 63) 3 89, none, none, 
  e1 (.aload_n 0), eS (.getfield 12) 10 0 70, none, none, e1 (.iload_n 2), eS (.invokevirtual 180) 62 1 55, none, none, eA (.ifCond .ne 46) 3 83, none, none, e1 (.aload_n 0), eG (.getfield 48) 10 6 6 76, none, none, 
  e1 (.iload_n 2), eS (.invokevirtual 177) 7 1 53, none, none, e1 (.aload_n 0), eS (.getfield 12) 10 0 70, none, none, eG (.getfield 136) 7 1 1 14, none, none, e1 (.iload_n 2), eV (.bipush 8) 2 8, none, 
  eS (.invokevirtual 133) 94 2 18, none, none, eA (.if_icmp .eq 22) 3 83, none, none, e1 (.aload_n 0), eS (.getfield 12) 10 0 70, none, none, e1 (.iload_n 2), e1 (.aload_n 0), eG (.getfield 48) 10 6 6 76, none, none, 
  e1 (.iload_n 2), eS (.invokevirtual 177) 7 1 53, none, none, eS (.invokevirtual 160) 69 2 34, none, none, eV (.iinc 1 1) 3 1, none, none, eV (.iinc 2 1) 3 1, none, none, eA (.goto (-71)) 3 15, none, none, e1 (.iload_n 1), 
  e1 .ireturn]
set_option maxRecDepth 100000 in
def cd118 : Cd := [e1 (.iconst 0), e1 (.istore_n 1), e1 (.iconst 0), e1 (.istore_n 2), e1 (.iload_n 2), e1 (.aload_n 0), eS (.getfield 12) 10 0 70, none, none, eG (.getfield 136) 7 1 1 14, none, none, eS (.invokevirtual 164) 91 0 38, none, 
  none, eA (.if_icmp .ge 60) 3 75, none, none, e1 (.aload_n 0), eS (.getfield 12) 10 0 70, none, none, e1 (.iload_n 2), eS (.invokevirtual 180) 62 1 55, none, none, eA (.ifCond .ne 43) 3 69, none, none, e1 (.aload_n 0), 
  eS (.getfield 12) 10 0 70, none, none, eG (.getfield 136) 7 1 1 14, none, none, e1 (.iload_n 2), eV (.bipush 6) 2 6, none, eS (.invokevirtual 133) 94 2 18, none, none, eA (.ifCond .ne 27) 3 69, none, none, 
  e1 (.aload_n 0), eS (.getfield 12) 10 0 70, none, none, eG (.getfield 136) 7 1 1 14, none, none, e1 (.iload_n 2), eV (.bipush 8) 2 8, none, eS (.invokevirtual 133) 94 2 18, none, none, 
  some (.ldc 128, 2, 0, 0, -1000000005, 0, [(0, 6)]), none, eA (.if_icmp .ne 9) 3 69, none, none, e1 (.iload_n 1), eV (.iconst 1) 1 1, e1 (.iload_n 2), e1 .ishl, e1 .ior, e1 (.istore_n 1), eV (.iinc 2 1) 3 1, none, none, 
  eA (.goto (-68)) 3 4, none, none, e1 (.iload_n 1), e1 .ireturn]
set_option maxRecDepth 100000 in
def cd119 : Cd := [e1 (.iload_n 1), eS (.invokestatic 183) 157 1 58, none, none, eA (.ifCond .eq 27) 3 31, none, none, e1 (.aload_n 0), eS (.getfield 12) 10 0 70, none, none, eS (.getfield 92) 7 0 7, none, none, e1 (.iload_n 2), 
  eS (.invokevirtual 111) 93 1 6, none, none, eA (.ifCond .eq 13) 3 31, none, none, e1 (.iload_n 1), e1 (.iload_n 3), e2 (.iload 4), none, eS (.invokestatic 186) 158 3 59, none, none, eA (.ifCond .ne 6) 3 34, none, none, 
  some (.ldc 91, 2, 0, 0, -1000000001, 0, [(0, 0)]), none, e1 .ireturn, e1 (.aload_n 0), eS (.getfield 12) 10 0 70, none, none, eG (.getfield 189) 7 2 2 18, none, none, eS (.invokevirtual 96) 92 0 2, none, none, 
  eA (.ifCond .eq 6) 3 50, none, none, some (.ldc 102, 2, 0, 0, -1000000003, 0, [(0, 1)]), none, e1 .ireturn, e1 (.aload_n 0), eS (.getfield 12) 10 0 70, none, none, eG (.getfield 189) 7 2 2 18, none, none, 
  eS (.invokevirtual 103) 98 0 3, none, none, e2 (.istore 5), none, e1 (.aload_n 0), eS (.getfield 12) 10 0 70, none, none, eG (.getfield 189) 7 2 2 18, none, none, e2 (.iload 5), none, e1 (.iconst 0), e1 (.iload_n 1), 
  eS (.invokevirtual 107) 95 3 4, none, none, e1 (.aload_n 0), eS (.getfield 12) 10 0 70, none, none, eG (.getfield 189) 7 2 2 18, none, none, e2 (.iload 5), none, eV (.iconst 1) 1 1, e1 (.iload_n 2), 
  eS (.invokevirtual 107) 95 3 4, none, none, e1 (.aload_n 0), eS (.getfield 12) 10 0 70, none, none, eG (.getfield 189) 7 2 2 18, none, none, e2 (.iload 5), none, eV (.iconst 2) 1 2, e1 (.iload_n 3), 
  eS (.invokevirtual 107) 95 3 4, none, none, e1 (.aload_n 0), eS (.getfield 12) 10 0 70, none, none, eG (.getfield 189) 7 2 2 18, none, none, e2 (.iload 5), none, eV (.iconst 3) 1 3, e2 (.iload 4), none, 
  eS (.invokevirtual 107) 95 3 4, none, none, e1 (.aload_n 0), eS (.getfield 12) 10 0 70, none, none, eG (.getfield 189) 7 2 2 18, none, none, e2 (.iload 5), none, eV (.iconst 4) 1 4, e1 (.iconst 0), 
  eS (.invokevirtual 107) 95 3 4, none, none, e1 (.aload_n 0), eS (.getfield 12) 10 0 70, none, none, eG (.getfield 189) 7 2 2 18, none, none, e2 (.iload 5), none, eV (.iconst 5) 1 5, 
  some (.ldc 128, 2, 0, 0, -1000000005, 0, [(0, 6)]), none, eS (.invokevirtual 107) 95 3 4, none, none, e1 (.aload_n 0), eS (.getfield 12) 10 0 70, none, none, eG (.getfield 189) 7 2 2 18, none, none, e2 (.iload 5), none, 
  eV (.bipush 6) 2 6, none, some (.ldc 128, 2, 0, 0, -1000000005, 0, [(0, 6)]), none, eS (.invokevirtual 107) 95 3 4, none, none, e2 (.iload 5), none, e1 .ireturn]
set_option maxRecDepth 100000 in
def cd120 : Cd := [e1 (.aload_n 0), eS (.getfield 12) 10 0 70, none, none, eG (.getfield 189) 7 2 2 18, none, none, e1 (.iload_n 1), eS (.invokevirtual 111) 93 1 6, none, none, eA (.ifCond .eq 13) 3 24, none, none, e1 (.iload_n 2), 
  e1 (.iconst 0), eV (.bipush 6) 2 6, none, eS (.invokestatic 87) 156 3 1, none, none, eA (.ifCond .ne 6) 3 27, none, none, some (.ldc 91, 2, 0, 0, -1000000001, 0, [(0, 0)]), none, e1 .ireturn, e1 (.aload_n 0), 
  eS (.getfield 12) 10 0 70, none, none, eG (.getfield 189) 7 2 2 18, none, none, e1 (.iload_n 1), e1 (.iload_n 2), eS (.invokevirtual 133) 94 2 18, none, none, e1 .ireturn]
set_option maxRecDepth 100000 in
def cd121 : Cd := [e1 (.aload_n 0), eS (.getfield 12) 10 0 70, none, none, eG (.getfield 189) 7 2 2 18, none, none, e1 (.iload_n 1), eS (.invokevirtual 111) 93 1 6, none, none, eA (.ifCond .eq 10) 3 21, none, none, e1 (.iload_n 2), 
  eS (.invokestatic 183) 157 1 58, none, none, eA (.ifCond .ne 6) 3 24, none, none, some (.ldc 91, 2, 0, 0, -1000000001, 0, [(0, 0)]), none, e1 .ireturn, e1 (.aload_n 0), eS (.getfield 12) 10 0 70, none, none, 
  e1 (.iload_n 1), e1 (.iload_n 2), eS (.invokevirtual 192) 74 2 62, none, none, eA (.ifCond .eq 18) 3 51, none, none, e1 (.aload_n 0), eS (.getfield 12) 10 0 70, none, none, eG (.getfield 189) 7 2 2 18, none, none, 
  e1 (.iload_n 1), eV (.iconst 2) 1 2, eS (.invokevirtual 133) 94 2 18, none, none, eA (.goto 5) 3 53, none, none, some (.ldc 195, 2, 0, 0, -1000000012, 0, [(0, 10)]), none, e1 .ireturn]
set_option maxRecDepth 100000 in
def cd122 : Cd := [e1 (.aload_n 0), eS (.getfield 12) 10 0 70, none, none, eG (.getfield 189) 7 2 2 18, none, none, e1 (.iload_n 1), eS (.invokevirtual 111) 93 1 6, none, none, eA (.ifCond .eq 17) 3 28, none, none, e1 (.aload_n 0), 
  eS (.getfield 12) 10 0 70, none, none, eG (.getfield 136) 7 1 1 14, none, none, e1 (.iload_n 2), eS (.invokevirtual 111) 93 1 6, none, none, eA (.ifCond .ne 6) 3 31, none, none, 
  some (.ldc 91, 2, 0, 0, -1000000001, 0, [(0, 0)]), none, e1 .ireturn, e1 (.aload_n 0), eS (.getfield 12) 10 0 70, none, none, e1 (.iload_n 1), eV (.iconst 1) 1 1, eS (.invokevirtual 192) 74 2 62, none, none, 
  eA (.ifCond .ne 6) 3 46, none, none, some (.ldc 195, 2, 0, 0, -1000000012, 0, [(0, 10)]), none, e1 .ireturn, e1 (.aload_n 0), eS (.getfield 12) 10 0 70, none, none, e1 (.iload_n 2), e1 (.iload_n 1), 
  eS (.invokevirtual 196) 77 2 64, none, none, eA (.ifCond .ne 6) 3 61, none, none, some (.ldc 159, 2, 0, 0, -1000000002, 0, [(0, 8)]), none, e1 .ireturn, e1 (.aload_n 0), eS (.getfield 12) 10 0 70, none, none, 
  eG (.getfield 189) 7 2 2 18, none, none, e1 (.iload_n 1), eV (.iconst 4) 1 4, eV (.iconst 1) 1 1, eS (.invokevirtual 107) 95 3 4, none, none, e1 (.aload_n 0), eS (.getfield 12) 10 0 70, none, none, 
  eG (.getfield 189) 7 2 2 18, none, none, e1 (.iload_n 1), eV (.iconst 5) 1 5, e1 (.iload_n 2), eS (.invokevirtual 107) 95 3 4, none, none, e1 (.aload_n 0), eS (.getfield 12) 10 0 70, none, none, e1 (.iload_n 2), 
  eS (.invokevirtual 199) 72 1 65, none, none, e1 .ireturn]
set_option maxRecDepth 100000 in
def cd123 : Cd := [e1 (.aload_n 0), eS (.getfield 12) 10 0 70, none, none, eG (.getfield 189) 7 2 2 18, none, none, e1 (.iload_n 1), eS (.invokevirtual 111) 93 1 6, none, none, eA (.ifCond .ne 6) 3 17, none, none, 
  some (.ldc 91, 2, 0, 0, -1000000001, 0, [(0, 0)]), none, e1 .ireturn, e1 (.aload_n 0), eS (.getfield 12) 10 0 70, none, none, e1 (.iload_n 1), eV (.iconst 1) 1 1, eS (.invokevirtual 192) 74 2 62, none, none, 
  eA (.ifCond .ne 6) 3 32, none, none, some (.ldc 195, 2, 0, 0, -1000000012, 0, [(0, 10)]), none, e1 .ireturn, e1 (.aload_n 0), eS (.getfield 12) 10 0 70, none, none, eG (.getfield 189) 7 2 2 18, none, none, 
  e1 (.iload_n 1), eV (.iconst 4) 1 4, eS (.invokevirtual 133) 94 2 18, none, none, eA (.ifCond .ne 6) 3 50, none, none, some (.ldc 159, 2, 0, 0, -1000000002, 0, [(0, 8)]), none, e1 .ireturn, e1 (.aload_n 0), 
  eS (.getfield 12) 10 0 70, none, none, eG (.getfield 189) 7 2 2 18, none, none, e1 (.iload_n 1), eV (.iconst 5) 1 5, some (.ldc 128, 2, 0, 0, -1000000005, 0, [(0, 6)]), none, eS (.invokevirtual 107) 95 3 4, none, none, 
  e1 (.aload_n 0), eS (.getfield 12) 10 0 70, none, none, eG (.getfield 189) 7 2 2 18, none, none, e1 (.iload_n 1), eV (.iconst 4) 1 4, e1 (.iconst 0), eS (.invokevirtual 115) 96 3 7, none, none, e1 .ireturn]
set_option maxRecDepth 100000 in
def cd124 : Cd := [e1 (.aload_n 0), eS (.getfield 12) 10 0 70, none, none, eS (.getfield 92) 7 0 7, none, none, e1 (.iload_n 1), eS (.invokevirtual 111) 93 1 6, none, none, eA (.ifCond .eq 22) 3 33, none, none, e1 (.iload_n 2), 
  eA (.ifCond .lt 18) 3 33, none, none, e1 (.iload_n 2), e1 (.aload_n 0), eS (.getfield 12) 10 0 70, none, none, e1 (.iload_n 1), some (.ldc 128, 2, 0, 0, -1000000005, 0, [(0, 6)]), none, eS (.invokevirtual 129) 76 2 16, 
  none, none, e1 .ishr, eA (.ifCond .eq 6) 3 36, none, none, some (.ldc 91, 2, 0, 0, -1000000001, 0, [(0, 0)]), none, e1 .ireturn, e1 (.iload_n 2), e1 (.istore_n 3), e1 (.iconst 0), e2 (.istore 4), none, e1 (.iconst 0), 
  e2 (.istore 5), none, e2 (.iload 5), none, e1 (.aload_n 0), eS (.getfield 12) 10 0 70, none, none, eG (.getfield 189) 7 2 2 18, none, none, eS (.invokevirtual 164) 91 0 38, none, none, eA (.if_icmp .ge 60) 3 116, none, 
  none, e1 (.aload_n 0), eS (.getfield 12) 10 0 70, none, none, e2 (.iload 5), none, e1 (.iload_n 1), eS (.invokevirtual 202) 75 2 68, none, none, eA (.ifCond .eq 41) 3 110, none, none, e2 (.iload 4), none, e1 (.aload_n 0), 
  eS (.getfield 12) 10 0 70, none, none, e2 (.iload 5), none, e1 (.iload_n 3), eV (.iconst 1) 1 1, e1 .iand, eV (.iconst 1) 1 1, eA (.if_icmp .ne 7) 3 91, none, none, eV (.iconst 1) 1 1, eA (.goto 4) 3 92, none, none, 
  e1 (.iconst 0), eS (.invokevirtual 205) 78 2 69, none, none, eA (.ifCond .eq 7) 3 102, none, none, e1 (.iconst 0), eA (.goto 4) 3 103, none, none, eV (.iconst 1) 1 1, e1 .iadd, e2 (.istore 4), none, e1 (.iload_n 3), 
  eV (.iconst 1) 1 1, e1 .ishr, e1 (.istore_n 3), eV (.iinc 5 1) 3 1, none, none, eA (.goto (-69)) 3 44, none, none, e1 (.aload_n 0), eS (.getfield 12) 10 0 70, none, none, eS (.getfield 92) 7 0 7, none, none, 
  e1 (.iload_n 1), eV (.bipush 7) 2 7, none, e2 (.iload 4), none, eA (.ifCond .le 7) 3 135, none, none, eV (.iconst 1) 1 1, eA (.goto 4) 3 136, none, none, e1 (.iconst 0), eS (.invokevirtual 107) 95 3 4, none, none, 
  e2 (.iload 4), none, e1 .ireturn]
set_option maxRecDepth 100000 in
def cd125 : Cd := [e1 (.aload_n 0), eS (.getfield 12) 10 0 70, none, none, eS (.getfield 92) 7 0 7, none, none, e1 (.iload_n 1), eS (.invokevirtual 111) 93 1 6, none, none, eA (.ifCond .ne 6) 3 17, none, none, 
  some (.ldc 91, 2, 0, 0, -1000000001, 0, [(0, 0)]), none, e1 .ireturn, e1 (.iconst 0), e1 (.istore_n 2), e1 (.iconst 0), e1 (.istore_n 3), e1 (.iload_n 3), e1 (.aload_n 0), eS (.getfield 12) 10 0 70, none, none, 
  eG (.getfield 189) 7 2 2 18, none, none, eS (.invokevirtual 164) 91 0 38, none, none, eA (.if_icmp .ge 54) 3 86, none, none, e1 (.aload_n 0), eS (.getfield 12) 10 0 70, none, none, e1 (.iload_n 3), e1 (.iload_n 1), 
  eS (.invokevirtual 202) 75 2 68, none, none, eA (.ifCond .eq 36) 3 80, none, none, e1 (.aload_n 0), eS (.getfield 12) 10 0 70, none, none, eG (.getfield 189) 7 2 2 18, none, none, e1 (.iload_n 3), eV (.iconst 4) 1 4, 
  eS (.invokevirtual 133) 94 2 18, none, none, eV (.iconst 1) 1 1, eA (.if_icmp .ne 20) 3 80, none, none, e1 (.iload_n 2), eV (.iconst 1) 1 1, e1 (.aload_n 0), eS (.getfield 12) 10 0 70, none, none, 
  eG (.getfield 189) 7 2 2 18, none, none, e1 (.iload_n 3), eV (.iconst 5) 1 5, eS (.invokevirtual 133) 94 2 18, none, none, e1 .ishl, e1 .ior, e1 (.istore_n 2), eV (.iinc 3 1) 3 1, none, none, eA (.goto (-62)) 3 21, none, 
  none, e1 (.iload_n 2), e1 .ireturn]
set_option maxRecDepth 100000 in
def cd126 : Cd := [e1 (.aload_n 0), eS (.getfield 12) 10 0 70, none, none, eG (.getfield 189) 7 2 2 18, none, none, e1 (.iload_n 1), eS (.invokevirtual 111) 93 1 6, none, none, eA (.ifCond .ne 6) 3 17, none, none, 
  some (.ldc 91, 2, 0, 0, -1000000001, 0, [(0, 0)]), none, e1 .ireturn, e1 (.aload_n 0), eS (.getfield 12) 10 0 70, none, none, e1 (.iload_n 1), eV (.iconst 5) 1 5, eS (.invokevirtual 192) 74 2 62, none, none, 
  eA (.ifCond .ne 6) 3 32, none, none, some (.ldc 195, 2, 0, 0, -1000000012, 0, [(0, 10)]), none, e1 .ireturn, e1 (.aload_n 0), eS (.getfield 12) 10 0 70, none, none, eG (.getfield 189) 7 2 2 18, none, none, 
  e1 (.iload_n 1), eV (.bipush 6) 2 6, none, eS (.invokevirtual 133) 94 2 18, none, none, e1 (.istore_n 2), e1 (.iload_n 2), some (.ldc 128, 2, 0, 0, -1000000005, 0, [(0, 6)]), none, eA (.if_icmp .ne 13) 3 62, none, none, 
  e1 (.aload_n 0), eS (.getfield 12) 10 0 70, none, none, eG (.getfield 143) 7 5 5 28, none, none, eA (.goto 4) 3 63, none, none, e1 (.iload_n 2), e1 (.aload_n 0), eS (.getfield 12) 10 0 70, none, none, 
  eG (.getfield 189) 7 2 2 18, none, none, e1 (.iload_n 1), eV (.iconst 3) 1 3, eS (.invokevirtual 133) 94 2 18, none, none, e1 .isub, e1 .ireturn]
set_option maxRecDepth 100000 in
def cd127 : Cd := [e1 (.aload_n 0), eS (.getfield 12) 10 0 70, none, none, eS (.getfield 92) 7 0 7, none, none, e1 (.iload_n 1), eS (.invokevirtual 111) 93 1 6, none, none, eA (.ifCond .eq 18) 3 29, none, none, e1 (.aload_n 0), 
  eG (.getfield 41) 10 5 5 75, none, none, e1 (.aload_n 0), eS (.getfield 12) 10 0 70, none, none, e1 (.iload_n 1), eS (.invokevirtual 209) 17 2 73, none, none, eA (.goto 5) 3 31, none, none, 
  some (.ldc 91, 2, 0, 0, -1000000001, 0, [(0, 0)]), none, e1 .ireturn]
set_option maxRecDepth 100000 in
def cd128 : Cd := [e1 (.aload_n 0), eG (.getfield 55) 10 7 7 77, none, none, eS (.invokevirtual 213) 101 0 83, none, none, eA (.ifCond .ne 6) 3 13, none, none, some (.ldc 102, 2, 0, 0, -1000000003, 0, [(0, 1)]), none, e1 .ireturn, 
  e1 (.aload_n 0), eG (.getfield 55) 10 7 7 77, none, none, e1 (.iload_n 1), eS (.invokevirtual 216) 102 1 84, none, none, e1 (.aload_n 0), eG (.getfield 55) 10 7 7 77, none, none, e1 (.iload_n 2), 
  eS (.invokevirtual 216) 102 1 84, none, none, e1 (.aload_n 0), eG (.getfield 55) 10 7 7 77, none, none, e1 (.iload_n 3), eS (.invokevirtual 216) 102 1 84, none, none, e1 (.aload_n 0), eG (.getfield 55) 10 7 7 77, none, 
  none, eS (.invokevirtual 219) 100 0 85, none, none, e1 .ireturn]
set_option maxRecDepth 100000 in
def cd129 : Cd := [e1 (.iload_n 1), e1 (.iconst 0), e1 (.aload_n 0), eG (.getfield 55) 10 7 7 77, none, none, eS (.invokevirtual 219) 100 0 85, none, none, eS (.invokestatic 87) 156 3 1, none, none, eA (.ifCond .ne 6) 3 18, none, none, 
  some (.ldc 91, 2, 0, 0, -1000000001, 0, [(0, 0)]), none, e1 .ireturn, e1 (.aload_n 0), eG (.getfield 55) 10 7 7 77, none, none, e1 (.iload_n 1), eS (.invokevirtual 222) 103 1 87, none, none, e1 (.iload_n 1), e1 .ireturn]
set_option maxRecDepth 100000 in
def cd130 : Cd := [e1 (.iload_n 1), e1 (.iconst 0), eV (.sipush 999) 3 999, none, none, eS (.invokestatic 87) 156 3 1, none, none, eA (.ifCond .ne 14) 3 22, none, none, e1 (.aload_n 0), eG (.getfield 55) 10 7 7 77, none, none, 
  e1 (.iconst 0), eS (.invokevirtual 222) 103 1 87, none, none, some (.ldc 91, 2, 0, 0, -1000000001, 0, [(0, 0)]), none, e1 .ireturn, e1 (.aload_n 0), eG (.getfield 64) 10 8 8 78, none, none, 
  eS (.invokevirtual 225) 27 0 89, none, none, e1 (.istore_n 2), e1 (.aload_n 0), eG (.getfield 55) 10 7 7 77, none, none, e1 (.iconst 0), eS (.invokevirtual 222) 103 1 87, none, none, e1 (.iload_n 2), 
  some (.ldc 128, 2, 0, 0, -1000000005, 0, [(0, 6)]), none, eA (.if_icmp .eq 8) 3 49, none, none, eV (.bipush (-100)) 2 (-100), none, e1 (.iload_n 2), e1 .isub, e1 .ireturn, e1 (.aload_n 0), eS (.getfield 12) 10 0 70, none, 
  none, eG (.getfield 228) 7 3 3 21, none, none, eS (.invokevirtual 96) 92 0 2, none, none, eA (.ifCond .eq 6) 3 65, none, none, some (.ldc 102, 2, 0, 0, -1000000003, 0, [(0, 1)]), none, e1 .ireturn, e1 (.aload_n 0), 
  eS (.getfield 12) 10 0 70, none, none, eG (.getfield 228) 7 3 3 21, none, none, eS (.invokevirtual 103) 98 0 3, none, none, e1 (.istore_n 3), e1 (.aload_n 0), eS (.getfield 12) 10 0 70, none, none, 
  eG (.getfield 228) 7 3 3 21, none, none, e1 (.iload_n 3), eV (.iconst 1) 1 1, e1 (.iload_n 1), eS (.invokevirtual 107) 95 3 4, none, none, e1 (.aload_n 0), eG (.getfield 64) 10 8 8 78, none, none, e1 (.aload_n 0), 
  eS (.getfield 12) 10 0 70, none, none, eG (.getfield 228) 7 3 3 21, none, none, e1 (.iload_n 3), eS (.invokevirtual 231) 28 2 115, none, none, e1 (.iload_n 3), e1 .ireturn]
set_option maxRecDepth 100000 in
def cd131 : Cd := [e1 (.aload_n 0), eS (.getfield 12) 10 0 70, none, none, eG (.getfield 228) 7 3 3 21, none, none, e1 (.iload_n 1), eS (.invokevirtual 111) 93 1 6, none, none, eA (.ifCond .eq 12) 3 23, none, none, e1 (.iload_n 2), 
  e1 (.iconst 0), eV (.iconst 2) 1 2, eS (.invokestatic 87) 156 3 1, none, none, eA (.ifCond .ne 6) 3 26, none, none, some (.ldc 91, 2, 0, 0, -1000000001, 0, [(0, 0)]), none, e1 .ireturn, e1 (.aload_n 0), 
  eS (.getfield 12) 10 0 70, none, none, eG (.getfield 228) 7 3 3 21, none, none, e1 (.iload_n 1), e1 (.iload_n 2), eS (.invokevirtual 133) 94 2 18, none, none, e1 .ireturn]
set_option maxRecDepth 100000 in
def cd132 : Cd := [e1 (.iload_n 1), e1 (.iconst 0), eV (.iconst 5) 1 5, eS (.invokestatic 87) 156 3 1, none, none, eA (.ifCond .eq 14) 3 20, none, none, e1 (.aload_n 0), eS (.getfield 12) 10 0 70, none, none, e1 (.iload_n 1), 
  eS (.invokevirtual 235) 83 1 121, none, none, eA (.goto 5) 3 22, none, none, some (.ldc 91, 2, 0, 0, -1000000001, 0, [(0, 0)]), none, e1 .ireturn]
set_option maxRecDepth 100000 in
def cd133 : Cd := [e1 (.iload_n 1), e1 (.iconst 0), eV (.iconst 5) 1 5, eS (.invokestatic 87) 156 3 1, none, none, eA (.ifCond .eq 22) 3 28, none, none, e1 (.aload_n 0), eG (.getfield 25) 10 3 3 73, none, none, e1 (.aload_n 0), 
  eS (.getfield 12) 10 0 70, none, none, e1 (.iload_n 1), e1 (.iload_n 2), e1 (.iload_n 3), e2 (.iload 4), none, eS (.invokevirtual 238) 48 5 123, none, none, eA (.goto 5) 3 30, none, none, 
  some (.ldc 91, 2, 0, 0, -1000000001, 0, [(0, 0)]), none, e1 .ireturn]
set_option maxRecDepth 100000 in
def cd134 : Cd := [e1 (.aload_n 0), eS (.getfield 12) 10 0 70, none, none, eG (.getfield 136) 7 1 1 14, none, none, e1 (.iload_n 1), eS (.invokevirtual 111) 93 1 6, none, none, eA (.ifCond .ne 6) 3 17, none, none, 
  some (.ldc 91, 2, 0, 0, -1000000001, 0, [(0, 0)]), none, e1 .ireturn, e1 (.aload_n 0), eS (.getfield 12) 10 0 70, none, none, e1 (.iload_n 1), eS (.invokevirtual 180) 62 1 55, none, none, eA (.ifCond .eq 6) 3 31, none, 
  none, some (.ldc 159, 2, 0, 0, -1000000002, 0, [(0, 8)]), none, e1 .ireturn, e1 (.aload_n 0), eG (.getfield 25) 10 3 3 73, none, none, e1 (.aload_n 0), eS (.getfield 12) 10 0 70, none, none, e1 (.iload_n 1), 
  e1 (.iconst 0), eS (.invokevirtual 242) 52 3 133, none, none, e1 (.istore_n 2), e1 (.aload_n 0), eG (.getfield 25) 10 3 3 73, none, none, e1 (.aload_n 0), eS (.getfield 12) 10 0 70, none, none, e1 (.iload_n 1), 
  eV (.iconst 1) 1 1, eS (.invokevirtual 242) 52 3 133, none, none, e1 (.istore_n 3), e1 (.aload_n 0), eG (.getfield 25) 10 3 3 73, none, none, e1 (.aload_n 0), eS (.getfield 12) 10 0 70, none, none, e1 (.iload_n 1), 
  eV (.iconst 2) 1 2, eS (.invokevirtual 242) 52 3 133, none, none, e2 (.istore 4), none, e1 (.aload_n 0), eS (.getfield 12) 10 0 70, none, none, eG (.getfield 136) 7 1 1 14, none, none, e1 (.iload_n 1), eV (.iconst 3) 1 3, 
  e1 (.aload_n 0), eS (.getfield 12) 10 0 70, none, none, eG (.getfield 136) 7 1 1 14, none, none, e1 (.iload_n 1), eV (.iconst 3) 1 3, eS (.invokevirtual 133) 94 2 18, none, none, e1 (.iload_n 2), e1 .isub, 
  eS (.invokevirtual 107) 95 3 4, none, none, e1 (.aload_n 0), eS (.getfield 12) 10 0 70, none, none, e1 (.iload_n 1), eV (.iconst 5) 1 5, e1 (.iload_n 3), eS (.invokevirtual 246) 84 3 135, none, none, e1 (.aload_n 0), 
  eS (.getfield 12) 10 0 70, none, none, e1 (.iload_n 1), eV (.iconst 4) 1 4, e2 (.iload 4), none, eS (.invokevirtual 246) 84 3 135, none, none, e1 (.aload_n 0), eS (.getfield 12) 10 0 70, none, none, 
  eG (.getfield 136) 7 1 1 14, none, none, e1 (.iload_n 1), eV (.bipush 10) 2 10, none, e1 (.iconst 0), eS (.invokevirtual 107) 95 3 4, none, none, e2 (.iload 4), none, e1 .ireturn]
set_option maxRecDepth 100000 in
def cd135 : Cd := [e1 (.aload_n 0), eS (.getfield 12) 10 0 70, none, none, eG (.getfield 136) 7 1 1 14, none, none, e1 (.iload_n 1), eS (.invokevirtual 111) 93 1 6, none, none, eA (.ifCond .eq 12) 3 23, none, none, e1 (.iload_n 2), 
  e1 (.iconst 0), eV (.iconst 2) 1 2, eS (.invokestatic 87) 156 3 1, none, none, eA (.ifCond .ne 6) 3 26, none, none, some (.ldc 91, 2, 0, 0, -1000000001, 0, [(0, 0)]), none, e1 .ireturn, e1 (.aload_n 0), 
  eS (.getfield 12) 10 0 70, none, none, e1 (.iload_n 1), eS (.invokevirtual 180) 62 1 55, none, none, eA (.ifCond .eq 8) 3 42, none, none, some (.ldc 159, 2, 0, 0, -1000000002, 0, [(0, 8)]), none, eA (.goto 16) 3 55, none, 
  none, e1 (.aload_n 0), eG (.getfield 25) 10 3 3 73, none, none, e1 (.aload_n 0), eS (.getfield 12) 10 0 70, none, none, e1 (.iload_n 1), e1 (.iload_n 2), eS (.invokevirtual 242) 52 3 133, none, none, e1 .ireturn]
set_option maxRecDepth 100000 in
def cd136 : Cd := [e1 (.aload_n 0), e1 (.iload_n 1), eS (.invokevirtual 249) 138 1 138, none, none, e1 (.istore_n 2), e1 (.iload_n 2), eA (.ifCond .eq 5) 3 12, none, none, e1 (.iload_n 2), e1 .ireturn, e1 (.aload_n 0), 
  eS (.getfield 12) 10 0 70, none, none, eG (.getfield 136) 7 1 1 14, none, none, e1 (.iload_n 1), eV (.bipush 6) 2 6, none, eS (.invokevirtual 133) 94 2 18, none, none, e1 (.istore_n 3), e1 (.iload_n 3), e1 (.aload_n 0), 
  eS (.getfield 12) 10 0 70, none, none, eG (.getfield 136) 7 1 1 14, none, none, e1 (.iload_n 1), eV (.bipush 13) 2 13, none, eS (.invokevirtual 133) 94 2 18, none, none, e1 .isub, e2 (.istore 4), none, e1 (.aload_n 0), 
  eG (.getfield 25) 10 3 3 73, none, none, e1 (.aload_n 0), eS (.getfield 12) 10 0 70, none, none, eV (.iconst 5) 1 5, e2 (.iload 4), none, e1 (.aload_n 0), eS (.getfield 12) 10 0 70, none, none, 
  eG (.getfield 136) 7 1 1 14, none, none, e1 (.iload_n 1), eV (.iconst 1) 1 1, eS (.invokevirtual 133) 94 2 18, none, none, e1 (.iconst 0), eS (.invokevirtual 238) 48 5 123, none, none, e2 (.istore 5), none, e2 (.iload 5), 
  none, eV (.bipush 99) 2 99, none, eS (.invokestatic 252) 1002 2 14, none, none, e2 (.istore 6), none, e1 (.aload_n 0), eS (.getfield 12) 10 0 70, none, none, eG (.getfield 136) 7 1 1 14, none, none, e1 (.iload_n 1), 
  eV (.bipush 13) 2 13, none, e1 (.iload_n 3), eS (.invokevirtual 107) 95 3 4, none, none, e2 (.iload 6), none, eA (.ifCond .le 14) 3 111, none, none, e1 (.aload_n 0), eS (.getfield 12) 10 0 70, none, none, e1 (.iload_n 1), 
  e2 (.iload 6), none, eS (.invokevirtual 257) 85 2 139, none, none, e1 .pop, e2 (.iload 6), none, e1 .ireturn]
set_option maxRecDepth 100000 in
def cd137 : Cd := [e1 (.iload_n 2), eV (.iconst 1) 1 1, eV (.bipush 99) 2 99, none, eS (.invokestatic 87) 156 3 1, none, none, eA (.ifCond .ne 6) 3 13, none, none, some (.ldc 91, 2, 0, 0, -1000000001, 0, [(0, 0)]), none, e1 .ireturn, 
  e1 (.aload_n 0), e1 (.iload_n 1), eS (.invokevirtual 249) 138 1 138, none, none, e1 (.istore_n 3), e1 (.iload_n 3), eA (.ifCond .eq 7) 3 27, none, none, e1 (.iload_n 3), eA (.goto 13) 3 37, none, none, e1 (.aload_n 0), 
  eS (.getfield 12) 10 0 70, none, none, e1 (.iload_n 1), e1 (.iload_n 2), e1 .ineg, eS (.invokevirtual 257) 85 2 139, none, none, e1 .ireturn]
set_option maxRecDepth 100000 in
def cd138 : Cd := [e1 (.aload_n 0), eS (.getfield 12) 10 0 70, none, none, eG (.getfield 136) 7 1 1 14, none, none, e1 (.iload_n 1), eS (.invokevirtual 111) 93 1 6, none, none, eA (.ifCond .ne 6) 3 17, none, none, 
  some (.ldc 91, 2, 0, 0, -1000000001, 0, [(0, 0)]), none, e1 .ireturn, e1 (.aload_n 0), eS (.getfield 12) 10 0 70, none, none, e1 (.iload_n 1), eS (.invokevirtual 180) 62 1 55, none, none, eA (.ifCond .eq 6) 3 31, none, 
  none, some (.ldc 159, 2, 0, 0, -1000000002, 0, [(0, 8)]), none, e1 .ireturn, e1 (.aload_n 0), eS (.getfield 12) 10 0 70, none, none, eG (.getfield 260) 7 4 4 23, none, none, eS (.invokevirtual 96) 92 0 2, none, none, 
  eA (.ifCond .eq 8) 3 49, none, none, some (.ldc 102, 2, 0, 0, -1000000003, 0, [(0, 1)]), none, eA (.goto 4) 3 50, none, none, e1 (.iconst 0), e1 .ireturn]
set_option maxRecDepth 100000 in
def cd139 : Cd := [e1 (.aload_n 0), eS (.getfield 12) 10 0 70, none, none, eG (.getfield 260) 7 4 4 23, none, none, e1 (.iload_n 1), eS (.invokevirtual 111) 93 1 6, none, none, eA (.ifCond .ne 6) 3 17, none, none, 
  some (.ldc 91, 2, 0, 0, -1000000001, 0, [(0, 0)]), none, e1 .ireturn, e1 (.aload_n 0), eS (.getfield 12) 10 0 70, none, none, eG (.getfield 260) 7 4 4 23, none, none, e1 (.iload_n 1), eV (.iconst 1) 1 1, 
  eS (.invokevirtual 133) 94 2 18, none, none, eA (.ifCond .lt 6) 3 35, none, none, some (.ldc 195, 2, 0, 0, -1000000012, 0, [(0, 10)]), none, e1 .ireturn, e1 (.aload_n 0), eS (.getfield 12) 10 0 70, none, none, 
  eG (.getfield 260) 7 4 4 23, none, none, e1 (.iload_n 1), eV (.iconst 3) 1 3, eS (.invokevirtual 133) 94 2 18, none, none, some (.ldc 128, 2, 0, 0, -1000000005, 0, [(0, 6)]), none, eA (.if_icmp .ne 25) 3 74, none, none, 
  e1 (.aload_n 0), eS (.getfield 12) 10 0 70, none, none, e1 (.aload_n 0), eS (.getfield 12) 10 0 70, none, none, eG (.getfield 260) 7 4 4 23, none, none, e1 (.iload_n 1), e1 (.iconst 0), eS (.invokevirtual 133) 94 2 18, 
  none, none, eS (.invokevirtual 180) 62 1 55, none, none, eA (.ifCond .eq 6) 3 77, none, none, some (.ldc 159, 2, 0, 0, -1000000002, 0, [(0, 8)]), none, e1 .ireturn, e1 (.aload_n 0), eS (.getfield 12) 10 0 70, none, none, 
  eG (.getfield 260) 7 4 4 23, none, none, e1 (.iload_n 1), eV (.iconst 3) 1 3, e1 (.aload_n 0), eS (.getfield 12) 10 0 70, none, none, eG (.getfield 143) 7 5 5 28, none, none, eS (.invokevirtual 107) 95 3 4, none, none, 
  eV (.iconst 1) 1 1, e1 .ireturn]
set_option maxRecDepth 100000 in
def cd140 : Cd := [e1 (.aload_n 0), eS (.getfield 12) 10 0 70, none, none, eG (.getfield 260) 7 4 4 23, none, none, e1 (.iload_n 1), eS (.invokevirtual 111) 93 1 6, none, none, eA (.ifCond .eq 12) 3 23, none, none, e1 (.iload_n 2), 
  e1 (.iconst 0), eV (.iconst 3) 1 3, eS (.invokestatic 87) 156 3 1, none, none, eA (.ifCond .ne 6) 3 26, none, none, some (.ldc 91, 2, 0, 0, -1000000001, 0, [(0, 0)]), none, e1 .ireturn, e1 (.aload_n 0), 
  eS (.getfield 12) 10 0 70, none, none, eG (.getfield 260) 7 4 4 23, none, none, e1 (.iload_n 1), e1 (.iload_n 2), eS (.invokevirtual 133) 94 2 18, none, none, e1 .ireturn]
set_option maxRecDepth 100000 in
def cd141 : Cd := [e1 (.aload_n 0), eS (.getfield 12) 10 0 70, none, none, eG (.getfield 136) 7 1 1 14, none, none, e1 (.iload_n 1), eS (.invokevirtual 111) 93 1 6, none, none, eA (.ifCond .eq 14) 3 25, none, none, e1 (.iload_n 2), 
  e1 (.iconst 0), eV (.sipush 999) 3 999, none, none, eS (.invokestatic 87) 156 3 1, none, none, eA (.ifCond .ne 6) 3 28, none, none, some (.ldc 91, 2, 0, 0, -1000000001, 0, [(0, 0)]), none, e1 .ireturn, e1 (.aload_n 0), 
  eS (.getfield 12) 10 0 70, none, none, e1 (.iload_n 1), e1 (.iload_n 2), eS (.invokevirtual 263) 86 2 145, none, none, e1 .ireturn]
set_option maxRecDepth 100000 in
def cd142 : Cd := [e1 (.iload_n 1), eV (.iconst 1) 1 1, eV (.bipush 60) 2 60, none, eS (.invokestatic 87) 156 3 1, none, none, eA (.ifCond .ne 6) 3 13, none, none, some (.ldc 91, 2, 0, 0, -1000000001, 0, [(0, 0)]), none, e1 .ireturn, 
  e1 (.aload_n 0), eS (.getfield 12) 10 0 70, none, none, eG (.getfield 143) 7 5 5 28, none, none, e1 (.iload_n 1), e1 .iadd, eV (.sipush 999) 3 999, none, none, eA (.if_icmp .le 6) 3 31, none, none, 
  some (.ldc 102, 2, 0, 0, -1000000003, 0, [(0, 1)]), none, e1 .ireturn, e1 (.iconst 0), e1 (.istore_n 2), e1 (.iload_n 2), e1 (.iload_n 1), eA (.if_icmp .ge 20) 3 55, none, none, e1 (.aload_n 0), 
  eG (.getfield 34) 10 4 4 74, none, none, e1 (.aload_n 0), eS (.getfield 12) 10 0 70, none, none, eS (.invokevirtual 266) 0 1 148, none, none, eV (.iinc 2 1) 3 1, none, none, eA (.goto (-19)) 3 33, none, none, 
  e1 (.aload_n 0), eS (.getfield 12) 10 0 70, none, none, eG (.getfield 143) 7 5 5 28, none, none, e1 .ireturn]
set_option maxRecDepth 100000 in
def cd143 : Cd := [e1 (.iload_n 1), e1 (.iconst 0), eG (.ldc_w 269) 0 0 65535 16, none, none, eS (.invokestatic 87) 156 3 1, none, none, eA (.ifCond .ne 6) 3 14, none, none, some (.ldc 91, 2, 0, 0, -1000000001, 0, [(0, 0)]), none, 
  e1 .ireturn, e1 (.aload_n 0), eS (.getfield 12) 10 0 70, none, none, eG (.getfield 270) 7 6 6 30, none, none, e1 (.istore_n 2), e1 (.aload_n 0), eS (.getfield 12) 10 0 70, none, none, e1 (.iload_n 1), 
  eG (.putfield 270) 7 6 6 30, none, none, e1 (.iload_n 2), e1 .ireturn]
set_option maxRecDepth 100000 in
def cd144 : Cd := [e1 (.iload_n 1), eV (.iconst 1) 1 1, eV (.bipush 10) 2 10, none, eS (.invokestatic 87) 156 3 1, none, none, eA (.ifCond .ne 6) 3 13, none, none, some (.ldc 91, 2, 0, 0, -1000000001, 0, [(0, 0)]), none, e1 .ireturn, 
  e1 (.aload_n 0), eS (.getfield 12) 10 0 70, none, none, eS (.invokevirtual 273) 63 0 166, none, none, e1 (.istore_n 2), e1 (.iload_n 2), e1 (.istore_n 3), e1 (.iconst 0), e2 (.istore 4), none, e2 (.iload 4), none, 
  e1 (.iload_n 1), eA (.if_icmp .ge 28) 3 57, none, none, e1 (.iload_n 3), eA (.ifCond .eq 24) 3 57, none, none, e1 (.iload_n 3), eV (.iconst 1) 1 1, e1 (.aload_n 0), eS (.getfield 12) 10 0 70, none, none, e1 (.iload_n 3), 
  eS (.invokevirtual 276) 88 1 167, none, none, e1 .ishl, eV (.iconst (-1)) 1 (-1), e1 .ixor, e1 .iand, e1 (.istore_n 3), eV (.iinc 4 1) 3 1, none, none, eA (.goto (-28)) 3 26, none, none, e1 (.iload_n 2), e1 (.iload_n 3), 
  eV (.iconst (-1)) 1 (-1), e1 .ixor, e1 .iand, e1 .ireturn]
set_option maxRecDepth 100000 in
def cd145 : Cd := [e1 (.aload_n 0), eG (.getfield 71) 10 9 9 79, none, none, e1 (.iload_n 1), e1 (.iload_n 2), e1 (.iload_n 3), eS (.invokevirtual 279) 53 3 169, none, none, e1 .ireturn]
set_option maxRecDepth 100000 in
def cd146 : Cd := [e1 (.aload_n 0), eG (.getfield 71) 10 9 9 79, none, none, e1 (.iload_n 1), e1 (.iload_n 2), e1 (.iconst 0), e1 (.iload_n 3), eS (.invokevirtual 282) 54 4 172, none, none, e1 .ireturn]
set_option maxRecDepth 100000 in
def cd147 : Cd := [e1 (.aload_n 0), eG (.getfield 71) 10 9 9 79, none, none, e1 (.iload_n 1), e1 (.iload_n 2), eV (.sipush 1000) 3 1000, none, none, e1 (.iload_n 3), eS (.invokevirtual 282) 54 4 172, none, none, e1 .ireturn]
set_option maxRecDepth 100000 in
def cd148 : Cd := [e1 (.aload_n 0), eG (.getfield 71) 10 9 9 79, none, none, e1 (.iload_n 1), e1 (.iload_n 2), e1 (.iload_n 3), e2 (.iload 4), none, e2 (.iload 5), none, eS (.invokevirtual 286) 55 5 177, none, none, e1 .ireturn]
set_option maxRecDepth 100000 in
def cd149 : Cd := [e1 (.aload_n 0), eG (.getfield 71) 10 9 9 79, none, none, e1 (.iload_n 1), eS (.invokevirtual 290) 56 1 180, none, none, e1 .ireturn]
set_option maxRecDepth 100000 in
def cd150 : Cd := [e1 (.aload_n 0), eG (.getfield 79) 10 11 11 81, none, none, e1 (.aload_n 0), eG (.getfield 75) 10 10 10 80, none, none, e1 .arraylength, eA (.if_icmp .lt 6) 3 15, none, none, 
  some (.ldc 102, 2, 0, 0, -1000000003, 0, [(0, 1)]), none, e1 .ireturn, e1 (.aload_n 0), eG (.getfield 75) 10 10 10 80, none, none, e1 (.aload_n 0), eG (.getfield 79) 10 11 11 81, none, none, e1 (.iload_n 1), e1 .iastore, 
  e1 (.aload_n 0), e1 .dup, eG (.getfield 79) 10 11 11 81, none, none, eV (.iconst 1) 1 1, e1 .iadd, eG (.putfield 79) 10 11 11 81, none, none, e1 (.aload_n 0), eG (.getfield 79) 10 11 11 81, none, none, e1 .ireturn]
set_option maxRecDepth 100000 in
def cd151 : Cd := [e1 (.aload_n 0), eG (.getfield 79) 10 11 11 81, none, none, e1 (.istore_n 2), e1 (.aload_n 0), e1 (.iconst 0), eG (.putfield 79) 10 11 11 81, none, none, e1 (.iload_n 1), eV (.iconst 1) 1 1, eV (.bipush 30) 2 30, none, 
  eS (.invokestatic 87) 156 3 1, none, none, eA (.ifCond .ne 6) 3 23, none, none, some (.ldc 91, 2, 0, 0, -1000000001, 0, [(0, 0)]), none, e1 .ireturn, e1 (.aload_n 0), eG (.getfield 83) 10 12 12 82, none, none, 
  eA (.ifCond .ne 6) 3 33, none, none, some (.ldc 159, 2, 0, 0, -1000000002, 0, [(0, 8)]), none, e1 .ireturn, e1 (.aload_n 0), eG (.getfield 19) 10 2 2 72, none, none, e1 (.aload_n 0), eG (.getfield 16) 10 1 1 71, none, 
  none, eS (.invokevirtual 293) 61 1 183, none, none, e1 (.iconst 0), e1 (.istore_n 3), e1 (.iload_n 3), e1 (.iload_n 1), eA (.if_icmp .ge 70) 3 118, none, none, e1 (.aload_n 0), eG (.getfield 34) 10 4 4 74, none, none, 
  e1 (.aload_n 0), eG (.getfield 19) 10 2 2 72, none, none, eS (.invokevirtual 266) 0 1 148, none, none, e1 (.aload_n 0), eV (.iconst 2) 1 2, e1 (.iload_n 3), e1 .imul, e1 (.iload_n 2), e1 (.aload_n 0), 
  eG (.getfield 19) 10 2 2 72, none, none, eS (.invokevirtual 296) 89 0 185, none, none, eS (.invokevirtual 299) 152 3 186, none, none, eA (.ifCond .ne 9) 3 86, none, none, eV (.iconst 1) 1 1, eV (.iconst 2) 1 2, 
  e1 (.iload_n 3), e1 .imul, e1 .iadd, e1 .ireturn, e1 (.aload_n 0), eV (.iconst 2) 1 2, e1 (.iload_n 3), e1 .imul, eV (.iconst 1) 1 1, e1 .iadd, e1 (.iload_n 2), e1 (.aload_n 0), eG (.getfield 19) 10 2 2 72, none, none, 
  eS (.invokevirtual 302) 90 0 187, none, none, eS (.invokevirtual 299) 152 3 186, none, none, eA (.ifCond .ne 9) 3 112, none, none, eV (.iconst 2) 1 2, eV (.iconst 2) 1 2, e1 (.iload_n 3), e1 .imul, e1 .iadd, e1 .ireturn, 
  eV (.iinc 3 1) 3 1, none, none, eA (.goto (-69)) 3 46, none, none, e1 (.iload_n 2), eV (.iconst 2) 1 2, e1 (.iload_n 1), e1 .imul, eA (.if_icmp .le 11) 3 133, none, none, eV (.iconst 1) 1 1, eV (.iconst 2) 1 2, 
  e1 (.iload_n 1), e1 .imul, e1 .iadd, eA (.goto 4) 3 134, none, none, e1 (.iconst 0), e1 .ireturn]
set_option maxRecDepth 100000 in
def cd152 : Cd := [e1 (.iload_n 1), eA (.ifCond .lt 31) 3 32, none, none, e1 (.iload_n 1), e1 (.iload_n 2), eA (.if_icmp .ge 26) 3 32, none, none, e1 (.iload_n 1), e1 (.aload_n 0), eG (.getfield 75) 10 10 10 80, none, none, e1 .arraylength, 
  eA (.if_icmp .ge 17) 3 32, none, none, e1 (.aload_n 0), eG (.getfield 75) 10 10 10 80, none, none, e1 (.iload_n 1), e1 .iaload, e1 (.iload_n 3), eA (.if_icmp .ne 7) 3 32, none, none, eV (.iconst 1) 1 1, eA (.goto 4) 3 33, 
  none, none, e1 (.iconst 0), e1 .ireturn]
set_option maxRecDepth 100000 in
def cd153 : Cd := [e1 (.aload_n 0), eG (.getfield 16) 10 1 1 71, none, none, e1 (.aload_n 0), eS (.getfield 12) 10 0 70, none, none, eS (.invokevirtual 293) 61 1 183, none, none, e1 (.aload_n 0), eV (.iconst 1) 1 1, 
  eG (.putfield 83) 10 12 12 82, none, none, e1 (.aload_n 0), eS (.getfield 12) 10 0 70, none, none, eG (.getfield 143) 7 5 5 28, none, none, e1 .ireturn]
set_option maxRecDepth 100000 in
def cd154 : Cd := [e1 (.aload_n 0), eG (.getfield 83) 10 12 12 82, none, none, eA (.ifCond .ne 6) 3 10, none, none, some (.ldc 159, 2, 0, 0, -1000000002, 0, [(0, 8)]), none, e1 .ireturn, e1 (.aload_n 0), eS (.getfield 12) 10 0 70, none, 
  none, e1 (.aload_n 0), eG (.getfield 16) 10 1 1 71, none, none, eS (.invokevirtual 293) 61 1 183, none, none, e1 (.aload_n 0), eS (.getfield 12) 10 0 70, none, none, eG (.getfield 143) 7 5 5 28, none, none, e1 .ireturn]
set_option maxRecDepth 100000 in
def cd155 : Cd := [e1 (.iload_n 1), 
  some (.tableswitch 215 0 13 #[71, 82, 93, 115, 123, 134, 142, 153, 164, 169, 177, 185, 193, 204], 71, 216, 0, 0, 0, [(0, 72), (1, 83), (2, 94), (3, 116), (4, 124), (5, 135), (6, 143), (7, 154), (8, 165), (9, 170), (10, 178), (11, 186), (12, 194), (13, 205)]), 
  none, none, none, none, none, none, none, none, none, none, none, none, none, none, none, none, none, none, none, none, none, none, none, none, none, none, none, none, none, none, none, none, none, none, none, none, none, 
  none, none, none, none, none, none, none, none, none, none, none, none, none, none, none, none, none, none, none, none, none, none, none, none, none, none, none, none, none, none, none, none, none, e1 (.aload_n 0), 
  eS (.getfield 12) 10 0 70, none, none, eS (.getfield 92) 7 0 7, none, none, eS (.invokevirtual 164) 91 0 38, none, none, e1 .ireturn, e1 (.aload_n 0), eS (.getfield 12) 10 0 70, none, none, eG (.getfield 136) 7 1 1 14, 
  none, none, eS (.invokevirtual 164) 91 0 38, none, none, e1 .ireturn, e1 (.aload_n 0), eS (.getfield 12) 10 0 70, none, none, eG (.getfield 136) 7 1 1 14, none, none, eS (.invokevirtual 164) 91 0 38, none, none, 
  e1 (.aload_n 0), eS (.getfield 12) 10 0 70, none, none, eS (.invokevirtual 273) 63 0 166, none, none, eS (.invokestatic 123) 265 1 15, none, none, e1 .isub, e1 .ireturn, e1 (.aload_n 0), eS (.getfield 12) 10 0 70, none, 
  none, eS (.invokevirtual 305) 73 0 191, none, none, e1 .ireturn, e1 (.aload_n 0), eS (.getfield 12) 10 0 70, none, none, eG (.getfield 189) 7 2 2 18, none, none, eS (.invokevirtual 164) 91 0 38, none, none, e1 .ireturn, 
  e1 (.aload_n 0), eS (.getfield 12) 10 0 70, none, none, eS (.invokevirtual 308) 80 0 192, none, none, e1 .ireturn, e1 (.aload_n 0), eS (.getfield 12) 10 0 70, none, none, eG (.getfield 228) 7 3 3 21, none, none, 
  eS (.invokevirtual 164) 91 0 38, none, none, e1 .ireturn, e1 (.aload_n 0), eS (.getfield 12) 10 0 70, none, none, eG (.getfield 260) 7 4 4 23, none, none, eS (.invokevirtual 164) 91 0 38, none, none, e1 .ireturn, 
  e1 (.aload_n 0), eG (.getfield 79) 10 11 11 81, none, none, e1 .ireturn, e1 (.aload_n 0), eG (.getfield 55) 10 7 7 77, none, none, eS (.invokevirtual 219) 100 0 85, none, none, e1 .ireturn, e1 (.aload_n 0), 
  eS (.getfield 12) 10 0 70, none, none, eG (.getfield 143) 7 5 5 28, none, none, e1 .ireturn, e1 (.aload_n 0), eS (.getfield 12) 10 0 70, none, none, eG (.getfield 270) 7 6 6 30, none, none, e1 .ireturn, e1 (.aload_n 0), 
  eS (.getfield 12) 10 0 70, none, none, some (.ldc 128, 2, 0, 0, -1000000005, 0, [(0, 6)]), none, eV (.iconst 1) 1 1, eS (.invokevirtual 129) 76 2 16, none, none, e1 .ireturn, e1 (.aload_n 0), eS (.getfield 12) 10 0 70, 
  none, none, some (.ldc 128, 2, 0, 0, -1000000005, 0, [(0, 6)]), none, eV (.iconst 2) 1 2, eS (.invokevirtual 129) 76 2 16, none, none, e1 .ireturn, some (.ldc 91, 2, 0, 0, -1000000001, 0, [(0, 0)]), none, e1 .ireturn]
set_option maxRecDepth 100000 in
def cd156 : Cd := [e1 (.iload_n 0), e1 (.iload_n 1), eA (.if_icmp .lt 12) 3 14, none, none, e1 (.iload_n 0), e1 (.iload_n 2), eA (.if_icmp .gt 7) 3 14, none, none, eV (.iconst 1) 1 1, eA (.goto 4) 3 15, none, none, e1 (.iconst 0), 
  e1 .ireturn]
set_option maxRecDepth 100000 in
def cd157 : Cd := [e1 (.iload_n 0), eA (.ifCond .lt 13) 3 14, none, none, e1 (.iload_n 0), eV (.bipush 6) 2 6, none, eA (.if_icmp .ge 7) 3 14, none, none, eV (.iconst 1) 1 1, eA (.goto 4) 3 15, none, none, e1 (.iconst 0), e1 .ireturn]
set_option maxRecDepth 100000 in
def cd158 : Cd := [e1 (.iload_n 0), eA (.ifCond .lt 27) 3 28, none, none, e1 (.iload_n 0), eS (.getstatic 311) 1201 0 0, none, none, e1 .arraylength, eA (.if_icmp .ge 19) 3 28, none, none, e1 (.iload_n 0), eS (.getstatic 314) 1202 0 1, 
  none, none, e1 .arraylength, eA (.if_icmp .ge 11) 3 28, none, none, e1 (.iload_n 0), eS (.getstatic 317) 1203 0 2, none, none, e1 .arraylength, eA (.if_icmp .lt 5) 3 30, none, none, e1 (.iconst 0), e1 .ireturn, 
  e1 (.iload_n 1), eS (.getstatic 311) 1201 0 0, none, none, e1 (.iload_n 0), e1 .iaload, eS (.getstatic 314) 1202 0 1, none, none, e1 (.iload_n 0), e1 .iaload, eS (.invokestatic 87) 156 3 1, none, none, 
  eA (.ifCond .eq 20) 3 64, none, none, e1 (.iload_n 2), e1 (.iconst 0), eS (.getstatic 317) 1203 0 2, none, none, e1 (.iload_n 0), e1 .iaload, eS (.invokestatic 87) 156 3 1, none, none, eA (.ifCond .eq 7) 3 64, none, none, 
  eV (.iconst 1) 1 1, eA (.goto 4) 3 65, none, none, e1 (.iconst 0), e1 .ireturn]
set_option maxRecDepth 100000 in
def cd159 : Cd := [e1 (.lload_n 0), e1 (.lload_n 2), e1 .lcmp, eA (.ifCond .lt 14) 3 17, none, none, e1 (.lload_n 0), e2 (.lload 4), none, e1 .lcmp, eA (.ifCond .gt 7) 3 17, none, none, eV (.iconst 1) 1 1, eA (.goto 4) 3 18, none, none, 
  e1 (.iconst 0), e1 .ireturn]
set_option maxRecDepth 100000 in
def cd160 : Cd := [e1 (.iload_n 0), eA (.ifCond .ge 8) 3 9, none, none, some (.ldc 66, 2, 0, 0, -1000000005, 0, [(0, 26)]), none, eA (.goto 4) 3 10, none, none, e1 (.iload_n 0), e1 .ireturn]
set_option maxRecDepth 100000 in
def cd161 : Cd := [e1 (.iload_n 0), e1 (.iload_n 1), eA (.if_icmp .ge 7) 3 9, none, none, e1 (.iload_n 0), eA (.goto 4) 3 10, none, none, e1 (.iload_n 1), e1 .ireturn]
set_option maxRecDepth 100000 in
def cd162 : Cd := [e1 (.aload_n 0), eS (.getfield 7) 11 0 83, none, none, e1 (.iload_n 1), e1 .iaload, e1 (.istore_n 3), e1 (.aload_n 0), eS (.getfield 7) 11 0 83, none, none, e1 (.iload_n 1), e1 (.iload_n 2), e1 .iastore, e1 (.iload_n 3), 
  e1 .ireturn]
set_option maxRecDepth 100000 in
def cd163 : Cd := [eV (.bipush 10) 2 10, none, eV (.bipush 10) 2 10, none, e1 (.iload_n 1), e1 .imul, e1 .iadd, e1 .ireturn]
set_option maxRecDepth 100000 in
def cd164 : Cd := [eV (.bipush 40) 2 40, none, eV (.bipush 16) 2 16, none, e1 (.iload_n 1), e1 .imul, e1 .iadd, e1 .ireturn]
set_option maxRecDepth 100000 in
def cd165 : Cd := [eV (.sipush 300) 3 300, none, none, eV (.bipush 9) 2 9, none, e1 (.iload_n 1), e1 .imul, e1 .iadd, e1 .ireturn]
set_option maxRecDepth 100000 in
def cd166 : Cd := [eV (.sipush 600) 3 600, none, none, eV (.sipush 200) 3 200, none, none, e1 (.iload_n 1), e1 .imul, e1 .iadd, e1 .ireturn]
set_option maxRecDepth 100000 in
def cd167 : Cd := [eV (.sipush 3000) 3 3000, none, none, eV (.iconst 4) 1 4, e1 (.iload_n 1), e1 .imul, e1 .iadd, e1 .ireturn]
set_option maxRecDepth 100000 in
def cd168 : Cd := [e1 (.iload_n 1), e1 .i2l, e1 (.lconst 0), e1 (.aload_n 0), eS (.getfield 7) 11 0 83, none, none, eV (.iconst 1) 1 1, e1 .iaload, eV (.iconst 1) 1 1, e1 .isub, e1 .i2l, eS (.invokestatic 67) 159 3 194, none, none, 
  e1 .ireturn]
set_option maxRecDepth 100000 in
def cd169 : Cd := [e1 (.iload_n 1), e1 .i2l, e1 (.lconst 0), e1 (.aload_n 0), eS (.getfield 7) 11 0 83, none, none, eV (.iconst 2) 1 2, e1 .iaload, eV (.iconst 1) 1 1, e1 .isub, e1 .i2l, eS (.invokestatic 67) 159 3 194, none, none, 
  e1 .ireturn]
set_option maxRecDepth 100000 in
def cd170 : Cd := [e1 (.iload_n 1), e1 .i2l, e1 (.lconst 0), e1 (.aload_n 0), eS (.getfield 7) 11 0 83, none, none, eV (.iconst 3) 1 3, e1 .iaload, eV (.iconst 1) 1 1, e1 .isub, e1 .i2l, eS (.invokestatic 67) 159 3 194, none, none, 
  e1 .ireturn]
set_option maxRecDepth 100000 in
def cd171 : Cd := [e1 (.iload_n 1), e1 .i2l, e1 (.lconst 0), e1 (.aload_n 0), eS (.getfield 7) 11 0 83, none, none, eV (.iconst 4) 1 4, e1 .iaload, eV (.iconst 1) 1 1, e1 .isub, e1 .i2l, eS (.invokestatic 67) 159 3 194, none, none, 
  e1 .ireturn]
set_option maxRecDepth 100000 in
def cd172 : Cd := [e1 (.aload_n 0), eS (.getfield 7) 11 0 83, none, none, e1 (.aload_n 0), e1 (.iload_n 1), eS (.invokevirtual 71) 164 1 205, none, none, eV (.bipush 11) 2 11, none, e1 .iadd, e1 .iaload, eV (.iconst 1) 1 1, 
  eA (.if_icmp .ne 7) 3 21, none, none, eV (.iconst 1) 1 1, eA (.goto 4) 3 22, none, none, e1 (.iconst 0), e1 .ireturn]
set_option maxRecDepth 100000 in
def cd173 : Cd := [e1 (.aload_n 0), eS (.getfield 7) 11 0 83, none, none, e1 (.aload_n 0), e1 (.iload_n 1), eS (.invokevirtual 75) 165 1 203, none, none, e1 .iaload, e1 .i2l, some (.lconst 1, 1, 0, 0, 0, 1, []), 
  some (.ldc2_w 78, 3, 0, 0, 0, 3, [(0, 1)]), none, none, eS (.invokestatic 67) 159 3 194, none, none, e1 .ireturn]
set_option maxRecDepth 100000 in
def cd174 : Cd := [e1 (.aload_n 0), eS (.getfield 7) 11 0 83, none, none, e1 (.aload_n 0), e1 (.iload_n 1), eS (.invokevirtual 71) 164 1 205, none, none, e1 (.iload_n 2), e1 .iadd, some (.ldc 80, 2, 0, 0, 99999, 0, [(0, 29)]), none, 
  e1 (.aload_n 0), eS (.getfield 7) 11 0 83, none, none, e1 (.aload_n 0), e1 (.iload_n 1), eS (.invokevirtual 71) 164 1 205, none, none, e1 (.iload_n 2), e1 .iadd, e1 .iaload, e1 (.iload_n 3), e1 .iadd, 
  eS (.invokestatic 81) 161 2 264, none, none, e1 .iastore, e1 .return_]
set_option maxRecDepth 100000 in
def cd175 : Cd := [e1 (.iload_n 1), e1 .i2l, some (.lconst 1, 1, 0, 0, 0, 1, []), some (.ldc2_w 85, 3, 0, 0, 0, 5, [(0, 0)]), none, none, eS (.invokestatic 67) 159 3 194, none, none, eA (.ifCond .eq 27) 3 36, none, none, e1 (.iload_n 2), 
  e1 .i2l, e1 (.lconst 0), some (.ldc2_w 78, 3, 0, 0, 0, 3, [(0, 1)]), none, none, eS (.invokestatic 67) 159 3 194, none, none, eA (.ifCond .eq 15) 3 36, none, none, e1 (.iload_n 3), e1 .i2l, e1 (.lconst 0), 
  some (.ldc2_w 78, 3, 0, 0, 0, 3, [(0, 1)]), none, none, eS (.invokestatic 67) 159 3 194, none, none, eA (.ifCond .ne 6) 3 39, none, none, some (.ldc 87, 2, 0, 0, -1000000001, 0, [(0, 24)]), none, e1 .ireturn, 
  e1 (.aload_n 0), eS (.getfield 7) 11 0 83, none, none, eV (.iconst 1) 1 1, e1 .iaload, eV (.iconst 3) 1 3, eA (.if_icmp .ne 6) 3 52, none, none, some (.ldc 88, 2, 0, 0, -1000000003, 0, [(0, 25)]), none, e1 .ireturn, 
  e1 (.aload_n 0), e1 (.aload_n 0), eS (.getfield 7) 11 0 83, none, none, eV (.iconst 1) 1 1, e1 .iaload, eS (.invokevirtual 89) 163 1 195, none, none, e2 (.istore 4), none, e1 (.iconst 0), e2 (.istore 5), none, 
  e2 (.iload 5), none, eV (.bipush 10) 2 10, none, eA (.if_icmp .ge 20) 3 91, none, none, e1 (.aload_n 0), eS (.getfield 7) 11 0 83, none, none, e2 (.iload 4), none, e2 (.iload 5), none, e1 .iadd, e1 (.iconst 0), 
  e1 .iastore, eV (.iinc 5 1) 3 1, none, none, eA (.goto (-21)) 3 67, none, none, e1 (.aload_n 0), eS (.getfield 7) 11 0 83, none, none, e2 (.iload 4), none, e1 (.iconst 0), e1 .iadd, e1 (.iload_n 1), e1 .iastore, 
  e1 (.aload_n 0), eS (.getfield 7) 11 0 83, none, none, e2 (.iload 4), none, eV (.iconst 1) 1 1, e1 .iadd, e1 (.iload_n 2), e1 .iastore, e1 (.aload_n 0), eS (.getfield 7) 11 0 83, none, none, e2 (.iload 4), none, 
  eV (.iconst 2) 1 2, e1 .iadd, e1 (.iload_n 3), e1 .iastore, e1 (.aload_n 0), eS (.getfield 7) 11 0 83, none, none, e2 (.iload 4), none, eV (.iconst 3) 1 3, e1 .iadd, eV (.iconst 5) 1 5, e1 .iastore, e1 (.aload_n 0), 
  eS (.getfield 7) 11 0 83, none, none, eV (.iconst 1) 1 1, e1 .dup2, e1 .iaload, eV (.iconst 1) 1 1, e1 .iadd, e1 .iastore, e1 (.aload_n 0), eS (.getfield 7) 11 0 83, none, none, eV (.iconst 1) 1 1, e1 .iaload, 
  eV (.iconst 1) 1 1, e1 .isub, e1 .ireturn]
set_option maxRecDepth 100000 in
def cd176 : Cd := [e1 (.aload_n 0), e1 (.iload_n 1), eS (.invokevirtual 92) 168 1 197, none, none, eA (.ifCond .eq 30) 3 35, none, none, e1 (.iload_n 2), e1 .i2l, e1 (.lconst 0), some (.ldc2_w 96, 3, 0, 0, 0, 99, [(0, 2)]), none, none, 
  eS (.invokestatic 67) 159 3 194, none, none, eA (.ifCond .eq 18) 3 35, none, none, e1 (.aload_n 0), e1 (.aload_n 0), e1 (.iload_n 1), eS (.invokevirtual 89) 163 1 195, none, none, eV (.iconst 3) 1 3, e1 .iadd, 
  e1 (.iload_n 2), eS (.invokevirtual 98) 162 2 198, none, none, eA (.goto 5) 3 37, none, none, some (.ldc 87, 2, 0, 0, -1000000001, 0, [(0, 24)]), none, e1 .ireturn]
set_option maxRecDepth 100000 in
def cd177 : Cd := [e1 (.aload_n 0), e1 (.iload_n 1), eS (.invokevirtual 92) 168 1 197, none, none, eA (.ifCond .eq 30) 3 35, none, none, e1 (.iload_n 2), e1 .i2l, e1 (.lconst 0), some (.ldc2_w 96, 3, 0, 0, 0, 99, [(0, 2)]), none, none, 
  eS (.invokestatic 67) 159 3 194, none, none, eA (.ifCond .eq 18) 3 35, none, none, e1 (.aload_n 0), e1 (.aload_n 0), e1 (.iload_n 1), eS (.invokevirtual 89) 163 1 195, none, none, eV (.iconst 4) 1 4, e1 .iadd, 
  e1 (.iload_n 2), eS (.invokevirtual 98) 162 2 198, none, none, eA (.goto 5) 3 37, none, none, some (.ldc 87, 2, 0, 0, -1000000001, 0, [(0, 24)]), none, e1 .ireturn]
set_option maxRecDepth 100000 in
def cd178 : Cd := [e1 (.iconst 0), e1 (.istore_n 2), e1 (.iconst 0), e1 (.istore_n 3), e1 (.iload_n 3), e1 (.aload_n 0), eS (.getfield 7) 11 0 83, none, none, eV (.iconst 2) 1 2, e1 .iaload, eA (.if_icmp .ge 34) 3 45, none, none, 
  e1 (.iload_n 2), e1 (.aload_n 0), eS (.getfield 7) 11 0 83, none, none, e1 (.aload_n 0), e1 (.iload_n 3), eS (.invokevirtual 71) 164 1 205, none, none, eV (.bipush 8) 2 8, none, e1 .iadd, e1 .iaload, e1 (.iload_n 1), 
  eA (.if_icmp .ne 7) 3 36, none, none, eV (.iconst 1) 1 1, eA (.goto 4) 3 37, none, none, e1 (.iconst 0), e1 .iadd, e1 (.istore_n 2), eV (.iinc 3 1) 3 1, none, none, eA (.goto (-38)) 3 4, none, none, e1 (.iload_n 2), 
  e1 .ireturn]
set_option maxRecDepth 100000 in
def cd179 : Cd := [e1 (.iconst 0), e1 (.istore_n 3), e1 (.iconst 0), e2 (.istore 4), none, e2 (.iload 4), none, e1 (.aload_n 0), eS (.getfield 7) 11 0 83, none, none, eV (.iconst 3) 1 3, e1 .iaload, eA (.if_icmp .ge 64) 3 77, none, none, 
  e1 (.iload_n 3), e1 (.aload_n 0), e2 (.iload 4), none, eS (.invokevirtual 101) 173 1 202, none, none, eA (.ifCond .eq 45) 3 68, none, none, e1 (.aload_n 0), eS (.getfield 7) 11 0 83, none, none, e1 (.aload_n 0), 
  e2 (.iload 4), none, eS (.invokevirtual 75) 165 1 203, none, none, eV (.iconst 1) 1 1, e1 .iadd, e1 .iaload, e1 (.iload_n 1), eA (.if_icmp .ne 28) 3 68, none, none, e1 (.iload_n 2), eA (.ifCond .lt 20) 3 64, none, none, 
  e1 (.aload_n 0), eS (.getfield 7) 11 0 83, none, none, e1 (.aload_n 0), e2 (.iload 4), none, eS (.invokevirtual 75) 165 1 203, none, none, eV (.iconst 4) 1 4, e1 .iadd, e1 .iaload, e1 (.iload_n 2), 
  eA (.if_icmp .ne 7) 3 68, none, none, eV (.iconst 1) 1 1, eA (.goto 4) 3 69, none, none, e1 (.iconst 0), e1 .iadd, e1 (.istore_n 3), eV (.iinc 4 1) 3 1, none, none, eA (.goto (-69)) 3 5, none, none, e1 (.iload_n 3), 
  e1 .ireturn]
set_option maxRecDepth 100000 in
def cd180 : Cd := [e1 (.aload_n 0), e1 (.iload_n 1), eS (.invokevirtual 92) 168 1 197, none, none, eA (.ifCond .eq 15) 3 20, none, none, e1 (.iload_n 2), e1 .i2l, e1 (.lconst 0), some (.ldc2_w 104, 3, 0, 0, 0, 10, [(0, 3)]), none, none, 
  eS (.invokestatic 67) 159 3 194, none, none, eA (.ifCond .ne 6) 3 23, none, none, some (.ldc 87, 2, 0, 0, -1000000001, 0, [(0, 24)]), none, e1 .ireturn, e1 (.iload_n 2), eV (.bipush 8) 2 8, none, 
  eA (.if_icmp .lt 23) 3 49, none, none, e1 (.aload_n 0), e1 (.iload_n 1), e1 (.iload_n 2), eV (.bipush 8) 2 8, none, eA (.if_icmp .ne 7) 3 41, none, none, eV (.iconst (-1)) 1 (-1), eA (.goto 7) 3 45, none, none, 
  e1 (.iload_n 2), eV (.bipush 8) 2 8, none, e1 .isub, eS (.invokevirtual 106) 179 2 201, none, none, e1 .ireturn, e1 (.iload_n 2), eV (.iconst 5) 1 5, eA (.if_icmp .ne 11) 3 62, none, none, e1 (.aload_n 0), 
  e1 (.iload_n 1), eS (.invokevirtual 109) 178 1 204, none, none, eA (.goto 15) 3 74, none, none, e1 (.aload_n 0), eS (.getfield 7) 11 0 83, none, none, e1 (.aload_n 0), e1 (.iload_n 1), eS (.invokevirtual 89) 163 1 195, 
  none, none, e1 (.iload_n 2), e1 .iadd, e1 .iaload, e1 .ireturn]
set_option maxRecDepth 100000 in
def cd181 : Cd := [e1 (.iload_n 1), e1 .i2l, e1 (.lconst 0), some (.ldc2_w 78, 3, 0, 0, 0, 3, [(0, 1)]), none, none, eS (.invokestatic 67) 159 3 194, none, none, eA (.ifCond .eq 27) 3 36, none, none, e1 (.iload_n 2), e1 .i2l, 
  e1 (.lconst 0), some (.ldc2_w 78, 3, 0, 0, 0, 3, [(0, 1)]), none, none, eS (.invokestatic 67) 159 3 194, none, none, eA (.ifCond .eq 15) 3 36, none, none, e1 (.iload_n 3), e1 .i2l, some (.lconst 1, 1, 0, 0, 0, 1, []), 
  some (.ldc2_w 112, 3, 0, 0, 0, 999, [(0, 4)]), none, none, eS (.invokestatic 67) 159 3 194, none, none, eA (.ifCond .ne 6) 3 39, none, none, some (.ldc 87, 2, 0, 0, -1000000001, 0, [(0, 24)]), none, e1 .ireturn, 
  e1 (.aload_n 0), eS (.getfield 7) 11 0 83, none, none, eV (.iconst 2) 1 2, e1 .iaload, eV (.bipush 10) 2 10, none, eA (.if_icmp .ne 6) 3 53, none, none, some (.ldc 88, 2, 0, 0, -1000000003, 0, [(0, 25)]), none, 
  e1 .ireturn, e1 (.aload_n 0), e1 (.aload_n 0), eS (.getfield 7) 11 0 83, none, none, eV (.iconst 2) 1 2, e1 .iaload, eS (.invokevirtual 71) 164 1 205, none, none, e2 (.istore 4), none, e1 (.iconst 0), e2 (.istore 5), 
  none, e2 (.iload 5), none, eV (.bipush 16) 2 16, none, eA (.if_icmp .ge 20) 3 92, none, none, e1 (.aload_n 0), eS (.getfield 7) 11 0 83, none, none, e2 (.iload 4), none, e2 (.iload 5), none, e1 .iadd, e1 (.iconst 0), 
  e1 .iastore, eV (.iinc 5 1) 3 1, none, none, eA (.goto (-21)) 3 68, none, none, e1 (.aload_n 0), eS (.getfield 7) 11 0 83, none, none, e2 (.iload 4), none, e1 (.iconst 0), e1 .iadd, e1 (.iload_n 1), e1 .iastore, 
  e1 (.aload_n 0), eS (.getfield 7) 11 0 83, none, none, e2 (.iload 4), none, eV (.iconst 1) 1 1, e1 .iadd, e1 (.iload_n 2), e1 .iastore, e1 (.aload_n 0), eS (.getfield 7) 11 0 83, none, none, e2 (.iload 4), none, 
  eV (.iconst 2) 1 2, e1 .iadd, e1 (.iload_n 3), e1 .iastore, e1 (.aload_n 0), eS (.getfield 7) 11 0 83, none, none, e2 (.iload 4), none, eV (.bipush 8) 2 8, none, e1 .iadd, eV (.iconst (-1)) 1 (-1), e1 .iastore, 
  e1 (.aload_n 0), eS (.getfield 7) 11 0 83, none, none, e2 (.iload 4), none, eV (.bipush 9) 2 9, none, e1 .iadd, eV (.iconst (-1)) 1 (-1), e1 .iastore, e1 (.iconst 0), e2 (.istore 5), none, e2 (.iload 5), none, 
  eV (.bipush 10) 2 10, none, eA (.if_icmp .ge 53) 3 204, none, none, e1 (.aload_n 0), eS (.getfield 7) 11 0 83, none, none, eV (.sipush 200) 3 200, none, none, eV (.bipush 10) 2 10, none, e1 (.aload_n 0), 
  eS (.getfield 7) 11 0 83, none, none, eV (.iconst 2) 1 2, e1 .iaload, e1 .imul, e1 .iadd, e2 (.iload 5), none, e1 .iadd, e1 (.iconst 0), e1 .iastore, e1 (.aload_n 0), eS (.getfield 7) 11 0 83, none, none, 
  eV (.sipush 200) 3 200, none, none, eV (.bipush 10) 2 10, none, e2 (.iload 5), none, e1 .imul, e1 .iadd, e1 (.aload_n 0), eS (.getfield 7) 11 0 83, none, none, eV (.iconst 2) 1 2, e1 .iaload, e1 .iadd, e1 (.iconst 0), 
  e1 .iastore, eV (.iinc 5 1) 3 1, none, none, eA (.goto (-54)) 3 147, none, none, e1 (.aload_n 0), eS (.getfield 7) 11 0 83, none, none, eV (.iconst 2) 1 2, e1 .dup2, e1 .iaload, eV (.iconst 1) 1 1, e1 .iadd, e1 .iastore, 
  e1 (.aload_n 0), eS (.getfield 7) 11 0 83, none, none, eV (.iconst 2) 1 2, e1 .iaload, eV (.iconst 1) 1 1, e1 .isub, e1 .ireturn]
set_option maxRecDepth 100000 in
def cd182 : Cd := [e1 (.aload_n 0), e1 (.iload_n 1), eS (.invokevirtual 114) 169 1 208, none, none, eA (.ifCond .eq 15) 3 20, none, none, e1 (.iload_n 2), e1 .i2l, e1 (.lconst 0), some (.ldc2_w 117, 3, 0, 0, 0, 11, [(0, 5)]), none, none, 
  eS (.invokestatic 67) 159 3 194, none, none, eA (.ifCond .ne 6) 3 23, none, none, some (.ldc 87, 2, 0, 0, -1000000001, 0, [(0, 24)]), none, e1 .ireturn, e1 (.aload_n 0), eS (.getfield 7) 11 0 83, none, none, 
  e1 (.aload_n 0), e1 (.iload_n 1), eS (.invokevirtual 71) 164 1 205, none, none, e1 (.iload_n 2), e1 .iadd, e1 .iaload, e1 (.istore_n 3), e1 (.iload_n 2), eV (.bipush 8) 2 8, none, eA (.if_icmp .eq 9) 3 48, none, none, 
  e1 (.iload_n 2), eV (.bipush 9) 2 9, none, eA (.if_icmp .ne 10) 3 55, none, none, e1 (.iload_n 3), eS (.invokestatic 119) 160 1 209, none, none, eA (.goto 4) 3 56, none, none, e1 (.iload_n 3), e1 .ireturn]
set_option maxRecDepth 100000 in
def cd183 : Cd := [e1 (.aload_n 0), e1 (.iload_n 1), eS (.invokevirtual 114) 169 1 208, none, none, eA (.ifCond .ne 6) 3 11, none, none, some (.ldc 87, 2, 0, 0, -1000000001, 0, [(0, 24)]), none, e1 .ireturn, e1 (.iload_n 2), 
  eV (.bipush 9) 2 9, none, eA (.if_icmp .ne 54) 3 68, none, none, e1 (.iload_n 3), some (.ldc 66, 2, 0, 0, -1000000005, 0, [(0, 26)]), none, eA (.if_icmp .eq 21) 3 41, none, none, e1 (.iload_n 3), e1 .i2l, e1 (.aload_n 0), 
  eS (.getfield 7) 11 0 83, none, none, e1 (.iconst 0), e1 .iaload, e1 .i2l, some (.ldc2_w 112, 3, 0, 0, 0, 999, [(0, 4)]), none, none, eS (.invokestatic 67) 159 3 194, none, none, eA (.ifCond .eq 30) 3 68, none, none, 
  e1 (.aload_n 0), e1 (.aload_n 0), e1 (.iload_n 1), eS (.invokevirtual 71) 164 1 205, none, none, eV (.bipush 9) 2 9, none, e1 .iadd, e1 (.iload_n 3), some (.ldc 66, 2, 0, 0, -1000000005, 0, [(0, 26)]), none, 
  eA (.if_icmp .ne 7) 3 60, none, none, eV (.iconst (-1)) 1 (-1), eA (.goto 4) 3 61, none, none, e1 (.iload_n 3), eS (.invokevirtual 98) 162 2 198, none, none, eS (.invokestatic 119) 160 1 209, none, none, e1 .ireturn, 
  e1 (.iload_n 2), eA (.ifCond .eq 8) 3 77, none, none, e1 (.iload_n 2), eV (.iconst 1) 1 1, eA (.if_icmp .ne 15) 3 89, none, none, e1 (.iload_n 3), e1 .i2l, e1 (.lconst 0), some (.ldc2_w 78, 3, 0, 0, 0, 3, [(0, 1)]), none, 
  none, eS (.invokestatic 67) 159 3 194, none, none, eA (.ifCond .ne 20) 3 106, none, none, e1 (.iload_n 2), eV (.iconst 3) 1 3, eA (.if_icmp .ne 19) 3 110, none, none, e1 (.iload_n 3), e1 .i2l, e1 (.lconst 0), 
  some (.ldc2_w 122, 3, 0, 0, 0, 9999, [(0, 6)]), none, none, eS (.invokestatic 67) 159 3 194, none, none, eA (.ifCond .eq 7) 3 110, none, none, eV (.iconst 1) 1 1, eA (.goto 4) 3 111, none, none, e1 (.iconst 0), 
  e2 (.istore 4), none, e2 (.iload 4), none, eA (.ifCond .eq 18) 3 133, none, none, e1 (.aload_n 0), e1 (.aload_n 0), e1 (.iload_n 1), eS (.invokevirtual 71) 164 1 205, none, none, e1 (.iload_n 2), e1 .iadd, 
  e1 (.iload_n 3), eS (.invokevirtual 98) 162 2 198, none, none, eA (.goto 5) 3 135, none, none, some (.ldc 87, 2, 0, 0, -1000000001, 0, [(0, 24)]), none, e1 .ireturn]
set_option maxRecDepth 100000 in
def cd184 : Cd := [e1 (.aload_n 0), eS (.getfield 7) 11 0 83, none, none, eV (.sipush 200) 3 200, none, none, eV (.bipush 10) 2 10, none, e1 (.iload_n 1), e1 .imul, e1 .iadd, e1 (.iload_n 2), e1 .iadd, e1 .iaload, eV (.iconst 1) 1 1, 
  eA (.if_icmp .ne 7) 3 23, none, none, eV (.iconst 1) 1 1, eA (.goto 4) 3 24, none, none, e1 (.iconst 0), e1 .ireturn]
set_option maxRecDepth 100000 in
def cd185 : Cd := [e1 (.aload_n 0), e1 (.iload_n 1), eS (.invokevirtual 114) 169 1 208, none, none, eA (.ifCond .eq 26) 3 31, none, none, e1 (.aload_n 0), e1 (.iload_n 2), eS (.invokevirtual 114) 169 1 208, none, none, 
  eA (.ifCond .eq 18) 3 31, none, none, e1 (.iload_n 1), e1 (.iload_n 2), eA (.if_icmp .eq 13) 3 31, none, none, e1 (.iload_n 3), e1 .i2l, e1 (.lconst 0), some (.lconst 1, 1, 0, 0, 0, 1, []), 
  eS (.invokestatic 67) 159 3 194, none, none, eA (.ifCond .ne 6) 3 34, none, none, some (.ldc 87, 2, 0, 0, -1000000001, 0, [(0, 24)]), none, e1 .ireturn, e1 (.aload_n 0), eS (.getfield 7) 11 0 83, none, none, 
  eV (.sipush 200) 3 200, none, none, eV (.bipush 10) 2 10, none, e1 (.iload_n 2), e1 .imul, e1 .iadd, e1 (.iload_n 1), e1 .iadd, e1 (.iload_n 3), e1 .iastore, e1 (.aload_n 0), eV (.sipush 200) 3 200, none, none, 
  eV (.bipush 10) 2 10, none, e1 (.iload_n 1), e1 .imul, e1 .iadd, e1 (.iload_n 2), e1 .iadd, e1 (.iload_n 3), eS (.invokevirtual 98) 162 2 198, none, none, e1 .ireturn]
set_option maxRecDepth 100000 in
def cd186 : Cd := [e1 (.aload_n 0), e1 (.iload_n 1), eS (.invokevirtual 71) 164 1 205, none, none, e1 (.istore_n 3), e1 (.aload_n 0), e1 (.iload_n 2), eS (.invokevirtual 89) 163 1 195, none, none, e2 (.istore 4), none, e1 (.aload_n 0), 
  e1 (.iload_n 1), eS (.invokevirtual 124) 172 1 214, none, none, eA (.ifCond .ne 77) 3 95, none, none, e1 (.aload_n 0), eS (.getfield 7) 11 0 83, none, none, e1 (.iload_n 3), e1 (.iconst 0), e1 .iadd, e1 .iaload, 
  e1 (.aload_n 0), eS (.getfield 7) 11 0 83, none, none, e2 (.iload 4), none, eV (.iconst 1) 1 1, e1 .iadd, e1 .iaload, eA (.if_icmp .gt 57) 3 95, none, none, e1 (.aload_n 0), eS (.getfield 7) 11 0 83, none, none, 
  e1 (.iload_n 3), eV (.iconst 1) 1 1, e1 .iadd, e1 .iaload, e1 (.aload_n 0), eS (.getfield 7) 11 0 83, none, none, e2 (.iload 4), none, eV (.iconst 2) 1 2, e1 .iadd, e1 .iaload, eA (.if_icmp .lt 37) 3 95, none, none, 
  e1 (.aload_n 0), eS (.getfield 7) 11 0 83, none, none, e1 (.iload_n 3), eV (.bipush 9) 2 9, none, e1 .iadd, e1 .iaload, e1 (.aload_n 0), eS (.getfield 7) 11 0 83, none, none, e1 (.iconst 0), e1 .iaload, 
  eA (.if_icmp .eq 19) 3 95, none, none, e1 (.aload_n 0), eS (.getfield 7) 11 0 83, none, none, e2 (.iload 4), none, eV (.iconst 4) 1 4, e1 .iadd, e1 .iaload, eA (.ifCond .ne 7) 3 95, none, none, eV (.iconst 1) 1 1, 
  eA (.goto 4) 3 96, none, none, e1 (.iconst 0), e1 .ireturn]
set_option maxRecDepth 100000 in
def cd187 : Cd := [e1 (.aload_n 0), e1 (.iload_n 1), eS (.invokevirtual 114) 169 1 208, none, none, eA (.ifCond .eq 11) 3 16, none, none, e1 (.aload_n 0), e1 (.iload_n 2), eS (.invokevirtual 92) 168 1 197, none, none, 
  eA (.ifCond .ne 8) 3 21, none, none, some (.ldc 87, 2, 0, 0, -1000000001, 0, [(0, 24)]), none, eA (.goto 17) 3 35, none, none, e1 (.aload_n 0), e1 (.iload_n 1), e1 (.iload_n 2), eS (.invokevirtual 127) 186 2 213, none, 
  none, eA (.ifCond .eq 7) 3 34, none, none, eV (.iconst 1) 1 1, eA (.goto 4) 3 35, none, none, e1 (.iconst 0), e1 .ireturn]
set_option maxRecDepth 100000 in
def cd188 : Cd := [e1 (.aload_n 0), eS (.getfield 7) 11 0 83, none, none, e1 (.aload_n 0), e1 (.iload_n 1), eS (.invokevirtual 71) 164 1 205, none, none, eV (.bipush 8) 2 8, none, e1 .iadd, e1 .iaload, e1 (.iload_n 2), 
  eA (.if_icmp .ne 4) 3 18, none, none, e1 .return_, e1 (.aload_n 0), eS (.getfield 7) 11 0 83, none, none, e1 (.aload_n 0), e1 (.iload_n 1), eS (.invokevirtual 71) 164 1 205, none, none, eV (.bipush 8) 2 8, none, e1 .iadd, 
  e1 (.iload_n 2), e1 .iastore, e1 (.iconst 0), e1 (.istore_n 3), e1 (.iload_n 3), e1 (.aload_n 0), eS (.getfield 7) 11 0 83, none, none, eV (.iconst 3) 1 3, e1 .iaload, eA (.if_icmp .ge 62) 3 103, none, none, 
  e1 (.aload_n 0), e1 (.iload_n 3), eS (.invokevirtual 75) 165 1 203, none, none, e2 (.istore 4), none, e1 (.aload_n 0), eS (.getfield 7) 11 0 83, none, none, e2 (.iload 4), none, eV (.iconst 4) 1 4, e1 .iadd, e1 .iaload, 
  eV (.iconst 1) 1 1, eA (.if_icmp .ne 36) 3 97, none, none, e1 (.aload_n 0), eS (.getfield 7) 11 0 83, none, none, e2 (.iload 4), none, eV (.iconst 5) 1 5, e1 .iadd, e1 .iaload, e1 (.iload_n 1), eA (.if_icmp .ne 23) 3 97, 
  none, none, e1 (.aload_n 0), eS (.getfield 7) 11 0 83, none, none, e2 (.iload 4), none, eV (.iconst 4) 1 4, e1 .iadd, e1 (.iconst 0), e1 .iastore, e1 (.aload_n 0), eS (.getfield 7) 11 0 83, none, none, e2 (.iload 4), 
  none, eV (.iconst 5) 1 5, e1 .iadd, eV (.iconst (-1)) 1 (-1), e1 .iastore, eV (.iinc 3 1) 3 1, none, none, eA (.goto (-66)) 3 34, none, none, e1 .return_]
set_option maxRecDepth 100000 in
def cd189 : Cd := [e1 (.aload_n 0), e1 (.iload_n 1), eS (.invokevirtual 114) 169 1 208, none, none, eA (.ifCond .eq 17) 3 22, none, none, e1 (.iload_n 2), some (.ldc 66, 2, 0, 0, -1000000005, 0, [(0, 26)]), none, eA (.if_icmp .eq 14) 3 25, 
  none, none, e1 (.aload_n 0), e1 (.iload_n 2), eS (.invokevirtual 92) 168 1 197, none, none, eA (.ifCond .ne 6) 3 25, none, none, some (.ldc 87, 2, 0, 0, -1000000001, 0, [(0, 24)]), none, e1 .ireturn, e1 (.aload_n 0), 
  eS (.getfield 7) 11 0 83, none, none, e1 (.aload_n 0), e1 (.iload_n 1), eS (.invokevirtual 71) 164 1 205, none, none, eV (.bipush 8) 2 8, none, e1 .iadd, e1 .iaload, e1 (.istore_n 3), e1 (.iload_n 2), 
  some (.ldc 66, 2, 0, 0, -1000000005, 0, [(0, 26)]), none, eA (.if_icmp .eq 136) 3 178, none, none, e1 (.iconst 0), e2 (.istore 4), none, e1 (.iconst 0), e2 (.istore 5), none, e1 (.iconst 0), e2 (.istore 6), none, 
  e2 (.iload 6), none, e1 (.aload_n 0), eS (.getfield 7) 11 0 83, none, none, eV (.iconst 2) 1 2, e1 .iaload, eA (.if_icmp .ge 82) 3 144, none, none, e2 (.iload 6), none, e1 (.iload_n 1), eA (.if_icmp .eq 25) 3 93, none, 
  none, e1 (.aload_n 0), eS (.getfield 7) 11 0 83, none, none, e1 (.aload_n 0), e2 (.iload 6), none, eS (.invokevirtual 71) 164 1 205, none, none, eV (.bipush 8) 2 8, none, e1 .iadd, e1 .iaload, e1 (.iload_n 2), 
  eA (.if_icmp .ne 7) 3 93, none, none, eV (.iconst 1) 1 1, eA (.goto 4) 3 94, none, none, e1 (.iconst 0), e2 (.istore 7), none, e2 (.iload 4), none, e2 (.iload 7), none, eA (.ifCond .eq 7) 3 107, none, none, 
  eV (.iconst 1) 1 1, eA (.goto 4) 3 108, none, none, e1 (.iconst 0), e1 .iadd, e2 (.istore 4), none, e2 (.iload 5), none, eA (.ifCond .ne 18) 3 131, none, none, e2 (.iload 7), none, eA (.ifCond .eq 17) 3 135, none, none, 
  e1 (.aload_n 0), e2 (.iload 6), none, e1 (.iload_n 1), eS (.invokevirtual 131) 184 2 216, none, none, eA (.ifCond .eq 7) 3 135, none, none, eV (.iconst 1) 1 1, eA (.goto 4) 3 136, none, none, e1 (.iconst 0), 
  e2 (.istore 5), none, eV (.iinc 6 1) 3 1, none, none, eA (.goto (-87)) 3 54, none, none, e1 (.aload_n 0), e1 (.iload_n 1), e1 (.iload_n 2), eS (.invokevirtual 127) 186 2 213, none, none, eA (.ifCond .eq 25) 3 175, none, 
  none, e2 (.iload 4), none, e1 (.aload_n 0), eS (.getfield 7) 11 0 83, none, none, e1 (.aload_n 0), e1 (.iload_n 2), eS (.invokevirtual 89) 163 1 195, none, none, e1 (.iconst 0), e1 .iadd, e1 .iaload, 
  eA (.if_icmp .eq 8) 3 175, none, none, e2 (.iload 5), none, eA (.ifCond .eq 6) 3 178, none, none, some (.ldc 134, 2, 0, 0, -1000000002, 0, [(0, 27)]), none, e1 .ireturn, e1 (.aload_n 0), e1 (.iload_n 1), e1 (.iload_n 2), 
  some (.ldc 66, 2, 0, 0, -1000000005, 0, [(0, 26)]), none, eA (.if_icmp .ne 7) 3 190, none, none, eV (.iconst (-1)) 1 (-1), eA (.goto 4) 3 191, none, none, e1 (.iload_n 2), eS (.invokevirtual 135) 188 2 217, none, none, 
  e1 (.iload_n 3), eS (.invokestatic 119) 160 1 209, none, none, e1 .ireturn]
set_option maxRecDepth 100000 in
def cd190 : Cd := [e1 (.aload_n 0), e1 (.iload_n 1), e1 (.iload_n 2), eS (.invokevirtual 127) 186 2 213, none, none, eA (.ifCond .eq 24) 3 30, none, none, e1 (.aload_n 0), eG (.getfield 35) 11 9 9 92, none, none, e1 (.iload_n 2), 
  e1 .iaload, e1 (.aload_n 0), eS (.getfield 7) 11 0 83, none, none, e1 (.aload_n 0), e1 (.iload_n 2), eS (.invokevirtual 89) 163 1 195, none, none, e1 (.iconst 0), e1 .iadd, e1 .iaload, eA (.if_icmp .ne 5) 3 32, none, 
  none, e1 (.iconst 0), e1 .ireturn, eV (.iconst 1) 1 1, e1 (.istore_n 3), e1 (.iconst 0), e2 (.istore 4), none, e2 (.iload 4), none, e1 (.iload_n 1), eA (.if_icmp .ge 40) 3 80, none, none, e1 (.iload_n 3), 
  eA (.ifCond .eq 28) 3 72, none, none, e1 (.aload_n 0), eG (.getfield 29) 11 7 7 90, none, none, e2 (.iload 4), none, e1 .iaload, e1 (.iload_n 2), eA (.if_icmp .ne 13) 3 68, none, none, e1 (.aload_n 0), e2 (.iload 4), 
  none, e1 (.iload_n 1), eS (.invokevirtual 131) 184 2 216, none, none, eA (.ifCond .ne 7) 3 72, none, none, eV (.iconst 1) 1 1, eA (.goto 4) 3 73, none, none, e1 (.iconst 0), e1 (.istore_n 3), eV (.iinc 4 1) 3 1, none, 
  none, eA (.goto (-40)) 3 37, none, none, e1 (.iload_n 3), e1 .ireturn]
set_option maxRecDepth 100000 in
def cd191 : Cd := [e1 (.iload_n 2), e1 (.aload_n 0), eS (.getfield 7) 11 0 83, none, none, eV (.iconst 2) 1 2, e1 .iaload, e1 .iadd, e1 (.iload_n 1), e1 .isub, e2 (.istore 4), none, e2 (.iload 4), none, e1 (.aload_n 0), 
  eG (.getfield 139) 11 10 10 93, none, none, eA (.if_icmp .lt 20) 3 38, none, none, e2 (.iload 4), none, e1 (.aload_n 0), eG (.getfield 139) 11 10 10 93, none, none, eA (.if_icmp .ne 12) 3 39, none, none, e1 (.iload_n 3), 
  e1 (.aload_n 0), eG (.getfield 143) 11 11 11 94, none, none, eA (.if_icmp .lt 4) 3 39, none, none, e1 .return_, e1 (.iload_n 1), e1 (.aload_n 0), eS (.getfield 7) 11 0 83, none, none, eV (.iconst 2) 1 2, e1 .iaload, 
  eA (.if_icmp .ne 43) 3 89, none, none, e1 (.aload_n 0), e1 (.iload_n 2), eG (.putfield 139) 11 10 10 93, none, none, e1 (.aload_n 0), e1 (.iload_n 3), eG (.putfield 143) 11 11 11 94, none, none, e1 (.iconst 0), 
  e2 (.istore 5), none, e2 (.iload 5), none, e1 (.iload_n 1), eA (.if_icmp .ge 23) 3 88, none, none, e1 (.aload_n 0), eG (.getfield 32) 11 8 8 91, none, none, e2 (.iload 5), none, e1 (.aload_n 0), 
  eG (.getfield 29) 11 7 7 90, none, none, e2 (.iload 5), none, e1 .iaload, e1 .iastore, eV (.iinc 5 1) 3 1, none, none, eA (.goto (-23)) 3 62, none, none, e1 .return_, e1 (.iconst 0), e2 (.istore 5), none, e2 (.iload 5), 
  none, e1 (.aload_n 0), eS (.getfield 7) 11 0 83, none, none, eV (.iconst 1) 1 1, e1 .iaload, eA (.if_icmp .ge 74) 3 174, none, none, e1 (.aload_n 0), e1 (.iload_n 1), e2 (.iload 5), none, 
  eS (.invokevirtual 146) 190 2 221, none, none, eA (.ifCond .eq 58) 3 168, none, none, e1 (.aload_n 0), eG (.getfield 29) 11 7 7 90, none, none, e1 (.iload_n 1), e2 (.iload 5), none, e1 .iastore, e1 (.aload_n 0), 
  eG (.getfield 35) 11 9 9 92, none, none, e2 (.iload 5), none, e1 .dup2, e1 .iaload, eV (.iconst 1) 1 1, e1 .iadd, e1 .iastore, e1 (.aload_n 0), e1 (.iload_n 1), eV (.iconst 1) 1 1, e1 .iadd, e1 (.iload_n 2), 
  eV (.iconst 1) 1 1, e1 .iadd, e1 (.iload_n 3), e1 (.aload_n 0), eS (.getfield 7) 11 0 83, none, none, e1 (.aload_n 0), e1 (.iload_n 1), eS (.invokevirtual 71) 164 1 205, none, none, eV (.bipush 6) 2 6, none, e1 .iadd, 
  e1 .iaload, e1 .iadd, eS (.invokevirtual 149) 191 3 220, none, none, e1 (.aload_n 0), eG (.getfield 35) 11 9 9 92, none, none, e2 (.iload 5), none, e1 .dup2, e1 .iaload, eV (.iconst 1) 1 1, e1 .isub, e1 .iastore, 
  eV (.iinc 5 1) 3 1, none, none, eA (.goto (-79)) 3 92, none, none, e1 (.aload_n 0), eG (.getfield 29) 11 7 7 90, none, none, e1 (.iload_n 1), eV (.iconst 3) 1 3, e1 .iastore, e1 (.aload_n 0), e1 (.iload_n 1), 
  eV (.iconst 1) 1 1, e1 .iadd, e1 (.iload_n 2), e1 (.iload_n 3), eS (.invokevirtual 149) 191 3 220, none, none, e1 .return_]
set_option maxRecDepth 100000 in
def cd192 : Cd := [e1 (.aload_n 0), eV (.iconst (-1)) 1 (-1), eG (.putfield 139) 11 10 10 93, none, none, e1 (.aload_n 0), e1 (.iconst 0), eG (.putfield 143) 11 11 11 94, none, none, e1 (.aload_n 0), e1 (.iconst 0), e1 (.iconst 0), 
  e1 (.iconst 0), eS (.invokevirtual 149) 191 3 220, none, none, e1 .return_]
set_option maxRecDepth 100000 in
def cd193 : Cd := [e1 (.iload_n 1), e1 .i2l, e1 (.lconst 0), e1 (.aload_n 0), eS (.getfield 7) 11 0 83, none, none, eV (.iconst 2) 1 2, e1 .iaload, eV (.iconst 1) 1 1, e1 .iadd, e1 .i2l, eS (.invokestatic 67) 159 3 194, none, none, 
  eA (.ifCond .ne 6) 3 21, none, none, some (.ldc 87, 2, 0, 0, -1000000001, 0, [(0, 24)]), none, e1 .ireturn, e1 (.aload_n 0), eS (.invokevirtual 153) 192 0 219, none, none, e1 (.iload_n 1), eA (.ifCond .ne 10) 3 36, none, 
  none, e1 (.aload_n 0), eG (.getfield 139) 11 10 10 93, none, none, eA (.goto 40) 3 73, none, none, e1 (.iload_n 1), eV (.iconst 1) 1 1, eA (.if_icmp .ne 10) 3 48, none, none, e1 (.aload_n 0), 
  eG (.getfield 143) 11 11 11 94, none, none, eA (.goto 28) 3 73, none, none, e1 (.aload_n 0), eG (.getfield 32) 11 8 8 91, none, none, e1 (.iload_n 1), eV (.iconst 2) 1 2, e1 .isub, e1 .iaload, eV (.iconst 3) 1 3, 
  eA (.if_icmp .ne 8) 3 65, none, none, some (.ldc 66, 2, 0, 0, -1000000005, 0, [(0, 26)]), none, eA (.goto 11) 3 73, none, none, e1 (.aload_n 0), eG (.getfield 32) 11 8 8 91, none, none, e1 (.iload_n 1), 
  eV (.iconst 2) 1 2, e1 .isub, e1 .iaload, e1 .ireturn]
set_option maxRecDepth 100000 in
def cd194 : Cd := [e1 (.aload_n 0), eS (.invokevirtual 153) 192 0 219, none, none, e1 (.iconst 0), e1 (.istore_n 1), e1 (.iconst 0), e1 (.istore_n 2), e1 (.iload_n 2), e1 (.aload_n 0), eS (.getfield 7) 11 0 83, none, none, 
  eV (.iconst 2) 1 2, e1 .iaload, eA (.if_icmp .ge 64) 3 79, none, none, e1 (.aload_n 0), eG (.getfield 32) 11 8 8 91, none, none, e1 (.iload_n 2), e1 .iaload, eV (.iconst 3) 1 3, eA (.if_icmp .ne 7) 3 32, none, none, 
  eV (.iconst (-1)) 1 (-1), eA (.goto 9) 3 38, none, none, e1 (.aload_n 0), eG (.getfield 32) 11 8 8 91, none, none, e1 (.iload_n 2), e1 .iaload, e1 (.istore_n 3), e1 (.aload_n 0), e1 (.iload_n 2), 
  eS (.invokevirtual 124) 172 1 214, none, none, eA (.ifCond .ne 29) 3 73, none, none, e1 (.aload_n 0), eS (.getfield 7) 11 0 83, none, none, e1 (.aload_n 0), e1 (.iload_n 2), eS (.invokevirtual 71) 164 1 205, none, none, 
  eV (.bipush 8) 2 8, none, e1 .iadd, e1 .iaload, e1 (.iload_n 3), eA (.if_icmp .eq 12) 3 73, none, none, e1 (.aload_n 0), e1 (.iload_n 2), e1 (.iload_n 3), eS (.invokevirtual 135) 188 2 217, none, none, eV (.iinc 1 1) 3 1, 
  none, none, eV (.iinc 2 1) 3 1, none, none, eA (.goto (-68)) 3 8, none, none, e1 (.iload_n 1), e1 .ireturn]
set_option maxRecDepth 100000 in
def cd195 : Cd := [e1 (.iconst 0), e1 (.istore_n 1), e1 (.iconst 0), e1 (.istore_n 2), e1 (.iload_n 2), e1 (.aload_n 0), eS (.getfield 7) 11 0 83, none, none, eV (.iconst 2) 1 2, e1 .iaload, eA (.if_icmp .ge 59) 3 70, none, none, 
  e1 (.iload_n 1), e1 (.aload_n 0), e1 (.iload_n 2), eS (.invokevirtual 124) 172 1 214, none, none, eA (.ifCond .ne 41) 3 61, none, none, e1 (.aload_n 0), eS (.getfield 7) 11 0 83, none, none, e1 (.aload_n 0), 
  e1 (.iload_n 2), eS (.invokevirtual 71) 164 1 205, none, none, eV (.bipush 6) 2 6, none, e1 .iadd, e1 .iaload, eA (.ifCond .ne 25) 3 61, none, none, e1 (.aload_n 0), eS (.getfield 7) 11 0 83, none, none, e1 (.aload_n 0), 
  e1 (.iload_n 2), eS (.invokevirtual 71) 164 1 205, none, none, eV (.bipush 8) 2 8, none, e1 .iadd, e1 .iaload, eA (.ifCond .ge 9) 3 61, none, none, eV (.iconst 1) 1 1, e1 (.iload_n 2), e1 .ishl, eA (.goto 4) 3 62, none, 
  none, e1 (.iconst 0), e1 .ior, e1 (.istore_n 1), eV (.iinc 2 1) 3 1, none, none, eA (.goto (-63)) 3 4, none, none, e1 (.iload_n 1), e1 .ireturn]
set_option maxRecDepth 100000 in
def cd196 : Cd := [e1 (.iload_n 0), eV (.iconst 5) 1 5, eA (.if_icmp .eq 9) 3 11, none, none, e1 (.iload_n 2), eA (.ifCond .eq 5) 3 11, none, none, e1 (.iconst 0), e1 .ireturn, e1 (.iload_n 0), 
  some (.tableswitch 66 0 4 #[36, 36, 46, 46, 56], 36, 78, 0, 0, 0, [(0, 48), (1, 48), (2, 58), (3, 58), (4, 68)]), none, none, none, none, none, none, none, none, none, none, none, none, none, none, none, none, none, none, 
  none, none, none, none, none, none, none, none, none, none, none, none, none, none, none, none, none, e1 (.iload_n 1), eA (.ifCond .ne 7) 3 56, none, none, eV (.iconst 1) 1 1, eA (.goto 4) 3 57, none, none, 
  e1 (.iconst 0), e1 .ireturn, e1 (.iload_n 1), e1 .i2l, e1 (.lconst 0), some (.ldc2_w 78, 3, 0, 0, 0, 3, [(0, 1)]), none, none, eS (.invokestatic 67) 159 3 194, none, none, e1 .ireturn, e1 (.iload_n 1), e1 .i2l, 
  e1 (.lconst 0), some (.ldc2_w 122, 3, 0, 0, 0, 9999, [(0, 6)]), none, none, eS (.invokestatic 67) 159 3 194, none, none, e1 .ireturn, e1 (.iload_n 0), eV (.iconst 5) 1 5, eA (.if_icmp .ne 31) 3 111, none, none, 
  e1 (.iload_n 1), e1 .i2l, some (.lconst 1, 1, 0, 0, 0, 1, []), some (.ldc2_w 122, 3, 0, 0, 0, 9999, [(0, 6)]), none, none, eS (.invokestatic 67) 159 3 194, none, none, eA (.ifCond .eq 19) 3 111, none, none, 
  e1 (.iload_n 2), e1 .i2l, e1 (.lconst 0), some (.ldc2_w 112, 3, 0, 0, 0, 999, [(0, 4)]), none, none, eS (.invokestatic 67) 159 3 194, none, none, eA (.ifCond .eq 7) 3 111, none, none, eV (.iconst 1) 1 1, 
  eA (.goto 4) 3 112, none, none, e1 (.iconst 0), e1 .ireturn]
set_option maxRecDepth 100000 in
def cd197 : Cd := [e1 (.aload_n 0), e1 (.iload_n 2), eS (.invokevirtual 92) 168 1 197, none, none, eA (.ifCond .eq 13) 3 18, none, none, e1 (.iload_n 1), e1 (.iload_n 3), e2 (.iload 4), none, eS (.invokestatic 156) 196 3 225, none, none, 
  eA (.ifCond .ne 6) 3 21, none, none, some (.ldc 87, 2, 0, 0, -1000000001, 0, [(0, 24)]), none, e1 .ireturn, e1 (.aload_n 0), eS (.getfield 7) 11 0 83, none, none, eV (.iconst 3) 1 3, e1 .iaload, eV (.bipush 30) 2 30, 
  none, eA (.if_icmp .ne 6) 3 35, none, none, some (.ldc 88, 2, 0, 0, -1000000003, 0, [(0, 25)]), none, e1 .ireturn, e1 (.aload_n 0), e1 (.aload_n 0), eS (.getfield 7) 11 0 83, none, none, eV (.iconst 3) 1 3, e1 .iaload, 
  eS (.invokevirtual 75) 165 1 203, none, none, e2 (.istore 5), none, e1 (.iconst 0), e2 (.istore 6), none, e2 (.iload 6), none, eV (.bipush 9) 2 9, none, eA (.if_icmp .ge 20) 3 74, none, none, e1 (.aload_n 0), 
  eS (.getfield 7) 11 0 83, none, none, e2 (.iload 5), none, e2 (.iload 6), none, e1 .iadd, e1 (.iconst 0), e1 .iastore, eV (.iinc 6 1) 3 1, none, none, eA (.goto (-21)) 3 50, none, none, e1 (.aload_n 0), 
  eS (.getfield 7) 11 0 83, none, none, e2 (.iload 5), none, e1 (.iload_n 1), e1 .iastore, e1 (.aload_n 0), eS (.getfield 7) 11 0 83, none, none, e2 (.iload 5), none, eV (.iconst 1) 1 1, e1 .iadd, e1 (.iload_n 2), 
  e1 .iastore, e1 (.aload_n 0), eS (.getfield 7) 11 0 83, none, none, e2 (.iload 5), none, eV (.iconst 2) 1 2, e1 .iadd, e1 (.iload_n 3), e1 .iastore, e1 (.aload_n 0), eS (.getfield 7) 11 0 83, none, none, e2 (.iload 5), 
  none, eV (.iconst 3) 1 3, e1 .iadd, e2 (.iload 4), none, e1 .iastore, e1 (.aload_n 0), eS (.getfield 7) 11 0 83, none, none, e2 (.iload 5), none, eV (.iconst 5) 1 5, e1 .iadd, eV (.iconst (-1)) 1 (-1), e1 .iastore, 
  e1 (.aload_n 0), eS (.getfield 7) 11 0 83, none, none, e2 (.iload 5), none, eV (.bipush 6) 2 6, none, e1 .iadd, eV (.iconst (-1)) 1 (-1), e1 .iastore, e1 (.aload_n 0), eS (.getfield 7) 11 0 83, none, none, 
  eV (.iconst 3) 1 3, e1 .dup2, e1 .iaload, eV (.iconst 1) 1 1, e1 .iadd, e1 .iastore, e1 (.aload_n 0), eS (.getfield 7) 11 0 83, none, none, eV (.iconst 3) 1 3, e1 .iaload, eV (.iconst 1) 1 1, e1 .isub, e1 .ireturn]
set_option maxRecDepth 100000 in
def cd198 : Cd := [e1 (.aload_n 0), e1 (.iload_n 1), eS (.invokevirtual 160) 170 1 227, none, none, eA (.ifCond .eq 15) 3 20, none, none, e1 (.iload_n 2), e1 .i2l, e1 (.lconst 0), some (.ldc2_w 163, 3, 0, 0, 0, 6, [(0, 7)]), none, none, 
  eS (.invokestatic 67) 159 3 194, none, none, eA (.ifCond .ne 6) 3 23, none, none, some (.ldc 87, 2, 0, 0, -1000000001, 0, [(0, 24)]), none, e1 .ireturn, e1 (.aload_n 0), eS (.getfield 7) 11 0 83, none, none, 
  e1 (.aload_n 0), e1 (.iload_n 1), eS (.invokevirtual 75) 165 1 203, none, none, e1 (.iload_n 2), e1 .iadd, e1 .iaload, e1 (.istore_n 3), e1 (.iload_n 2), eV (.iconst 5) 1 5, eA (.if_icmp .eq 9) 3 47, none, none, 
  e1 (.iload_n 2), eV (.bipush 6) 2 6, none, eA (.if_icmp .ne 10) 3 54, none, none, e1 (.iload_n 3), eS (.invokestatic 119) 160 1 209, none, none, eA (.goto 4) 3 55, none, none, e1 (.iload_n 3), e1 .ireturn]
set_option maxRecDepth 100000 in
def cd199 : Cd := [e1 (.aload_n 0), e1 (.iload_n 1), eS (.invokevirtual 160) 170 1 227, none, none, eA (.ifCond .eq 15) 3 20, none, none, e1 (.iload_n 2), e1 .i2l, e1 (.lconst 0), some (.ldc2_w 85, 3, 0, 0, 0, 5, [(0, 0)]), none, none, 
  eS (.invokestatic 67) 159 3 194, none, none, eA (.ifCond .ne 6) 3 23, none, none, some (.ldc 87, 2, 0, 0, -1000000001, 0, [(0, 24)]), none, e1 .ireturn, e1 (.aload_n 0), eS (.getfield 7) 11 0 83, none, none, 
  e1 (.aload_n 0), e1 (.iload_n 1), eS (.invokevirtual 75) 165 1 203, none, none, e1 .iaload, e1 (.istore_n 3), e1 (.iload_n 2), eA (.ifCond .eq 33) 3 68, none, none, e1 (.iload_n 2), e1 (.iload_n 3), 
  eA (.if_icmp .eq 28) 3 68, none, none, e1 (.iload_n 2), eV (.iconst 3) 1 3, eA (.if_icmp .ge 13) 3 58, none, none, e1 (.iload_n 3), eV (.iconst 3) 1 3, eA (.if_icmp .gt 8) 3 58, none, none, e1 (.iload_n 3), 
  e1 (.iload_n 2), eA (.if_icmp .gt 13) 3 68, none, none, e1 (.iload_n 2), eV (.iconst 4) 1 4, eA (.if_icmp .ne 12) 3 72, none, none, e1 (.iload_n 3), eV (.iconst 5) 1 5, eA (.if_icmp .ne 7) 3 72, none, none, 
  eV (.iconst 1) 1 1, eA (.goto 4) 3 73, none, none, e1 (.iconst 0), e2 (.istore 4), none, e2 (.iload 4), none, eA (.ifCond .eq 18) 3 95, none, none, e1 (.aload_n 0), eS (.getfield 7) 11 0 83, none, none, e1 (.aload_n 0), 
  e1 (.iload_n 1), eS (.invokevirtual 75) 165 1 203, none, none, eV (.iconst 2) 1 2, e1 .iadd, e1 .iaload, eA (.goto 5) 3 97, none, none, some (.ldc 165, 2, 0, 0, -1000000012, 0, [(0, 28)]), none, e1 .ireturn]
set_option maxRecDepth 100000 in
def cd200 : Cd := [e1 (.aload_n 0), e1 (.iload_n 1), eS (.invokevirtual 160) 170 1 227, none, none, eA (.ifCond .eq 11) 3 16, none, none, e1 (.aload_n 0), e1 (.iload_n 2), eS (.invokevirtual 114) 169 1 208, none, none, 
  eA (.ifCond .ne 6) 3 19, none, none, some (.ldc 87, 2, 0, 0, -1000000001, 0, [(0, 24)]), none, e1 .ireturn, e1 (.aload_n 0), e1 (.iload_n 1), eS (.invokevirtual 101) 173 1 202, none, none, eA (.ifCond .ne 6) 3 30, none, 
  none, some (.ldc 165, 2, 0, 0, -1000000012, 0, [(0, 28)]), none, e1 .ireturn, e1 (.aload_n 0), e1 (.iload_n 1), eS (.invokevirtual 75) 165 1 203, none, none, e1 (.istore_n 3), e1 (.aload_n 0), e1 (.aload_n 0), 
  eS (.getfield 7) 11 0 83, none, none, e1 (.iload_n 3), eV (.iconst 1) 1 1, e1 .iadd, e1 .iaload, eS (.invokevirtual 89) 163 1 195, none, none, e2 (.istore 4), none, e1 (.aload_n 0), eS (.getfield 7) 11 0 83, none, none, 
  e1 (.iload_n 3), e1 .iaload, eV (.iconst 1) 1 1, eA (.if_icmp .le 30) 3 87, none, none, e1 (.aload_n 0), eS (.getfield 7) 11 0 83, none, none, e1 (.aload_n 0), e1 (.iload_n 2), eS (.invokevirtual 71) 164 1 205, none, 
  none, e1 (.iconst 0), e1 .iadd, e1 .iaload, e1 (.aload_n 0), eS (.getfield 7) 11 0 83, none, none, e1 (.iload_n 3), eV (.iconst 2) 1 2, e1 .iadd, e1 .iaload, eA (.if_icmp .le 7) 3 87, none, none, eV (.iconst 1) 1 1, 
  eA (.goto 4) 3 88, none, none, e1 (.iconst 0), e2 (.istore 5), none, e1 (.aload_n 0), eS (.getfield 7) 11 0 83, none, none, e1 (.iload_n 3), eV (.iconst 4) 1 4, e1 .iadd, e1 .iaload, eA (.ifCond .ne 58) 3 156, none, none, 
  e1 (.aload_n 0), eS (.getfield 7) 11 0 83, none, none, e1 (.aload_n 0), e1 (.iload_n 2), eS (.invokevirtual 71) 164 1 205, none, none, eV (.bipush 8) 2 8, none, e1 .iadd, e1 .iaload, e1 (.aload_n 0), 
  eS (.getfield 7) 11 0 83, none, none, e1 (.iload_n 3), eV (.iconst 1) 1 1, e1 .iadd, e1 .iaload, eA (.if_icmp .ne 34) 3 156, none, none, e1 (.aload_n 0), eS (.getfield 7) 11 0 83, none, none, e2 (.iload 4), none, 
  eV (.bipush 7) 2 7, none, e1 .iadd, e1 .iaload, eV (.iconst 1) 1 1, eA (.if_icmp .eq 20) 3 156, none, none, e1 (.aload_n 0), eS (.getfield 7) 11 0 83, none, none, e2 (.iload 4), none, eV (.iconst 4) 1 4, e1 .iadd, 
  e1 .iaload, eA (.ifCond .gt 8) 3 156, none, none, e2 (.iload 5), none, eA (.ifCond .eq 6) 3 159, none, none, some (.ldc 134, 2, 0, 0, -1000000002, 0, [(0, 27)]), none, e1 .ireturn, e1 (.aload_n 0), 
  eS (.getfield 7) 11 0 83, none, none, e1 (.iload_n 3), eV (.iconst 4) 1 4, e1 .iadd, eV (.iconst 1) 1 1, e1 .iastore, e1 (.aload_n 0), eS (.getfield 7) 11 0 83, none, none, e1 (.iload_n 3), eV (.iconst 5) 1 5, e1 .iadd, 
  e1 (.iload_n 2), e1 .iastore, e1 (.iconst 0), e2 (.istore 6), none, e1 (.iconst 0), e2 (.istore 7), none, e2 (.iload 7), none, e1 (.aload_n 0), eS (.getfield 7) 11 0 83, none, none, eV (.iconst 3) 1 3, e1 .iaload, 
  eA (.if_icmp .ge 53) 3 244, none, none, e2 (.iload 6), none, e1 (.aload_n 0), eS (.getfield 7) 11 0 83, none, none, e1 (.aload_n 0), e2 (.iload 7), none, eS (.invokevirtual 75) 165 1 203, none, none, eV (.iconst 4) 1 4, 
  e1 .iadd, e1 .iaload, eV (.iconst 1) 1 1, eA (.if_icmp .ne 24) 3 234, none, none, e1 (.aload_n 0), eS (.getfield 7) 11 0 83, none, none, e1 (.aload_n 0), e2 (.iload 7), none, eS (.invokevirtual 75) 165 1 203, none, none, 
  eV (.iconst 5) 1 5, e1 .iadd, e1 .iaload, e1 (.iload_n 2), eA (.if_icmp .ne 7) 3 234, none, none, eV (.iconst 1) 1 1, eA (.goto 4) 3 235, none, none, e1 (.iconst 0), e1 .iadd, e2 (.istore 6), none, eV (.iinc 7 1) 3 1, 
  none, none, eA (.goto (-58)) 3 183, none, none, e2 (.iload 6), none, e1 .ireturn]
set_option maxRecDepth 100000 in
def cd201 : Cd := [e1 (.aload_n 0), e1 (.iload_n 1), eS (.invokevirtual 160) 170 1 227, none, none, eA (.ifCond .ne 6) 3 11, none, none, some (.ldc 87, 2, 0, 0, -1000000001, 0, [(0, 24)]), none, e1 .ireturn, e1 (.aload_n 0), 
  e1 (.iload_n 1), eS (.invokevirtual 101) 173 1 202, none, none, eA (.ifCond .ne 6) 3 22, none, none, some (.ldc 165, 2, 0, 0, -1000000012, 0, [(0, 28)]), none, e1 .ireturn, e1 (.aload_n 0), e1 (.iload_n 1), 
  eS (.invokevirtual 75) 165 1 203, none, none, e1 (.istore_n 2), e1 (.aload_n 0), eS (.getfield 7) 11 0 83, none, none, e1 (.iload_n 2), eV (.iconst 4) 1 4, e1 .iadd, e1 .iaload, eA (.ifCond .ne 6) 3 42, none, none, 
  some (.ldc 134, 2, 0, 0, -1000000002, 0, [(0, 27)]), none, e1 .ireturn, e1 (.aload_n 0), eS (.getfield 7) 11 0 83, none, none, e1 (.iload_n 2), eV (.iconst 5) 1 5, e1 .iadd, eV (.iconst (-1)) 1 (-1), e1 .iastore, 
  e1 (.aload_n 0), e1 (.iload_n 2), eV (.iconst 4) 1 4, e1 .iadd, e1 (.iconst 0), eS (.invokevirtual 98) 162 2 198, none, none, e1 .ireturn]
set_option maxRecDepth 100000 in
def cd202 : Cd := [e1 (.aload_n 0), e1 (.iload_n 1), eS (.invokevirtual 92) 168 1 197, none, none, eA (.ifCond .eq 22) 3 27, none, none, e1 (.iload_n 2), e1 .i2l, e1 (.lconst 0), some (.lconst 1, 1, 0, 0, 0, 1, []), e1 (.aload_n 0), 
  e1 (.iload_n 1), eV (.iconst (-1)) 1 (-1), eS (.invokevirtual 106) 179 2 201, none, none, e1 .lshl, some (.lconst 1, 1, 0, 0, 0, 1, []), e1 .lsub, eS (.invokestatic 67) 159 3 194, none, none, eA (.ifCond .ne 6) 3 30, 
  none, none, some (.ldc 87, 2, 0, 0, -1000000001, 0, [(0, 24)]), none, e1 .ireturn, e1 (.iconst 0), e1 (.istore_n 3), e1 (.iconst 0), e2 (.istore 4), none, e1 (.iconst 0), e2 (.istore 5), none, e2 (.iload 5), none, 
  e1 (.aload_n 0), eS (.getfield 7) 11 0 83, none, none, eV (.iconst 3) 1 3, e1 .iaload, eA (.if_icmp .ge 179) 3 225, none, none, e1 (.aload_n 0), e2 (.iload 5), none, eS (.invokevirtual 75) 165 1 203, none, none, 
  e2 (.istore 6), none, e1 (.aload_n 0), e2 (.iload 5), none, eS (.invokevirtual 101) 173 1 202, none, none, eA (.ifCond .eq 156) 3 219, none, none, e1 (.aload_n 0), eS (.getfield 7) 11 0 83, none, none, e2 (.iload 6), 
  none, eV (.iconst 1) 1 1, e1 .iadd, e1 .iaload, e1 (.iload_n 1), eA (.if_icmp .eq 6) 3 82, none, none, eA (.goto 140) 3 219, none, none, e1 (.iload_n 2), e1 (.iload_n 3), e1 .ishr, eV (.iconst 1) 1 1, e1 .iand, 
  eV (.iconst 1) 1 1, eA (.if_icmp .ne 7) 3 95, none, none, eV (.iconst 1) 1 1, eA (.goto 4) 3 96, none, none, e1 (.iconst 0), e2 (.istore 7), none, e1 (.aload_n 0), eS (.getfield 7) 11 0 83, none, none, e2 (.iload 6), 
  none, eV (.iconst 4) 1 4, e1 .iadd, e1 .iaload, eA (.ifCond .ne 12) 3 119, none, none, e2 (.iload 7), none, eA (.ifCond .ne 7) 3 119, none, none, eV (.iconst 1) 1 1, eA (.goto 4) 3 120, none, none, e1 (.iconst 0), 
  e2 (.istore 8), none, e2 (.iload 4), none, e2 (.iload 8), none, eA (.ifCond .ne 21) 3 147, none, none, e1 (.aload_n 0), eS (.getfield 7) 11 0 83, none, none, e2 (.iload 6), none, eV (.iconst 4) 1 4, e1 .iadd, e1 .iaload, 
  eV (.iconst 1) 1 1, eA (.if_icmp .ne 12) 3 151, none, none, e2 (.iload 7), none, eA (.ifCond .eq 7) 3 151, none, none, eV (.iconst 1) 1 1, eA (.goto 4) 3 152, none, none, e1 (.iconst 0), e1 .iadd, e2 (.istore 4), none, 
  e1 (.aload_n 0), eS (.getfield 7) 11 0 83, none, none, e2 (.iload 6), none, eV (.iconst 4) 1 4, e1 .iadd, e2 (.iload 8), none, eA (.ifCond .eq 21) 3 186, none, none, e1 (.aload_n 0), eS (.getfield 7) 11 0 83, none, none, 
  e2 (.iload 6), none, eV (.bipush 7) 2 7, none, e1 .iadd, e1 .iaload, eV (.iconst 1) 1 1, eA (.if_icmp .ne 7) 3 186, none, none, eV (.iconst 2) 1 2, eA (.goto 12) 3 195, none, none, e1 (.aload_n 0), 
  eS (.getfield 7) 11 0 83, none, none, e2 (.iload 6), none, eV (.iconst 4) 1 4, e1 .iadd, e1 .iaload, e1 .iastore, e1 (.aload_n 0), eS (.getfield 7) 11 0 83, none, none, e2 (.iload 6), none, eV (.bipush 7) 2 7, none, 
  e1 .iadd, e2 (.iload 8), none, eA (.ifCond .eq 7) 3 214, none, none, eV (.iconst 1) 1 1, eA (.goto 4) 3 215, none, none, e1 (.iconst 0), e1 .iastore, eV (.iinc 3 1) 3 1, none, none, eV (.iinc 5 1) 3 1, none, none, 
  eA (.goto (-184)) 3 38, none, none, e1 (.aload_n 0), eS (.getfield 7) 11 0 83, none, none, e1 (.aload_n 0), e1 (.iload_n 1), eS (.invokevirtual 89) 163 1 195, none, none, eV (.bipush 7) 2 7, none, e1 .iadd, e2 (.iload 4), 
  none, eA (.ifCond .le 7) 3 246, none, none, eV (.iconst 1) 1 1, eA (.goto 4) 3 247, none, none, e1 (.iconst 0), e1 .iastore, e2 (.iload 4), none, e1 .ireturn]
set_option maxRecDepth 100000 in
def cd203 : Cd := [e1 (.aload_n 0), e1 (.iload_n 1), eS (.invokevirtual 92) 168 1 197, none, none, eA (.ifCond .ne 6) 3 11, none, none, some (.ldc 87, 2, 0, 0, -1000000001, 0, [(0, 24)]), none, e1 .ireturn, e1 (.iconst 0), e1 (.istore_n 2), 
  e1 (.iconst 0), e1 (.istore_n 3), e1 (.iload_n 3), e1 (.aload_n 0), eS (.getfield 7) 11 0 83, none, none, eV (.iconst 3) 1 3, e1 .iaload, eA (.if_icmp .ge 60) 3 82, none, none, e1 (.aload_n 0), e1 (.iload_n 3), 
  eS (.invokevirtual 75) 165 1 203, none, none, e2 (.istore 4), none, e1 (.iload_n 2), e1 (.aload_n 0), eS (.getfield 7) 11 0 83, none, none, e2 (.iload 4), none, eV (.iconst 1) 1 1, e1 .iadd, e1 .iaload, e1 (.iload_n 1), 
  eA (.if_icmp .ne 30) 3 73, none, none, e1 (.aload_n 0), eS (.getfield 7) 11 0 83, none, none, e2 (.iload 4), none, eV (.iconst 4) 1 4, e1 .iadd, e1 .iaload, eV (.iconst 1) 1 1, eA (.if_icmp .ne 17) 3 73, none, none, 
  eV (.iconst 1) 1 1, e1 (.aload_n 0), eS (.getfield 7) 11 0 83, none, none, e2 (.iload 4), none, eV (.iconst 5) 1 5, e1 .iadd, e1 .iaload, e1 .ishl, eA (.goto 4) 3 74, none, none, e1 (.iconst 0), e1 .ior, e1 (.istore_n 2), 
  eV (.iinc 3 1) 3 1, none, none, eA (.goto (-64)) 3 15, none, none, e1 (.iload_n 2), e1 .ireturn]
set_option maxRecDepth 100000 in
def cd204 : Cd := [e1 (.aload_n 0), e1 (.iload_n 1), eS (.invokevirtual 160) 170 1 227, none, none, eA (.ifCond .ne 6) 3 11, none, none, some (.ldc 87, 2, 0, 0, -1000000001, 0, [(0, 24)]), none, e1 .ireturn, e1 (.aload_n 0), 
  e1 (.iload_n 1), eS (.invokevirtual 75) 165 1 203, none, none, e1 (.istore_n 2), e1 (.aload_n 0), eS (.getfield 7) 11 0 83, none, none, e1 (.iload_n 2), e1 .iaload, eV (.iconst 5) 1 5, eA (.if_icmp .eq 8) 3 32, none, 
  none, some (.ldc 165, 2, 0, 0, -1000000012, 0, [(0, 28)]), none, eA (.goto 42) 3 71, none, none, e1 (.aload_n 0), eS (.getfield 7) 11 0 83, none, none, e1 (.iload_n 2), eV (.bipush 6) 2 6, none, e1 .iadd, e1 .iaload, 
  eA (.ifCond .ge 12) 3 53, none, none, e1 (.aload_n 0), eS (.getfield 7) 11 0 83, none, none, e1 (.iconst 0), e1 .iaload, eA (.goto 12) 3 62, none, none, e1 (.aload_n 0), eS (.getfield 7) 11 0 83, none, none, 
  e1 (.iload_n 2), eV (.bipush 6) 2 6, none, e1 .iadd, e1 .iaload, e1 (.aload_n 0), eS (.getfield 7) 11 0 83, none, none, e1 (.iload_n 2), eV (.iconst 3) 1 3, e1 .iadd, e1 .iaload, e1 .isub, e1 .ireturn]
set_option maxRecDepth 100000 in
def cd205 : Cd := [eV (.iconst (-1)) 1 (-1), e1 (.istore_n 2), e1 (.iconst 0), e1 (.istore_n 3), e1 (.iload_n 3), e1 (.aload_n 0), eS (.getfield 7) 11 0 83, none, none, eV (.iconst 3) 1 3, e1 .iaload, eA (.if_icmp .ge 108) 3 119, none, 
  none, e1 (.aload_n 0), e1 (.iload_n 3), eS (.invokevirtual 75) 165 1 203, none, none, e2 (.istore 4), none, e1 (.aload_n 0), eS (.getfield 7) 11 0 83, none, none, e2 (.iload 4), none, e1 .iaload, eV (.iconst 5) 1 5, 
  eA (.if_icmp .ne 42) 3 71, none, none, e1 (.aload_n 0), eS (.getfield 7) 11 0 83, none, none, e2 (.iload 4), none, eV (.iconst 1) 1 1, e1 .iadd, e1 .iaload, e1 (.iload_n 1), eA (.if_icmp .ne 29) 3 71, none, none, 
  e1 (.aload_n 0), eS (.getfield 7) 11 0 83, none, none, e2 (.iload 4), none, eV (.bipush 6) 2 6, none, e1 .iadd, e1 .iaload, eA (.ifCond .ge 16) 3 71, none, none, e1 (.aload_n 0), eG (.getfield 38) 11 12 12 95, none, none, 
  e1 (.iload_n 3), e1 .baload, eA (.ifCond .ne 7) 3 71, none, none, eV (.iconst 1) 1 1, eA (.goto 4) 3 72, none, none, e1 (.iconst 0), e2 (.istore 5), none, e2 (.iload 5), none, eA (.ifCond .eq 35) 3 111, none, none, 
  e1 (.iload_n 2), eA (.ifCond .lt 27) 3 107, none, none, e1 (.aload_n 0), eS (.getfield 7) 11 0 83, none, none, e2 (.iload 4), none, eV (.iconst 3) 1 3, e1 .iadd, e1 .iaload, e1 (.aload_n 0), eS (.getfield 7) 11 0 83, 
  none, none, e1 (.aload_n 0), e1 (.iload_n 2), eS (.invokevirtual 75) 165 1 203, none, none, eV (.iconst 3) 1 3, e1 .iadd, e1 .iaload, eA (.if_icmp .ge 7) 3 111, none, none, e1 (.iload_n 3), eA (.goto 4) 3 112, none, none, 
  e1 (.iload_n 2), e1 (.istore_n 2), eV (.iinc 3 1) 3 1, none, none, eA (.goto (-112)) 3 4, none, none, e1 (.iload_n 2), e1 .ireturn]
set_option maxRecDepth 100000 in
def cd206 : Cd := [e1 (.aload_n 0), e1 (.iload_n 1), eS (.invokevirtual 92) 168 1 197, none, none, eA (.ifCond .ne 6) 3 11, none, none, some (.ldc 87, 2, 0, 0, -1000000001, 0, [(0, 24)]), none, e1 .ireturn, e1 (.iconst 0), e1 (.istore_n 2), 
  e1 (.iload_n 2), eV (.bipush 30) 2 30, none, eA (.if_icmp .ge 16) 3 32, none, none, e1 (.aload_n 0), eG (.getfield 38) 11 12 12 95, none, none, e1 (.iload_n 2), e1 (.iconst 0), e1 .bastore, eV (.iinc 2 1) 3 1, none, none, 
  eA (.goto (-16)) 3 13, none, none, e1 (.iconst 0), e1 (.istore_n 2), e1 (.iload_n 2), e1 (.aload_n 0), eS (.getfield 7) 11 0 83, none, none, eV (.iconst 2) 1 2, e1 .iaload, eA (.if_icmp .ge 46) 3 87, none, none, 
  e1 (.aload_n 0), eG (.getfield 42) 11 13 13 96, none, none, e1 (.iload_n 2), e1 (.aload_n 0), eS (.getfield 7) 11 0 83, none, none, e1 (.aload_n 0), e1 (.iload_n 2), eS (.invokevirtual 71) 164 1 205, none, none, 
  eV (.iconst 1) 1 1, e1 .iadd, e1 .iaload, e1 .iastore, e1 (.aload_n 0), eG (.getfield 45) 11 14 14 97, none, none, e1 (.iload_n 2), e1 (.aload_n 0), eS (.getfield 7) 11 0 83, none, none, e1 (.aload_n 0), e1 (.iload_n 2), 
  eS (.invokevirtual 71) 164 1 205, none, none, eV (.bipush 7) 2 7, none, e1 .iadd, e1 .iaload, e1 .iastore, eV (.iinc 2 1) 3 1, none, none, eA (.goto (-50)) 3 34, none, none, e1 (.aload_n 0), eS (.getfield 7) 11 0 83, 
  none, none, e1 (.aload_n 0), e1 (.iload_n 1), eS (.invokevirtual 89) 163 1 195, none, none, eV (.bipush 6) 2 6, none, e1 .iadd, e1 .iaload, e1 (.istore_n 2), some (.ldc 66, 2, 0, 0, -1000000005, 0, [(0, 26)]), none, 
  e1 (.istore_n 3), e1 (.iconst 0), e2 (.istore 4), none, e2 (.iload 4), none, eV (.sipush 1000) 3 1000, none, none, eA (.if_icmp .ge 238) 3 350, none, none, e1 (.iload_n 3), 
  some (.ldc 66, 2, 0, 0, -1000000005, 0, [(0, 26)]), none, eA (.if_icmp .ne 232) 3 350, none, none, e1 (.iconst 0), e2 (.istore 5), none, e2 (.iload 5), none, e1 (.aload_n 0), eS (.getfield 7) 11 0 83, none, none, 
  eV (.iconst 2) 1 2, e1 .iaload, eA (.if_icmp .ge 129) 3 261, none, none, e1 (.aload_n 0), eS (.getfield 7) 11 0 83, none, none, e1 (.aload_n 0), e2 (.iload 5), none, eS (.invokevirtual 71) 164 1 205, none, none, 
  eV (.bipush 8) 2 8, none, e1 .iadd, e1 .iaload, e1 (.iload_n 1), eA (.if_icmp .ne 105) 3 255, none, none, e1 (.iload_n 2), e1 (.aload_n 0), eS (.getfield 7) 11 0 83, none, none, e1 (.aload_n 0), e1 (.iload_n 1), 
  eS (.invokevirtual 89) 163 1 195, none, none, eV (.iconst 3) 1 3, e1 .iadd, e1 .iaload, e1 (.aload_n 0), eG (.getfield 42) 11 13 13 96, none, none, e2 (.iload 5), none, e1 .iaload, e1 .iadd, e1 .iadd, e1 (.istore_n 2), 
  e1 (.aload_n 0), eG (.getfield 45) 11 14 14 97, none, none, e2 (.iload 5), none, e1 .dup2, e1 .iaload, eV (.iconst 1) 1 1, e1 .iadd, e1 .iastore, e1 (.aload_n 0), eG (.getfield 42) 11 13 13 96, none, none, e2 (.iload 5), 
  none, e1 .dup2, e1 .iaload, e1 (.aload_n 0), eG (.getfield 45) 11 14 14 97, none, none, e2 (.iload 5), none, e1 .iaload, eV (.bipush 10) 2 10, none, eA (.if_icmp .ne 18) 3 222, none, none, e1 (.aload_n 0), 
  eG (.getfield 42) 11 13 13 96, none, none, e2 (.iload 5), none, e1 .iaload, eV (.iconst 3) 1 3, eA (.if_icmp .ge 7) 3 222, none, none, eV (.iconst 1) 1 1, eA (.goto 4) 3 223, none, none, e1 (.iconst 0), e1 .iadd, 
  e1 .iastore, e1 (.aload_n 0), eG (.getfield 45) 11 14 14 97, none, none, e2 (.iload 5), none, e1 (.aload_n 0), eG (.getfield 45) 11 14 14 97, none, none, e2 (.iload 5), none, e1 .iaload, eV (.bipush 10) 2 10, none, 
  eA (.if_icmp .ne 7) 3 247, none, none, e1 (.iconst 0), eA (.goto 10) 3 254, none, none, e1 (.aload_n 0), eG (.getfield 45) 11 14 14 97, none, none, e2 (.iload 5), none, e1 .iaload, e1 .iastore, eV (.iinc 5 1) 3 1, none, 
  none, eA (.goto (-134)) 3 124, none, none, e1 (.aload_n 0), e1 (.iload_n 1), eS (.invokevirtual 166) 205 1 235, none, none, e2 (.istore 5), none, e2 (.iload 5), none, eA (.ifCond .lt 54) 3 324, none, none, 
  e1 (.iload_n 2), e1 (.aload_n 0), eS (.getfield 7) 11 0 83, none, none, e1 (.aload_n 0), e2 (.iload 5), none, eS (.invokevirtual 75) 165 1 203, none, none, eV (.iconst 2) 1 2, e1 .iadd, e1 .iaload, 
  eA (.if_icmp .lt 37) 3 324, none, none, e1 (.iload_n 2), e1 (.aload_n 0), eS (.getfield 7) 11 0 83, none, none, e1 (.aload_n 0), e2 (.iload 5), none, eS (.invokevirtual 75) 165 1 203, none, none, eV (.iconst 2) 1 2, 
  e1 .iadd, e1 .iaload, e1 .isub, e1 (.istore_n 2), e1 (.aload_n 0), eG (.getfield 38) 11 12 12 95, none, none, e2 (.iload 5), none, eV (.iconst 1) 1 1, e1 .bastore, e1 (.aload_n 0), e1 (.iload_n 1), 
  eS (.invokevirtual 166) 205 1 235, none, none, e2 (.istore 5), none, eA (.goto (-53)) 3 268, none, none, e2 (.iload 5), none, eA (.ifCond .ge 15) 3 341, none, none, e1 (.aload_n 0), eS (.getfield 7) 11 0 83, none, none, 
  e1 (.iconst 0), e1 .iaload, e2 (.iload 4), none, e1 .iadd, eA (.goto 5) 3 343, none, none, some (.ldc 66, 2, 0, 0, -1000000005, 0, [(0, 26)]), none, e1 (.istore_n 3), eV (.iinc 4 1) 3 1, none, none, 
  eA (.goto (-240)) 3 107, none, none, e1 (.iconst 0), e2 (.istore 4), none, e2 (.iload 4), none, eV (.bipush 30) 2 30, none, eA (.if_icmp .ge 17) 3 374, none, none, e1 (.aload_n 0), eG (.getfield 38) 11 12 12 95, none, 
  none, e2 (.iload 4), none, e1 (.iconst 0), e1 .bastore, eV (.iinc 4 1) 3 1, none, none, eA (.goto (-18)) 3 353, none, none, e1 (.iload_n 3), e1 .ireturn]
set_option maxRecDepth 100000 in
def cd207 : Cd := [e1 (.aload_n 0), eG (.getfield 169) 11 16 16 99, none, none, eV (.bipush 12) 2 12, none, e1 .iadd, eV (.bipush 96) 2 96, none, eA (.if_icmp .le 6) 3 15, none, none, some (.ldc 88, 2, 0, 0, -1000000003, 0, [(0, 25)]), 
  none, e1 .ireturn, e1 (.iconst 0), e2 (.istore 4), none, e2 (.iload 4), none, eV (.bipush 12) 2 12, none, eA (.if_icmp .ge 69) 3 91, none, none, e2 (.iload 4), none, eV (.iconst 4) 1 4, eA (.if_icmp .ge 7) 3 35, none, 
  none, e1 (.iload_n 1), eA (.goto 15) 3 47, none, none, e2 (.iload 4), none, eV (.bipush 8) 2 8, none, eA (.if_icmp .ge 7) 3 46, none, none, e1 (.iload_n 2), eA (.goto 4) 3 47, none, none, e1 (.iload_n 3), e2 (.istore 5), 
  none, e1 (.aload_n 0), eG (.getfield 48) 11 15 15 98, none, none, e1 (.aload_n 0), eG (.getfield 169) 11 16 16 99, none, none, e2 (.iload 5), none, eV (.bipush 24) 2 24, none, eV (.bipush 8) 2 8, none, e2 (.iload 4), 
  none, eV (.iconst 4) 1 4, e1 .irem, e1 .imul, e1 .isub, e1 .ishr, eV (.sipush 255) 3 255, none, none, e1 .iand, e1 .iastore, e1 (.aload_n 0), e1 .dup, eG (.getfield 169) 11 16 16 99, none, none, eV (.iconst 1) 1 1, 
  e1 .iadd, eG (.putfield 169) 11 16 16 99, none, none, eV (.iinc 4 1) 3 1, none, none, eA (.goto (-70)) 3 18, none, none, e1 (.aload_n 0), eG (.getfield 169) 11 16 16 99, none, none, e1 .ireturn]
set_option maxRecDepth 100000 in
def cd208 : Cd := [e1 (.iload_n 1), e1 .i2l, e1 (.lconst 0), e1 (.aload_n 0), eG (.getfield 169) 11 16 16 99, none, none, e1 .i2l, eS (.invokestatic 67) 159 3 194, none, none, eA (.ifCond .ne 6) 3 17, none, none, 
  some (.ldc 87, 2, 0, 0, -1000000001, 0, [(0, 24)]), none, e1 .ireturn, e1 (.aload_n 0), e1 (.iload_n 1), eG (.putfield 169) 11 16 16 99, none, none, e1 (.iload_n 1), e1 .ireturn]
set_option maxRecDepth 100000 in
def cd209 : Cd := [e1 (.iload_n 1), e1 (.aload_n 0), eG (.getfield 169) 11 16 16 99, none, none, eA (.if_icmp .ge 26) 3 31, none, none, e1 (.aload_n 0), eG (.getfield 48) 11 15 15 98, none, none, e1 (.iload_n 1), e1 .iaload, e1 .i2l, 
  some (.ldc2_w 172, 3, 0, 0, 0, 97, [(0, 8)]), none, none, some (.ldc2_w 174, 3, 0, 0, 0, 122, [(0, 9)]), none, none, eS (.invokestatic 67) 159 3 194, none, none, eA (.ifCond .eq 7) 3 31, none, none, eV (.iconst 1) 1 1, 
  eA (.goto 4) 3 32, none, none, e1 (.iconst 0), e1 .ireturn]
set_option maxRecDepth 100000 in
def cd210 : Cd := [e1 (.iload_n 1), e1 (.aload_n 0), eG (.getfield 169) 11 16 16 99, none, none, eA (.if_icmp .ge 26) 3 31, none, none, e1 (.aload_n 0), eG (.getfield 48) 11 15 15 98, none, none, e1 (.iload_n 1), e1 .iaload, e1 .i2l, 
  some (.ldc2_w 176, 3, 0, 0, 0, 48, [(0, 10)]), none, none, some (.ldc2_w 178, 3, 0, 0, 0, 57, [(0, 11)]), none, none, eS (.invokestatic 67) 159 3 194, none, none, eA (.ifCond .eq 7) 3 31, none, none, eV (.iconst 1) 1 1, 
  eA (.goto 4) 3 32, none, none, e1 (.iconst 0), e1 .ireturn]
set_option maxRecDepth 100000 in
def cd211 : Cd := [e1 (.aload_n 0), eG (.getfield 180) 11 18 18 101, none, none, eA (.ifCond .le 23) 3 27, none, none, e1 (.aload_n 0), eG (.getfield 183) 11 19 19 102, none, none, eV (.iconst 1) 1 1, eA (.if_icmp .eq 11) 3 23, none, none, 
  e1 (.aload_n 0), eG (.getfield 183) 11 19 19 102, none, none, eV (.iconst 2) 1 2, eA (.if_icmp .ne 7) 3 27, none, none, eV (.iconst 1) 1 1, eA (.goto 4) 3 28, none, none, e1 (.iconst 0), e1 (.istore_n 1), e1 (.aload_n 0), 
  eG (.getfield 180) 11 18 18 101, none, none, e1 (.istore_n 2), e1 (.aload_n 0), eG (.getfield 180) 11 18 18 101, none, none, e1 (.aload_n 0), eG (.getfield 169) 11 16 16 99, none, none, eA (.if_icmp .ge 30) 3 72, none, 
  none, e1 (.aload_n 0), eG (.getfield 48) 11 15 15 98, none, none, e1 (.aload_n 0), eG (.getfield 180) 11 18 18 101, none, none, e1 .iaload, eV (.bipush 32) 2 32, none, eA (.if_icmp .ne 16) 3 72, none, none, 
  e1 (.aload_n 0), e1 .dup, eG (.getfield 180) 11 18 18 101, none, none, eV (.iconst 1) 1 1, e1 .iadd, eG (.putfield 180) 11 18 18 101, none, none, eA (.goto (-35)) 3 34, none, none, e1 (.iload_n 1), 
  eA (.ifCond .eq 15) 3 88, none, none, e1 (.iload_n 2), e1 (.aload_n 0), eG (.getfield 180) 11 18 18 101, none, none, eA (.if_icmp .ne 7) 3 88, none, none, eV (.iconst 1) 1 1, eA (.goto 4) 3 89, none, none, e1 (.iconst 0), 
  e1 (.istore_n 1), e1 (.aload_n 0), e1 (.aload_n 0), eG (.getfield 180) 11 18 18 101, none, none, eG (.putfield 186) 11 17 17 100, none, none, e1 (.aload_n 0), eG (.getfield 186) 11 17 17 100, none, none, e1 (.aload_n 0), 
  eG (.getfield 169) 11 16 16 99, none, none, eA (.if_icmp .ne 11) 3 117, none, none, e1 (.aload_n 0), e1 (.iconst 0), eG (.putfield 183) 11 19 19 102, none, none, eA (.goto 225) 3 339, none, none, e1 (.aload_n 0), 
  e1 (.aload_n 0), eG (.getfield 186) 11 17 17 100, none, none, eS (.invokevirtual 189) 209 1 242, none, none, eA (.ifCond .eq 73) 3 198, none, none, e1 (.aload_n 0), e1 (.aload_n 0), eG (.getfield 180) 11 18 18 101, none, 
  none, eS (.invokevirtual 189) 209 1 242, none, none, eA (.ifCond .eq 16) 3 152, none, none, e1 (.aload_n 0), e1 .dup, eG (.getfield 180) 11 18 18 101, none, none, eV (.iconst 1) 1 1, e1 .iadd, 
  eG (.putfield 180) 11 18 18 101, none, none, eA (.goto (-21)) 3 128, none, none, e1 (.aload_n 0), e1 (.iload_n 1), eA (.ifCond .eq 7) 3 161, none, none, eV (.iconst 4) 1 4, eA (.goto 4) 3 162, none, none, 
  eV (.iconst 1) 1 1, eG (.putfield 183) 11 19 19 102, none, none, e1 (.aload_n 0), e1 (.aload_n 0), eG (.getfield 180) 11 18 18 101, none, none, e1 (.aload_n 0), eG (.getfield 186) 11 17 17 100, none, none, e1 .isub, 
  eV (.iconst 1) 1 1, eA (.if_icmp .ne 15) 3 191, none, none, e1 (.aload_n 0), eG (.getfield 48) 11 15 15 98, none, none, e1 (.aload_n 0), eG (.getfield 186) 11 17 17 100, none, none, e1 .iaload, eA (.goto 4) 3 192, none, 
  none, e1 (.iconst 0), eG (.putfield 192) 11 21 21 104, none, none, eA (.goto 144) 3 339, none, none, e1 (.aload_n 0), e1 (.aload_n 0), eG (.getfield 186) 11 17 17 100, none, none, eS (.invokevirtual 195) 210 1 243, none, 
  none, eA (.ifCond .eq 105) 3 311, none, none, e1 (.aload_n 0), e1 (.iconst 0), eG (.putfield 198) 11 20 20 103, none, none, e1 (.aload_n 0), e1 (.aload_n 0), eG (.getfield 180) 11 18 18 101, none, none, 
  eS (.invokevirtual 195) 210 1 243, none, none, eA (.ifCond .eq 60) 3 282, none, none, e1 (.aload_n 0), e1 (.aload_n 0), eG (.getfield 180) 11 18 18 101, none, none, e1 (.aload_n 0), eG (.getfield 186) 11 17 17 100, none, 
  none, e1 .isub, eV (.iconst 4) 1 4, eA (.if_icmp .ge 26) 3 262, none, none, eV (.bipush 10) 2 10, none, e1 (.aload_n 0), eG (.getfield 198) 11 20 20 103, none, none, e1 .imul, e1 (.aload_n 0), 
  eG (.getfield 48) 11 15 15 98, none, none, e1 (.aload_n 0), eG (.getfield 180) 11 18 18 101, none, none, e1 .iaload, e1 .iadd, eV (.bipush 48) 2 48, none, e1 .isub, eA (.goto 7) 3 266, none, none, e1 (.aload_n 0), 
  eG (.getfield 198) 11 20 20 103, none, none, eG (.putfield 198) 11 20 20 103, none, none, e1 (.aload_n 0), e1 .dup, eG (.getfield 180) 11 18 18 101, none, none, eV (.iconst 1) 1 1, e1 .iadd, 
  eG (.putfield 180) 11 18 18 101, none, none, eA (.goto (-65)) 3 214, none, none, e1 (.aload_n 0), e1 (.iload_n 1), eA (.ifCond .ne 16) 3 300, none, none, e1 (.aload_n 0), eG (.getfield 180) 11 18 18 101, none, none, 
  e1 (.aload_n 0), eG (.getfield 186) 11 17 17 100, none, none, e1 .isub, eV (.iconst 4) 1 4, eA (.if_icmp .le 7) 3 304, none, none, eV (.iconst 4) 1 4, eA (.goto 4) 3 305, none, none, eV (.iconst 2) 1 2, 
  eG (.putfield 183) 11 19 19 102, none, none, eA (.goto 31) 3 339, none, none, e1 (.aload_n 0), eV (.iconst 3) 1 3, eG (.putfield 183) 11 19 19 102, none, none, e1 (.aload_n 0), e1 (.aload_n 0), 
  eG (.getfield 48) 11 15 15 98, none, none, e1 (.aload_n 0), eG (.getfield 186) 11 17 17 100, none, none, e1 .iaload, eG (.putfield 192) 11 21 21 104, none, none, e1 (.aload_n 0), e1 .dup, eG (.getfield 180) 11 18 18 101, 
  none, none, eV (.iconst 1) 1 1, e1 .iadd, eG (.putfield 180) 11 18 18 101, none, none, e1 .return_]
set_option maxRecDepth 100000 in
def cd212 : Cd := [e1 (.aload_n 0), eG (.getfield 183) 11 19 19 102, none, none, eV (.iconst 3) 1 3, eA (.if_icmp .ne 15) 3 20, none, none, e1 (.aload_n 0), eG (.getfield 192) 11 21 21 104, none, none, e1 (.iload_n 1), 
  eA (.if_icmp .ne 7) 3 20, none, none, eV (.iconst 1) 1 1, eA (.goto 4) 3 21, none, none, e1 (.iconst 0), e1 .ireturn]
set_option maxRecDepth 100000 in
def cd213 : Cd := [e2 (.iload 4), none, eA (.ifCond .ne 7) 3 9, none, none, eV (.iconst 3) 1 3, eA (.goto 4) 3 10, none, none, eV (.iconst 4) 1 4, e2 (.istore 5), none, e1 (.aload_n 0), eG (.getfield 183) 11 19 19 102, none, none, 
  eV (.iconst 1) 1 1, eA (.if_icmp .ne 85) 3 102, none, none, e1 (.aload_n 0), eG (.getfield 180) 11 18 18 101, none, none, e1 (.aload_n 0), eG (.getfield 186) 11 17 17 100, none, none, e1 .isub, e2 (.iload 5), none, 
  eA (.if_icmp .ne 71) 3 102, none, none, e1 (.aload_n 0), eG (.getfield 48) 11 15 15 98, none, none, e1 (.aload_n 0), eG (.getfield 186) 11 17 17 100, none, none, e1 .iaload, e1 (.iload_n 1), eA (.if_icmp .ne 58) 3 102, 
  none, none, e1 (.aload_n 0), eG (.getfield 48) 11 15 15 98, none, none, e1 (.aload_n 0), eG (.getfield 186) 11 17 17 100, none, none, eV (.iconst 1) 1 1, e1 .iadd, e1 .iaload, e1 (.iload_n 2), eA (.if_icmp .ne 43) 3 102, 
  none, none, e1 (.aload_n 0), eG (.getfield 48) 11 15 15 98, none, none, e1 (.aload_n 0), eG (.getfield 186) 11 17 17 100, none, none, eV (.iconst 2) 1 2, e1 .iadd, e1 .iaload, e1 (.iload_n 3), eA (.if_icmp .ne 28) 3 102, 
  none, none, e2 (.iload 4), none, eA (.ifCond .eq 19) 3 98, none, none, e1 (.aload_n 0), eG (.getfield 48) 11 15 15 98, none, none, e1 (.aload_n 0), eG (.getfield 186) 11 17 17 100, none, none, eV (.iconst 3) 1 3, 
  e1 .iadd, e1 .iaload, e2 (.iload 4), none, eA (.if_icmp .ne 7) 3 102, none, none, eV (.iconst 1) 1 1, eA (.goto 4) 3 103, none, none, e1 (.iconst 0), e1 .ireturn]
set_option maxRecDepth 100000 in
def cd214 : Cd := [e2 (.iload 6), none, eA (.ifCond .ne 7) 3 9, none, none, eV (.iconst 5) 1 5, eA (.goto 5) 3 11, none, none, eV (.bipush 6) 2 6, none, e2 (.istore 7), none, e1 (.aload_n 0), eG (.getfield 183) 11 19 19 102, none, none, 
  eV (.iconst 1) 1 1, eA (.if_icmp .ne 117) 3 135, none, none, e1 (.aload_n 0), eG (.getfield 180) 11 18 18 101, none, none, e1 (.aload_n 0), eG (.getfield 186) 11 17 17 100, none, none, e1 .isub, e2 (.iload 7), none, 
  eA (.if_icmp .ne 103) 3 135, none, none, e1 (.aload_n 0), eG (.getfield 48) 11 15 15 98, none, none, e1 (.aload_n 0), eG (.getfield 186) 11 17 17 100, none, none, e1 .iaload, e1 (.iload_n 1), eA (.if_icmp .ne 90) 3 135, 
  none, none, e1 (.aload_n 0), eG (.getfield 48) 11 15 15 98, none, none, e1 (.aload_n 0), eG (.getfield 186) 11 17 17 100, none, none, eV (.iconst 1) 1 1, e1 .iadd, e1 .iaload, e1 (.iload_n 2), eA (.if_icmp .ne 75) 3 135, 
  none, none, e1 (.aload_n 0), eG (.getfield 48) 11 15 15 98, none, none, e1 (.aload_n 0), eG (.getfield 186) 11 17 17 100, none, none, eV (.iconst 2) 1 2, e1 .iadd, e1 .iaload, e1 (.iload_n 3), eA (.if_icmp .ne 60) 3 135, 
  none, none, e1 (.aload_n 0), eG (.getfield 48) 11 15 15 98, none, none, e1 (.aload_n 0), eG (.getfield 186) 11 17 17 100, none, none, eV (.iconst 3) 1 3, e1 .iadd, e1 .iaload, e2 (.iload 4), none, 
  eA (.if_icmp .ne 44) 3 135, none, none, e1 (.aload_n 0), eG (.getfield 48) 11 15 15 98, none, none, e1 (.aload_n 0), eG (.getfield 186) 11 17 17 100, none, none, eV (.iconst 4) 1 4, e1 .iadd, e1 .iaload, e2 (.iload 5), 
  none, eA (.if_icmp .ne 28) 3 135, none, none, e2 (.iload 6), none, eA (.ifCond .eq 19) 3 131, none, none, e1 (.aload_n 0), eG (.getfield 48) 11 15 15 98, none, none, e1 (.aload_n 0), eG (.getfield 186) 11 17 17 100, none, 
  none, eV (.iconst 5) 1 5, e1 .iadd, e1 .iaload, e2 (.iload 6), none, eA (.if_icmp .ne 7) 3 135, none, none, eV (.iconst 1) 1 1, eA (.goto 4) 3 136, none, none, e1 (.iconst 0), e1 .ireturn]
set_option maxRecDepth 100000 in
def cd215 : Cd := [e1 (.aload_n 0), eV (.bipush 112) 2 112, none, eV (.bipush 97) 2 97, none, eV (.bipush 121) 2 121, none, e1 (.iconst 0), eS (.invokevirtual 201) 213 4 245, none, none, eA (.ifCond .eq 7) 3 18, none, none, e1 (.iconst 0), 
  eA (.goto 61) 3 76, none, none, e1 (.aload_n 0), eV (.bipush 108) 2 108, none, eV (.bipush 111) 2 111, none, eV (.bipush 115) 2 115, none, eV (.bipush 116) 2 116, none, eS (.invokevirtual 201) 213 4 245, none, none, 
  eA (.ifCond .eq 7) 3 37, none, none, eV (.iconst 1) 1 1, eA (.goto 42) 3 76, none, none, e1 (.aload_n 0), eV (.bipush 115) 2 115, none, eV (.bipush 97) 2 97, none, eV (.bipush 118) 2 118, none, eV (.bipush 101) 2 101, 
  none, eS (.invokevirtual 201) 213 4 245, none, none, eA (.ifCond .eq 7) 3 56, none, none, eV (.iconst 3) 1 3, eA (.goto 23) 3 76, none, none, e1 (.aload_n 0), eV (.bipush 100) 2 100, none, eV (.bipush 97) 2 97, none, 
  eV (.bipush 121) 2 121, none, eV (.bipush 115) 2 115, none, eS (.invokevirtual 201) 213 4 245, none, none, eA (.ifCond .eq 7) 3 75, none, none, eV (.iconst 5) 1 5, eA (.goto 4) 3 76, none, none, eV (.iconst (-1)) 1 (-1), 
  e1 (.istore_n 1), e1 (.aload_n 0), eV (.bipush 118) 2 118, none, eV (.bipush 105) 2 105, none, eV (.bipush 99) 2 99, none, eV (.bipush 116) 2 116, none, eV (.bipush 105) 2 105, none, eV (.bipush 109) 2 109, none, 
  eS (.invokevirtual 205) 214 6 246, none, none, eA (.ifCond .eq 7) 3 100, none, none, eV (.iconst 2) 1 2, eA (.goto 26) 3 123, none, none, e1 (.aload_n 0), eV (.bipush 108) 2 108, none, eV (.bipush 101) 2 101, none, 
  eV (.bipush 97) 2 97, none, eV (.bipush 115) 2 115, none, eV (.bipush 116) 2 116, none, e1 (.iconst 0), eS (.invokevirtual 205) 214 6 246, none, none, eA (.ifCond .eq 7) 3 122, none, none, eV (.iconst 4) 1 4, 
  eA (.goto 4) 3 123, none, none, e1 (.iload_n 1), e1 .ireturn]
set_option maxRecDepth 100000 in
def cd216 : Cd := [e1 (.iload_n 0), some (.tableswitch 119 0 4 #[35, 59, 71, 89, 107], 35, 120, 0, 0, 0, [(0, 36), (1, 60), (2, 72), (3, 90), (4, 108)]), none, none, none, none, none, none, none, none, none, none, none, none, none, none, 
  none, none, none, none, none, none, none, none, none, none, none, none, none, none, none, none, none, none, none, none, e1 (.iload_n 1), eV (.bipush 110) 2 110, none, eA (.if_icmp .eq 15) 3 54, none, none, 
  e1 (.iload_n 1), eV (.bipush 107) 2 107, none, eA (.if_icmp .eq 9) 3 54, none, none, e1 (.iload_n 1), eV (.bipush 114) 2 114, none, eA (.if_icmp .ne 7) 3 58, none, none, eV (.iconst 1) 1 1, eA (.goto 4) 3 59, none, none, 
  e1 (.iconst 0), e1 .ireturn, e1 (.iload_n 1), eV (.bipush 107) 2 107, none, eA (.if_icmp .ne 7) 3 70, none, none, eV (.iconst 1) 1 1, eA (.goto 4) 3 71, none, none, e1 (.iconst 0), e1 .ireturn, e1 (.iload_n 1), 
  eV (.bipush 103) 2 103, none, eA (.if_icmp .eq 9) 3 84, none, none, e1 (.iload_n 1), eV (.bipush 111) 2 111, none, eA (.if_icmp .ne 7) 3 88, none, none, eV (.iconst 1) 1 1, eA (.goto 4) 3 89, none, none, e1 (.iconst 0), 
  e1 .ireturn, e1 (.iload_n 1), eV (.bipush 103) 2 103, none, eA (.if_icmp .eq 9) 3 102, none, none, e1 (.iload_n 1), eV (.bipush 116) 2 116, none, eA (.if_icmp .ne 7) 3 106, none, none, eV (.iconst 1) 1 1, 
  eA (.goto 4) 3 107, none, none, e1 (.iconst 0), e1 .ireturn, e1 (.iload_n 1), eV (.bipush 103) 2 103, none, eA (.if_icmp .ne 7) 3 118, none, none, eV (.iconst 1) 1 1, eA (.goto 4) 3 119, none, none, e1 (.iconst 0), 
  e1 .ireturn, e1 (.iload_n 1), eV (.bipush 119) 2 119, none, eA (.if_icmp .eq 9) 3 132, none, none, e1 (.iload_n 1), eV (.bipush 107) 2 107, none, eA (.if_icmp .ne 7) 3 136, none, none, eV (.iconst 1) 1 1, 
  eA (.goto 4) 3 137, none, none, e1 (.iconst 0), e1 .ireturn]
set_option maxRecDepth 100000 in
def cd217 : Cd := [e1 (.aload_n 0), eS (.getfield 7) 11 0 83, none, none, e1 (.aload_n 0), eG (.getfield 209) 11 25 25 108, none, none, eV (.iconst 2) 1 2, e1 (.aload_n 0), eG (.getfield 212) 11 24 24 107, none, none, e1 .imul, e1 .iadd, 
  e1 (.iload_n 1), e1 .iastore, e1 (.aload_n 0), eS (.getfield 7) 11 0 83, none, none, e1 (.aload_n 0), eG (.getfield 209) 11 25 25 108, none, none, eV (.iconst 2) 1 2, e1 (.aload_n 0), eG (.getfield 212) 11 24 24 107, 
  none, none, e1 .imul, e1 .iadd, eV (.iconst 1) 1 1, e1 .iadd, e1 (.iload_n 2), e1 .iastore, e1 (.aload_n 0), e1 .dup, eG (.getfield 212) 11 24 24 107, none, none, eV (.iconst 1) 1 1, e1 .iadd, 
  eG (.putfield 212) 11 24 24 107, none, none, e1 .return_]
set_option maxRecDepth 100000 in
def cd218 : Cd := [e1 (.aload_n 0), e1 (.iload_n 1), eS (.invokevirtual 215) 219 1 248, none, none, eA (.ifCond .ne 5) 3 10, none, none, e1 (.iconst 0), e1 .ireturn, e1 (.aload_n 0), eV (.bipush 124) 2 124, none, 
  eS (.invokevirtual 218) 212 1 255, none, none, eA (.ifCond .eq 27) 3 43, none, none, e1 (.aload_n 0), eS (.invokevirtual 221) 211 0 241, none, none, e1 (.aload_n 0), e1 (.iload_n 1), eS (.invokevirtual 215) 219 1 248, 
  none, none, eA (.ifCond .ne 5) 3 33, none, none, e1 (.iconst 0), e1 .ireturn, e1 (.aload_n 0), eV (.iconst 2) 1 2, eV (.bipush 124) 2 124, none, eS (.invokevirtual 224) 217 2 253, none, none, eA (.goto (-30)) 3 10, none, 
  none, eV (.iconst 1) 1 1, e1 .ireturn]
set_option maxRecDepth 100000 in
def cd219 : Cd := [e1 (.aload_n 0), e1 (.iload_n 1), eS (.invokevirtual 227) 220 1 249, none, none, eA (.ifCond .ne 5) 3 10, none, none, e1 (.iconst 0), e1 .ireturn, e1 (.aload_n 0), eV (.bipush 38) 2 38, none, 
  eS (.invokevirtual 218) 212 1 255, none, none, eA (.ifCond .eq 27) 3 43, none, none, e1 (.aload_n 0), eS (.invokevirtual 221) 211 0 241, none, none, e1 (.aload_n 0), e1 (.iload_n 1), eS (.invokevirtual 227) 220 1 249, 
  none, none, eA (.ifCond .ne 5) 3 33, none, none, e1 (.iconst 0), e1 .ireturn, e1 (.aload_n 0), eV (.iconst 2) 1 2, eV (.bipush 38) 2 38, none, eS (.invokevirtual 224) 217 2 253, none, none, eA (.goto (-30)) 3 10, none, 
  none, eV (.iconst 1) 1 1, e1 .ireturn]
set_option maxRecDepth 100000 in
def cd220 : Cd := [e1 (.aload_n 0), e1 (.iload_n 1), eS (.invokevirtual 230) 221 1 250, none, none, eA (.ifCond .ne 5) 3 10, none, none, e1 (.iconst 0), e1 .ireturn, e1 (.aload_n 0), eV (.bipush 60) 2 60, none, 
  eS (.invokevirtual 218) 212 1 255, none, none, eA (.ifCond .ne 21) 3 37, none, none, e1 (.aload_n 0), eV (.bipush 61) 2 61, none, eS (.invokevirtual 218) 212 1 255, none, none, eA (.ifCond .ne 12) 3 37, none, none, 
  e1 (.aload_n 0), eV (.bipush 62) 2 62, none, eS (.invokevirtual 218) 212 1 255, none, none, eA (.ifCond .eq 28) 3 62, none, none, e1 (.aload_n 0), eG (.getfield 192) 11 21 21 104, none, none, e1 (.istore_n 2), 
  e1 (.aload_n 0), eS (.invokevirtual 221) 211 0 241, none, none, e1 (.aload_n 0), e1 (.iload_n 1), eS (.invokevirtual 230) 221 1 250, none, none, eA (.ifCond .ne 5) 3 56, none, none, e1 (.iconst 0), e1 .ireturn, 
  e1 (.aload_n 0), eV (.iconst 2) 1 2, e1 (.iload_n 2), eS (.invokevirtual 224) 217 2 253, none, none, eV (.iconst 1) 1 1, e1 .ireturn]
set_option maxRecDepth 100000 in
def cd221 : Cd := [e1 (.aload_n 0), e1 (.iload_n 1), eS (.invokevirtual 233) 222 1 251, none, none, eA (.ifCond .ne 5) 3 10, none, none, e1 (.iconst 0), e1 .ireturn, e1 (.aload_n 0), eV (.bipush 43) 2 43, none, 
  eS (.invokevirtual 218) 212 1 255, none, none, eA (.ifCond .ne 12) 3 28, none, none, e1 (.aload_n 0), eV (.bipush 45) 2 45, none, eS (.invokevirtual 218) 212 1 255, none, none, eA (.ifCond .eq 31) 3 56, none, none, 
  e1 (.aload_n 0), eG (.getfield 192) 11 21 21 104, none, none, e1 (.istore_n 2), e1 (.aload_n 0), eS (.invokevirtual 221) 211 0 241, none, none, e1 (.aload_n 0), e1 (.iload_n 1), eS (.invokevirtual 233) 222 1 251, none, 
  none, eA (.ifCond .ne 5) 3 47, none, none, e1 (.iconst 0), e1 .ireturn, e1 (.aload_n 0), eV (.iconst 2) 1 2, e1 (.iload_n 2), eS (.invokevirtual 224) 217 2 253, none, none, eA (.goto (-43)) 3 10, none, none, 
  eV (.iconst 1) 1 1, e1 .ireturn]
set_option maxRecDepth 100000 in
def cd222 : Cd := [e1 (.aload_n 0), e1 (.iload_n 1), eS (.invokevirtual 236) 223 1 252, none, none, eA (.ifCond .ne 5) 3 10, none, none, e1 (.iconst 0), e1 .ireturn, e1 (.aload_n 0), eV (.bipush 42) 2 42, none, 
  eS (.invokevirtual 218) 212 1 255, none, none, eA (.ifCond .ne 12) 3 28, none, none, e1 (.aload_n 0), eV (.bipush 47) 2 47, none, eS (.invokevirtual 218) 212 1 255, none, none, eA (.ifCond .eq 31) 3 56, none, none, 
  e1 (.aload_n 0), eG (.getfield 192) 11 21 21 104, none, none, e1 (.istore_n 2), e1 (.aload_n 0), eS (.invokevirtual 221) 211 0 241, none, none, e1 (.aload_n 0), e1 (.iload_n 1), eS (.invokevirtual 236) 223 1 252, none, 
  none, eA (.ifCond .ne 5) 3 47, none, none, e1 (.iconst 0), e1 .ireturn, e1 (.aload_n 0), eV (.iconst 2) 1 2, e1 (.iload_n 2), eS (.invokevirtual 224) 217 2 253, none, none, eA (.goto (-43)) 3 10, none, none, 
  eV (.iconst 1) 1 1, e1 .ireturn]
set_option maxRecDepth 100000 in
def cd223 : Cd := [e1 (.aload_n 0), eG (.getfield 183) 11 19 19 102, none, none, eV (.iconst 2) 1 2, eA (.if_icmp .ne 28) 3 33, none, none, e1 (.aload_n 0), e1 (.iconst 0), e1 (.aload_n 0), eG (.getfield 198) 11 20 20 103, none, none, 
  eS (.invokevirtual 224) 217 2 253, none, none, e1 (.aload_n 0), e1 .dup, eG (.getfield 239) 11 26 26 109, none, none, eV (.iconst 1) 1 1, e1 .iadd, eG (.putfield 239) 11 26 26 109, none, none, e1 (.aload_n 0), 
  eS (.invokevirtual 221) 211 0 241, none, none, eV (.iconst 1) 1 1, e1 .ireturn, e1 (.aload_n 0), eG (.getfield 183) 11 19 19 102, none, none, eV (.iconst 1) 1 1, eA (.if_icmp .ne 46) 3 84, none, none, e1 (.aload_n 0), 
  eG (.getfield 192) 11 21 21 104, none, none, eA (.ifCond .eq 39) 3 84, none, none, e1 (.iload_n 1), e1 (.aload_n 0), eG (.getfield 192) 11 21 21 104, none, none, eS (.invokestatic 242) 216 2 254, none, none, 
  eA (.ifCond .eq 28) 3 84, none, none, e1 (.aload_n 0), eV (.iconst 1) 1 1, e1 (.aload_n 0), eG (.getfield 192) 11 21 21 104, none, none, eS (.invokevirtual 224) 217 2 253, none, none, e1 (.aload_n 0), e1 .dup, 
  eG (.getfield 239) 11 26 26 109, none, none, eV (.iconst 1) 1 1, e1 .iadd, eG (.putfield 239) 11 26 26 109, none, none, e1 (.aload_n 0), eS (.invokevirtual 221) 211 0 241, none, none, eV (.iconst 1) 1 1, e1 .ireturn, 
  e1 (.aload_n 0), eV (.bipush 33) 2 33, none, eS (.invokevirtual 218) 212 1 255, none, none, eA (.ifCond .eq 55) 3 145, none, none, e1 (.aload_n 0), eG (.getfield 245) 11 23 23 106, none, none, eV (.bipush 8) 2 8, none, 
  eA (.if_icmp .ge 46) 3 145, none, none, e1 (.aload_n 0), e1 .dup, eG (.getfield 245) 11 23 23 106, none, none, eV (.iconst 1) 1 1, e1 .iadd, eG (.putfield 245) 11 23 23 106, none, none, e1 (.aload_n 0), 
  eS (.invokevirtual 221) 211 0 241, none, none, e1 (.aload_n 0), e1 (.iload_n 1), eS (.invokevirtual 236) 223 1 252, none, none, eA (.ifCond .ne 5) 3 126, none, none, e1 (.iconst 0), e1 .ireturn, e1 (.aload_n 0), e1 .dup, 
  eG (.getfield 245) 11 23 23 106, none, none, eV (.iconst 1) 1 1, e1 .isub, eG (.putfield 245) 11 23 23 106, none, none, e1 (.aload_n 0), eV (.iconst 2) 1 2, eV (.bipush 33) 2 33, none, eS (.invokevirtual 224) 217 2 253, 
  none, none, eV (.iconst 1) 1 1, e1 .ireturn, e1 (.aload_n 0), eV (.bipush 40) 2 40, none, eS (.invokevirtual 218) 212 1 255, none, none, eA (.ifCond .eq 12) 3 163, none, none, e1 (.aload_n 0), 
  eG (.getfield 248) 11 22 22 105, none, none, eV (.bipush 8) 2 8, none, eA (.if_icmp .ne 5) 3 165, none, none, e1 (.iconst 0), e1 .ireturn, e1 (.aload_n 0), e1 .dup, eG (.getfield 248) 11 22 22 105, none, none, 
  eV (.iconst 1) 1 1, e1 .iadd, eG (.putfield 248) 11 22 22 105, none, none, e1 (.aload_n 0), eS (.invokevirtual 221) 211 0 241, none, none, e1 (.aload_n 0), e1 (.iload_n 1), eS (.invokevirtual 251) 218 1 247, none, none, 
  eA (.ifCond .eq 12) 3 196, none, none, e1 (.aload_n 0), eV (.bipush 41) 2 41, none, eS (.invokevirtual 218) 212 1 255, none, none, eA (.ifCond .ne 5) 3 198, none, none, e1 (.iconst 0), e1 .ireturn, e1 (.aload_n 0), 
  e1 .dup, eG (.getfield 248) 11 22 22 105, none, none, eV (.iconst 1) 1 1, e1 .isub, eG (.putfield 248) 11 22 22 105, none, none, e1 (.aload_n 0), eS (.invokevirtual 221) 211 0 241, none, none, eV (.iconst 1) 1 1, 
  e1 .ireturn]
set_option maxRecDepth 100000 in
def cd224 : Cd := [e1 (.aload_n 0), e1 (.iconst 0), eG (.putfield 180) 11 18 18 101, none, none, e1 (.aload_n 0), eV (.iconst 3) 1 3, eG (.putfield 183) 11 19 19 102, none, none, e1 (.aload_n 0), e1 (.iconst 0), 
  eG (.putfield 248) 11 22 22 105, none, none, e1 (.aload_n 0), e1 (.iconst 0), eG (.putfield 245) 11 23 23 106, none, none, e1 (.aload_n 0), e1 (.iconst 0), eG (.putfield 212) 11 24 24 107, none, none, e1 (.aload_n 0), 
  e1 (.iconst 0), eG (.putfield 239) 11 26 26 109, none, none, e1 (.aload_n 0), e1 (.aload_n 0), eS (.getfield 7) 11 0 83, none, none, eV (.iconst 4) 1 4, e1 .iaload, eV (.bipush 12) 2 12, none, eA (.if_icmp .ge 18) 3 57, 
  none, none, e1 (.aload_n 0), e1 (.aload_n 0), eS (.getfield 7) 11 0 83, none, none, eV (.iconst 4) 1 4, e1 .iaload, eS (.invokevirtual 254) 166 1 240, none, none, eV (.iconst 4) 1 4, e1 .iadd, eA (.goto 6) 3 60, none, 
  none, eV (.sipush 3200) 3 3200, none, none, eG (.putfield 209) 11 25 25 108, none, none, e1 (.aload_n 0), eS (.invokevirtual 221) 211 0 241, none, none, e1 (.aload_n 0), eS (.invokevirtual 257) 215 0 244, none, none, 
  e1 (.istore_n 1), e1 (.iload_n 1), eA (.ifCond .lt 7) 3 80, none, none, eV (.iconst 1) 1 1, eA (.goto 4) 3 81, none, none, e1 (.iconst 0), e1 (.istore_n 2), e1 (.iload_n 2), eA (.ifCond .eq 28) 3 111, none, none, 
  e1 (.aload_n 0), eS (.invokevirtual 221) 211 0 241, none, none, e1 (.aload_n 0), e1 (.iload_n 1), eS (.invokevirtual 251) 218 1 247, none, none, eA (.ifCond .eq 14) 3 109, none, none, e1 (.aload_n 0), 
  eG (.getfield 183) 11 19 19 102, none, none, eA (.ifCond .ne 7) 3 109, none, none, eV (.iconst 1) 1 1, eA (.goto 4) 3 110, none, none, e1 (.iconst 0), e1 (.istore_n 2), e1 (.aload_n 0), e1 (.iconst 0), 
  eG (.putfield 169) 11 16 16 99, none, none, e1 (.iload_n 2), eA (.ifCond .eq 7) 3 124, none, none, e1 (.iload_n 1), eA (.goto 4) 3 125, none, none, eV (.iconst (-1)) 1 (-1), e1 .ireturn]
set_option maxRecDepth 100000 in
def cd225 : Cd := [e1 (.iload_n 1), e1 .i2l, e1 (.lconst 0), some (.ldc2_w 112, 3, 0, 0, 0, 999, [(0, 4)]), none, none, eS (.invokestatic 67) 159 3 194, none, none, e1 (.istore_n 2), e1 (.aload_n 0), eS (.invokevirtual 261) 224 0 239, none, 
  none, e1 (.istore_n 3), e1 (.iload_n 2), eA (.ifCond .ne 6) 3 22, none, none, some (.ldc 87, 2, 0, 0, -1000000001, 0, [(0, 24)]), none, e1 .ireturn, e1 (.iload_n 3), eA (.ifCond .ge 11) 3 34, none, none, 
  eV (.bipush (-100)) 2 (-100), none, e1 (.aload_n 0), eG (.getfield 186) 11 17 17 100, none, none, e1 .isub, e1 .ireturn, e1 (.aload_n 0), eS (.getfield 7) 11 0 83, none, none, eV (.iconst 4) 1 4, e1 .iaload, 
  eV (.bipush 12) 2 12, none, eA (.if_icmp .ne 6) 3 48, none, none, some (.ldc 88, 2, 0, 0, -1000000003, 0, [(0, 25)]), none, e1 .ireturn, e1 (.aload_n 0), e1 (.aload_n 0), eS (.getfield 7) 11 0 83, none, none, 
  eV (.iconst 4) 1 4, e1 .iaload, eS (.invokevirtual 254) 166 1 240, none, none, e2 (.istore 4), none, e1 (.aload_n 0), eS (.getfield 7) 11 0 83, none, none, e2 (.iload 4), none, e1 (.iconst 0), e1 .iadd, e1 (.iload_n 3), 
  e1 .iastore, e1 (.aload_n 0), eS (.getfield 7) 11 0 83, none, none, e2 (.iload 4), none, eV (.iconst 1) 1 1, e1 .iadd, e1 (.iload_n 1), e1 .iastore, e1 (.aload_n 0), eS (.getfield 7) 11 0 83, none, none, e2 (.iload 4), 
  none, eV (.iconst 2) 1 2, e1 .iadd, e1 (.aload_n 0), eG (.getfield 239) 11 26 26 109, none, none, e1 .iastore, e1 (.aload_n 0), eS (.getfield 7) 11 0 83, none, none, e2 (.iload 4), none, eV (.iconst 3) 1 3, e1 .iadd, 
  e1 (.aload_n 0), eG (.getfield 212) 11 24 24 107, none, none, e1 .iastore, e1 (.aload_n 0), eS (.getfield 7) 11 0 83, none, none, eV (.iconst 4) 1 4, e1 .dup2, e1 .iaload, eV (.iconst 1) 1 1, e1 .iadd, e1 .iastore, 
  e1 (.aload_n 0), eS (.getfield 7) 11 0 83, none, none, eV (.iconst 4) 1 4, e1 .iaload, eV (.iconst 1) 1 1, e1 .isub, e1 .ireturn]
set_option maxRecDepth 100000 in
def cd226 : Cd := [e1 (.aload_n 0), e1 (.iload_n 1), eS (.invokevirtual 264) 171 1 257, none, none, eA (.ifCond .eq 30) 3 35, none, none, e1 (.iload_n 2), e1 .i2l, e1 (.lconst 0), some (.ldc2_w 267, 3, 0, 0, 0, 2, [(0, 12)]), none, none, 
  eS (.invokestatic 67) 159 3 194, none, none, eA (.ifCond .eq 18) 3 35, none, none, e1 (.aload_n 0), eS (.getfield 7) 11 0 83, none, none, e1 (.aload_n 0), e1 (.iload_n 1), eS (.invokevirtual 254) 166 1 240, none, none, 
  e1 (.iload_n 2), e1 .iadd, e1 .iaload, eA (.goto 5) 3 37, none, none, some (.ldc 87, 2, 0, 0, -1000000001, 0, [(0, 24)]), none, e1 .ireturn]
set_option maxRecDepth 100000 in
def cd227 : Cd := [eV (.iconst (-1)) 1 (-1), e1 (.istore_n 2), e1 (.iconst 0), e1 (.istore_n 3), e1 (.iload_n 3), e1 (.aload_n 0), eS (.getfield 7) 11 0 83, none, none, eV (.iconst 4) 1 4, e1 .iaload, eA (.if_icmp .ge 95) 3 106, none, none, 
  e1 (.aload_n 0), eS (.getfield 7) 11 0 83, none, none, e1 (.aload_n 0), e1 (.iload_n 3), eS (.invokevirtual 254) 166 1 240, none, none, e1 (.iconst 0), e1 .iadd, e1 .iaload, e1 (.iload_n 1), eA (.if_icmp .ne 28) 3 55, 
  none, none, e1 (.aload_n 0), eS (.getfield 7) 11 0 83, none, none, e1 (.aload_n 0), e1 (.iload_n 3), eS (.invokevirtual 254) 166 1 240, none, none, eV (.iconst 1) 1 1, e1 .iadd, e1 .iaload, e1 (.aload_n 0), 
  eS (.getfield 7) 11 0 83, none, none, e1 (.iconst 0), e1 .iaload, eA (.if_icmp .gt 7) 3 55, none, none, eV (.iconst 1) 1 1, eA (.goto 4) 3 56, none, none, e1 (.iconst 0), e2 (.istore 4), none, e2 (.iload 4), none, 
  eA (.ifCond .eq 38) 3 98, none, none, e1 (.iload_n 2), eA (.ifCond .lt 30) 3 94, none, none, e1 (.aload_n 0), eS (.getfield 7) 11 0 83, none, none, e1 (.aload_n 0), e1 (.iload_n 3), eS (.invokevirtual 254) 166 1 240, 
  none, none, eV (.iconst 1) 1 1, e1 .iadd, e1 .iaload, e1 (.aload_n 0), eS (.getfield 7) 11 0 83, none, none, e1 (.aload_n 0), e1 (.iload_n 2), eS (.invokevirtual 254) 166 1 240, none, none, eV (.iconst 1) 1 1, e1 .iadd, 
  e1 .iaload, eA (.if_icmp .lt 7) 3 98, none, none, e1 (.iload_n 3), eA (.goto 4) 3 99, none, none, e1 (.iload_n 2), e1 (.istore_n 2), eV (.iinc 3 1) 3 1, none, none, eA (.goto (-99)) 3 4, none, none, e1 (.iload_n 2), 
  e1 .ireturn]
set_option maxRecDepth 100000 in
def cd228 : Cd := [e1 (.iload_n 1), e1 .i2l, e1 (.lconst 0), some (.ldc2_w 85, 3, 0, 0, 0, 5, [(0, 0)]), none, none, eS (.invokestatic 67) 159 3 194, none, none, eA (.ifCond .eq 14) 3 23, none, none, e1 (.aload_n 0), e1 (.iload_n 1), 
  eS (.invokevirtual 269) 227 1 259, none, none, eS (.invokestatic 119) 160 1 209, none, none, eA (.goto 5) 3 25, none, none, some (.ldc 87, 2, 0, 0, -1000000001, 0, [(0, 24)]), none, e1 .ireturn]
set_option maxRecDepth 100000 in
def cd229 : Cd := [e1 (.iload_n 0), 
  some (.tableswitch 196 38 62 #[182, 196, 196, 196, 123, 115, 196, 119, 196, 127, 196, 196, 196, 196, 196, 196, 196, 196, 196, 196, 196, 196, 149, 171, 160], 115, 197, 0, 0, 0, [(38, 183), (39, 197), (40, 197), (41, 197), (42, 124), (43, 116), (44, 197), (45, 120), (46, 197), (47, 128), (48, 197), (49, 197), (50, 197), (51, 197), (52, 197), (53, 197), (54, 197), (55, 197), (56, 197), (57, 197), (58, 197), (59, 197), (60, 150), (61, 172), (62, 161)]), 
  none, none, none, none, none, none, none, none, none, none, none, none, none, none, none, none, none, none, none, none, none, none, none, none, none, none, none, none, none, none, none, none, none, none, none, none, none, 
  none, none, none, none, none, none, none, none, none, none, none, none, none, none, none, none, none, none, none, none, none, none, none, none, none, none, none, none, none, none, none, none, none, none, none, none, none, 
  none, none, none, none, none, none, none, none, none, none, none, none, none, none, none, none, none, none, none, none, none, none, none, none, none, none, none, none, none, none, none, none, none, none, none, none, none, 
  none, none, none, e1 (.iload_n 1), e1 (.iload_n 2), e1 .iadd, e1 .ireturn, e1 (.iload_n 1), e1 (.iload_n 2), e1 .isub, e1 .ireturn, e1 (.iload_n 1), e1 (.iload_n 2), e1 .imul, e1 .ireturn, e1 (.iload_n 2), 
  eA (.ifCond .ne 7) 3 136, none, none, e1 (.iconst 0), eA (.goto 16) 3 149, none, none, e1 (.iload_n 2), eV (.iconst (-1)) 1 (-1), eA (.if_icmp .ne 8) 3 146, none, none, e1 (.iload_n 1), e1 .ineg, eA (.goto 6) 3 149, none, 
  none, e1 (.iload_n 1), e1 (.iload_n 2), e1 .idiv, e1 .ireturn, e1 (.iload_n 1), e1 (.iload_n 2), eA (.if_icmp .ge 7) 3 159, none, none, eV (.iconst 1) 1 1, eA (.goto 4) 3 160, none, none, e1 (.iconst 0), e1 .ireturn, 
  e1 (.iload_n 1), e1 (.iload_n 2), eA (.if_icmp .le 7) 3 170, none, none, eV (.iconst 1) 1 1, eA (.goto 4) 3 171, none, none, e1 (.iconst 0), e1 .ireturn, e1 (.iload_n 1), e1 (.iload_n 2), eA (.if_icmp .ne 7) 3 181, none, 
  none, eV (.iconst 1) 1 1, eA (.goto 4) 3 182, none, none, e1 (.iconst 0), e1 .ireturn, e1 (.iload_n 1), eA (.ifCond .eq 11) 3 195, none, none, e1 (.iload_n 2), eA (.ifCond .eq 7) 3 195, none, none, eV (.iconst 1) 1 1, 
  eA (.goto 4) 3 196, none, none, e1 (.iconst 0), e1 .ireturn, e1 (.iload_n 1), eA (.ifCond .ne 7) 3 205, none, none, e1 (.iload_n 2), eA (.ifCond .eq 7) 3 209, none, none, eV (.iconst 1) 1 1, eA (.goto 4) 3 210, none, 
  none, e1 (.iconst 0), e1 .ireturn]
set_option maxRecDepth 100000 in
def cd230 : Cd := [e1 (.iconst 0), e1 (.istore_n 2), e1 (.iconst 0), e1 (.istore_n 3), e1 (.iload_n 3), e1 (.aload_n 0), eS (.getfield 7) 11 0 83, none, none, e1 (.aload_n 0), e1 (.iload_n 1), eS (.invokevirtual 254) 166 1 240, none, none, 
  eV (.iconst 3) 1 3, e1 .iadd, e1 .iaload, eA (.if_icmp .ge 146) 3 163, none, none, e1 (.aload_n 0), eS (.getfield 7) 11 0 83, none, none, e1 (.aload_n 0), e1 (.iload_n 1), eS (.invokevirtual 254) 166 1 240, none, none, 
  eV (.iconst 4) 1 4, e1 .iadd, eV (.iconst 2) 1 2, e1 (.iload_n 3), e1 .imul, e1 .iadd, e1 .iaload, e2 (.istore 4), none, e1 (.aload_n 0), eS (.getfield 7) 11 0 83, none, none, e1 (.aload_n 0), e1 (.iload_n 1), 
  eS (.invokevirtual 254) 166 1 240, none, none, eV (.iconst 4) 1 4, e1 .iadd, eV (.iconst 2) 1 2, e1 (.iload_n 3), e1 .imul, e1 .iadd, eV (.iconst 1) 1 1, e1 .iadd, e1 .iaload, e2 (.istore 5), none, e2 (.iload 4), none, 
  eV (.iconst 2) 1 2, eA (.if_icmp .eq 32) 3 93, none, none, e1 (.aload_n 0), eG (.getfield 54) 11 28 28 111, none, none, e1 (.iload_n 2), e2 (.iload 4), none, eA (.ifCond .ne 8) 3 79, none, none, e2 (.iload 5), none, 
  eA (.goto 10) 3 86, none, none, e1 (.aload_n 0), eG (.getfield 51) 11 27 27 110, none, none, e2 (.iload 5), none, e1 .iaload, e1 .iastore, eV (.iinc 2 1) 3 1, none, none, eA (.goto 67) 3 157, none, none, e2 (.iload 5), 
  none, eV (.bipush 33) 2 33, none, eA (.if_icmp .ne 30) 3 127, none, none, e1 (.aload_n 0), eG (.getfield 54) 11 28 28 111, none, none, e1 (.iload_n 2), eV (.iconst 1) 1 1, e1 .isub, e1 (.aload_n 0), 
  eG (.getfield 54) 11 28 28 111, none, none, e1 (.iload_n 2), eV (.iconst 1) 1 1, e1 .isub, e1 .iaload, eA (.ifCond .ne 7) 3 122, none, none, eV (.iconst 1) 1 1, eA (.goto 4) 3 123, none, none, e1 (.iconst 0), e1 .iastore, 
  eA (.goto 33) 3 157, none, none, eV (.iinc 2 (-1)) 3 (-1), none, none, e1 (.aload_n 0), eG (.getfield 54) 11 28 28 111, none, none, e1 (.iload_n 2), eV (.iconst 1) 1 1, e1 .isub, e2 (.iload 5), none, e1 (.aload_n 0), 
  eG (.getfield 54) 11 28 28 111, none, none, e1 (.iload_n 2), eV (.iconst 1) 1 1, e1 .isub, e1 .iaload, e1 (.aload_n 0), eG (.getfield 54) 11 28 28 111, none, none, e1 (.iload_n 2), e1 .iaload, 
  eS (.invokestatic 272) 229 3 263, none, none, e1 .iastore, eV (.iinc 3 1) 3 1, none, none, eA (.goto (-156)) 3 4, none, none, e1 (.aload_n 0), eG (.getfield 54) 11 28 28 111, none, none, e1 (.iconst 0), e1 .iaload, 
  e1 .ireturn]
set_option maxRecDepth 100000 in
def cd231 : Cd := [e1 (.aload_n 0), eG (.getfield 51) 11 27 27 110, none, none, e1 (.iload_n 1), eA (.ifCond .ne 8) 3 13, none, none, eV (.bipush 110) 2 110, none, eA (.goto 25) 3 35, none, none, e1 (.iload_n 1), eV (.iconst 1) 1 1, 
  eA (.if_icmp .ne 8) 3 23, none, none, eV (.bipush 107) 2 107, none, eA (.goto 15) 3 35, none, none, e1 (.iload_n 1), eV (.iconst 5) 1 5, eA (.if_icmp .ne 8) 3 33, none, none, eV (.bipush 119) 2 119, none, 
  eA (.goto 5) 3 35, none, none, eV (.bipush 103) 2 103, none, e1 (.iload_n 2), e1 .iastore, e1 (.iload_n 1), eA (.ifCond .eq 8) 3 46, none, none, e1 (.iload_n 1), eV (.iconst 5) 1 5, eA (.if_icmp .ne 11) 3 54, none, none, 
  e1 (.aload_n 0), eG (.getfield 51) 11 27 27 110, none, none, eV (.bipush 107) 2 107, none, e1 (.iload_n 3), e1 .iastore, e1 (.iload_n 1), eV (.iconst 2) 1 2, eA (.if_icmp .eq 8) 3 64, none, none, e1 (.iload_n 1), 
  eV (.iconst 3) 1 3, eA (.if_icmp .ne 21) 3 82, none, none, e1 (.aload_n 0), eG (.getfield 51) 11 27 27 110, none, none, e1 (.iload_n 1), eV (.iconst 2) 1 2, eA (.if_icmp .ne 8) 3 78, none, none, eV (.bipush 111) 2 111, 
  none, eA (.goto 5) 3 80, none, none, eV (.bipush 116) 2 116, none, e1 (.iload_n 3), e1 .iastore, e1 (.iload_n 1), eA (.ifCond .ne 12) 3 95, none, none, e1 (.aload_n 0), eG (.getfield 51) 11 27 27 110, none, none, 
  eV (.bipush 114) 2 114, none, e2 (.iload 4), none, e1 .iastore, e1 (.aload_n 0), e1 (.iload_n 1), eS (.invokevirtual 269) 227 1 259, none, none, e2 (.istore 5), none, e2 (.iload 5), none, eA (.ifCond .ge 15) 3 119, none, 
  none, e1 (.iload_n 1), eA (.ifCond .ne 7) 3 115, none, none, e1 (.iload_n 2), eA (.goto 13) 3 125, none, none, e1 (.iconst 0), eA (.goto 9) 3 125, none, none, e1 (.aload_n 0), e2 (.iload 5), none, 
  eS (.invokevirtual 276) 230 1 262, none, none, e2 (.istore 6), none, e2 (.iload 6), none, eA (.ifCond .ge 7) 3 136, none, none, e1 (.iconst 0), eA (.goto 11) 3 144, none, none, e2 (.iload 6), none, 
  eV (.sipush 9999) 3 9999, none, none, eS (.invokestatic 81) 161 2 264, none, none, e1 .ireturn]
set_option maxRecDepth 100000 in
def cd232 : Cd := [e1 (.iload_n 1), e1 .i2l, e1 (.lconst 0), some (.ldc2_w 85, 3, 0, 0, 0, 5, [(0, 0)]), none, none, eS (.invokestatic 67) 159 3 194, none, none, eA (.ifCond .eq 15) 3 24, none, none, e1 (.aload_n 0), e1 (.iload_n 1), 
  e1 (.iload_n 2), e1 (.iload_n 3), e2 (.iload 4), none, eS (.invokevirtual 279) 231 4 261, none, none, eA (.goto 5) 3 26, none, none, some (.ldc 87, 2, 0, 0, -1000000001, 0, [(0, 24)]), none, e1 .ireturn]
set_option maxRecDepth 100000 in
def cd233 : Cd := [e1 (.aload_n 0), e1 (.iload_n 1), eS (.invokevirtual 71) 164 1 205, none, none, e1 (.istore_n 2), e1 (.aload_n 0), eS (.getfield 7) 11 0 83, none, none, e1 (.iload_n 2), eV (.bipush 10) 2 10, none, e1 .iadd, e1 .iaload, 
  e1 (.istore_n 3), e1 (.iload_n 3), e1 (.aload_n 0), eV (.iconst 4) 1 4, e1 (.iload_n 3), e1 (.iconst 0), e1 (.iconst 0), eS (.invokevirtual 279) 231 4 261, none, none, e1 .isub, e2 (.istore 4), none, e2 (.iload 4), none, 
  eA (.ifCond .ge 7) 3 37, none, none, e1 (.iconst 0), eA (.goto 5) 3 39, none, none, e2 (.iload 4), none, e2 (.istore 4), none, e1 (.aload_n 0), e2 (.iload 4), none, e1 (.aload_n 0), eS (.getfield 7) 11 0 83, none, none, 
  e1 (.iload_n 2), eV (.iconst 3) 1 3, e1 .iadd, e1 .iaload, e1 (.aload_n 0), eV (.iconst 2) 1 2, e1 (.iload_n 3), e1 (.aload_n 0), eS (.getfield 7) 11 0 83, none, none, e1 (.iload_n 2), eV (.iconst 3) 1 3, e1 .iadd, 
  e1 .iaload, e1 (.iconst 0), eS (.invokevirtual 279) 231 4 261, none, none, eS (.invokestatic 81) 161 2 264, none, none, eS (.invokestatic 81) 161 2 264, none, none, eG (.putfield 283) 11 29 29 112, none, none, 
  e2 (.iload 4), none, e1 (.aload_n 0), eG (.getfield 283) 11 29 29 112, none, none, e1 .isub, e2 (.istore 4), none, e1 (.aload_n 0), e2 (.iload 4), none, e1 (.aload_n 0), eV (.iconst 3) 1 3, e1 (.iload_n 3), 
  e1 (.aload_n 0), eS (.getfield 7) 11 0 83, none, none, e1 (.iload_n 2), eV (.iconst 2) 1 2, e1 .iadd, e1 .iaload, e1 (.aload_n 0), eS (.getfield 7) 11 0 83, none, none, e1 (.iconst 0), e1 .iaload, e1 .isub, 
  e1 (.iconst 0), eS (.invokevirtual 279) 231 4 261, none, none, eS (.invokestatic 81) 161 2 264, none, none, eG (.putfield 286) 11 30 30 113, none, none, e1 (.aload_n 0), e1 (.iload_n 3), e1 (.aload_n 0), 
  eG (.getfield 283) 11 29 29 112, none, none, e1 .isub, e1 (.aload_n 0), eG (.getfield 286) 11 30 30 113, none, none, e1 .isub, eG (.putfield 289) 11 31 31 114, none, none, e1 .return_]
set_option maxRecDepth 100000 in
def cd234 : Cd := [e1 (.aload_n 0), e1 (.iload_n 1), eS (.invokevirtual 114) 169 1 208, none, none, eA (.ifCond .ne 6) 3 11, none, none, some (.ldc 87, 2, 0, 0, -1000000001, 0, [(0, 24)]), none, e1 .ireturn, e1 (.aload_n 0), 
  e1 (.iload_n 1), eS (.invokevirtual 124) 172 1 214, none, none, eA (.ifCond .eq 6) 3 22, none, none, some (.ldc 134, 2, 0, 0, -1000000002, 0, [(0, 27)]), none, e1 .ireturn, e1 (.aload_n 0), e1 (.iload_n 1), 
  eS (.invokevirtual 292) 233 1 266, none, none, e1 (.aload_n 0), eS (.getfield 7) 11 0 83, none, none, e1 (.aload_n 0), e1 (.iload_n 1), eS (.invokevirtual 71) 164 1 205, none, none, eV (.iconst 3) 1 3, e1 .iadd, e1 .dup2, 
  e1 .iaload, e1 (.aload_n 0), eG (.getfield 283) 11 29 29 112, none, none, e1 .isub, e1 .iastore, e1 (.aload_n 0), e1 (.iload_n 1), eV (.iconst 5) 1 5, e1 (.aload_n 0), eG (.getfield 286) 11 30 30 113, none, none, 
  eS (.invokevirtual 296) 174 3 267, none, none, e1 (.aload_n 0), e1 (.iload_n 1), eV (.iconst 4) 1 4, e1 (.aload_n 0), eG (.getfield 289) 11 31 31 114, none, none, eS (.invokevirtual 296) 174 3 267, none, none, 
  e1 (.aload_n 0), eS (.getfield 7) 11 0 83, none, none, e1 (.aload_n 0), e1 (.iload_n 1), eS (.invokevirtual 71) 164 1 205, none, none, eV (.bipush 10) 2 10, none, e1 .iadd, e1 (.iconst 0), e1 .iastore, e1 (.aload_n 0), 
  eG (.getfield 289) 11 31 31 114, none, none, e1 .ireturn]
set_option maxRecDepth 100000 in
def cd235 : Cd := [e1 (.aload_n 0), e1 (.iload_n 1), eS (.invokevirtual 114) 169 1 208, none, none, eA (.ifCond .eq 15) 3 20, none, none, e1 (.iload_n 2), e1 .i2l, e1 (.lconst 0), some (.ldc2_w 267, 3, 0, 0, 0, 2, [(0, 12)]), none, none, 
  eS (.invokestatic 67) 159 3 194, none, none, eA (.ifCond .ne 6) 3 23, none, none, some (.ldc 87, 2, 0, 0, -1000000001, 0, [(0, 24)]), none, e1 .ireturn, e1 (.aload_n 0), e1 (.iload_n 1), eS (.invokevirtual 124) 172 1 214, 
  none, none, eA (.ifCond .eq 6) 3 34, none, none, some (.ldc 134, 2, 0, 0, -1000000002, 0, [(0, 27)]), none, e1 .ireturn, e1 (.aload_n 0), e1 (.iload_n 1), eS (.invokevirtual 292) 233 1 266, none, none, e1 (.iload_n 2), 
  eA (.ifCond .ne 10) 3 50, none, none, e1 (.aload_n 0), eG (.getfield 283) 11 29 29 112, none, none, eA (.goto 19) 3 66, none, none, e1 (.iload_n 2), eV (.iconst 1) 1 1, eA (.if_icmp .ne 10) 3 62, none, none, 
  e1 (.aload_n 0), eG (.getfield 286) 11 30 30 113, none, none, eA (.goto 7) 3 66, none, none, e1 (.aload_n 0), eG (.getfield 289) 11 31 31 114, none, none, e1 .ireturn]
set_option maxRecDepth 100000 in
def cd236 : Cd := [e1 (.aload_n 0), e1 (.aload_n 0), eS (.getfield 7) 11 0 83, none, none, eV (.iconst 5) 1 5, e1 .iaload, eS (.invokevirtual 299) 167 1 271, none, none, e1 (.istore_n 3), e1 (.aload_n 0), eS (.getfield 7) 11 0 83, none, 
  none, e1 (.iload_n 3), e1 (.iload_n 1), e1 .iastore, e1 (.aload_n 0), eS (.getfield 7) 11 0 83, none, none, e1 (.iload_n 3), eV (.iconst 1) 1 1, e1 .iadd, e1 (.iload_n 2), e1 .iastore, e1 (.aload_n 0), 
  eS (.getfield 7) 11 0 83, none, none, e1 (.iload_n 3), eV (.iconst 2) 1 2, e1 .iadd, e1 (.aload_n 0), eS (.getfield 7) 11 0 83, none, none, e1 (.iconst 0), e1 .iaload, e1 .iastore, e1 (.aload_n 0), 
  eS (.getfield 7) 11 0 83, none, none, e1 (.iload_n 3), eV (.iconst 3) 1 3, e1 .iadd, eV (.iconst (-1)) 1 (-1), e1 .iastore, e1 (.aload_n 0), eS (.getfield 7) 11 0 83, none, none, eV (.iconst 5) 1 5, e1 .dup2, e1 .iaload, 
  eV (.iconst 1) 1 1, e1 .iadd, e1 .iastore, e1 (.aload_n 0), eS (.getfield 7) 11 0 83, none, none, eV (.iconst 5) 1 5, e1 .iaload, eV (.iconst 1) 1 1, e1 .isub, e1 .ireturn]
set_option maxRecDepth 100000 in
def cd237 : Cd := [e1 (.aload_n 0), e1 (.iload_n 1), eS (.invokevirtual 114) 169 1 208, none, none, eA (.ifCond .ne 6) 3 11, none, none, some (.ldc 87, 2, 0, 0, -1000000001, 0, [(0, 24)]), none, e1 .ireturn, e1 (.aload_n 0), 
  e1 (.iload_n 1), eS (.invokevirtual 124) 172 1 214, none, none, eA (.ifCond .eq 6) 3 22, none, none, some (.ldc 134, 2, 0, 0, -1000000002, 0, [(0, 27)]), none, e1 .ireturn, e1 (.aload_n 0), eS (.getfield 7) 11 0 83, none, 
  none, eV (.iconst 5) 1 5, e1 .iaload, eV (.bipush 40) 2 40, none, eA (.if_icmp .ne 6) 3 36, none, none, some (.ldc 88, 2, 0, 0, -1000000003, 0, [(0, 25)]), none, e1 .ireturn, e1 (.aload_n 0), e1 (.iload_n 1), 
  eS (.invokevirtual 71) 164 1 205, none, none, e1 (.istore_n 2), eV (.bipush 99) 2 99, none, e1 (.aload_n 0), eV (.iconst 5) 1 5, e1 (.aload_n 0), eS (.getfield 7) 11 0 83, none, none, e1 (.iload_n 2), eV (.bipush 6) 2 6, 
  none, e1 .iadd, e1 .iaload, e1 (.aload_n 0), eS (.getfield 7) 11 0 83, none, none, e1 (.iload_n 2), eV (.bipush 12) 2 12, none, e1 .iadd, e1 .iaload, e1 .isub, e1 (.aload_n 0), eS (.getfield 7) 11 0 83, none, none, 
  e1 (.iload_n 2), eV (.iconst 1) 1 1, e1 .iadd, e1 .iaload, e1 (.iconst 0), eS (.invokevirtual 279) 231 4 261, none, none, eS (.invokestatic 81) 161 2 264, none, none, e1 (.istore_n 3), e1 (.aload_n 0), 
  eS (.getfield 7) 11 0 83, none, none, e1 (.iload_n 2), eV (.bipush 12) 2 12, none, e1 .iadd, e1 (.aload_n 0), eS (.getfield 7) 11 0 83, none, none, e1 (.iload_n 2), eV (.bipush 6) 2 6, none, e1 .iadd, e1 .iaload, 
  e1 .iastore, e1 (.iload_n 3), eA (.ifCond .le 11) 3 111, none, none, e1 (.aload_n 0), e1 (.iload_n 1), e1 (.iload_n 3), eS (.invokevirtual 302) 236 2 270, none, none, e2 (.istore 4), none, e1 (.iload_n 3), e1 .ireturn]
set_option maxRecDepth 100000 in
def cd238 : Cd := [e1 (.aload_n 0), e1 (.iload_n 1), eS (.invokevirtual 114) 169 1 208, none, none, eA (.ifCond .eq 15) 3 20, none, none, e1 (.iload_n 2), e1 .i2l, some (.lconst 1, 1, 0, 0, 0, 1, []), 
  some (.ldc2_w 96, 3, 0, 0, 0, 99, [(0, 2)]), none, none, eS (.invokestatic 67) 159 3 194, none, none, eA (.ifCond .ne 6) 3 23, none, none, some (.ldc 87, 2, 0, 0, -1000000001, 0, [(0, 24)]), none, e1 .ireturn, 
  e1 (.aload_n 0), e1 (.iload_n 1), eS (.invokevirtual 124) 172 1 214, none, none, eA (.ifCond .eq 8) 3 36, none, none, some (.ldc 134, 2, 0, 0, -1000000002, 0, [(0, 27)]), none, eA (.goto 26) 3 59, none, none, 
  e1 (.aload_n 0), eS (.getfield 7) 11 0 83, none, none, eV (.iconst 5) 1 5, e1 .iaload, eV (.bipush 40) 2 40, none, eA (.if_icmp .ne 8) 3 52, none, none, some (.ldc 88, 2, 0, 0, -1000000003, 0, [(0, 25)]), none, 
  eA (.goto 10) 3 59, none, none, e1 (.aload_n 0), e1 (.iload_n 1), e1 (.iload_n 2), e1 .ineg, eS (.invokevirtual 302) 236 2 270, none, none, e1 .ireturn]
set_option maxRecDepth 100000 in
def cd239 : Cd := [e1 (.iload_n 1), e1 .i2l, e1 (.lconst 0), e1 (.aload_n 0), eS (.getfield 7) 11 0 83, none, none, eV (.iconst 5) 1 5, e1 .iaload, eV (.iconst 1) 1 1, e1 .isub, e1 .i2l, eS (.invokestatic 67) 159 3 194, none, none, 
  e1 .ireturn]
set_option maxRecDepth 100000 in
def cd240 : Cd := [e1 (.aload_n 0), e1 (.iload_n 1), eS (.invokevirtual 305) 239 1 274, none, none, eA (.ifCond .ne 6) 3 11, none, none, some (.ldc 87, 2, 0, 0, -1000000001, 0, [(0, 24)]), none, e1 .ireturn, e1 (.aload_n 0), 
  e1 (.iload_n 1), eS (.invokevirtual 299) 167 1 271, none, none, e1 (.istore_n 2), e1 (.aload_n 0), eS (.getfield 7) 11 0 83, none, none, e1 (.iload_n 2), eV (.iconst 1) 1 1, e1 .iadd, e1 .iaload, eA (.ifCond .le 6) 3 31, 
  none, none, some (.ldc 165, 2, 0, 0, -1000000012, 0, [(0, 28)]), none, e1 .ireturn, e1 (.aload_n 0), eS (.getfield 7) 11 0 83, none, none, e1 (.iload_n 2), eV (.iconst 3) 1 3, e1 .iadd, e1 .iaload, 
  eA (.ifCond .ge 16) 3 55, none, none, e1 (.aload_n 0), e1 (.aload_n 0), eS (.getfield 7) 11 0 83, none, none, e1 (.iload_n 2), e1 .iaload, eS (.invokevirtual 124) 172 1 214, none, none, eA (.ifCond .eq 6) 3 58, none, 
  none, some (.ldc 134, 2, 0, 0, -1000000002, 0, [(0, 27)]), none, e1 .ireturn, e1 (.aload_n 0), eS (.getfield 7) 11 0 83, none, none, e1 (.iload_n 2), eV (.iconst 3) 1 3, e1 .iadd, e1 (.aload_n 0), 
  eS (.getfield 7) 11 0 83, none, none, e1 (.iconst 0), e1 .iaload, e1 .iastore, eV (.iconst 1) 1 1, e1 .ireturn]
set_option maxRecDepth 100000 in
def cd241 : Cd := [e1 (.aload_n 0), e1 (.iload_n 1), eS (.invokevirtual 305) 239 1 274, none, none, eA (.ifCond .eq 15) 3 20, none, none, e1 (.iload_n 2), e1 .i2l, e1 (.lconst 0), some (.ldc2_w 78, 3, 0, 0, 0, 3, [(0, 1)]), none, none, 
  eS (.invokestatic 67) 159 3 194, none, none, eA (.ifCond .ne 6) 3 23, none, none, some (.ldc 87, 2, 0, 0, -1000000001, 0, [(0, 24)]), none, e1 .ireturn, e1 (.aload_n 0), eS (.getfield 7) 11 0 83, none, none, 
  e1 (.aload_n 0), e1 (.iload_n 1), eS (.invokevirtual 299) 167 1 271, none, none, e1 (.iload_n 2), e1 .iadd, e1 .iaload, e1 (.istore_n 3), e1 (.iload_n 2), eV (.iconst 3) 1 3, eA (.if_icmp .ne 10) 3 48, none, none, 
  e1 (.iload_n 3), eS (.invokestatic 119) 160 1 209, none, none, eA (.goto 4) 3 49, none, none, e1 (.iload_n 3), e1 .ireturn]
set_option maxRecDepth 100000 in
def cd242 : Cd := [e1 (.aload_n 0), eS (.getfield 7) 11 0 83, none, none, e1 (.aload_n 0), e1 (.iload_n 1), eS (.invokevirtual 71) 164 1 205, none, none, eV (.iconst 2) 1 2, e1 .iadd, e1 .iaload, e1 (.istore_n 3), e1 (.iconst 0), 
  e2 (.istore 4), none, e2 (.iload 4), none, e1 (.aload_n 0), eS (.getfield 7) 11 0 83, none, none, eV (.iconst 5) 1 5, e1 .iaload, eA (.if_icmp .ge 94) 3 118, none, none, e1 (.aload_n 0), e2 (.iload 4), none, 
  eS (.invokevirtual 299) 167 1 271, none, none, e2 (.istore 5), none, e1 (.aload_n 0), eS (.getfield 7) 11 0 83, none, none, e2 (.iload 5), none, e1 .iaload, e1 (.iload_n 1), eA (.if_icmp .ne 45) 3 88, none, none, 
  e1 (.aload_n 0), eS (.getfield 7) 11 0 83, none, none, e2 (.iload 5), none, eV (.iconst 2) 1 2, e1 .iadd, e1 .iaload, e1 (.iload_n 2), eA (.if_icmp .gt 32) 3 88, none, none, e1 (.aload_n 0), eS (.getfield 7) 11 0 83, 
  none, none, e2 (.iload 5), none, eV (.iconst 3) 1 3, e1 .iadd, e1 .iaload, eA (.ifCond .lt 16) 3 84, none, none, e1 (.aload_n 0), eS (.getfield 7) 11 0 83, none, none, e2 (.iload 5), none, eV (.iconst 3) 1 3, e1 .iadd, 
  e1 .iaload, e1 (.iload_n 2), eA (.if_icmp .le 7) 3 88, none, none, eV (.iconst 1) 1 1, eA (.goto 4) 3 89, none, none, e1 (.iconst 0), e2 (.istore 6), none, e1 (.iload_n 3), e2 (.iload 6), none, eA (.ifCond .eq 15) 3 109, 
  none, none, e1 (.aload_n 0), eS (.getfield 7) 11 0 83, none, none, e2 (.iload 5), none, eV (.iconst 1) 1 1, e1 .iadd, e1 .iaload, eA (.goto 4) 3 110, none, none, e1 (.iconst 0), e1 .isub, e1 (.istore_n 3), 
  eV (.iinc 4 1) 3 1, none, none, eA (.goto (-99)) 3 16, none, none, e1 (.iload_n 3), e1 .ireturn]
set_option maxRecDepth 100000 in
def cd243 : Cd := [e1 (.aload_n 0), e1 (.iload_n 1), eS (.invokevirtual 114) 169 1 208, none, none, eA (.ifCond .eq 24) 3 29, none, none, e1 (.iload_n 2), e1 .i2l, e1 (.lconst 0), some (.ldc2_w 112, 3, 0, 0, 0, 999, [(0, 4)]), none, none, 
  eS (.invokestatic 67) 159 3 194, none, none, eA (.ifCond .eq 12) 3 29, none, none, e1 (.aload_n 0), e1 (.iload_n 1), e1 (.iload_n 2), eS (.invokevirtual 308) 242 2 277, none, none, eA (.goto 5) 3 31, none, none, 
  some (.ldc 87, 2, 0, 0, -1000000001, 0, [(0, 24)]), none, e1 .ireturn]
set_option maxRecDepth 100000 in
def cd244 : Cd := [e1 (.aload_n 0), e1 (.iload_n 1), eS (.invokevirtual 71) 164 1 205, none, none, e1 (.istore_n 2), e1 (.aload_n 0), e1 (.aload_n 0), eS (.getfield 7) 11 0 83, none, none, e1 (.iload_n 2), eV (.bipush 8) 2 8, none, 
  e1 .iadd, e1 .iaload, eS (.invokevirtual 89) 163 1 195, none, none, e1 (.istore_n 3), e1 (.aload_n 0), eS (.getfield 7) 11 0 83, none, none, e1 (.iload_n 2), eV (.bipush 9) 2 9, none, e1 .iadd, e1 .iaload, 
  e1 (.aload_n 0), eS (.getfield 7) 11 0 83, none, none, e1 (.iconst 0), e1 .iaload, eA (.if_icmp .ne 4) 3 39, none, none, e1 .return_, e1 (.aload_n 0), eS (.getfield 7) 11 0 83, none, none, e1 (.iload_n 3), 
  eV (.iconst 4) 1 4, e1 .iadd, e1 .iaload, eA (.ifCond .le 26) 3 73, none, none, e1 (.aload_n 0), e1 (.iload_n 1), eV (.bipush 10) 2 10, none, e1 (.aload_n 0), eV (.iconst 1) 1 1, e1 (.aload_n 0), eS (.getfield 7) 11 0 83, 
  none, none, e1 (.iload_n 2), eV (.iconst 1) 1 1, e1 .iadd, e1 .iaload, e1 (.iconst 0), e1 (.iconst 0), eS (.invokevirtual 279) 231 4 261, none, none, eS (.invokevirtual 296) 174 3 267, none, none, e1 .return_, 
  e1 (.aload_n 0), eS (.getfield 7) 11 0 83, none, none, e1 (.iload_n 3), eV (.iconst 3) 1 3, e1 .iadd, e1 .iaload, e1 (.aload_n 0), eS (.getfield 7) 11 0 83, none, none, e1 (.iload_n 2), eV (.iconst 1) 1 1, e1 .iadd, 
  e1 .iaload, e1 .iadd, e2 (.istore 4), none, e1 (.aload_n 0), e1 (.iload_n 1), eV (.bipush 10) 2 10, none, e1 (.aload_n 0), e1 (.iconst 0), e2 (.iload 4), none, e1 (.aload_n 0), eS (.getfield 7) 11 0 83, none, none, 
  e1 (.iload_n 2), eV (.iconst 1) 1 1, e1 .iadd, e1 .iaload, e1 (.aload_n 0), eS (.getfield 7) 11 0 83, none, none, e1 (.iload_n 2), e1 (.iconst 0), e1 .iadd, e1 .iaload, eS (.invokevirtual 279) 231 4 261, none, none, 
  eS (.invokevirtual 296) 174 3 267, none, none, e1 (.aload_n 0), eS (.getfield 7) 11 0 83, none, none, e1 (.iload_n 2), eV (.bipush 6) 2 6, none, e1 .iadd, e1 .dup2, e1 .iaload, eV (.iconst 1) 1 1, e1 .iadd, e1 .iastore, 
  e1 (.aload_n 0), eS (.getfield 7) 11 0 83, none, none, e1 (.iload_n 2), eV (.bipush 7) 2 7, none, e1 .iadd, e1 .dup2, e1 .iaload, eV (.iconst 1) 1 1, e1 .iadd, e1 .iastore, e1 (.aload_n 0), eS (.getfield 7) 11 0 83, none, 
  none, e1 (.iload_n 2), eV (.bipush 7) 2 7, none, e1 .iadd, e1 .iaload, eV (.bipush 10) 2 10, none, eA (.if_icmp .ne 35) 3 194, none, none, e1 (.aload_n 0), eS (.getfield 7) 11 0 83, none, none, e1 (.iload_n 2), 
  eV (.iconst 1) 1 1, e1 .iadd, eV (.iconst 3) 1 3, e1 (.aload_n 0), eS (.getfield 7) 11 0 83, none, none, e1 (.iload_n 2), eV (.iconst 1) 1 1, e1 .iadd, e1 .iaload, eV (.iconst 1) 1 1, e1 .iadd, 
  eS (.invokestatic 81) 161 2 264, none, none, e1 .iastore, e1 (.aload_n 0), eS (.getfield 7) 11 0 83, none, none, e1 (.iload_n 2), eV (.bipush 7) 2 7, none, e1 .iadd, e1 (.iconst 0), e1 .iastore, e1 (.aload_n 0), 
  eS (.getfield 7) 11 0 83, none, none, e1 (.iload_n 3), eV (.bipush 6) 2 6, none, e1 .iadd, e1 .dup2, e1 .iaload, e2 (.iload 4), none, e1 .iadd, e1 .iastore, e1 .return_]
set_option maxRecDepth 100000 in
def cd245 : Cd := [e1 (.aload_n 0), e1 (.iload_n 1), eS (.invokevirtual 166) 205 1 235, none, none, e1 (.istore_n 2), e1 (.iload_n 2), eA (.ifCond .lt 87) 3 94, none, none, e1 (.aload_n 0), eS (.getfield 7) 11 0 83, none, none, 
  e1 (.aload_n 0), e1 (.iload_n 1), eS (.invokevirtual 89) 163 1 195, none, none, eV (.bipush 6) 2 6, none, e1 .iadd, e1 .iaload, e1 (.aload_n 0), eS (.getfield 7) 11 0 83, none, none, e1 (.aload_n 0), e1 (.iload_n 2), 
  eS (.invokevirtual 75) 165 1 203, none, none, eV (.iconst 2) 1 2, e1 .iadd, e1 .iaload, eA (.if_icmp .lt 59) 3 94, none, none, e1 (.aload_n 0), eS (.getfield 7) 11 0 83, none, none, e1 (.aload_n 0), e1 (.iload_n 1), 
  eS (.invokevirtual 89) 163 1 195, none, none, eV (.bipush 6) 2 6, none, e1 .iadd, e1 .dup2, e1 .iaload, e1 (.aload_n 0), eS (.getfield 7) 11 0 83, none, none, e1 (.aload_n 0), e1 (.iload_n 2), 
  eS (.invokevirtual 75) 165 1 203, none, none, eV (.iconst 2) 1 2, e1 .iadd, e1 .iaload, e1 .isub, e1 .iastore, e1 (.aload_n 0), eS (.getfield 7) 11 0 83, none, none, e1 (.aload_n 0), e1 (.iload_n 2), 
  eS (.invokevirtual 75) 165 1 203, none, none, eV (.bipush 6) 2 6, none, e1 .iadd, e1 (.aload_n 0), eS (.getfield 7) 11 0 83, none, none, e1 (.iconst 0), e1 .iaload, e1 .iastore, e1 (.aload_n 0), e1 (.iload_n 1), 
  eS (.invokevirtual 166) 205 1 235, none, none, e1 (.istore_n 2), eA (.goto (-85)) 3 6, none, none, e1 .return_]
set_option maxRecDepth 100000 in
def cd246 : Cd := [e1 (.aload_n 0), e1 (.iload_n 1), eS (.invokevirtual 71) 164 1 205, none, none, e1 (.istore_n 2), e1 (.aload_n 0), eS (.getfield 7) 11 0 83, none, none, e1 (.iload_n 2), eV (.bipush 11) 2 11, none, e1 .iadd, 
  eV (.iconst 1) 1 1, e1 .iastore, e1 (.aload_n 0), e1 (.iload_n 1), eV (.iconst 4) 1 4, e1 (.aload_n 0), eS (.getfield 7) 11 0 83, none, none, e1 (.iload_n 2), eV (.bipush 10) 2 10, none, e1 .iadd, e1 .iaload, 
  e1 (.aload_n 0), eS (.getfield 7) 11 0 83, none, none, e1 (.iload_n 2), eV (.iconst 5) 1 5, e1 .iadd, e1 .iaload, e1 .iadd, eS (.invokevirtual 296) 174 3 267, none, none, e1 (.aload_n 0), eS (.getfield 7) 11 0 83, none, 
  none, e1 (.iload_n 2), eV (.bipush 10) 2 10, none, e1 .iadd, e1 (.iconst 0), e1 .iastore, e1 (.aload_n 0), eS (.getfield 7) 11 0 83, none, none, e1 (.iload_n 2), eV (.iconst 5) 1 5, e1 .iadd, e1 (.iconst 0), e1 .iastore, 
  e1 (.aload_n 0), eS (.getfield 7) 11 0 83, none, none, e1 (.iload_n 2), eV (.bipush 8) 2 8, none, e1 .iadd, eV (.iconst (-1)) 1 (-1), e1 .iastore, e1 (.iconst 0), e1 (.istore_n 3), e1 (.iload_n 3), e1 (.aload_n 0), 
  eS (.getfield 7) 11 0 83, none, none, eV (.iconst 3) 1 3, e1 .iaload, eA (.if_icmp .ge 62) 3 140, none, none, e1 (.aload_n 0), e1 (.iload_n 3), eS (.invokevirtual 75) 165 1 203, none, none, e2 (.istore 4), none, 
  e1 (.aload_n 0), eS (.getfield 7) 11 0 83, none, none, e2 (.iload 4), none, eV (.iconst 4) 1 4, e1 .iadd, e1 .iaload, eV (.iconst 1) 1 1, eA (.if_icmp .ne 36) 3 134, none, none, e1 (.aload_n 0), eS (.getfield 7) 11 0 83, 
  none, none, e2 (.iload 4), none, eV (.iconst 5) 1 5, e1 .iadd, e1 .iaload, e1 (.iload_n 1), eA (.if_icmp .ne 23) 3 134, none, none, e1 (.aload_n 0), eS (.getfield 7) 11 0 83, none, none, e2 (.iload 4), none, 
  eV (.iconst 4) 1 4, e1 .iadd, eV (.iconst 2) 1 2, e1 .iastore, e1 (.aload_n 0), eS (.getfield 7) 11 0 83, none, none, e2 (.iload 4), none, eV (.iconst 5) 1 5, e1 .iadd, eV (.iconst (-1)) 1 (-1), e1 .iastore, 
  eV (.iinc 3 1) 3 1, none, none, eA (.goto (-66)) 3 71, none, none, e1 .return_]
set_option maxRecDepth 100000 in
def cd247 : Cd := [e1 (.iconst 0), e1 (.istore_n 1), e1 (.iload_n 1), e1 (.aload_n 0), eS (.getfield 7) 11 0 83, none, none, eV (.iconst 2) 1 2, e1 .iaload, eA (.if_icmp .ge 38) 3 47, none, none, e1 (.aload_n 0), e1 (.iload_n 1), 
  eS (.invokevirtual 124) 172 1 214, none, none, eA (.ifCond .ne 24) 3 41, none, none, e1 (.aload_n 0), eS (.getfield 7) 11 0 83, none, none, e1 (.aload_n 0), e1 (.iload_n 1), eS (.invokevirtual 71) 164 1 205, none, none, 
  eV (.bipush 8) 2 8, none, e1 .iadd, e1 .iaload, eA (.ifCond .lt 8) 3 41, none, none, e1 (.aload_n 0), e1 (.iload_n 1), eS (.invokevirtual 311) 244 1 280, none, none, eV (.iinc 1 1) 3 1, none, none, eA (.goto (-42)) 3 2, 
  none, none, e1 (.iconst 0), e1 (.istore_n 1), e1 (.iload_n 1), e1 (.aload_n 0), eS (.getfield 7) 11 0 83, none, none, eV (.iconst 1) 1 1, e1 .iaload, eA (.if_icmp .ge 14) 3 70, none, none, e1 (.aload_n 0), 
  e1 (.iload_n 1), eS (.invokevirtual 314) 245 1 281, none, none, eV (.iinc 1 1) 3 1, none, none, eA (.goto (-18)) 3 49, none, none, e1 (.iconst 0), e1 (.istore_n 1), e1 (.iload_n 1), e1 (.aload_n 0), 
  eS (.getfield 7) 11 0 83, none, none, eV (.iconst 1) 1 1, e1 .iaload, eA (.if_icmp .ge 44) 3 123, none, none, e1 (.aload_n 0), eS (.getfield 7) 11 0 83, none, none, e1 (.aload_n 0), e1 (.iload_n 1), 
  eS (.invokevirtual 89) 163 1 195, none, none, eV (.iconst 4) 1 4, e1 .iadd, e1 .dup2, e1 .iaload, e1 (.aload_n 0), eS (.getfield 7) 11 0 83, none, none, e1 (.aload_n 0), e1 (.iload_n 1), eS (.invokevirtual 89) 163 1 195, 
  none, none, eV (.iconst 4) 1 4, e1 .iadd, e1 .iaload, eA (.ifCond .le 7) 3 114, none, none, eV (.iconst 1) 1 1, eA (.goto 4) 3 115, none, none, e1 (.iconst 0), e1 .isub, e1 .iastore, eV (.iinc 1 1) 3 1, none, none, 
  eA (.goto (-48)) 3 72, none, none, e1 (.iconst 0), e1 (.istore_n 1), e1 (.iload_n 1), e1 (.aload_n 0), eS (.getfield 7) 11 0 83, none, none, eV (.iconst 2) 1 2, e1 .iaload, eA (.if_icmp .ge 42) 3 174, none, none, 
  e1 (.aload_n 0), e1 (.iload_n 1), eS (.invokevirtual 124) 172 1 214, none, none, eA (.ifCond .ne 28) 3 168, none, none, e1 (.aload_n 0), e1 (.iload_n 1), e1 (.aload_n 0), eS (.getfield 7) 11 0 83, none, none, 
  e1 (.iconst 0), e1 .iaload, eS (.invokevirtual 308) 242 2 277, none, none, e1 (.aload_n 0), eS (.getfield 7) 11 0 83, none, none, e1 (.iconst 0), e1 .iaload, eA (.if_icmp .gt 8) 3 168, none, none, e1 (.aload_n 0), 
  e1 (.iload_n 1), eS (.invokevirtual 317) 246 1 282, none, none, eV (.iinc 1 1) 3 1, none, none, eA (.goto (-46)) 3 125, none, none, e1 (.aload_n 0), eS (.getfield 7) 11 0 83, none, none, e1 (.iconst 0), e1 .dup2, 
  e1 .iaload, eV (.iconst 1) 1 1, e1 .iadd, e1 .iastore, e1 .return_]
set_option maxRecDepth 100000 in
def cd248 : Cd := [e1 (.iload_n 1), e1 .i2l, some (.lconst 1, 1, 0, 0, 0, 1, []), some (.ldc2_w 320, 3, 0, 0, 0, 60, [(0, 13)]), none, none, eS (.invokestatic 67) 159 3 194, none, none, eA (.ifCond .ne 6) 3 15, none, none, 
  some (.ldc 87, 2, 0, 0, -1000000001, 0, [(0, 24)]), none, e1 .ireturn, e1 (.aload_n 0), eS (.getfield 7) 11 0 83, none, none, e1 (.iconst 0), e1 .iaload, e1 (.iload_n 1), e1 .iadd, eV (.sipush 999) 3 999, none, none, 
  eA (.if_icmp .le 6) 3 32, none, none, some (.ldc 88, 2, 0, 0, -1000000003, 0, [(0, 25)]), none, e1 .ireturn, e1 (.iconst 0), e1 (.istore_n 2), e1 (.iload_n 2), e1 (.iload_n 1), eA (.if_icmp .ge 13) 3 49, none, none, 
  e1 (.aload_n 0), eS (.invokevirtual 322) 247 0 279, none, none, eV (.iinc 2 1) 3 1, none, none, eA (.goto (-12)) 3 34, none, none, e1 (.aload_n 0), eS (.getfield 7) 11 0 83, none, none, e1 (.iconst 0), e1 .iaload, 
  e1 .ireturn]
set_option maxRecDepth 100000 in
def cd249 : Cd := [e1 (.iload_n 1), e1 .i2l, e1 (.lconst 0), some (.ldc2_w 325, 3, 0, 0, 0, 65535, [(0, 14)]), none, none, eS (.invokestatic 67) 159 3 194, none, none, eA (.ifCond .eq 13) 3 22, none, none, e1 (.aload_n 0), 
  eV (.bipush 6) 2 6, none, e1 (.iload_n 1), eS (.invokevirtual 98) 162 2 198, none, none, eA (.goto 5) 3 24, none, none, some (.ldc 87, 2, 0, 0, -1000000001, 0, [(0, 24)]), none, e1 .ireturn]
set_option maxRecDepth 100000 in
def cd250 : Cd := [e1 (.iload_n 1), e1 .i2l, some (.lconst 1, 1, 0, 0, 0, 1, []), some (.ldc2_w 104, 3, 0, 0, 0, 10, [(0, 3)]), none, none, eS (.invokestatic 67) 159 3 194, none, none, eA (.ifCond .ne 6) 3 15, none, none, 
  some (.ldc 87, 2, 0, 0, -1000000001, 0, [(0, 24)]), none, e1 .ireturn, e1 (.iconst 0), e1 (.istore_n 2), e1 (.iconst 0), e1 (.istore_n 3), e1 (.iconst 0), e2 (.istore 4), none, e2 (.iload 4), none, e1 (.aload_n 0), 
  eS (.getfield 7) 11 0 83, none, none, eV (.iconst 2) 1 2, e1 .iaload, eA (.if_icmp .ge 46) 3 76, none, none, e1 (.iload_n 2), e1 (.aload_n 0), e2 (.iload 4), none, eS (.invokevirtual 124) 172 1 214, none, none, 
  eA (.ifCond .eq 7) 3 47, none, none, e1 (.iconst 0), eA (.goto 7) 3 51, none, none, eV (.iconst 1) 1 1, e2 (.iload 4), none, e1 .ishl, e1 .ior, e1 (.istore_n 2), e1 (.iload_n 3), e1 (.aload_n 0), e2 (.iload 4), none, 
  eS (.invokevirtual 124) 172 1 214, none, none, eA (.ifCond .eq 7) 3 67, none, none, e1 (.iconst 0), eA (.goto 4) 3 68, none, none, eV (.iconst 1) 1 1, e1 .iadd, e1 (.istore_n 3), eV (.iinc 4 1) 3 1, none, none, 
  eA (.goto (-51)) 3 22, none, none, e1 (.iconst 0), e2 (.istore 4), none, e1 (.iconst 0), e2 (.istore 5), none, e2 (.iload 5), none, e1 (.iload_n 1), eA (.if_icmp .ge 105) 3 190, none, none, e1 (.iload_n 3), 
  eA (.ifCond .le 101) 3 190, none, none, e1 (.aload_n 0), eS (.getfield 7) 11 0 83, none, none, eV (.bipush 6) 2 6, none, e1 (.aload_n 0), eS (.getfield 7) 11 0 83, none, none, eV (.bipush 6) 2 6, none, e1 .iaload, 
  eV (.sipush 25173) 3 25173, none, none, e1 .imul, eV (.sipush 13849) 3 13849, none, none, e1 .iadd, eG (.ldc_w 327) 0 0 65536 30, none, none, e1 .irem, e1 .iastore, e1 (.aload_n 0), eS (.getfield 7) 11 0 83, none, none, 
  eV (.bipush 6) 2 6, none, e1 .iaload, e1 (.iload_n 3), e1 .irem, e2 (.istore 6), none, e1 (.iconst 0), e2 (.istore 7), none, e1 (.iload_n 2), e2 (.iload 7), none, e1 .ishr, eV (.iconst 1) 1 1, e1 .iand, 
  eA (.ifCond .eq 8) 3 146, none, none, e2 (.iload 6), none, eA (.ifCond .le 20) 3 163, none, none, e2 (.iload 6), none, e1 (.iload_n 2), e2 (.iload 7), none, e1 .ishr, eV (.iconst 1) 1 1, e1 .iand, e1 .isub, 
  e2 (.istore 6), none, eV (.iinc 7 1) 3 1, none, none, eA (.goto (-28)) 3 132, none, none, e1 (.iload_n 2), eV (.iconst 1) 1 1, e2 (.iload 7), none, e1 .ishl, eV (.iconst (-1)) 1 (-1), e1 .ixor, e1 .iand, e1 (.istore_n 2), 
  e2 (.iload 4), none, eV (.iconst 1) 1 1, e2 (.iload 7), none, e1 .ishl, e1 .ior, e2 (.istore 4), none, eV (.iinc 3 (-1)) 3 (-1), none, none, eV (.iinc 5 1) 3 1, none, none, eA (.goto (-105)) 3 82, none, none, 
  e2 (.iload 4), none, e1 .ireturn]
set_option maxRecDepth 100000 in
def cd251 : Cd := [e1 (.iload_n 0), e1 .i2l, e1 (.lconst 0), some (.ldc2_w 78, 3, 0, 0, 0, 3, [(0, 1)]), none, none, eS (.invokestatic 67) 159 3 194, none, none, e1 .ireturn]
set_option maxRecDepth 100000 in
def cd252 : Cd := [e1 (.iload_n 0), eA (.ifCond .ne 13) 3 14, none, none, e1 (.lload_n 1), eV (.bipush 56) 2 56, none, e1 .lshl, eV (.bipush 56) 2 56, none, e1 .lshr, eA (.goto 19) 3 30, none, none, e1 (.iload_n 0), eV (.iconst 1) 1 1, 
  eA (.if_icmp .ne 13) 3 29, none, none, e1 (.lload_n 1), eV (.bipush 48) 2 48, none, e1 .lshl, eV (.bipush 48) 2 48, none, e1 .lshr, eA (.goto 4) 3 30, none, none, e1 (.lload_n 1), e1 .lreturn]
set_option maxRecDepth 100000 in
def cd253 : Cd := [e1 (.iload_n 1), eS (.invokestatic 328) 251 1 286, none, none, eA (.ifCond .eq 27) 3 31, none, none, e1 (.iload_n 2), e1 .i2l, some (.ldc2_w 331, 3, 0, 0, 0, -1, [(0, 15)]), none, none, 
  some (.ldc2_w 267, 3, 0, 0, 0, 2, [(0, 12)]), none, none, eS (.invokestatic 67) 159 3 194, none, none, eA (.ifCond .eq 13) 3 31, none, none, e1 (.iload_n 2), eA (.ifCond .lt 12) 3 34, none, none, e1 (.iload_n 3), 
  eV (.bipush 24) 2 24, none, eA (.if_icmp .le 6) 3 34, none, none, some (.ldc 87, 2, 0, 0, -1000000001, 0, [(0, 24)]), none, e1 .ireturn, e1 (.iload_n 2), eA (.ifCond .lt 11) 3 46, none, none, e1 (.iload_n 3), 
  eA (.ifCond .ge 7) 3 46, none, none, eG (.ldc_w 333) 0 0 (-1000000014) 31, none, none, e1 .ireturn, e1 (.aload_n 0), eG (.getfield 19) 11 4 4 87, none, none, e1 (.iload_n 1), e1 (.iload_n 2), e1 .iastore, e1 (.aload_n 0), 
  eG (.getfield 22) 11 5 5 88, none, none, e1 (.iload_n 1), e1 (.iload_n 2), eA (.ifCond .ge 7) 3 66, none, none, e1 (.iconst 0), eA (.goto 4) 3 67, none, none, e1 (.iload_n 3), e1 .iastore, e1 (.iconst 0), e2 (.istore 4), 
  none, e2 (.iload 4), none, eV (.bipush 24) 2 24, none, eA (.if_icmp .ge 22) 3 97, none, none, e1 (.aload_n 0), eG (.getfield 25) 11 6 6 89, none, none, eV (.bipush 24) 2 24, none, e1 (.iload_n 1), e1 .imul, e2 (.iload 4), 
  none, e1 .iadd, e1 (.lconst 0), e1 .lastore, eV (.iinc 4 1) 3 1, none, none, eA (.goto (-23)) 3 71, none, none, e1 (.aload_n 0), eG (.getfield 22) 11 5 5 88, none, none, e1 (.iload_n 1), e1 .iaload, e1 .ireturn]
set_option maxRecDepth 100000 in
def cd254 : Cd := [e1 (.iload_n 1), eS (.invokestatic 328) 251 1 286, none, none, eA (.ifCond .ne 6) 3 10, none, none, some (.ldc 87, 2, 0, 0, -1000000001, 0, [(0, 24)]), none, e1 .ireturn, e1 (.aload_n 0), eG (.getfield 19) 11 4 4 87, 
  none, none, e1 (.iload_n 1), e1 .iaload, eA (.ifCond .ge 9) 3 25, none, none, eG (.ldc_w 334) 0 0 (-1000000011) 32, none, none, eA (.goto 28) 3 50, none, none, e1 (.iload_n 2), e1 .i2l, e1 (.lconst 0), e1 (.aload_n 0), 
  eG (.getfield 22) 11 5 5 88, none, none, e1 (.iload_n 1), e1 .iaload, eV (.iconst 1) 1 1, e1 .isub, e1 .i2l, eS (.invokestatic 67) 159 3 194, none, none, eA (.ifCond .eq 7) 3 47, none, none, e1 (.iconst 0), 
  eA (.goto 6) 3 50, none, none, eG (.ldc_w 335) 0 0 (-1000000013) 33, none, none, e1 .ireturn]
set_option maxRecDepth 100000 in
def cd255 : Cd := [e1 (.aload_n 0), e1 (.iload_n 1), e1 (.iload_n 2), eS (.invokevirtual 336) 254 2 288, none, none, e2 (.istore 4), none, e2 (.iload 4), none, eA (.ifCond .eq 6) 3 16, none, none, e2 (.iload 4), none, e1 .ireturn, 
  e1 (.aload_n 0), eG (.getfield 25) 11 6 6 89, none, none, eV (.bipush 24) 2 24, none, e1 (.iload_n 1), e1 .imul, e1 (.iload_n 2), e1 .iadd, e1 (.aload_n 0), eG (.getfield 19) 11 4 4 87, none, none, e1 (.iload_n 1), 
  e1 .iaload, e1 (.iload_n 3), e1 .i2l, eS (.invokestatic 339) 252 2 289, none, none, e1 .lastore, e1 (.aload_n 0), eG (.getfield 25) 11 6 6 89, none, none, eV (.bipush 24) 2 24, none, e1 (.iload_n 1), e1 .imul, 
  e1 (.iload_n 2), e1 .iadd, e1 .laload, e1 .l2i, e1 .ireturn]
set_option maxRecDepth 100000 in
def cd256 : Cd := [e1 (.aload_n 0), e1 (.iload_n 1), e1 (.iload_n 2), eS (.invokevirtual 336) 254 2 288, none, none, e2 (.istore 4), none, e2 (.iload 4), none, eA (.ifCond .eq 6) 3 16, none, none, e2 (.iload 4), none, e1 .ireturn, 
  e1 (.aload_n 0), eG (.getfield 25) 11 6 6 89, none, none, eV (.bipush 24) 2 24, none, e1 (.iload_n 1), e1 .imul, e1 (.iload_n 2), e1 .iadd, e1 (.aload_n 0), eG (.getfield 19) 11 4 4 87, none, none, e1 (.iload_n 1), 
  e1 .iaload, e1 (.aload_n 0), eG (.getfield 25) 11 6 6 89, none, none, eV (.bipush 24) 2 24, none, e1 (.iload_n 1), e1 .imul, e1 (.iload_n 2), e1 .iadd, e1 .laload, some (.ldc2_w 343, 3, 0, 0, 0, 1000, [(0, 16)]), none, 
  none, e1 .lmul, e1 (.iload_n 3), e1 .i2l, e1 .ladd, eS (.invokestatic 339) 252 2 289, none, none, e1 .lastore, e1 (.aload_n 0), eG (.getfield 25) 11 6 6 89, none, none, eV (.bipush 24) 2 24, none, e1 (.iload_n 1), 
  e1 .imul, e1 (.iload_n 2), e1 .iadd, e1 .laload, e1 .l2i, e1 .ireturn]
set_option maxRecDepth 100000 in
def cd257 : Cd := [e1 (.iload_n 1), eS (.invokestatic 328) 251 1 286, none, none, eA (.ifCond .eq 10) 3 14, none, none, e1 (.iload_n 3), eS (.invokestatic 328) 251 1 286, none, none, eA (.ifCond .ne 6) 3 17, none, none, 
  some (.ldc 87, 2, 0, 0, -1000000001, 0, [(0, 24)]), none, e1 .ireturn, e1 (.aload_n 0), eG (.getfield 19) 11 4 4 87, none, none, e1 (.iload_n 1), e1 .iaload, eA (.ifCond .lt 12) 3 35, none, none, e1 (.aload_n 0), 
  eG (.getfield 19) 11 4 4 87, none, none, e1 (.iload_n 3), e1 .iaload, eA (.ifCond .ge 7) 3 39, none, none, eG (.ldc_w 334) 0 0 (-1000000011) 32, none, none, e1 .ireturn, e1 (.aload_n 0), eG (.getfield 19) 11 4 4 87, none, 
  none, e1 (.iload_n 1), e1 .iaload, e1 (.aload_n 0), eG (.getfield 19) 11 4 4 87, none, none, e1 (.iload_n 3), e1 .iaload, eA (.if_icmp .eq 6) 3 57, none, none, some (.ldc 165, 2, 0, 0, -1000000012, 0, [(0, 28)]), none, 
  e1 .ireturn, e1 (.iload_n 2), eA (.ifCond .lt 48) 3 106, none, none, e2 (.iload 4), none, eA (.ifCond .lt 43) 3 106, none, none, e2 (.iload 5), none, eA (.ifCond .lt 38) 3 106, none, none, e1 (.iload_n 2), e1 .i2l, 
  e2 (.iload 5), none, e1 .i2l, e1 .ladd, e1 (.aload_n 0), eG (.getfield 22) 11 5 5 88, none, none, e1 (.iload_n 1), e1 .iaload, e1 .i2l, e1 .lcmp, eA (.ifCond .gt 21) 3 106, none, none, e2 (.iload 4), none, e1 .i2l, 
  e2 (.iload 5), none, e1 .i2l, e1 .ladd, e1 (.aload_n 0), eG (.getfield 22) 11 5 5 88, none, none, e1 (.iload_n 3), e1 .iaload, e1 .i2l, e1 .lcmp, eA (.ifCond .le 7) 3 110, none, none, eG (.ldc_w 335) 0 0 (-1000000013) 33, 
  none, none, e1 .ireturn, e1 (.iconst 0), e2 (.istore 6), none, e2 (.iload 6), none, e2 (.iload 5), none, eA (.if_icmp .ge 30) 3 147, none, none, e1 (.aload_n 0), eG (.getfield 57) 11 32 32 115, none, none, e2 (.iload 6), 
  none, e1 (.aload_n 0), eG (.getfield 25) 11 6 6 89, none, none, eV (.bipush 24) 2 24, none, e1 (.iload_n 1), e1 .imul, e1 (.iload_n 2), e1 .iadd, e2 (.iload 6), none, e1 .iadd, e1 .laload, e1 .lastore, eV (.iinc 6 1) 3 1, 
  none, none, eA (.goto (-31)) 3 113, none, none, e1 (.iconst 0), e2 (.istore 6), none, e2 (.iload 6), none, e2 (.iload 5), none, eA (.if_icmp .ge 31) 3 185, none, none, e1 (.aload_n 0), eG (.getfield 25) 11 6 6 89, none, 
  none, eV (.bipush 24) 2 24, none, e1 (.iload_n 3), e1 .imul, e2 (.iload 4), none, e1 .iadd, e2 (.iload 6), none, e1 .iadd, e1 (.aload_n 0), eG (.getfield 57) 11 32 32 115, none, none, e2 (.iload 6), none, e1 .laload, 
  e1 .lastore, eV (.iinc 6 1) 3 1, none, none, eA (.goto (-32)) 3 150, none, none, e2 (.iload 5), none, e1 .ireturn]
set_option maxRecDepth 100000 in
def cd258 : Cd := [e1 (.iload_n 1), eA (.ifCond .ge 6) 3 7, none, none, some (.ldc 87, 2, 0, 0, -1000000001, 0, [(0, 24)]), none, e1 .ireturn, eV (.iconst (-1)) 1 (-1), e1 (.istore_n 2), e1 (.iconst 0), e1 (.istore_n 3), eV (.iconst 3) 1 3, 
  e2 (.istore 4), none, e2 (.iload 4), none, eA (.ifCond .lt 26) 3 42, none, none, e1 (.aload_n 0), e2 (.iload 4), none, e1 (.iload_n 1), eS (.invokevirtual 336) 254 2 288, none, none, eA (.ifCond .ne 8) 3 34, none, none, 
  e2 (.iload 4), none, eA (.goto 4) 3 35, none, none, e1 (.iload_n 2), e1 (.istore_n 2), eV (.iinc 4 (-1)) 3 (-1), none, none, eA (.goto (-25)) 3 14, none, none, e1 (.iconst 0), e2 (.istore 4), none, e2 (.iload 4), none, 
  eV (.iconst 4) 1 4, eA (.if_icmp .ge 58) 3 106, none, none, e1 (.iload_n 2), eA (.ifCond .lt 54) 3 106, none, none, e1 (.iload_n 3), e1 (.aload_n 0), e2 (.iload 4), none, e1 (.iload_n 1), 
  eS (.invokevirtual 336) 254 2 288, none, none, eA (.ifCond .ne 34) 3 97, none, none, e1 (.aload_n 0), eG (.getfield 25) 11 6 6 89, none, none, eV (.bipush 24) 2 24, none, e2 (.iload 4), none, e1 .imul, e1 (.iload_n 1), 
  e1 .iadd, e1 .laload, e1 (.aload_n 0), eG (.getfield 25) 11 6 6 89, none, none, eV (.bipush 24) 2 24, none, e1 (.iload_n 2), e1 .imul, e1 (.iload_n 1), e1 .iadd, e1 .laload, e1 .lcmp, eA (.ifCond .eq 7) 3 97, none, none, 
  eV (.iconst 1) 1 1, eA (.goto 4) 3 98, none, none, e1 (.iconst 0), e1 .iadd, e1 (.istore_n 3), eV (.iinc 4 1) 3 1, none, none, eA (.goto (-58)) 3 45, none, none, e1 (.iload_n 2), eA (.ifCond .ge 8) 3 115, none, none, 
  some (.ldc 66, 2, 0, 0, -1000000005, 0, [(0, 26)]), none, eA (.goto 4) 3 116, none, none, e1 (.iload_n 3), e1 .ireturn]
set_option maxRecDepth 100000 in
def cd259 : Cd := [e1 (.aload_n 0), eG (.getfield 345) 11 34 34 117, none, none, eV (.bipush 60) 2 60, none, eA (.if_icmp .ne 6) 3 12, none, none, some (.ldc 88, 2, 0, 0, -1000000003, 0, [(0, 25)]), none, e1 .ireturn, e1 (.aload_n 0), 
  eG (.getfield 60) 11 33 33 116, none, none, e1 (.aload_n 0), eG (.getfield 345) 11 34 34 117, none, none, e1 (.iload_n 1), e1 .iastore, e1 (.aload_n 0), e1 .dup, eG (.getfield 345) 11 34 34 117, none, none, 
  eV (.iconst 1) 1 1, e1 .iadd, eG (.putfield 345) 11 34 34 117, none, none, e1 (.aload_n 0), eG (.getfield 345) 11 34 34 117, none, none, e1 .ireturn]
set_option maxRecDepth 100000 in
def cd260 : Cd := [e1 (.iconst 0), e1 (.istore_n 3), e1 (.iload_n 3), eV (.sipush 3400) 3 3400, none, none, eA (.if_icmp .ge 15) 3 21, none, none, e1 (.aload_n 2), e1 (.iload_n 3), e1 (.aload_n 1), e1 (.iload_n 3), e1 .iaload, e1 .iastore, 
  eV (.iinc 3 1) 3 1, none, none, eA (.goto (-16)) 3 2, none, none, e1 .return_]
set_option maxRecDepth 100000 in
def cd261 : Cd := [e1 (.aload_n 0), eG (.getfield 345) 11 34 34 117, none, none, e1 (.istore_n 2), e1 (.aload_n 0), e1 (.iconst 0), eG (.putfield 345) 11 34 34 117, none, none, e1 (.iload_n 1), e1 .i2l, some (.lconst 1, 1, 0, 0, 0, 1, []), 
  some (.ldc2_w 348, 3, 0, 0, 0, 30, [(0, 17)]), none, none, eS (.invokestatic 67) 159 3 194, none, none, eA (.ifCond .ne 6) 3 25, none, none, some (.ldc 87, 2, 0, 0, -1000000001, 0, [(0, 24)]), none, e1 .ireturn, 
  e1 (.aload_n 0), eG (.getfield 350) 11 3 3 86, none, none, eA (.ifCond .ne 6) 3 35, none, none, some (.ldc 134, 2, 0, 0, -1000000002, 0, [(0, 27)]), none, e1 .ireturn, e1 (.aload_n 0), e1 (.aload_n 0), 
  eS (.getfield 7) 11 0 83, none, none, e1 (.aload_n 0), eG (.getfield 16) 11 2 2 85, none, none, eS (.invokevirtual 354) 260 2 295, none, none, e1 (.aload_n 0), e1 (.aload_n 0), eG (.getfield 13) 11 1 1 84, none, none, 
  e1 (.aload_n 0), eS (.getfield 7) 11 0 83, none, none, eS (.invokevirtual 354) 260 2 295, none, none, e1 (.iconst 0), e1 (.istore_n 3), e1 (.iload_n 3), e1 (.iload_n 1), eA (.if_icmp .ge 125) 3 188, none, none, 
  e1 (.aload_n 0), eS (.invokevirtual 322) 247 0 279, none, none, e1 (.aload_n 0), eG (.getfield 63) 11 35 35 118, none, none, eV (.iconst 2) 1 2, e1 (.iload_n 3), e1 .imul, e1 (.iconst 0), e1 .iastore, e1 (.aload_n 0), 
  eG (.getfield 63) 11 35 35 118, none, none, eV (.iconst 2) 1 2, e1 (.iload_n 3), e1 .imul, eV (.iconst 1) 1 1, e1 .iadd, e1 (.iconst 0), e1 .iastore, e1 (.iconst 0), e2 (.istore 4), none, e2 (.iload 4), none, 
  e1 (.aload_n 0), eS (.getfield 7) 11 0 83, none, none, eV (.iconst 2) 1 2, e1 .iaload, eA (.if_icmp .ge 34) 3 135, none, none, e1 (.aload_n 0), eG (.getfield 63) 11 35 35 118, none, none, eV (.iconst 2) 1 2, 
  e1 (.iload_n 3), e1 .imul, e1 .dup2, e1 .iaload, e1 (.aload_n 0), eS (.getfield 7) 11 0 83, none, none, e1 (.aload_n 0), e2 (.iload 4), none, eS (.invokevirtual 71) 164 1 205, none, none, eV (.bipush 10) 2 10, none, 
  e1 .iadd, e1 .iaload, e1 .iadd, e1 .iastore, eV (.iinc 4 1) 3 1, none, none, eA (.goto (-39)) 3 93, none, none, e1 (.iconst 0), e2 (.istore 4), none, e2 (.iload 4), none, e1 (.aload_n 0), eS (.getfield 7) 11 0 83, none, 
  none, eV (.iconst 1) 1 1, e1 .iaload, eA (.if_icmp .ge 36) 3 182, none, none, e1 (.aload_n 0), eG (.getfield 63) 11 35 35 118, none, none, eV (.iconst 2) 1 2, e1 (.iload_n 3), e1 .imul, eV (.iconst 1) 1 1, e1 .iadd, 
  e1 .dup2, e1 .iaload, e1 (.aload_n 0), eS (.getfield 7) 11 0 83, none, none, e1 (.aload_n 0), e2 (.iload 4), none, eS (.invokevirtual 89) 163 1 195, none, none, eV (.bipush 6) 2 6, none, e1 .iadd, e1 .iaload, e1 .iadd, 
  e1 .iastore, eV (.iinc 4 1) 3 1, none, none, eA (.goto (-41)) 3 138, none, none, eV (.iinc 3 1) 3 1, none, none, eA (.goto (-124)) 3 61, none, none, e1 (.aload_n 0), e1 (.aload_n 0), eG (.getfield 16) 11 2 2 85, none, 
  none, e1 (.aload_n 0), eS (.getfield 7) 11 0 83, none, none, eS (.invokevirtual 354) 260 2 295, none, none, e1 (.iconst 0), e1 (.istore_n 3), e1 (.iload_n 3), e1 (.iload_n 2), eA (.if_icmp .ge 31) 3 235, none, none, 
  e1 (.iload_n 3), eV (.iconst 2) 1 2, e1 (.iload_n 1), e1 .imul, eA (.if_icmp .ge 24) 3 235, none, none, e1 (.aload_n 0), eG (.getfield 60) 11 33 33 116, none, none, e1 (.iload_n 3), e1 .iaload, e1 (.aload_n 0), 
  eG (.getfield 63) 11 35 35 118, none, none, e1 (.iload_n 3), e1 .iaload, eA (.if_icmp .ne 9) 3 235, none, none, eV (.iinc 3 1) 3 1, none, none, eA (.goto (-30)) 3 202, none, none, e1 (.iload_n 3), e1 (.iload_n 2), 
  eA (.if_icmp .ne 14) 3 251, none, none, e1 (.iload_n 3), eV (.iconst 2) 1 2, e1 (.iload_n 1), e1 .imul, eA (.if_icmp .ne 7) 3 251, none, none, e1 (.iconst 0), eA (.goto 6) 3 254, none, none, eV (.iconst 1) 1 1, 
  e1 (.iload_n 3), e1 .iadd, e1 .ireturn]
set_option maxRecDepth 100000 in
def cd262 : Cd := [e1 (.aload_n 0), eV (.iconst 1) 1 1, eG (.putfield 350) 11 3 3 86, none, none, e1 (.aload_n 0), e1 (.aload_n 0), eS (.getfield 7) 11 0 83, none, none, e1 (.aload_n 0), eG (.getfield 13) 11 1 1 84, none, none, 
  eS (.invokevirtual 354) 260 2 295, none, none, e1 (.aload_n 0), eS (.getfield 7) 11 0 83, none, none, e1 (.iconst 0), e1 .iaload, e1 .ireturn]
set_option maxRecDepth 100000 in
def cd263 : Cd := [e1 (.aload_n 0), eG (.getfield 350) 11 3 3 86, none, none, eA (.ifCond .ne 6) 3 10, none, none, some (.ldc 134, 2, 0, 0, -1000000002, 0, [(0, 27)]), none, e1 .ireturn, e1 (.aload_n 0), e1 (.aload_n 0), 
  eG (.getfield 13) 11 1 1 84, none, none, e1 (.aload_n 0), eS (.getfield 7) 11 0 83, none, none, eS (.invokevirtual 354) 260 2 295, none, none, e1 (.aload_n 0), eS (.getfield 7) 11 0 83, none, none, e1 (.iconst 0), 
  e1 .iaload, e1 .ireturn]
set_option maxRecDepth 100000 in
def cd264 : Cd := [e1 (.iconst 0), e1 (.istore_n 2), e1 (.iload_n 1), 
  some (.tableswitch 284 0 13 #[69, 76, 83, 83, 148, 155, 213, 220, 227, 232, 237, 244, 252, 252], 69, 287, 0, 0, 0, [(0, 72), (1, 79), (2, 86), (3, 86), (4, 151), (5, 158), (6, 216), (7, 223), (8, 230), (9, 235), (10, 240), (11, 247), (12, 255), (13, 255)]), 
  none, none, none, none, none, none, none, none, none, none, none, none, none, none, none, none, none, none, none, none, none, none, none, none, none, none, none, none, none, none, none, none, none, none, none, none, none, 
  none, none, none, none, none, none, none, none, none, none, none, none, none, none, none, none, none, none, none, none, none, none, none, none, none, none, none, none, none, none, none, e1 (.aload_n 0), 
  eS (.getfield 7) 11 0 83, none, none, eV (.iconst 1) 1 1, e1 .iaload, e1 .ireturn, e1 (.aload_n 0), eS (.getfield 7) 11 0 83, none, none, eV (.iconst 2) 1 2, e1 .iaload, e1 .ireturn, e1 (.iconst 0), e1 (.istore_n 3), 
  e1 (.iload_n 3), e1 (.aload_n 0), eS (.getfield 7) 11 0 83, none, none, eV (.iconst 2) 1 2, e1 .iaload, eA (.if_icmp .ge 54) 3 149, none, none, e1 (.iload_n 2), e1 (.iload_n 1), eV (.iconst 2) 1 2, 
  eA (.if_icmp .ne 19) 3 120, none, none, e1 (.aload_n 0), eS (.getfield 7) 11 0 83, none, none, e1 (.aload_n 0), e1 (.iload_n 3), eS (.invokevirtual 71) 164 1 205, none, none, eV (.bipush 11) 2 11, none, e1 .iadd, 
  e1 .iaload, eA (.goto 24) 3 141, none, none, e1 (.aload_n 0), eS (.getfield 7) 11 0 83, none, none, e1 (.aload_n 0), e1 (.iload_n 3), eS (.invokevirtual 71) 164 1 205, none, none, eV (.bipush 8) 2 8, none, e1 .iadd, 
  e1 .iaload, eA (.ifCond .lt 7) 3 140, none, none, eV (.iconst 1) 1 1, eA (.goto 4) 3 141, none, none, e1 (.iconst 0), e1 .iadd, e1 (.istore_n 2), eV (.iinc 3 1) 3 1, none, none, eA (.goto (-58)) 3 88, none, none, 
  e1 (.iload_n 2), e1 .ireturn, e1 (.aload_n 0), eS (.getfield 7) 11 0 83, none, none, eV (.iconst 3) 1 3, e1 .iaload, e1 .ireturn, e1 (.iconst 0), e1 (.istore_n 3), e1 (.iload_n 3), e1 (.aload_n 0), 
  eS (.getfield 7) 11 0 83, none, none, eV (.iconst 3) 1 3, e1 .iaload, eA (.if_icmp .ge 47) 3 214, none, none, e1 (.iload_n 2), e1 (.aload_n 0), eS (.getfield 7) 11 0 83, none, none, e1 (.aload_n 0), e1 (.iload_n 3), 
  eS (.invokevirtual 75) 165 1 203, none, none, e1 .iaload, eV (.iconst 5) 1 5, eA (.if_icmp .ne 23) 3 205, none, none, e1 (.aload_n 0), eS (.getfield 7) 11 0 83, none, none, e1 (.aload_n 0), e1 (.iload_n 3), 
  eS (.invokevirtual 75) 165 1 203, none, none, eV (.bipush 6) 2 6, none, e1 .iadd, e1 .iaload, eA (.ifCond .ge 7) 3 205, none, none, eV (.iconst 1) 1 1, eA (.goto 4) 3 206, none, none, e1 (.iconst 0), e1 .iadd, 
  e1 (.istore_n 2), eV (.iinc 3 1) 3 1, none, none, eA (.goto (-51)) 3 160, none, none, e1 (.iload_n 2), e1 .ireturn, e1 (.aload_n 0), eS (.getfield 7) 11 0 83, none, none, eV (.iconst 4) 1 4, e1 .iaload, e1 .ireturn, 
  e1 (.aload_n 0), eS (.getfield 7) 11 0 83, none, none, eV (.iconst 5) 1 5, e1 .iaload, e1 .ireturn, e1 (.aload_n 0), eG (.getfield 345) 11 34 34 117, none, none, e1 .ireturn, e1 (.aload_n 0), 
  eG (.getfield 169) 11 16 16 99, none, none, e1 .ireturn, e1 (.aload_n 0), eS (.getfield 7) 11 0 83, none, none, e1 (.iconst 0), e1 .iaload, e1 .ireturn, e1 (.aload_n 0), eS (.getfield 7) 11 0 83, none, none, 
  eV (.bipush 6) 2 6, none, e1 .iaload, e1 .ireturn, e1 (.iconst 0), e1 (.istore_n 3), e1 (.iload_n 3), e1 (.aload_n 0), eS (.getfield 7) 11 0 83, none, none, eV (.iconst 1) 1 1, e1 .iaload, eA (.if_icmp .ge 21) 3 285, 
  none, none, e1 (.iload_n 2), e1 (.aload_n 0), e1 (.iload_n 3), e1 (.iload_n 1), eV (.bipush 11) 2 11, none, e1 .isub, eS (.invokevirtual 106) 179 2 201, none, none, e1 .iadd, e1 (.istore_n 2), eV (.iinc 3 1) 3 1, none, 
  none, eA (.goto (-25)) 3 257, none, none, e1 (.iload_n 2), e1 .ireturn, some (.ldc 87, 2, 0, 0, -1000000001, 0, [(0, 24)]), none, e1 .ireturn]
set_option maxRecDepth 100000 in
def cd265 : Cd := [e1 (.iload_n 0), e1 (.iload_n 0), eV (.iconst 1) 1 1, e1 .iushr, eG (.ldc_w 265) 0 0 1431655765 3, none, none, e1 .iand, e1 .isub, e1 (.istore_n 0), e1 (.iload_n 0), eG (.ldc_w 266) 0 0 858993459 4, none, none, e1 .iand, 
  e1 (.iload_n 0), eV (.iconst 2) 1 2, e1 .iushr, eG (.ldc_w 266) 0 0 858993459 4, none, none, e1 .iand, e1 .iadd, e1 (.istore_n 0), e1 (.iload_n 0), e1 (.iload_n 0), eV (.iconst 4) 1 4, e1 .iushr, e1 .iadd, 
  eG (.ldc_w 267) 0 0 252645135 5, none, none, e1 .iand, e1 (.istore_n 0), e1 (.iload_n 0), e1 (.iload_n 0), eV (.bipush 8) 2 8, none, e1 .iushr, e1 .iadd, e1 (.istore_n 0), e1 (.iload_n 0), e1 (.iload_n 0), 
  eV (.bipush 16) 2 16, none, e1 .iushr, e1 .iadd, e1 (.istore_n 0), e1 (.iload_n 0), eV (.bipush 63) 2 63, none, e1 .iand, e1 .ireturn]
def psN : List String := [RX0, RX1, RX2, RX3, RX4, RX5, RX6, RX7, RX8, RX9, RX10, RX11, RJ6, "PrisonShopsLaw"]
abbrev Mp : Type := Nat × Nat × (Nat × Nat) × (Nat × Nat) × (Nat × Nat) × (Nat × Nat)
abbrev Mi : Type := MethodName × ByteArray × Nat × Option FieldType × Nat × Cd × Mp
def mi0 : Mi := (⟨RX0, "pass", "(LPrisonShops$State;)V"⟩, prog_2_method_2_code, 3, none, 0, cd0, (1, 1, (5, 24), (5, 22), (5, 23), (1, 7)))
def mi1 : Mi := (⟨RX0, "work", "(LPrisonShops$State;I)V"⟩, prog_2_method_3_code, 7, none, 0, cd1, (1, 2, (5, 29), (5, 28), (0, 29), (1, 7)))
def mi2 : Mi := (⟨RX0, "learn", "(LPrisonShops$State;I)V"⟩, prog_2_method_4_code, 4, none, 0, cd2, (1, 2, (5, 42), (5, 41), (0, 30), (1, 7)))
def mi3 : Mi := (⟨RX0, "finishOrders", "(LPrisonShops$State;I)V"⟩, prog_2_method_5_code, 6, none, 0, cd3, (1, 2, (5, 48), (5, 47), (0, 31), (1, 7)))
def mi4 : Mi := (⟨RX0, "openGate", "(LPrisonShops$State;I)V"⟩, prog_2_method_6_code, 3, none, 0, cd4, (1, 2, (5, 55), (5, 54), (0, 32), (1, 7)))
def mi5 : Mi := (⟨RX1, "placed", "()I"⟩, prog_3_method_2_code, 1, some .int, 1, cd5, (1, 0, (3, 28), (3, 26), (3, 27), (1, 9)))
def mi6 : Mi := (⟨RX1, "turns", "()I"⟩, prog_3_method_3_code, 1, some .int, 1, cd6, (1, 0, (3, 32), (3, 30), (3, 31), (1, 9)))
def mi7 : Mi := (⟨RX1, "shopOf", "(I)I"⟩, prog_3_method_4_code, 2, some .int, 1, cd7, (1, 1, (3, 36), (3, 34), (3, 35), (1, 9)))
def mi8 : Mi := (⟨RX1, "find", "(LPrisonShops$State;)V"⟩, prog_3_method_5_code, 3, none, 1, cd8, (1, 1, (2, 223), (2, 221), (2, 222), (1, 9)))
def mi9 : Mi := (⟨RX1, "choicesOf", "(LPrisonShops$State;I)I"⟩, prog_3_method_6_code, 4, some .int, 1, cd9, (0, 2, (2, 231), (2, 230), (0, 0), (1, 9)))
def mi10 : Mi := (⟨RX1, "sumLeastTurns", "()V"⟩, prog_3_method_7_code, 5, none, 1, cd10, (1, 0, (2, 236), (2, 235), (0, 1), (1, 9)))
def mi11 : Mi := (⟨RX1, "sortIn", "(II)V"⟩, prog_3_method_8_code, 4, none, 1, cd11, (1, 2, (3, 0), (2, 239), (0, 2), (1, 9)))
def mi12 : Mi := (⟨RX1, "place", "(III)V"⟩, prog_3_method_9_code, 5, none, 1, cd12, (1, 3, (3, 4), (3, 3), (0, 3), (1, 9)))
def mi13 : Mi := (⟨RX1, "placeIn", "(IIII)V"⟩, prog_3_method_10_code, 5, none, 1, cd13, (1, 4, (3, 15), (3, 14), (0, 5), (1, 9)))
def mi14 : Mi := (⟨RX1, "leaveOut", "(III)V"⟩, prog_3_method_11_code, 4, none, 1, cd14, (1, 3, (3, 23), (3, 22), (0, 7), (1, 9)))
def mi15 : Mi := (⟨RX1, "fits", "(II)Z"⟩, prog_3_method_12_code, 3, some .boolean, 1, cd15, (1, 2, (3, 19), (3, 18), (0, 6), (1, 9)))
def mi16 : Mi := (⟨RX1, "canBeBetter", "(III)Z"⟩, prog_3_method_13_code, 6, some .boolean, 1, cd16, (1, 3, (3, 8), (3, 7), (0, 4), (1, 9)))
def mi17 : Mi := (⟨RX2, "firstDayAllDone", "(LPrisonShops$State;I)I"⟩, prog_4_method_2_code, 7, some .int, 2, cd17, (1, 2, (3, 115), (3, 113), (3, 114), (1, 8)))
def mi18 : Mi := (⟨RX2, "listOrders", "(LPrisonShops$State;I)V"⟩, prog_4_method_3_code, 4, none, 2, cd18, (1, 2, (3, 119), (3, 118), (0, 8), (1, 8)))
def mi19 : Mi := (⟨RX2, "listWorkers", "(LPrisonShops$State;I)V"⟩, prog_4_method_4_code, 4, none, 2, cd19, (1, 2, (3, 137), (3, 136), (0, 10), (1, 8)))
def mi20 : Mi := (⟨RX2, "madeOn", "(II)I"⟩, prog_4_method_5_code, 5, some .int, 2, cd20, (1, 2, (3, 142), (3, 141), (0, 11), (1, 8)))
def mi21 : Mi := (⟨RX3, "size", "()I"⟩, prog_5_method_2_code, 1, some .int, 3, cd21, (1, 0, (4, 156), (4, 154), (4, 155), (1, 6)))
def mi22 : Mi := (⟨RX3, "clear", "()V"⟩, prog_5_method_3_code, 1, none, 3, cd22, (1, 0, (3, 185), (3, 183), (3, 184), (1, 6)))
def mi23 : Mi := (⟨RX3, "push", "(I)V"⟩, prog_5_method_4_code, 2, none, 3, cd23, (1, 1, (4, 47), (4, 45), (4, 46), (1, 6)))
def mi24 : Mi := (⟨RX3, "at", "(I)I"⟩, prog_5_method_5_code, 2, some .int, 3, cd24, (1, 1, (4, 160), (4, 158), (4, 159), (1, 6)))
def mi25 : Mi := (⟨RX3, "top", "()I"⟩, prog_5_method_6_code, 1, some .int, 3, cd25, (1, 0, (4, 55), (4, 53), (4, 54), (1, 6)))
def mi26 : Mi := (⟨RX3, "pop", "()I"⟩, prog_5_method_7_code, 1, some .int, 3, cd26, (1, 0, (4, 59), (4, 57), (4, 58), (1, 6)))
def mi27 : Mi := (⟨RX4, "readAll", "()I"⟩, prog_6_method_2_code, 3, some .int, 4, cd27, (1, 0, (3, 177), (3, 175), (3, 176), (1, 11)))
def mi28 : Mi := (⟨RX4, "writeTo", "(LPrisonShops$Table;I)V"⟩, prog_6_method_3_code, 4, none, 4, cd28, (1, 2, (4, 151), (4, 149), (4, 150), (1, 11)))
def mi29 : Mi := (⟨RX4, "startAnew", "()V"⟩, prog_6_method_4_code, 1, none, 4, cd29, (1, 0, (3, 181), (3, 180), (0, 12), (1, 11)))
def mi30 : Mi := (⟨RX4, "goOn", "()V"⟩, prog_6_method_5_code, 4, none, 4, cd30, (1, 0, (3, 189), (3, 188), (0, 13), (1, 11)))
def mi31 : Mi := (⟨RX4, "skipLetters", "()V"⟩, prog_6_method_6_code, 1, none, 4, cd31, (1, 0, (3, 201), (3, 200), (0, 14), (1, 11)))
def mi32 : Mi := (⟨RX4, "readDigits", "()V"⟩, prog_6_method_7_code, 1, none, 4, cd32, (1, 0, (3, 208), (3, 207), (0, 15), (1, 11)))
def mi33 : Mi := (⟨RX4, "isLetter", "(I)Z"⟩, prog_6_method_8_code, 1, some .boolean, 4, cd33, (0, 1, (3, 197), (3, 196), (0, 0), (1, 11)))
def mi34 : Mi := (⟨RX4, "isDigit", "(I)Z"⟩, prog_6_method_9_code, 1, some .boolean, 4, cd34, (0, 1, (3, 204), (3, 203), (0, 0), (1, 11)))
def mi35 : Mi := (⟨RX4, "keyHere", "()I"⟩, prog_6_method_10_code, 2, some .int, 4, cd35, (1, 0, (3, 213), (3, 212), (0, 16), (1, 11)))
def mi36 : Mi := (⟨RX4, "isSpelt", "(Ljava/lang/String;)Z"⟩, prog_6_method_11_code, 3, some .boolean, 4, cd36, (1, 1, (3, 226), (3, 225), (0, 17), (1, 11)))
def mi37 : Mi := (⟨RX4, "wordOf", "(I)Ljava/lang/String;"⟩, prog_6_method_12_code, 1, some (.object "java/lang/String"), 4, cd37, (0, 1, (3, 216), (3, 215), (0, 0), (1, 11)))
def mi38 : Mi := (⟨RX4, "namesOf", "(I)Ljava/lang/String;"⟩, prog_6_method_13_code, 1, some (.object "java/lang/String"), 4, cd38, (0, 1, (4, 66), (4, 65), (0, 0), (1, 11)))
def mi39 : Mi := (⟨RX4, "readPart", "()Z"⟩, prog_6_method_14_code, 1, some .boolean, 4, cd39, (1, 0, (4, 39), (4, 38), (0, 18), (1, 11)))
def mi40 : Mi := (⟨RX4, "takeName", "()Z"⟩, prog_6_method_15_code, 2, some .boolean, 4, cd40, (1, 0, (4, 63), (4, 62), (0, 21), (1, 11)))
def mi41 : Mi := (⟨RX4, "takePart", "(I)Z"⟩, prog_6_method_16_code, 2, some .boolean, 4, cd41, (1, 1, (4, 43), (4, 42), (0, 19), (1, 11)))
def mi42 : Mi := (⟨RX4, "takeOpening", "()Z"⟩, prog_6_method_17_code, 1, some .boolean, 4, cd42, (1, 0, (4, 131), (4, 130), (0, 22), (1, 11)))
def mi43 : Mi := (⟨RX4, "readSign", "()Z"⟩, prog_6_method_18_code, 2, some .boolean, 4, cd43, (1, 0, (4, 135), (4, 134), (0, 23), (1, 11)))
def mi44 : Mi := (⟨RX4, "takeClosing", "()Z"⟩, prog_6_method_19_code, 1, some .boolean, 4, cd44, (1, 0, (4, 139), (4, 138), (0, 24), (1, 11)))
def mi45 : Mi := (⟨RX4, "endPart", "()V"⟩, prog_6_method_20_code, 1, none, 4, cd45, (1, 0, (4, 51), (4, 50), (0, 20), (1, 11)))
def mi46 : Mi := (⟨RX4, "settle", "(I)V"⟩, prog_6_method_21_code, 3, none, 4, cd46, (1, 1, (4, 143), (4, 142), (0, 25), (1, 11)))
def mi47 : Mi := (⟨RX4, "bindsOf", "(I)I"⟩, prog_6_method_22_code, 1, some .int, 4, cd47, (0, 1, (4, 146), (4, 145), (0, 0), (1, 11)))
def mi48 : Mi := (⟨RX5, "give", "(LPrisonShops$State;IIII)I"⟩, prog_7_method_2_code, 7, some .int, 5, cd48, (1, 5, (4, 181), (4, 179), (4, 180), (1, 5)))
def mi49 : Mi := (⟨RX5, "workOut", "(LPrisonShops$Table;IIII)I"⟩, prog_7_method_3_code, 11, some .int, 5, cd49, (1, 5, (4, 187), (4, 186), (0, 26), (1, 5)))
def mi50 : Mi := (⟨RX5, "join", "(III)I"⟩, prog_7_method_4_code, 3, some .int, 5, cd50, (0, 3, (4, 197), (4, 196), (0, 0), (1, 5)))
def mi51 : Mi := (⟨RX5, "isTrue", "(Z)I"⟩, prog_7_method_5_code, 1, some .int, 5, cd51, (0, 1, (4, 194), (4, 193), (0, 0), (1, 5)))
def mi52 : Mi := (⟨RX5, "share", "(LPrisonShops$State;II)I"⟩, prog_7_method_6_code, 10, some .int, 5, cd52, (1, 3, (4, 207), (4, 205), (4, 206), (1, 5)))
def mi53 : Mi := (⟨RX6, "become", "(III)I"⟩, prog_8_method_2_code, 5, some .int, 6, cd53, (1, 3, (5, 83), (5, 81), (5, 82), (1, 12)))
def mi54 : Mi := (⟨RX6, "change", "(IIII)I"⟩, prog_8_method_3_code, 6, some .int, 6, cd54, (1, 4, (5, 97), (5, 95), (5, 96), (1, 12)))
def mi55 : Mi := (⟨RX6, "carry", "(IIIII)I"⟩, prog_8_method_4_code, 6, some .int, 6, cd55, (1, 5, (5, 118), (5, 116), (5, 117), (1, 12)))
def mi56 : Mi := (⟨RX6, "oddAt", "(I)I"⟩, prog_8_method_5_code, 5, some .int, 6, cd56, (1, 1, (5, 132), (5, 130), (5, 131), (1, 12)))
def mi57 : Mi := (⟨RX6, "isSheet", "(I)Z"⟩, prog_8_method_6_code, 1, some .boolean, 6, cd57, (0, 1, (5, 86), (5, 85), (0, 0), (1, 12)))
def mi58 : Mi := (⟨RX6, "hasPlace", "(II)Z"⟩, prog_8_method_7_code, 3, some .boolean, 6, cd58, (1, 2, (5, 102), (5, 101), (0, 33), (1, 12)))
def mi59 : Mi := (⟨RX6, "hasRow", "(III)Z"⟩, prog_8_method_8_code, 4, some .boolean, 6, cd59, (1, 3, (5, 123), (5, 122), (0, 34), (1, 12)))
def mi60 : Mi := (⟨RX6, "narrowed", "(IJ)J"⟩, prog_8_method_9_code, 3, some .long, 6, cd60, (0, 2, (5, 106), (5, 105), (0, 0), (1, 12)))
def mi61 : Mi := (⟨RX7, "becomeAs", "(LPrisonShops$State;)V"⟩, prog_9_method_2_code, 2, none, 7, cd61, (1, 1, (5, 145), (5, 143), (5, 144), (1, 2)))
def mi62 : Mi := (⟨RX7, "isFree", "(I)Z"⟩, prog_9_method_3_code, 2, some .boolean, 7, cd62, (1, 1, (2, 191), (2, 189), (2, 190), (1, 2)))
def mi63 : Mi := (⟨RX7, "handsNotFree", "()I"⟩, prog_9_method_4_code, 3, some .int, 7, cd63, (1, 0, (5, 70), (5, 68), (5, 69), (1, 2)))
def mi64 : Mi := (⟨RX7, "isBarred", "(II)Z"⟩, prog_9_method_5_code, 3, some .boolean, 7, cd64, (1, 2, (2, 174), (2, 172), (2, 173), (1, 2)))
def mi65 : Mi := (⟨RX7, "setBarred", "(IIZ)V"⟩, prog_9_method_6_code, 6, none, 7, cd65, (1, 3, (2, 178), (2, 176), (2, 177), (1, 2)))
def mi66 : Mi := (⟨RX7, "mayWork", "(II)Z"⟩, prog_9_method_7_code, 3, some .boolean, 7, cd66, (1, 2, (2, 187), (2, 185), (2, 186), (1, 2)))
def mi67 : Mi := (⟨RX7, "membersOf", "(I)I"⟩, prog_9_method_8_code, 4, some .int, 7, cd67, (1, 1, (2, 126), (2, 124), (2, 125), (1, 2)))
def mi68 : Mi := (⟨RX7, "hasRoomFor", "(II)Z"⟩, prog_9_method_9_code, 4, some .boolean, 7, cd68, (1, 2, (2, 199), (2, 197), (2, 198), (1, 2)))
def mi69 : Mi := (⟨RX7, "move", "(II)V"⟩, prog_9_method_10_code, 3, none, 7, cd69, (1, 2, (2, 206), (2, 204), (2, 205), (1, 2)))
def mi70 : Mi := (⟨RX7, "takeBack", "(II)V"⟩, prog_9_method_11_code, 4, none, 7, cd70, (1, 2, (2, 210), (2, 208), (2, 209), (1, 2)))
def mi71 : Mi := (⟨RX7, "isOutTo", "(II)Z"⟩, prog_9_method_12_code, 3, some .boolean, 7, cd71, (1, 2, (2, 214), (2, 212), (2, 213), (1, 2)))
def mi72 : Mi := (⟨RX7, "countOutTo", "(I)I"⟩, prog_9_method_13_code, 4, some .int, 7, cd72, (1, 1, (3, 83), (3, 81), (3, 82), (1, 2)))
def mi73 : Mi := (⟨RX7, "countInShops", "()I"⟩, prog_9_method_14_code, 3, some .int, 7, cd73, (1, 0, (5, 178), (5, 176), (5, 177), (1, 2)))
def mi74 : Mi := (⟨RX7, "isOfKind", "(II)Z"⟩, prog_9_method_15_code, 5, some .boolean, 7, cd74, (1, 2, (2, 147), (2, 145), (2, 146), (1, 2)))
def mi75 : Mi := (⟨RX7, "isToolOf", "(II)Z"⟩, prog_9_method_16_code, 3, some .boolean, 7, cd75, (1, 2, (3, 95), (3, 93), (3, 94), (1, 2)))
def mi76 : Mi := (⟨RX7, "countTools", "(II)I"⟩, prog_9_method_17_code, 6, some .int, 7, cd76, (1, 2, (2, 142), (2, 140), (2, 141), (1, 2)))
def mi77 : Mi := (⟨RX7, "mayHave", "(II)Z"⟩, prog_9_method_18_code, 4, some .boolean, 7, cd77, (1, 2, (3, 79), (3, 77), (3, 78), (1, 2)))
def mi78 : Mi := (⟨RX7, "agreesAtBell", "(IZ)Z"⟩, prog_9_method_19_code, 5, some .boolean, 7, cd78, (1, 2, (3, 99), (3, 97), (3, 98), (1, 2)))
def mi79 : Mi := (⟨RX7, "isOpenOrder", "(I)Z"⟩, prog_9_method_20_code, 2, some .boolean, 7, cd79, (1, 1, (3, 128), (3, 126), (3, 127), (1, 2)))
def mi80 : Mi := (⟨RX7, "countOpenOrders", "()I"⟩, prog_9_method_21_code, 3, some .int, 7, cd80, (1, 0, (5, 182), (5, 180), (5, 181), (1, 2)))
def mi81 : Mi := (⟨RX7, "nextOrder", "(II)I"⟩, prog_9_method_22_code, 5, some .int, 7, cd81, (1, 2, (3, 124), (3, 122), (3, 123), (1, 2)))
def mi82 : Mi := (⟨RX7, "comesAhead", "(II)Z"⟩, prog_9_method_23_code, 5, some .boolean, 7, cd82, (1, 2, (3, 132), (3, 131), (0, 9), (1, 2)))
def mi83 : Mi := (⟨RX7, "textInForce", "(I)I"⟩, prog_9_method_24_code, 5, some .int, 7, cd83, (1, 1, (4, 173), (4, 171), (4, 172), (1, 2)))
def mi84 : Mi := (⟨RX7, "addPence", "(III)V"⟩, prog_9_method_25_code, 4, none, 7, cd84, (1, 3, (4, 212), (4, 210), (4, 211), (1, 2)))
def mi85 : Mi := (⟨RX7, "addEvent", "(II)I"⟩, prog_9_method_26_code, 4, some .int, 7, cd85, (1, 2, (4, 231), (4, 229), (4, 230), (1, 2)))
def mi86 : Mi := (⟨RX7, "endAsKnown", "(II)I"⟩, prog_9_method_27_code, 5, some .int, 7, cd86, (1, 2, (5, 12), (5, 10), (5, 11), (1, 2)))
def mi87 : Mi := (⟨RX7, "countsOn", "(II)Z"⟩, prog_9_method_28_code, 4, some .boolean, 7, cd87, (1, 2, (5, 16), (5, 15), (0, 28), (1, 2)))
def mi88 : Mi := (⟨RX7, "draw", "(I)I"⟩, prog_9_method_29_code, 6, some .int, 7, cd88, (1, 1, (5, 74), (5, 72), (5, 73), (1, 2)))
def mi89 : Mi := (⟨RX7, "sumOfEarned", "()I"⟩, prog_9_method_30_code, 3, some .int, 7, cd89, (1, 0, (5, 154), (5, 152), (5, 153), (1, 2)))
def mi90 : Mi := (⟨RX7, "sumOfMade", "()I"⟩, prog_9_method_31_code, 3, some .int, 7, cd90, (1, 0, (5, 162), (5, 160), (5, 161), (1, 2)))
def mi91 : Mi := (⟨RX8, "rows", "()I"⟩, prog_10_method_2_code, 1, some .int, 8, cd91, (1, 0, (2, 130), (2, 128), (2, 129), (1, 3)))
def mi92 : Mi := (⟨RX8, "isFull", "()Z"⟩, prog_10_method_3_code, 1, some .boolean, 8, cd92, (1, 0, (2, 87), (2, 85), (2, 86), (1, 3)))
def mi93 : Mi := (⟨RX8, "holds", "(I)Z"⟩, prog_10_method_4_code, 2, some .boolean, 8, cd93, (1, 1, (2, 105), (2, 103), (2, 104), (1, 3)))
def mi94 : Mi := (⟨RX8, "get", "(II)I"⟩, prog_10_method_5_code, 3, some .int, 8, cd94, (1, 2, (2, 113), (2, 111), (2, 112), (1, 3)))
def mi95 : Mi := (⟨RX8, "set", "(III)V"⟩, prog_10_method_6_code, 4, none, 8, cd95, (1, 3, (2, 97), (2, 95), (2, 96), (1, 3)))
def mi96 : Mi := (⟨RX8, "swap", "(III)I"⟩, prog_10_method_7_code, 5, some .int, 8, cd96, (1, 3, (2, 109), (2, 107), (2, 108), (1, 3)))
def mi97 : Mi := (⟨RX8, "raise", "(III)V"⟩, prog_10_method_8_code, 4, none, 8, cd97, (1, 3, (5, 38), (5, 36), (5, 37), (1, 3)))
def mi98 : Mi := (⟨RX8, "add", "()I"⟩, prog_10_method_9_code, 1, some .int, 8, cd98, (1, 0, (2, 92), (2, 90), (2, 91), (1, 3)))
def mi99 : Mi := (⟨RX8, "becomeAs", "(LPrisonShops$Table;)V"⟩, prog_10_method_10_code, 2, none, 8, cd99, (1, 1, (5, 149), (5, 147), (5, 148), (1, 3)))
def mi100 : Mi := (⟨RX9, "size", "()I"⟩, prog_11_method_2_code, 1, some .int, 9, cd100, (1, 0, (3, 159), (3, 157), (3, 158), (1, 10)))
def mi101 : Mi := (⟨RX9, "hasRoom", "()Z"⟩, prog_11_method_3_code, 1, some .boolean, 9, cd101, (1, 0, (3, 151), (3, 149), (3, 150), (1, 10)))
def mi102 : Mi := (⟨RX9, "add", "(I)V"⟩, prog_11_method_4_code, 3, none, 9, cd102, (1, 1, (3, 155), (3, 153), (3, 154), (1, 10)))
def mi103 : Mi := (⟨RX9, "cutTo", "(I)V"⟩, prog_11_method_5_code, 2, none, 9, cd103, (1, 1, (3, 167), (3, 165), (3, 166), (1, 10)))
def mi104 : Mi := (⟨RX9, "at", "(I)I"⟩, prog_11_method_6_code, 2, some .int, 9, cd104, (1, 1, (3, 194), (3, 192), (3, 193), (1, 10)))
def mi105 : Mi := (⟨RX10, "shop", "(III)I"⟩, prog_1_method_2_code, 5, some .int, 10, cd105, (1, 3, (2, 79), (2, 77), (2, 78), (1, 1)))
def mi106 : Mi := (⟨RX10, "rate", "(II)I"⟩, prog_1_method_3_code, 3, some .int, 10, cd106, (1, 2, (2, 101), (2, 99), (2, 100), (1, 1)))
def mi107 : Mi := (⟨RX10, "lock", "(II)I"⟩, prog_1_method_4_code, 3, some .int, 10, cd107, (1, 2, (2, 118), (2, 116), (2, 117), (1, 1)))
def mi108 : Mi := (⟨RX10, "has", "(II)I"⟩, prog_1_method_5_code, 3, some .int, 10, cd108, (1, 2, (2, 122), (2, 120), (2, 121), (1, 1)))
def mi109 : Mi := (⟨RX10, "hand", "(III)I"⟩, prog_1_method_6_code, 5, some .int, 10, cd109, (1, 3, (2, 154), (2, 152), (2, 153), (1, 1)))
def mi110 : Mi := (⟨RX10, "is", "(II)I"⟩, prog_1_method_7_code, 3, some .int, 10, cd110, (1, 2, (2, 158), (2, 156), (2, 157), (1, 1)))
def mi111 : Mi := (⟨RX10, "be", "(III)I"⟩, prog_1_method_8_code, 4, some .int, 10, cd111, (1, 3, (2, 162), (2, 160), (2, 161), (1, 1)))
def mi112 : Mi := (⟨RX10, "canBecome", "(II)Z"⟩, prog_1_method_9_code, 3, some .boolean, 10, cd112, (1, 2, (2, 166), (2, 165), (0, 0), (1, 1)))
def mi113 : Mi := (⟨RX10, "bar", "(III)I"⟩, prog_1_method_10_code, 5, some .int, 10, cd113, (1, 3, (2, 170), (2, 168), (2, 169), (1, 1)))
def mi114 : Mi := (⟨RX10, "may", "(II)I"⟩, prog_1_method_11_code, 3, some .int, 10, cd114, (1, 2, (2, 183), (2, 181), (2, 182), (1, 1)))
def mi115 : Mi := (⟨RX10, "put", "(II)I"⟩, prog_1_method_12_code, 4, some .int, 10, cd115, (1, 2, (2, 195), (2, 193), (2, 194), (1, 1)))
def mi116 : Mi := (⟨RX10, "filling", "(I)I"⟩, prog_1_method_13_code, 2, some .int, 10, cd116, (1, 1, (2, 218), (2, 216), (2, 217), (1, 1)))
def mi117 : Mi := (⟨RX10, "fill", "()I"⟩, prog_1_method_14_code, 3, some .int, 10, cd117, (1, 0, (3, 40), (3, 38), (3, 39), (1, 1)))
def mi118 : Mi := (⟨RX10, "never", "()I"⟩, prog_1_method_15_code, 3, some .int, 10, cd118, (1, 0, (3, 45), (3, 43), (3, 44), (1, 1)))
def mi119 : Mi := (⟨RX10, "thing", "(IIII)I"⟩, prog_1_method_16_code, 6, some .int, 10, cd119, (1, 4, (3, 49), (3, 47), (3, 48), (1, 1)))
def mi120 : Mi := (⟨RX10, "told", "(II)I"⟩, prog_1_method_17_code, 3, some .int, 10, cd120, (1, 2, (3, 65), (3, 63), (3, 64), (1, 1)))
def mi121 : Mi := (⟨RX10, "as", "(II)I"⟩, prog_1_method_18_code, 3, some .int, 10, cd121, (1, 2, (3, 69), (3, 67), (3, 68), (1, 1)))
def mi122 : Mi := (⟨RX10, "out", "(II)I"⟩, prog_1_method_19_code, 3, some .int, 10, cd122, (1, 2, (3, 75), (3, 73), (3, 74), (1, 1)))
def mi123 : Mi := (⟨RX10, "hang", "(I)I"⟩, prog_1_method_20_code, 2, some .int, 10, cd123, (1, 1, (3, 87), (3, 85), (3, 86), (1, 1)))
def mi124 : Mi := (⟨RX10, "bell", "(II)I"⟩, prog_1_method_21_code, 6, some .int, 10, cd124, (1, 2, (3, 91), (3, 89), (3, 90), (1, 1)))
def mi125 : Mi := (⟨RX10, "who", "(I)I"⟩, prog_1_method_22_code, 4, some .int, 10, cd125, (1, 1, (3, 103), (3, 101), (3, 102), (1, 1)))
def mi126 : Mi := (⟨RX10, "late", "(I)I"⟩, prog_1_method_23_code, 3, some .int, 10, cd126, (1, 1, (3, 107), (3, 105), (3, 106), (1, 1)))
def mi127 : Mi := (⟨RX10, "foretold", "(I)I"⟩, prog_1_method_24_code, 2, some .int, 10, cd127, (1, 1, (3, 111), (3, 109), (3, 110), (1, 1)))
def mi128 : Mi := (⟨RX10, "feed", "(III)I"⟩, prog_1_method_25_code, 4, some .int, 10, cd128, (1, 3, (3, 147), (3, 145), (3, 146), (1, 1)))
def mi129 : Mi := (⟨RX10, "trim", "(I)I"⟩, prog_1_method_26_code, 2, some .int, 10, cd129, (1, 1, (3, 163), (3, 161), (3, 162), (1, 1)))
def mi130 : Mi := (⟨RX10, "text", "(I)I"⟩, prog_1_method_27_code, 4, some .int, 10, cd130, (1, 1, (3, 173), (3, 171), (3, 172), (1, 1)))
def mi131 : Mi := (⟨RX10, "of", "(II)I"⟩, prog_1_method_28_code, 3, some .int, 10, cd131, (1, 2, (4, 165), (4, 163), (4, 164), (1, 1)))
def mi132 : Mi := (⟨RX10, "why", "(I)I"⟩, prog_1_method_29_code, 2, some .int, 10, cd132, (1, 1, (4, 169), (4, 167), (4, 168), (1, 1)))
def mi133 : Mi := (⟨RX10, "rules", "(IIII)I"⟩, prog_1_method_30_code, 5, some .int, 10, cd133, (1, 4, (4, 177), (4, 175), (4, 176), (1, 1)))
def mi134 : Mi := (⟨RX10, "pay", "(I)I"⟩, prog_1_method_31_code, 5, some .int, 10, cd134, (1, 1, (4, 203), (4, 201), (4, 202), (1, 1)))
def mi135 : Mi := (⟨RX10, "takes", "(II)I"⟩, prog_1_method_32_code, 3, some .int, 10, cd135, (1, 2, (4, 218), (4, 216), (4, 217), (1, 1)))
def mi136 : Mi := (⟨RX10, "earn", "(I)I"⟩, prog_1_method_33_code, 7, some .int, 10, cd136, (1, 1, (4, 222), (4, 220), (4, 221), (1, 1)))
def mi137 : Mi := (⟨RX10, "lose", "(II)I"⟩, prog_1_method_34_code, 4, some .int, 10, cd137, (1, 2, (4, 236), (4, 234), (4, 235), (1, 1)))
def mi138 : Mi := (⟨RX10, "refusalOfEvent", "(I)I"⟩, prog_1_method_35_code, 2, some .int, 10, cd138, (1, 1, (4, 226), (4, 225), (0, 27), (1, 1)))
def mi139 : Mi := (⟨RX10, "appeal", "(I)I"⟩, prog_1_method_36_code, 2, some .int, 10, cd139, (1, 1, (5, 0), (4, 238), (4, 239), (1, 1)))
def mi140 : Mi := (⟨RX10, "event", "(II)I"⟩, prog_1_method_37_code, 3, some .int, 10, cd140, (1, 2, (5, 4), (5, 2), (5, 3), (1, 1)))
def mi141 : Mi := (⟨RX10, "end", "(II)I"⟩, prog_1_method_38_code, 3, some .int, 10, cd141, (1, 2, (5, 8), (5, 6), (5, 7), (1, 1)))
def mi142 : Mi := (⟨RX10, "run", "(I)I"⟩, prog_1_method_39_code, 3, some .int, 10, cd142, (1, 1, (5, 20), (5, 18), (5, 19), (1, 1)))
def mi143 : Mi := (⟨RX10, "seed", "(I)I"⟩, prog_1_method_40_code, 3, some .int, 10, cd143, (1, 1, (5, 61), (5, 59), (5, 60), (1, 1)))
def mi144 : Mi := (⟨RX10, "search", "(I)I"⟩, prog_1_method_41_code, 5, some .int, 10, cd144, (1, 1, (5, 66), (5, 64), (5, 65), (1, 1)))
def mi145 : Mi := (⟨RX10, "sheet", "(III)I"⟩, prog_1_method_42_code, 4, some .int, 10, cd145, (1, 3, (5, 79), (5, 77), (5, 78), (1, 1)))
def mi146 : Mi := (⟨RX10, "mark", "(III)I"⟩, prog_1_method_43_code, 4, some .int, 10, cd146, (1, 3, (5, 93), (5, 91), (5, 92), (1, 1)))
def mi147 : Mi := (⟨RX10, "grow", "(III)I"⟩, prog_1_method_44_code, 4, some .int, 10, cd147, (1, 3, (5, 110), (5, 108), (5, 109), (1, 1)))
def mi148 : Mi := (⟨RX10, "copy", "(IIIII)I"⟩, prog_1_method_45_code, 6, some .int, 10, cd148, (1, 5, (5, 114), (5, 112), (5, 113), (1, 1)))
def mi149 : Mi := (⟨RX10, "odd", "(I)I"⟩, prog_1_method_46_code, 2, some .int, 10, cd149, (1, 1, (5, 128), (5, 126), (5, 127), (1, 1)))
def mi150 : Mi := (⟨RX10, "tell", "(I)I"⟩, prog_1_method_47_code, 2, some .int, 10, cd150, (1, 1, (5, 137), (5, 135), (5, 136), (1, 1)))
def mi151 : Mi := (⟨RX10, "check", "(I)I"⟩, prog_1_method_48_code, 4, some .int, 10, cd151, (1, 1, (5, 141), (5, 139), (5, 140), (1, 1)))
def mi152 : Mi := (⟨RX10, "wasTold", "(III)Z"⟩, prog_1_method_49_code, 4, some .boolean, 10, cd152, (1, 3, (5, 158), (5, 157), (0, 35), (1, 1)))
def mi153 : Mi := (⟨RX10, "keep", "()I"⟩, prog_1_method_50_code, 1, some .int, 10, cd153, (1, 0, (5, 166), (5, 164), (5, 165), (1, 1)))
def mi154 : Mi := (⟨RX10, "back", "()I"⟩, prog_1_method_51_code, 1, some .int, 10, cd154, (1, 0, (5, 170), (5, 168), (5, 169), (1, 1)))
def mi155 : Mi := (⟨RX10, "count", "(I)I"⟩, prog_1_method_52_code, 2, some .int, 10, cd155, (1, 1, (5, 174), (5, 172), (5, 173), (1, 1)))
def mi156 : Mi := (⟨RX10, "isWithin", "(III)Z"⟩, prog_1_method_53_code, 3, some .boolean, 10, cd156, (0, 3, (2, 82), (2, 81), (0, 0), (1, 1)))
def mi157 : Mi := (⟨RX10, "isKind", "(I)Z"⟩, prog_1_method_54_code, 1, some .boolean, 10, cd157, (0, 1, (3, 52), (3, 51), (0, 0), (1, 1)))
def mi158 : Mi := (⟨RX10, "fitsKind", "(III)Z"⟩, prog_1_method_55_code, 3, some .boolean, 10, cd158, (0, 3, (3, 55), (3, 54), (0, 0), (1, 1)))
def mi159 : Mi := (⟨RX11, "isIn", "(JJJ)Z"⟩, prog_13_method_2_code, 6, some .boolean, 11, cd159, (0, 3, (6, 66), (6, 65), (0, 0), (1, 13)))
def mi160 : Mi := (⟨RX11, "orNone", "(I)I"⟩, prog_13_method_3_code, 1, some .int, 11, cd160, (0, 1, (6, 132), (6, 131), (0, 0), (1, 13)))
def mi161 : Mi := (⟨RX11, "least", "(II)I"⟩, prog_13_method_4_code, 2, some .int, 11, cd161, (0, 2, (7, 118), (7, 117), (0, 0), (1, 13)))
def mi162 : Mi := (⟨RX11, "becomes", "(II)I"⟩, prog_13_method_5_code, 4, some .int, 11, cd162, (1, 2, (6, 86), (6, 85), (0, 38), (1, 13)))
def mi163 : Mi := (⟨RX11, "shopAt", "(I)I"⟩, prog_13_method_6_code, 2, some .int, 11, cd163, (1, 1, (6, 73), (6, 72), (0, 36), (1, 13)))
def mi164 : Mi := (⟨RX11, "handAt", "(I)I"⟩, prog_13_method_7_code, 2, some .int, 11, cd164, (1, 1, (6, 115), (6, 114), (0, 43), (1, 13)))
def mi165 : Mi := (⟨RX11, "thingAt", "(I)I"⟩, prog_13_method_8_code, 2, some .int, 11, cd165, (1, 1, (6, 107), (6, 106), (0, 41), (1, 13)))
def mi166 : Mi := (⟨RX11, "textAt", "(I)I"⟩, prog_13_method_9_code, 2, some .int, 11, cd166, (1, 1, (7, 20), (7, 19), (0, 55), (1, 13)))
def mi167 : Mi := (⟨RX11, "eventAt", "(I)I"⟩, prog_13_method_10_code, 2, some .int, 11, cd167, (1, 1, (7, 147), (7, 146), (0, 77), (1, 13)))
def mi168 : Mi := (⟨RX11, "isShop", "(I)Z"⟩, prog_13_method_11_code, 2, some .boolean, 11, cd168, (1, 1, (6, 81), (6, 80), (0, 37), (1, 13)))
def mi169 : Mi := (⟨RX11, "isHand", "(I)Z"⟩, prog_13_method_12_code, 2, some .boolean, 11, cd169, (1, 1, (6, 128), (6, 127), (0, 44), (1, 13)))
def mi170 : Mi := (⟨RX11, "isThing", "(I)Z"⟩, prog_13_method_13_code, 2, some .boolean, 11, cd170, (1, 1, (6, 206), (6, 205), (0, 52), (1, 13)))
def mi171 : Mi := (⟨RX11, "isText", "(I)Z"⟩, prog_13_method_14_code, 2, some .boolean, 11, cd171, (1, 1, (7, 91), (7, 90), (0, 70), (1, 13)))
def mi172 : Mi := (⟨RX11, "isFree", "(I)Z"⟩, prog_13_method_15_code, 2, some .boolean, 11, cd172, (1, 1, (6, 154), (6, 153), (0, 46), (1, 13)))
def mi173 : Mi := (⟨RX11, "isTool", "(I)Z"⟩, prog_13_method_16_code, 2, some .boolean, 11, cd173, (1, 1, (6, 103), (6, 102), (0, 40), (1, 13)))
def mi174 : Mi := (⟨RX11, "gets", "(III)V"⟩, prog_13_method_17_code, 4, none, 11, cd174, (1, 3, (7, 130), (7, 129), (0, 75), (1, 13)))
def mi175 : Mi := (⟨RX11, "shop", "(III)I"⟩, prog_13_method_18_code, 6, some .int, 11, cd175, (1, 3, (6, 62), (6, 60), (6, 61), (1, 13)))
def mi176 : Mi := (⟨RX11, "rate", "(II)I"⟩, prog_13_method_19_code, 3, some .int, 11, cd176, (1, 2, (6, 77), (6, 75), (6, 76), (1, 13)))
def mi177 : Mi := (⟨RX11, "lock", "(II)I"⟩, prog_13_method_20_code, 3, some .int, 11, cd177, (1, 2, (6, 90), (6, 88), (6, 89), (1, 13)))
def mi178 : Mi := (⟨RX11, "handsIn", "(I)I"⟩, prog_13_method_21_code, 4, some .int, 11, cd178, (1, 1, (6, 111), (6, 110), (0, 42), (1, 13)))
def mi179 : Mi := (⟨RX11, "tools", "(II)I"⟩, prog_13_method_22_code, 5, some .int, 11, cd179, (1, 2, (6, 99), (6, 98), (0, 39), (1, 13)))
def mi180 : Mi := (⟨RX11, "has", "(II)I"⟩, prog_13_method_23_code, 3, some .int, 11, cd180, (1, 2, (6, 94), (6, 92), (6, 93), (1, 13)))
def mi181 : Mi := (⟨RX11, "hand", "(III)I"⟩, prog_13_method_24_code, 6, some .int, 11, cd181, (1, 3, (6, 119), (6, 117), (6, 118), (1, 13)))
def mi182 : Mi := (⟨RX11, "is", "(II)I"⟩, prog_13_method_25_code, 4, some .int, 11, cd182, (1, 2, (6, 124), (6, 122), (6, 123), (1, 13)))
def mi183 : Mi := (⟨RX11, "be", "(III)I"⟩, prog_13_method_26_code, 5, some .int, 11, cd183, (1, 3, (6, 137), (6, 135), (6, 136), (1, 13)))
def mi184 : Mi := (⟨RX11, "isBarred", "(II)Z"⟩, prog_13_method_27_code, 3, some .boolean, 11, cd184, (1, 2, (6, 162), (6, 161), (0, 47), (1, 13)))
def mi185 : Mi := (⟨RX11, "bar", "(III)I"⟩, prog_13_method_28_code, 4, some .int, 11, cd185, (1, 3, (6, 142), (6, 140), (6, 141), (1, 13)))
def mi186 : Mi := (⟨RX11, "mayWork", "(II)Z"⟩, prog_13_method_29_code, 5, some .boolean, 11, cd186, (1, 2, (6, 150), (6, 149), (0, 45), (1, 13)))
def mi187 : Mi := (⟨RX11, "may", "(II)I"⟩, prog_13_method_30_code, 3, some .int, 11, cd187, (1, 2, (6, 146), (6, 144), (6, 145), (1, 13)))
def mi188 : Mi := (⟨RX11, "goes", "(II)V"⟩, prog_13_method_31_code, 5, none, 11, cd188, (1, 2, (6, 167), (6, 166), (0, 48), (1, 13)))
def mi189 : Mi := (⟨RX11, "put", "(II)I"⟩, prog_13_method_32_code, 8, some .int, 11, cd189, (1, 2, (6, 158), (6, 156), (6, 157), (1, 13)))
def mi190 : Mi := (⟨RX11, "canHave", "(II)Z"⟩, prog_13_method_33_code, 5, some .boolean, 11, cd190, (1, 2, (6, 183), (6, 182), (0, 51), (1, 13)))
def mi191 : Mi := (⟨RX11, "seek", "(III)V"⟩, prog_13_method_34_code, 6, none, 11, cd191, (1, 3, (6, 179), (6, 178), (0, 50), (1, 13)))
def mi192 : Mi := (⟨RX11, "findFilling", "()V"⟩, prog_13_method_35_code, 1, none, 11, cd192, (1, 0, (6, 175), (6, 174), (0, 49), (1, 13)))
def mi193 : Mi := (⟨RX11, "filling", "(I)I"⟩, prog_13_method_36_code, 2, some .int, 11, cd193, (1, 1, (6, 171), (6, 169), (6, 170), (1, 13)))
def mi194 : Mi := (⟨RX11, "fill", "()I"⟩, prog_13_method_37_code, 4, some .int, 11, cd194, (1, 0, (6, 187), (6, 185), (6, 186), (1, 13)))
def mi195 : Mi := (⟨RX11, "never", "()I"⟩, prog_13_method_38_code, 3, some .int, 11, cd195, (1, 0, (6, 191), (6, 189), (6, 190), (1, 13)))
def mi196 : Mi := (⟨RX11, "fits", "(III)Z"⟩, prog_13_method_39_code, 3, some .boolean, 11, cd196, (0, 3, (6, 198), (6, 197), (0, 0), (1, 13)))
def mi197 : Mi := (⟨RX11, "thing", "(IIII)I"⟩, prog_13_method_40_code, 7, some .int, 11, cd197, (1, 4, (6, 195), (6, 193), (6, 194), (1, 13)))
def mi198 : Mi := (⟨RX11, "told", "(II)I"⟩, prog_13_method_41_code, 4, some .int, 11, cd198, (1, 2, (6, 202), (6, 200), (6, 201), (1, 13)))
def mi199 : Mi := (⟨RX11, "as", "(II)I"⟩, prog_13_method_42_code, 5, some .int, 11, cd199, (1, 2, (6, 211), (6, 209), (6, 210), (1, 13)))
def mi200 : Mi := (⟨RX11, "out", "(II)I"⟩, prog_13_method_43_code, 8, some .int, 11, cd200, (1, 2, (6, 216), (6, 214), (6, 215), (1, 13)))
def mi201 : Mi := (⟨RX11, "hang", "(I)I"⟩, prog_13_method_44_code, 3, some .int, 11, cd201, (1, 1, (6, 220), (6, 218), (6, 219), (1, 13)))
def mi202 : Mi := (⟨RX11, "bell", "(II)I"⟩, prog_13_method_45_code, 9, some .int, 11, cd202, (1, 2, (6, 224), (6, 222), (6, 223), (1, 13)))
def mi203 : Mi := (⟨RX11, "who", "(I)I"⟩, prog_13_method_46_code, 5, some .int, 11, cd203, (1, 1, (6, 228), (6, 226), (6, 227), (1, 13)))
def mi204 : Mi := (⟨RX11, "late", "(I)I"⟩, prog_13_method_47_code, 3, some .int, 11, cd204, (1, 1, (6, 232), (6, 230), (6, 231), (1, 13)))
def mi205 : Mi := (⟨RX11, "nextOrder", "(I)I"⟩, prog_13_method_48_code, 6, some .int, 11, cd205, (1, 1, (7, 0), (6, 239), (0, 53), (1, 13)))
def mi206 : Mi := (⟨RX11, "foretold", "(I)I"⟩, prog_13_method_49_code, 6, some .int, 11, cd206, (1, 1, (6, 236), (6, 234), (6, 235), (1, 13)))
def mi207 : Mi := (⟨RX11, "feed", "(III)I"⟩, prog_13_method_50_code, 6, some .int, 11, cd207, (1, 3, (7, 4), (7, 2), (7, 3), (1, 13)))
def mi208 : Mi := (⟨RX11, "trim", "(I)I"⟩, prog_13_method_51_code, 2, some .int, 11, cd208, (1, 1, (7, 8), (7, 6), (7, 7), (1, 13)))
def mi209 : Mi := (⟨RX11, "isLetter", "(I)Z"⟩, prog_13_method_52_code, 2, some .boolean, 11, cd209, (1, 1, (7, 28), (7, 27), (0, 57), (1, 13)))
def mi210 : Mi := (⟨RX11, "isDigit", "(I)Z"⟩, prog_13_method_53_code, 2, some .boolean, 11, cd210, (1, 1, (7, 34), (7, 33), (0, 58), (1, 13)))
def mi211 : Mi := (⟨RX11, "next", "()V"⟩, prog_13_method_54_code, 3, none, 11, cd211, (1, 0, (7, 24), (7, 23), (0, 56), (1, 13)))
def mi212 : Mi := (⟨RX11, "isSign", "(I)Z"⟩, prog_13_method_55_code, 2, some .boolean, 11, cd212, (1, 1, (7, 83), (7, 82), (0, 69), (1, 13)))
def mi213 : Mi := (⟨RX11, "isWordAt", "(IIII)Z"⟩, prog_13_method_56_code, 6, some .boolean, 11, cd213, (1, 4, (7, 44), (7, 43), (0, 60), (1, 13)))
def mi214 : Mi := (⟨RX11, "isLong", "(IIIIII)Z"⟩, prog_13_method_57_code, 8, some .boolean, 11, cd214, (1, 6, (7, 48), (7, 47), (0, 61), (1, 13)))
def mi215 : Mi := (⟨RX11, "key", "()I"⟩, prog_13_method_58_code, 2, some .int, 11, cd215, (1, 0, (7, 40), (7, 39), (0, 59), (1, 13)))
def mi216 : Mi := (⟨RX11, "isName", "(II)Z"⟩, prog_13_method_59_code, 2, some .boolean, 11, cd216, (0, 2, (7, 79), (7, 78), (0, 0), (1, 13)))
def mi217 : Mi := (⟨RX11, "step", "(II)V"⟩, prog_13_method_60_code, 3, none, 11, cd217, (1, 2, (7, 76), (7, 75), (0, 68), (1, 13)))
def mi218 : Mi := (⟨RX11, "either", "(I)Z"⟩, prog_13_method_61_code, 2, some .boolean, 11, cd218, (1, 1, (7, 52), (7, 51), (0, 62), (1, 13)))
def mi219 : Mi := (⟨RX11, "both", "(I)Z"⟩, prog_13_method_62_code, 2, some .boolean, 11, cd219, (1, 1, (7, 56), (7, 55), (0, 63), (1, 13)))
def mi220 : Mi := (⟨RX11, "test", "(I)Z"⟩, prog_13_method_63_code, 3, some .boolean, 11, cd220, (1, 1, (7, 60), (7, 59), (0, 64), (1, 13)))
def mi221 : Mi := (⟨RX11, "sum", "(I)Z"⟩, prog_13_method_64_code, 3, some .boolean, 11, cd221, (1, 1, (7, 64), (7, 63), (0, 65), (1, 13)))
def mi222 : Mi := (⟨RX11, "term", "(I)Z"⟩, prog_13_method_65_code, 3, some .boolean, 11, cd222, (1, 1, (7, 68), (7, 67), (0, 66), (1, 13)))
def mi223 : Mi := (⟨RX11, "part0", "(I)Z"⟩, prog_13_method_66_code, 2, some .boolean, 11, cd223, (1, 1, (7, 72), (7, 71), (0, 67), (1, 13)))
def mi224 : Mi := (⟨RX11, "parse", "()I"⟩, prog_13_method_67_code, 3, some .int, 11, cd224, (1, 0, (7, 16), (7, 15), (0, 54), (1, 13)))
def mi225 : Mi := (⟨RX11, "text", "(I)I"⟩, prog_13_method_68_code, 5, some .int, 11, cd225, (1, 1, (7, 12), (7, 10), (7, 11), (1, 13)))
def mi226 : Mi := (⟨RX11, "of", "(II)I"⟩, prog_13_method_69_code, 3, some .int, 11, cd226, (1, 2, (7, 87), (7, 85), (7, 86), (1, 13)))
def mi227 : Mi := (⟨RX11, "counts", "(I)I"⟩, prog_13_method_70_code, 5, some .int, 11, cd227, (1, 1, (7, 100), (7, 99), (0, 71), (1, 13)))
def mi228 : Mi := (⟨RX11, "why", "(I)I"⟩, prog_13_method_71_code, 2, some .int, 11, cd228, (1, 1, (7, 96), (7, 94), (7, 95), (1, 13)))
def mi229 : Mi := (⟨RX11, "joined", "(III)I"⟩, prog_13_method_72_code, 3, some .int, 11, cd229, (0, 3, (7, 115), (7, 114), (0, 0), (1, 13)))
def mi230 : Mi := (⟨RX11, "worked", "(I)I"⟩, prog_13_method_73_code, 6, some .int, 11, cd230, (1, 1, (7, 112), (7, 111), (0, 73), (1, 13)))
def mi231 : Mi := (⟨RX11, "ruleOf", "(IIII)I"⟩, prog_13_method_74_code, 7, some .int, 11, cd231, (1, 4, (7, 108), (7, 107), (0, 72), (1, 13)))
def mi232 : Mi := (⟨RX11, "rules", "(IIII)I"⟩, prog_13_method_75_code, 5, some .int, 11, cd232, (1, 4, (7, 104), (7, 102), (7, 103), (1, 13)))
def mi233 : Mi := (⟨RX11, "reckon", "(I)V"⟩, prog_13_method_76_code, 5, none, 11, cd233, (1, 1, (7, 126), (7, 125), (0, 74), (1, 13)))
def mi234 : Mi := (⟨RX11, "pay", "(I)I"⟩, prog_13_method_77_code, 2, some .int, 11, cd234, (1, 1, (7, 122), (7, 120), (7, 121), (1, 13)))
def mi235 : Mi := (⟨RX11, "takes", "(II)I"⟩, prog_13_method_78_code, 3, some .int, 11, cd235, (1, 2, (7, 135), (7, 133), (7, 134), (1, 13)))
def mi236 : Mi := (⟨RX11, "newEvent", "(II)I"⟩, prog_13_method_79_code, 4, some .int, 11, cd236, (1, 2, (7, 143), (7, 142), (0, 76), (1, 13)))
def mi237 : Mi := (⟨RX11, "earn", "(I)I"⟩, prog_13_method_80_code, 5, some .int, 11, cd237, (1, 1, (7, 139), (7, 137), (7, 138), (1, 13)))
def mi238 : Mi := (⟨RX11, "lose", "(II)I"⟩, prog_13_method_81_code, 3, some .int, 11, cd238, (1, 2, (7, 151), (7, 149), (7, 150), (1, 13)))
def mi239 : Mi := (⟨RX11, "isEvent", "(I)Z"⟩, prog_13_method_82_code, 2, some .boolean, 11, cd239, (1, 1, (7, 159), (7, 158), (0, 78), (1, 13)))
def mi240 : Mi := (⟨RX11, "appeal", "(I)I"⟩, prog_13_method_83_code, 3, some .int, 11, cd240, (1, 1, (7, 155), (7, 153), (7, 154), (1, 13)))
def mi241 : Mi := (⟨RX11, "event", "(II)I"⟩, prog_13_method_84_code, 4, some .int, 11, cd241, (1, 2, (7, 163), (7, 161), (7, 162), (1, 13)))
def mi242 : Mi := (⟨RX11, "endOf", "(II)I"⟩, prog_13_method_85_code, 7, some .int, 11, cd242, (1, 2, (7, 171), (7, 170), (0, 79), (1, 13)))
def mi243 : Mi := (⟨RX11, "end", "(II)I"⟩, prog_13_method_86_code, 3, some .int, 11, cd243, (1, 2, (7, 167), (7, 165), (7, 166), (1, 13)))
def mi244 : Mi := (⟨RX11, "works", "(I)V"⟩, prog_13_method_87_code, 5, none, 11, cd244, (1, 1, (7, 184), (7, 183), (0, 81), (1, 13)))
def mi245 : Mi := (⟨RX11, "delivers", "(I)V"⟩, prog_13_method_88_code, 3, none, 11, cd245, (1, 1, (7, 188), (7, 187), (0, 82), (1, 13)))
def mi246 : Mi := (⟨RX11, "leaves", "(I)V"⟩, prog_13_method_89_code, 5, none, 11, cd246, (1, 1, (7, 192), (7, 191), (0, 83), (1, 13)))
def mi247 : Mi := (⟨RX11, "oneDay", "()V"⟩, prog_13_method_90_code, 2, none, 11, cd247, (1, 0, (7, 180), (7, 179), (0, 80), (1, 13)))
def mi248 : Mi := (⟨RX11, "run", "(I)I"⟩, prog_13_method_91_code, 3, some .int, 11, cd248, (1, 1, (7, 175), (7, 173), (7, 174), (1, 13)))
def mi249 : Mi := (⟨RX11, "seed", "(I)I"⟩, prog_13_method_92_code, 2, some .int, 11, cd249, (1, 1, (7, 196), (7, 194), (7, 195), (1, 13)))
def mi250 : Mi := (⟨RX11, "search", "(I)I"⟩, prog_13_method_93_code, 8, some .int, 11, cd250, (1, 1, (7, 201), (7, 199), (7, 200), (1, 13)))
def mi251 : Mi := (⟨RX11, "isSheet", "(I)Z"⟩, prog_13_method_94_code, 1, some .boolean, 11, cd251, (0, 1, (7, 209), (7, 208), (0, 0), (1, 13)))
def mi252 : Mi := (⟨RX11, "narrow", "(IJ)J"⟩, prog_13_method_95_code, 3, some .long, 11, cd252, (0, 2, (7, 224), (7, 223), (0, 0), (1, 13)))
def mi253 : Mi := (⟨RX11, "sheet", "(III)I"⟩, prog_13_method_96_code, 5, some .int, 11, cd253, (1, 3, (7, 206), (7, 204), (7, 205), (1, 13)))
def mi254 : Mi := (⟨RX11, "lacks", "(II)I"⟩, prog_13_method_97_code, 3, some .int, 11, cd254, (1, 2, (7, 219), (7, 218), (0, 84), (1, 13)))
def mi255 : Mi := (⟨RX11, "mark", "(III)I"⟩, prog_13_method_98_code, 5, some .int, 11, cd255, (1, 3, (7, 215), (7, 213), (7, 214), (1, 13)))
def mi256 : Mi := (⟨RX11, "grow", "(III)I"⟩, prog_13_method_99_code, 5, some .int, 11, cd256, (1, 3, (7, 228), (7, 226), (7, 227), (1, 13)))
def mi257 : Mi := (⟨RX11, "copy", "(IIIII)I"⟩, prog_13_method_100_code, 7, some .int, 11, cd257, (1, 5, (7, 233), (7, 231), (7, 232), (1, 13)))
def mi258 : Mi := (⟨RX11, "odd", "(I)I"⟩, prog_13_method_101_code, 5, some .int, 11, cd258, (1, 1, (7, 237), (7, 235), (7, 236), (1, 13)))
def mi259 : Mi := (⟨RX11, "tell", "(I)I"⟩, prog_13_method_102_code, 2, some .int, 11, cd259, (1, 1, (8, 1), (7, 239), (8, 0), (1, 13)))
def mi260 : Mi := (⟨RX11, "setAside", "([I[I)V"⟩, prog_13_method_103_code, 4, none, 11, cd260, (1, 2, (8, 10), (8, 9), (0, 85), (1, 13)))
def mi261 : Mi := (⟨RX11, "check", "(I)I"⟩, prog_13_method_104_code, 5, some .int, 11, cd261, (1, 1, (8, 5), (8, 3), (8, 4), (1, 13)))
def mi262 : Mi := (⟨RX11, "keep", "()I"⟩, prog_13_method_105_code, 1, some .int, 11, cd262, (1, 0, (8, 14), (8, 12), (8, 13), (1, 13)))
def mi263 : Mi := (⟨RX11, "back", "()I"⟩, prog_13_method_106_code, 1, some .int, 11, cd263, (1, 0, (8, 18), (8, 16), (8, 17), (1, 13)))
def mi264 : Mi := (⟨RX11, "count", "(I)I"⟩, prog_13_method_107_code, 4, some .int, 11, cd264, (1, 1, (8, 22), (8, 20), (8, 21), (1, 13)))
def mi265 : Mi := (⟨RJ6, "bitCount", "(I)I"⟩, prog_15_method_49_code, 1, some .int, 12, cd265, (0, 1, (2, 134), (2, 133), (0, 0), (1, 14)))
def psM0 : List Mi := [mi0, mi1, mi2, mi3, mi4, mi5, mi6, mi7, mi8, mi9, mi10, mi11, mi12, mi13, mi14, mi15, mi16, mi17, mi18, mi19, mi20, mi21, mi22, mi23, mi24, mi25, mi26, mi27, mi28, mi29, mi30, mi31]
def psM1 : List Mi := [mi32, mi33, mi34, mi35, mi36, mi37, mi38, mi39, mi40, mi41, mi42, mi43, mi44, mi45, mi46, mi47, mi48, mi49, mi50, mi51, mi52, mi53, mi54, mi55, mi56, mi57, mi58, mi59, mi60, mi61, mi62, mi63]
def psM2 : List Mi := [mi64, mi65, mi66, mi67, mi68, mi69, mi70, mi71, mi72, mi73, mi74, mi75, mi76, mi77, mi78, mi79, mi80, mi81, mi82, mi83, mi84, mi85, mi86, mi87, mi88, mi89, mi90, mi91, mi92, mi93, mi94, mi95]
def psM3 : List Mi := [mi96, mi97, mi98, mi99, mi100, mi101, mi102, mi103, mi104, mi105, mi106, mi107, mi108, mi109, mi110, mi111, mi112, mi113, mi114, mi115, mi116, mi117, mi118, mi119, mi120, mi121, mi122, mi123, mi124, mi125, mi126, mi127]
def psM4 : List Mi := [mi128, mi129, mi130, mi131, mi132, mi133, mi134, mi135, mi136, mi137, mi138, mi139, mi140, mi141, mi142, mi143, mi144, mi145, mi146, mi147, mi148, mi149, mi150, mi151, mi152, mi153, mi154, mi155, mi156, mi157, mi158, mi159]
def psM5 : List Mi := [mi160, mi161, mi162, mi163, mi164, mi165, mi166, mi167, mi168, mi169, mi170, mi171, mi172, mi173, mi174, mi175, mi176, mi177, mi178, mi179, mi180, mi181, mi182, mi183, mi184, mi185, mi186, mi187, mi188, mi189, mi190, mi191]
def psM6 : List Mi := [mi192, mi193, mi194, mi195, mi196, mi197, mi198, mi199, mi200, mi201, mi202, mi203, mi204, mi205, mi206, mi207, mi208, mi209, mi210, mi211, mi212, mi213, mi214, mi215, mi216, mi217, mi218, mi219, mi220, mi221, mi222, mi223]
def psM7 : List Mi := [mi224, mi225, mi226, mi227, mi228, mi229, mi230, mi231, mi232, mi233, mi234, mi235, mi236, mi237, mi238, mi239, mi240, mi241, mi242, mi243, mi244, mi245, mi246, mi247, mi248, mi249, mi250, mi251, mi252, mi253, mi254, mi255]
def psM8 : List Mi := [mi256, mi257, mi258, mi259, mi260, mi261, mi262, mi263, mi264, mi265]
def psM : List Mi := psM0 ++ (psM1 ++ (psM2 ++ (psM3 ++ (psM4 ++ (psM5 ++ (psM6 ++ (psM7 ++ (psM8))))))))
set_option maxRecDepth 100000 in
def flT : List (Nat × Nat × Nat × Nat × Nat × Nat) := [(8, 24, 8, 0, (1, 44)), (8, 27, 8, 1, (1, 45)), (8, 9, 8, 2, (1, 46)), (8, 21, 8, 3, (1, 47)), (7, 14, 7, 0, (1, 58)), (2, 35, 7, 0, (1, 59)), (0, 31, 7, 0, (1, 60)), (10, 92, 7, 0, (1, 61)), (1, 70, 7, 0, (1, 62)), (7, 20, 7, 1, (1, 63)), (0, 15, 7, 1, (1, 64)), (2, 60, 7, 1, (1, 65)), (1, 53, 7, 1, (1, 66)), (5, 66, 7, 1, (1, 67)), (10, 136, 7, 1, (1, 68)), (7, 23, 7, 2, (1, 69)), (2, 57, 7, 2, (1, 70)), (0, 86, 7, 2, (1, 71)), (10, 189, 7, 2, (1, 72)), (7, 26, 7, 3, (1, 73)), (5, 25, 7, 3, (1, 74)), (10, 228, 7, 3, (1, 75)), (7, 29, 7, 4, (1, 76)), (10, 260, 7, 4, (1, 77)), (7, 32, 7, 5, (1, 78)), (0, 54, 7, 5, (1, 79)), (2, 50, 7, 5, (1, 80)), (5, 69, 7, 5, (1, 81)), (10, 143, 7, 5, (1, 82)), (7, 36, 7, 6, (1, 83)), (10, 270, 7, 6, (1, 84)), (3, 9, 3, 0, (1, 112)), (3, 15, 3, 1, (1, 113)), (5, 12, 5, 0, (1, 119)), (0, 9, 0, 0, (1, 129)), (2, 9, 2, 0, (1, 139)), (2, 15, 2, 1, (1, 140)), (2, 18, 2, 2, (1, 141)), (2, 21, 2, 3, (1, 142)), (2, 25, 2, 4, (1, 143)), (1, 9, 1, 0, (1, 161)), (1, 15, 1, 1, (1, 162)), (1, 18, 1, 2, (1, 163)), (1, 21, 1, 3, (1, 164)), (1, 24, 1, 4, (1, 165)), (1, 27, 1, 5, (1, 166)), (1, 30, 1, 6, (1, 167)), (1, 33, 1, 7, (1, 168)), (1, 36, 1, 8, (1, 169)), (1, 39, 1, 9, (1, 170)), (1, 42, 1, 10, (1, 171)), (1, 46, 1, 11, (1, 172)), (1, 49, 1, 12, (1, 173)), (9, 9, 9, 0, (1, 207)), (9, 15, 9, 1, (1, 208)), (4, 50, 4, 0, (1, 222)), (4, 12, 4, 1, (1, 223)), (4, 18, 4, 2, (1, 224)), (4, 21, 4, 3, (1, 225)), (4, 25, 4, 4, (1, 226)), (4, 28, 4, 5, (1, 227)), (4, 31, 4, 6, (1, 228)), (4, 34, 4, 7, (1, 229)), (4, 37, 4, 8, (1, 230)), (4, 40, 4, 9, (1, 231)), (4, 44, 4, 10, (1, 232)), (4, 47, 4, 11, (1, 233)), (6, 11, 6, 0, (2, 25)), (6, 15, 6, 1, (2, 26)), (6, 18, 6, 2, (2, 27)), (10, 12, 10, 0, (2, 36)), (10, 16, 10, 1, (2, 37)), (10, 19, 10, 2, (2, 38)), (10, 25, 10, 3, (2, 39)), (10, 34, 10, 4, (2, 40)), (10, 41, 10, 5, (2, 41)), (10, 48, 10, 6, (2, 42)), (10, 55, 10, 7, (2, 43)), (10, 64, 10, 8, (2, 44)), (10, 71, 10, 9, (2, 45)), (10, 75, 10, 10, (2, 46)), (10, 79, 10, 11, (2, 47)), (10, 83, 10, 12, (2, 48)), (11, 7, 11, 0, (5, 189)), (11, 13, 11, 1, (5, 190)), (11, 16, 11, 2, (5, 191)), (11, 350, 11, 3, (5, 192)), (11, 19, 11, 4, (5, 193)), (11, 22, 11, 5, (5, 194)), (11, 25, 11, 6, (5, 195)), (11, 29, 11, 7, (5, 196)), (11, 32, 11, 8, (5, 197)), (11, 35, 11, 9, (5, 198)), (11, 139, 11, 10, (5, 199)), (11, 143, 11, 11, (5, 200)), (11, 38, 11, 12, (5, 201)), (11, 42, 11, 13, (5, 202)), (11, 45, 11, 14, (5, 203)), (11, 48, 11, 15, (5, 204)), (11, 169, 11, 16, (5, 205)), (11, 186, 11, 17, (5, 206)), (11, 180, 11, 18, (5, 207)), (11, 183, 11, 19, (5, 208)), (11, 198, 11, 20, (5, 209)), (11, 192, 11, 21, (5, 210)), (11, 248, 11, 22, (5, 211)), (11, 245, 11, 23, (5, 212)), (11, 212, 11, 24, (5, 213)), (11, 209, 11, 25, (5, 214)), (11, 239, 11, 26, (5, 215)), (11, 51, 11, 27, (5, 216)), (11, 54, 11, 28, (5, 217)), (11, 283, 11, 29, (5, 218)), (11, 286, 11, 30, (5, 219)), (11, 289, 11, 31, (5, 220)), (11, 57, 11, 32, (5, 221)), (11, 60, 11, 33, (5, 222)), (11, 345, 11, 34, (5, 223)), (11, 63, 11, 35, (5, 224))]
set_option maxRecDepth 100000 in
def csT : List (Nat × Nat × Int × Nat × Nat) := [(10, 91, -1000000001, (2, 83)), (10, 102, -1000000003, (2, 88)), (8, 38, -1000000005, (2, 93)), (12, 265, 1431655765, (2, 135)), (12, 266, 858993459, (2, 136)), (12, 267, 252645135, (2, 137)), (10, 128, -1000000005, (2, 138)), (7, 75, -1000000005, (2, 143)), (10, 159, -1000000002, (2, 202)), (1, 52, -1000000005, (3, 24)), (10, 195, -1000000012, (3, 71)), (2, 53, -1000000005, (3, 120)), (4, 64, -1000000005, (4, 35)), (5, 24, -1000000005, (4, 183)), (7, 89, 99999, (4, 213)), (0, 64, -1000000005, (5, 31)), (10, 269, 65535, (5, 62)), (7, 101, 65536, (5, 75)), (6, 30, -1000000001, (5, 88)), (6, 31, -1000000014, (5, 89)), (6, 32, -1000000011, (5, 98)), (6, 37, -1000000013, (5, 103)), (6, 42, -1000000012, (5, 119)), (6, 52, -1000000005, (5, 133)), (11, 87, -1000000001, (6, 68)), (11, 88, -1000000003, (6, 69)), (11, 66, -1000000005, (6, 133)), (11, 134, -1000000002, (6, 163)), (11, 165, -1000000012, (6, 212)), (11, 80, 99999, (7, 131)), (11, 327, 65536, (7, 202)), (11, 333, -1000000014, (7, 211)), (11, 334, -1000000011, (7, 220)), (11, 335, -1000000013, (7, 221))]
set_option maxRecDepth 100000 in
def clT : List (Nat × Nat × Int × Nat × Nat) := [(11, 85, 5, (6, 63)), (11, 78, 3, (6, 67)), (11, 96, 99, (6, 82)), (11, 104, 10, (6, 95)), (11, 112, 999, (6, 120)), (11, 117, 11, (6, 129)), (11, 122, 9999, (6, 138)), (11, 163, 6, (6, 207)), (11, 172, 97, (7, 29)), (11, 174, 122, (7, 30)), (11, 176, 48, (7, 35)), (11, 178, 57, (7, 36)), (11, 267, 2, (7, 92)), (11, 320, 60, (7, 176)), (11, 325, 65535, (7, 197)), (11, 331, -1, (7, 210)), (11, 343, 1000, (7, 229)), (11, 348, 30, (8, 6))]
set_option maxRecDepth 100000 in
def mlT : List (Nat × Nat × Nat × Nat × Nat) := [(13, 13, 105, (2, 76)), (10, 87, 156, (2, 80)), (10, 96, 92, (2, 84)), (10, 103, 98, (2, 89)), (10, 107, 95, (2, 94)), (13, 18, 106, (2, 98)), (10, 111, 93, (2, 102)), (10, 115, 96, (2, 106)), (8, 31, 94, (2, 110)), (8, 34, 95, (2, 114)), (13, 23, 107, (2, 115)), (13, 27, 108, (2, 119)), (10, 119, 67, (2, 123)), (7, 47, 91, (2, 127)), (7, 43, 94, (2, 131)), (10, 123, 265, (2, 132)), (10, 129, 76, (2, 139)), (7, 80, 74, (2, 144)), (10, 133, 94, (2, 150)), (13, 31, 109, (2, 151)), (13, 35, 110, (2, 155)), (13, 39, 111, (2, 159)), (10, 139, 112, (2, 163)), (13, 43, 113, (2, 167)), (10, 146, 64, (2, 171)), (10, 149, 65, (2, 175)), (7, 55, 95, (2, 179)), (13, 47, 114, (2, 180)), (10, 153, 66, (2, 184)), (7, 51, 62, (2, 188)), (13, 51, 115, (2, 192)), (10, 156, 68, (2, 196)), (7, 59, 67, (2, 200)), (7, 63, 265, (2, 201)), (10, 160, 69, (2, 203)), (7, 68, 70, (2, 207)), (7, 71, 71, (2, 211)), (13, 55, 116, (2, 215)), (10, 164, 91, (2, 219)), (10, 167, 8, (2, 220)), (1, 58, 91, (2, 224)), (1, 73, 94, (2, 228)), (1, 76, 9, (2, 229)), (1, 87, 66, (2, 232)), (1, 80, 10, (2, 233)), (1, 91, 11, (2, 237)), (1, 83, 12, (3, 1)), (1, 95, 16, (3, 5)), (1, 105, 13, (3, 12)), (1, 112, 15, (3, 16)), (1, 109, 14, (3, 20)), (10, 171, 5, (3, 25)), (10, 174, 6, (3, 29)), (10, 177, 7, (3, 33)), (13, 60, 117, (3, 37)), (10, 180, 62, (3, 41)), (13, 65, 118, (3, 42)), (13, 69, 119, (3, 46)), (10, 183, 157, (3, 50)), (10, 186, 158, (3, 53)), (13, 74, 120, (3, 62)), (13, 78, 121, (3, 66)), (10, 192, 74, (3, 70)), (13, 82, 122, (3, 72)), (10, 196, 77, (3, 76)), (10, 199, 72, (3, 80)), (13, 86, 123, (3, 84)), (13, 90, 124, (3, 88)), (10, 202, 75, (3, 92)), (10, 205, 78, (3, 96)), (13, 94, 125, (3, 100)), (13, 98, 126, (3, 104)), (13, 102, 127, (3, 108)), (10, 209, 17, (3, 112)), (2, 28, 18, (3, 116)), (2, 54, 81, (3, 121)), (7, 83, 79, (3, 125)), (7, 86, 82, (3, 129)), (2, 41, 94, (3, 133)), (2, 32, 19, (3, 134)), (2, 63, 91, (3, 138)), (2, 47, 20, (3, 139)), (13, 106, 128, (3, 144)), (10, 213, 101, (3, 148)), (10, 216, 102, (3, 152)), (10, 219, 100, (3, 156)), (13, 110, 129, (3, 160)), (10, 222, 103, (3, 164)), (13, 114, 130, (3, 170)), (10, 225, 27, (3, 174)), (4, 54, 29, (3, 178)), (4, 89, 22, (3, 182)), (4, 57, 30, (3, 186)), (4, 92, 100, (3, 190)), (4, 95, 104, (3, 191)), (4, 96, 33, (3, 195)), (4, 100, 31, (3, 198)), (4, 103, 34, (3, 202)), (4, 106, 32, (3, 205)), (4, 60, 35, (3, 210)), (4, 115, 37, (3, 214)), (4, 119, 36, (3, 223)), (4, 65, 39, (4, 36)), (4, 156, 41, (4, 40)), (4, 171, 23, (4, 44)), (4, 174, 45, (4, 48)), (4, 186, 25, (4, 52)), (4, 189, 26, (4, 56)), (4, 159, 40, (4, 60)), (4, 165, 38, (4, 64)), (4, 162, 42, (4, 128)), (4, 69, 43, (4, 132)), (4, 177, 44, (4, 136)), (4, 72, 46, (4, 140)), (4, 180, 47, (4, 144)), (10, 231, 28, (4, 148)), (4, 76, 95, (4, 152)), (4, 82, 21, (4, 153)), (4, 85, 24, (4, 157)), (13, 118, 131, (4, 162)), (13, 122, 132, (4, 166)), (10, 235, 83, (4, 170)), (13, 126, 133, (4, 174)), (10, 238, 48, (4, 178)), (5, 18, 83, (4, 182)), (5, 29, 49, (4, 184)), (5, 42, 22, (4, 188)), (5, 45, 94, (4, 189)), (5, 50, 23, (4, 190)), (5, 54, 26, (4, 191)), (5, 58, 51, (4, 192)), (5, 62, 50, (4, 195)), (13, 130, 134, (4, 200)), (10, 242, 52, (4, 204)), (5, 73, 48, (4, 208)), (10, 246, 84, (4, 209)), (13, 134, 135, (4, 215)), (13, 138, 136, (4, 219)), (10, 249, 138, (4, 223)), (10, 257, 85, (4, 228)), (7, 95, 98, (4, 232)), (13, 142, 137, (4, 233)), (13, 146, 139, (4, 237)), (13, 150, 140, (5, 1)), (13, 154, 141, (5, 5)), (10, 263, 86, (5, 9)), (7, 98, 87, (5, 13)), (13, 158, 142, (5, 17)), (10, 266, 0, (5, 21)), (0, 21, 91, (5, 25)), (0, 27, 1, (5, 26)), (0, 37, 94, (5, 30)), (0, 50, 62, (5, 32)), (0, 65, 48, (5, 33)), (0, 71, 84, (5, 34)), (0, 74, 97, (5, 35)), (0, 77, 2, (5, 39)), (0, 46, 95, (5, 44)), (0, 34, 3, (5, 45)), (0, 83, 81, (5, 49)), (0, 58, 86, (5, 51)), (0, 61, 4, (5, 52)), (0, 89, 96, (5, 56)), (0, 93, 70, (5, 57)), (13, 162, 143, (5, 58)), (13, 166, 144, (5, 63)), (10, 273, 63, (5, 67)), (10, 276, 88, (5, 71)), (13, 170, 145, (5, 76)), (10, 279, 53, (5, 80)), (6, 22, 57, (5, 84)), (13, 174, 146, (5, 90)), (10, 282, 54, (5, 94)), (6, 33, 58, (5, 99)), (6, 38, 60, (5, 104)), (13, 178, 147, (5, 107)), (13, 182, 148, (5, 111)), (10, 286, 55, (5, 115)), (6, 43, 59, (5, 120)), (13, 187, 149, (5, 125)), (10, 290, 56, (5, 129)), (13, 191, 150, (5, 134)), (13, 195, 151, (5, 138)), (10, 293, 61, (5, 142)), (7, 39, 99, (5, 146)), (10, 296, 89, (5, 151)), (10, 299, 152, (5, 155)), (10, 302, 90, (5, 159)), (13, 199, 153, (5, 163)), (13, 203, 154, (5, 167)), (13, 207, 155, (5, 171)), (10, 305, 73, (5, 175)), (10, 308, 80, (5, 179)), (13, 17, 175, (6, 59)), (11, 67, 159, (6, 64)), (11, 89, 163, (6, 70)), (13, 22, 176, (6, 74)), (11, 92, 168, (6, 78)), (11, 98, 162, (6, 83)), (13, 26, 177, (6, 87)), (13, 30, 180, (6, 91)), (11, 106, 179, (6, 96)), (11, 101, 173, (6, 100)), (11, 75, 165, (6, 104)), (11, 109, 178, (6, 108)), (11, 71, 164, (6, 112)), (13, 34, 181, (6, 116)), (13, 38, 182, (6, 121)), (11, 114, 169, (6, 125)), (11, 119, 160, (6, 130)), (13, 42, 183, (6, 134)), (13, 46, 185, (6, 139)), (13, 50, 187, (6, 143)), (11, 127, 186, (6, 147)), (11, 124, 172, (6, 151)), (13, 54, 189, (6, 155)), (11, 131, 184, (6, 159)), (11, 135, 188, (6, 164)), (13, 59, 193, (6, 168)), (11, 153, 192, (6, 172)), (11, 149, 191, (6, 176)), (11, 146, 190, (6, 180)), (13, 64, 194, (6, 184)), (13, 68, 195, (6, 188)), (13, 73, 197, (6, 192)), (11, 156, 196, (6, 196)), (13, 77, 198, (6, 199)), (11, 160, 170, (6, 203)), (13, 81, 199, (6, 208)), (13, 85, 200, (6, 213)), (13, 89, 201, (6, 217)), (13, 93, 202, (6, 221)), (13, 97, 203, (6, 225)), (13, 101, 204, (6, 229)), (13, 105, 206, (6, 233)), (11, 166, 205, (6, 237)), (13, 109, 207, (7, 1)), (13, 113, 208, (7, 5)), (13, 117, 225, (7, 9)), (11, 261, 224, (7, 13)), (11, 254, 166, (7, 17)), (11, 221, 211, (7, 21)), (11, 189, 209, (7, 25)), (11, 195, 210, (7, 31)), (11, 257, 215, (7, 37)), (11, 201, 213, (7, 41)), (11, 205, 214, (7, 45)), (11, 251, 218, (7, 49)), (11, 215, 219, (7, 53)), (11, 227, 220, (7, 57)), (11, 230, 221, (7, 61)), (11, 233, 222, (7, 65)), (11, 236, 223, (7, 69)), (11, 224, 217, (7, 73)), (11, 242, 216, (7, 77)), (11, 218, 212, (7, 80)), (13, 121, 226, (7, 84)), (11, 264, 171, (7, 88)), (13, 125, 228, (7, 93)), (11, 269, 227, (7, 97)), (13, 129, 232, (7, 101)), (11, 279, 231, (7, 105)), (11, 276, 230, (7, 109)), (11, 272, 229, (7, 113)), (11, 81, 161, (7, 116)), (13, 133, 234, (7, 119)), (11, 292, 233, (7, 123)), (11, 296, 174, (7, 127)), (13, 137, 235, (7, 132)), (13, 141, 237, (7, 136)), (11, 302, 236, (7, 140)), (11, 299, 167, (7, 144)), (13, 145, 238, (7, 148)), (13, 149, 240, (7, 152)), (11, 305, 239, (7, 156)), (13, 153, 241, (7, 160)), (13, 157, 243, (7, 164)), (11, 308, 242, (7, 168)), (13, 161, 248, (7, 172)), (11, 322, 247, (7, 177)), (11, 311, 244, (7, 181)), (11, 314, 245, (7, 185)), (11, 317, 246, (7, 189)), (13, 165, 249, (7, 193)), (13, 169, 250, (7, 198)), (13, 173, 253, (7, 203)), (11, 328, 251, (7, 207)), (13, 177, 255, (7, 212)), (11, 336, 254, (7, 216)), (11, 339, 252, (7, 222)), (13, 181, 256, (7, 225)), (13, 186, 257, (7, 230)), (13, 190, 258, (7, 234)), (13, 194, 259, (7, 238)), (13, 198, 261, (8, 2)), (11, 354, 260, (8, 7)), (13, 202, 262, (8, 11)), (13, 206, 263, (8, 15)), (13, 210, 264, (8, 19))]
set_option maxRecDepth 100000 in
def mjT : List (Nat × Nat × Nat × Nat × Nat) := [(8, 15, 1001, (1, 41)), (1, 64, 1002, (2, 225)), (1, 99, 1003, (3, 9)), (2, 67, 1002, (3, 143)), (9, 19, 1002, (3, 168)), (9, 25, 1001, (3, 169)), (4, 109, 1002, (3, 209)), (4, 123, 900, (3, 227)), (4, 128, 901, (3, 237)), (4, 168, 902, (4, 73)), (4, 183, 1001, (4, 147)), (5, 33, 1002, (4, 198)), (5, 39, 1001, (4, 199)), (7, 90, 1002, (4, 214)), (10, 252, 1002, (4, 227)), (0, 80, 1002, (5, 43)), (0, 41, 1001, (5, 50)), (6, 46, 1003, (5, 124)), (8, 39, 1003, (5, 150))]
def stT : List (Nat × Nat × Nat × Nat × Nat) := [(10, 311, 1201, (3, 56)), (10, 314, 1202, (3, 58)), (10, 317, 1203, (3, 60))]
def srT : List (Nat × Nat × Nat) := [(4, 132, 1000), (4, 134, 1001), (4, 136, 1002), (4, 138, 1003), (4, 140, 1004), (4, 142, 1005), (4, 144, 1006), (4, 146, 1007), (4, 148, 1008), (4, 150, 1009), (4, 152, 1010), (4, 154, 1011)]
set_option maxRecDepth 100000 in
def cdk0 : Cd := [e1 (.aload_n 0), eS (.invokespecial 3) 99 0 8, none, none, e1 (.aload_n 0), e1 (.aload_n 1), eS (.putfield 9) 0 0 34, none, none, e1 .return_]
set_option maxRecDepth 100000 in
def cdk1 : Cd := [e1 (.aload_n 0), eS (.invokespecial 3) 99 0 10, none, none, e1 (.aload_n 0), eV (.bipush 10) 2 10, none, e2 (.newarray .int), none, eS (.putfield 9) 1 0 40, none, none, e1 (.aload_n 0), eV (.bipush 10) 2 10, none, 
  e2 (.newarray .int), none, eG (.putfield 15) 1 1 1 41, none, none, e1 (.aload_n 0), eV (.bipush 10) 2 10, none, e2 (.newarray .int), none, eG (.putfield 18) 1 2 2 42, none, none, e1 (.aload_n 0), eV (.iconst 3) 1 3, 
  e2 (.newarray .int), none, eG (.putfield 21) 1 3 3 43, none, none, e1 (.aload_n 0), eV (.iconst 3) 1 3, e2 (.newarray .int), none, eG (.putfield 24) 1 4 4 44, none, none, e1 (.aload_n 0), eV (.bipush 10) 2 10, none, 
  e2 (.newarray .int), none, eG (.putfield 27) 1 5 5 45, none, none, e1 (.aload_n 0), eV (.bipush 10) 2 10, none, e2 (.newarray .int), none, eG (.putfield 30) 1 6 6 46, none, none, e1 (.aload_n 0), eV (.bipush 11) 2 11, 
  none, e2 (.newarray .int), none, eG (.putfield 33) 1 7 7 47, none, none, e1 (.aload_n 0), eV (.bipush 121) 2 121, none, e2 (.newarray .int), none, eG (.putfield 36) 1 8 8 48, none, none, e1 (.aload_n 0), 
  eV (.bipush 11) 2 11, none, e2 (.newarray .int), none, eG (.putfield 39) 1 9 9 49, none, none, e1 (.aload_n 0), e1 (.iconst 0), eG (.putfield 42) 1 10 10 50, none, none, e1 (.aload_n 0), e1 (.iconst 0), 
  eG (.putfield 46) 1 11 11 51, none, none, e1 (.aload_n 0), e1 (.iconst 0), eG (.putfield 49) 1 12 12 52, none, none, e1 .return_]
set_option maxRecDepth 100000 in
def cdk2 : Cd := [e1 (.aload_n 0), eS (.invokespecial 3) 99 0 9, none, none, e1 (.aload_n 0), eV (.bipush 30) 2 30, none, e2 (.newarray .int), none, eS (.putfield 9) 2 0 35, none, none, e1 (.aload_n 0), eV (.bipush 10) 2 10, none, 
  e2 (.newarray .int), none, eG (.putfield 15) 2 1 1 36, none, none, e1 (.aload_n 0), eV (.bipush 10) 2 10, none, e2 (.newarray .int), none, eG (.putfield 18) 2 2 2 37, none, none, e1 (.aload_n 0), e1 (.iconst 0), 
  eG (.putfield 21) 2 3 3 38, none, none, e1 (.aload_n 0), e1 (.iconst 0), eG (.putfield 25) 2 4 4 39, none, none, e1 .return_]
set_option maxRecDepth 100000 in
def cdk3 : Cd := [e1 (.aload_n 0), eS (.invokespecial 3) 99 0 6, none, none, e1 (.aload_n 0), eV (.bipush 96) 2 96, none, e2 (.newarray .int), none, eS (.putfield 9) 3 0 31, none, none, e1 (.aload_n 0), e1 (.iconst 0), 
  eG (.putfield 15) 3 1 1 32, none, none, e1 .return_]
set_option maxRecDepth 100000 in
def cdk4 : Cd := [e1 (.aload_n 0), eS (.invokespecial 3) 99 0 13, none, none, e1 (.aload_n 0), eS (.new 9) 3 0 10, none, none, e1 .dup, eS (.invokespecial 11) 3 1 6, none, none, eG (.putfield 12) 4 1 1 56, none, none, e1 (.aload_n 0), 
  eS (.new 9) 3 0 10, none, none, e1 .dup, eS (.invokespecial 11) 3 1 6, none, none, eG (.putfield 18) 4 2 2 57, none, none, e1 (.aload_n 0), e1 (.iconst 0), eG (.putfield 21) 4 3 3 58, none, none, e1 (.aload_n 0), 
  e1 (.iconst 0), eG (.putfield 25) 4 4 4 59, none, none, e1 (.aload_n 0), e1 (.iconst 0), eG (.putfield 28) 4 5 5 60, none, none, e1 (.aload_n 0), e1 (.iconst 0), eG (.putfield 31) 4 6 6 61, none, none, e1 (.aload_n 0), 
  e1 (.iconst 0), eG (.putfield 34) 4 7 7 62, none, none, e1 (.aload_n 0), e1 (.iconst 0), eG (.putfield 37) 4 8 8 63, none, none, e1 (.aload_n 0), eV (.iconst 1) 1 1, eG (.putfield 40) 4 9 9 64, none, none, 
  e1 (.aload_n 0), e1 (.iconst 0), eG (.putfield 44) 4 10 10 65, none, none, e1 (.aload_n 0), e1 (.iconst 0), eG (.putfield 47) 4 11 11 66, none, none, e1 (.aload_n 0), e1 (.aload_n 1), eS (.putfield 50) 4 0 55, none, none, 
  e1 .return_]
set_option maxRecDepth 100000 in
def cdk5 : Cd := [e1 (.aload_n 0), eS (.invokespecial 3) 99 0 5, none, none, e1 (.aload_n 0), eS (.new 9) 3 0 4, none, none, e1 .dup, eS (.invokespecial 11) 3 1 2, none, none, eS (.putfield 12) 5 0 33, none, none, e1 .return_]
set_option maxRecDepth 100000 in
def cdk6 : Cd := [e1 (.aload_n 0), eS (.invokespecial 3) 99 0 14, none, none, e1 (.aload_n 0), eV (.iconst 4) 1 4, e2 (.newarray .int), none, e1 .dup, e1 (.iconst 0), eV (.iconst (-1)) 1 (-1), e1 .iastore, e1 .dup, eV (.iconst 1) 1 1, 
  eV (.iconst (-1)) 1 (-1), e1 .iastore, e1 .dup, eV (.iconst 2) 1 2, eV (.iconst (-1)) 1 (-1), e1 .iastore, e1 .dup, eV (.iconst 3) 1 3, eV (.iconst (-1)) 1 (-1), e1 .iastore, eS (.putfield 11) 6 0 67, none, none, 
  e1 (.aload_n 0), eV (.iconst 4) 1 4, e2 (.newarray .int), none, eG (.putfield 15) 6 1 1 68, none, none, e1 (.aload_n 0), eV (.bipush 96) 2 96, none, eA (.newarray .long) 2 1, none, eG (.putfield 18) 6 2 2 69, none, none, 
  e1 .return_]
set_option maxRecDepth 100000 in
def cdk7 : Cd := [e1 (.aload_n 0), eS (.invokespecial 3) 99 0 2, none, none, e1 (.aload_n 0), eS (.new 9) 8 0 2, none, none, e1 .dup, eV (.iconst 3) 1 3, eV (.bipush 8) 2 8, none, eS (.invokespecial 11) 8 0 3, none, none, 
  eS (.putfield 14) 7 0 4, none, none, e1 (.aload_n 0), eS (.new 9) 8 0 2, none, none, e1 .dup, eV (.bipush 10) 2 10, none, eV (.bipush 14) 2 14, none, eS (.invokespecial 11) 8 0 3, none, none, eG (.putfield 20) 7 1 1 9, 
  none, none, e1 (.aload_n 0), eS (.new 9) 8 0 2, none, none, e1 .dup, eV (.bipush 30) 2 30, none, eV (.bipush 8) 2 8, none, eS (.invokespecial 11) 8 0 3, none, none, eG (.putfield 23) 7 2 2 15, none, none, e1 (.aload_n 0), 
  eS (.new 9) 8 0 2, none, none, e1 .dup, eV (.bipush 12) 2 12, none, eV (.bipush 100) 2 100, none, eS (.invokespecial 11) 8 0 3, none, none, eG (.putfield 26) 7 3 3 19, none, none, e1 (.aload_n 0), eS (.new 9) 8 0 2, none, 
  none, e1 .dup, eV (.bipush 40) 2 40, none, eV (.iconst 4) 1 4, eS (.invokespecial 11) 8 0 3, none, none, eG (.putfield 29) 7 4 4 22, none, none, e1 (.aload_n 0), e1 (.iconst 0), eG (.putfield 32) 7 5 5 24, none, none, 
  e1 (.aload_n 0), e1 (.iconst 0), eG (.putfield 36) 7 6 6 29, none, none, e1 .return_]
set_option maxRecDepth 100000 in
def cdk8 : Cd := [e1 (.aload_n 0), eS (.invokespecial 3) 99 0 4, none, none, e1 (.aload_n 0), e1 (.iconst 0), eG (.putfield 9) 8 2 2 2, none, none, e1 (.aload_n 0), e1 (.iconst 0), e1 (.iload_n 1), eS (.invokestatic 15) 1001 2 0, none, 
  none, eG (.putfield 21) 8 3 3 3, none, none, e1 (.aload_n 0), e1 (.iconst 0), e1 (.iload_n 2), eS (.invokestatic 15) 1001 2 0, none, none, eS (.putfield 24) 8 0 0, none, none, e1 (.aload_n 0), e1 (.aload_n 0), 
  eG (.getfield 21) 8 3 3 3, none, none, e1 (.aload_n 0), eS (.getfield 24) 8 0 0, none, none, e1 .imul, e2 (.newarray .int), none, eG (.putfield 27) 8 1 1 1, none, none, e1 .return_]
set_option maxRecDepth 100000 in
def cdk9 : Cd := [e1 (.aload_n 0), eS (.invokespecial 3) 99 0 11, none, none, e1 (.aload_n 0), eV (.bipush 96) 2 96, none, e2 (.newarray .int), none, eS (.putfield 9) 9 0 53, none, none, e1 (.aload_n 0), e1 (.iconst 0), 
  eG (.putfield 15) 9 1 1 54, none, none, e1 .return_]
set_option maxRecDepth 100000 in
def cdk10 : Cd := [e1 (.aload_n 0), eS (.invokespecial 3) 99 0 1, none, none, e1 (.aload_n 0), eS (.new 9) 7 0 1, none, none, e1 .dup, eS (.invokespecial 11) 7 1 0, none, none, eS (.putfield 12) 10 0 70, none, none, e1 (.aload_n 0), 
  eS (.new 9) 7 0 1, none, none, e1 .dup, eS (.invokespecial 11) 7 1 0, none, none, eG (.putfield 16) 10 1 1 71, none, none, e1 (.aload_n 0), eS (.new 9) 7 0 1, none, none, e1 .dup, eS (.invokespecial 11) 7 1 0, none, none, 
  eG (.putfield 19) 10 2 2 72, none, none, e1 (.aload_n 0), eS (.new 22) 5 0 3, none, none, e1 .dup, eS (.invokespecial 24) 5 1 1, none, none, eG (.putfield 25) 10 3 3 73, none, none, e1 (.aload_n 0), eS (.new 29) 0 0 5, 
  none, none, e1 .dup, e1 (.aload_n 0), eG (.getfield 25) 10 3 3 73, none, none, eS (.invokespecial 31) 0 0 7, none, none, eG (.putfield 34) 10 4 4 74, none, none, e1 (.aload_n 0), eS (.new 38) 2 0 6, none, none, e1 .dup, 
  eS (.invokespecial 40) 2 1 3, none, none, eG (.putfield 41) 10 5 5 75, none, none, e1 (.aload_n 0), eS (.new 45) 1 0 7, none, none, e1 .dup, eS (.invokespecial 47) 1 1 4, none, none, eG (.putfield 48) 10 6 6 76, none, 
  none, e1 (.aload_n 0), eS (.new 52) 9 0 8, none, none, e1 .dup, eS (.invokespecial 54) 9 1 5, none, none, eG (.putfield 55) 10 7 7 77, none, none, e1 (.aload_n 0), eS (.new 59) 4 0 9, none, none, e1 .dup, e1 (.aload_n 0), 
  eG (.getfield 55) 10 7 7 77, none, none, eS (.invokespecial 61) 4 0 12, none, none, eG (.putfield 64) 10 8 8 78, none, none, e1 (.aload_n 0), eS (.new 68) 6 0 11, none, none, e1 .dup, eS (.invokespecial 70) 6 1 7, none, 
  none, eG (.putfield 71) 10 9 9 79, none, none, e1 (.aload_n 0), eV (.bipush 60) 2 60, none, e2 (.newarray .int), none, eG (.putfield 75) 10 10 10 80, none, none, e1 (.aload_n 0), e1 (.iconst 0), 
  eG (.putfield 79) 10 11 11 81, none, none, e1 (.aload_n 0), e1 (.iconst 0), eG (.putfield 83) 10 12 12 82, none, none, e1 .return_]
set_option maxRecDepth 100000 in
def cdk11 : Cd := [e1 (.aload_n 0), eS (.invokespecial 1) 99 0 16, none, none, e1 (.aload_n 0), eV (.sipush 3400) 3 3400, none, none, e2 (.newarray .int), none, eS (.putfield 7) 11 0 83, none, none, e1 (.aload_n 0), 
  eV (.sipush 3400) 3 3400, none, none, e2 (.newarray .int), none, eG (.putfield 13) 11 1 1 84, none, none, e1 (.aload_n 0), eV (.sipush 3400) 3 3400, none, none, e2 (.newarray .int), none, eG (.putfield 16) 11 2 2 85, 
  none, none, e1 (.aload_n 0), eV (.iconst 4) 1 4, e2 (.newarray .int), none, eG (.putfield 19) 11 4 4 87, none, none, e1 (.aload_n 0), eV (.iconst 4) 1 4, e2 (.newarray .int), none, eG (.putfield 22) 11 5 5 88, none, none, 
  e1 (.aload_n 0), eV (.bipush 96) 2 96, none, eA (.newarray .long) 2 1, none, eG (.putfield 25) 11 6 6 89, none, none, e1 (.aload_n 0), eV (.bipush 10) 2 10, none, e2 (.newarray .int), none, eG (.putfield 29) 11 7 7 90, 
  none, none, e1 (.aload_n 0), eV (.bipush 10) 2 10, none, e2 (.newarray .int), none, eG (.putfield 32) 11 8 8 91, none, none, e1 (.aload_n 0), eV (.iconst 3) 1 3, e2 (.newarray .int), none, eG (.putfield 35) 11 9 9 92, 
  none, none, e1 (.aload_n 0), eV (.bipush 30) 2 30, none, eA (.newarray .boolean) 2 2, none, eG (.putfield 38) 11 12 12 95, none, none, e1 (.aload_n 0), eV (.bipush 10) 2 10, none, e2 (.newarray .int), none, 
  eG (.putfield 42) 11 13 13 96, none, none, e1 (.aload_n 0), eV (.bipush 10) 2 10, none, e2 (.newarray .int), none, eG (.putfield 45) 11 14 14 97, none, none, e1 (.aload_n 0), eV (.bipush 96) 2 96, none, 
  e2 (.newarray .int), none, eG (.putfield 48) 11 15 15 98, none, none, e1 (.aload_n 0), eV (.sipush 128) 3 128, none, none, e2 (.newarray .int), none, eG (.putfield 51) 11 27 27 110, none, none, e1 (.aload_n 0), 
  eV (.bipush 100) 2 100, none, e2 (.newarray .int), none, eG (.putfield 54) 11 28 28 111, none, none, e1 (.aload_n 0), eV (.bipush 24) 2 24, none, eA (.newarray .long) 2 1, none, eG (.putfield 57) 11 32 32 115, none, none, 
  e1 (.aload_n 0), eV (.bipush 60) 2 60, none, e2 (.newarray .int), none, eG (.putfield 60) 11 33 33 116, none, none, e1 (.aload_n 0), eV (.bipush 60) 2 60, none, e2 (.newarray .int), none, eG (.putfield 63) 11 35 35 118, 
  none, none, e1 (.iconst 0), e1 (.istore_n 1), e1 (.iload_n 1), eV (.iconst 4) 1 4, eA (.if_icmp .ge 16) 3 169, none, none, e1 (.aload_n 0), eG (.getfield 19) 11 4 4 87, none, none, e1 (.iload_n 1), 
  eV (.iconst (-1)) 1 (-1), e1 .iastore, eV (.iinc 1 1) 3 1, none, none, eA (.goto (-15)) 3 151, none, none, e1 .return_]
set_option maxRecDepth 100000 in
def cdk12 : Cd := [eS (.new 7) 10 0 0, none, none, e1 .dup, eS (.invokespecial 9) 10 0 0, none, none, e1 (.astore_n 1), eS (.new 10) 11 0 12, none, none, e1 .dup, eS (.invokespecial 12) 11 0 15, none, none, e1 (.astore_n 2), none, none, 
  none, none, none, none, none, none, none, none, none, none, none, none, none, none, none, none, none, none, none, none, none, none, none, none, none, none, none, none, none, none, none, none, none, none, none, none, none, 
  none, none, none, none, none, none, none, none, none, none, none, none, none, none, none, none, none, none, none, none, none, none, none, none, none, none, none, none, none, none, none, none, none, none, none, none, none, 
  none, none, none, none, none, none, none, none, none, none, none, none, none, none, none, none, none, none, none, none, none, none, none, none, none, none, none, none, none, none, none, none, none, none, none, none, none, 
  none, none, none, none, none, none, none, none, none, none, none, none, none, none, none, none, none, none, none, none, none, none, none, none, none, none, none, none, none, none, none, none, none, none, none, none, none, 
  none, none, none, none, none, none, none, none, none, none, none, none, none, none, none, none, none, none, none, none, none, none, none, none, none, none, none, none, none, none, none, none, none, none, none, none, none, 
  none, none, none, none, none, none, none, none, none, none, none, none, none, none, none, none, none, none, none, none, none, none, none, none, none, none, none, none, none, none, none, none, none, none, none, none, none, 
  none, none, none, none, none, none, none, none, none, none, none, none, none, none, none, none, none, none, none, none, none, none, none, none, none, none, none, none, none, none, none, none, none, none, none, none, none, 
  none, none, none, none, none, none, none, none, none, none, none, none, none, none, none, none, none, none, none, none, none, none, none, none, none, none, none, none, none, none, none, none, none, none, none, none, none, 
  none, none, none, none, none, none, none, none, none, none, none, none, none, none, none, none, none, none, none, none, none, none, none, none, none, none, none, none, none, none, none, none, none, none, none, none, none, 
  none, none, none, none, none, none, none, none, none, none, none, none, none, none, none, none, none, none, none, none, none, none, none, none, none, none, none, none, none, none, none, none, none, none, none, none, none, 
  none, none, none, none, none, none, none, none, none, none, none, none, none, none, none, none, none, none, none, none, none, none, none, none, none, none, none, none, none, none, none, none, none, none, none, none, none, 
  none, none, none, none, none, none, none, none, none, none, none, none, none, none, none, none, none, none, none, none, none, none, none, none, none, none, none, none, none, none, none, none, none, none, none, none, none, 
  none, none, none, none, none, none, none, none, none, none, none, none, none, none, none, none, none, none, none, none, none, none, none, none, none, none, none, none, none, none, none, none, none, none, none, none, none, 
  none, none, none, none, none, none, none, none, none, none, none, none, none, none, none, none, none, none, none, none, none, none, none, none, none, none, none, none, none, none, none, none, none, none, none, none, none, 
  none, none, none, none, none, none, none, none, none, none, none, none, none, none, none, none, none, none, none, none, none, none, none, none, none, none, none, none, none, none, none, none, none, none, none, none, none, 
  none, none, none, none, none, none, none, none, none, none, none, none, none, none, none, none, none, none, none, none, none, none, none, none, none, none, none, none, none, none, none, none, none, none, none, none, none, 
  none, none, none, none, none, none, none, none, none, none, none, none, none, none, none, none, none, none, none, none, none, none, none, none, none, none, none, none, none, none, none, none, none, none, none, none, none, 
  none, none, none, none, none, none, none, none, none, none, none, none, none, none, none, none, none, none, none, none, none, none, none, none, none, none, none, none, none, none, none, none, none, none, none, none, none, 
  none, none, none, none, none, none, none, none, none, none, none, none, none, none, none, none, none, none, none, none, none, none, none, none, none, none, none, none, none, none, none, none, none, none, none, none, none, 
  none, none, none, none, none, none, none, none, none, none, none, none, none, none, none, none, none, none, none, none, none, none, none, none, none, none, none, none, none, none, none, none, none, none, none, none, none, 
  none, none, none, none, none, none, none, none, none, none, none, none, none, none, none, none, none, none, none, none, none, none, none, none, none, none, none, none, none, none, none, none, none, none, none, none, none, 
  none, none, none, none, none, none, none, none, none, none, none, none, none, none, none, none, none, none, none, none, none, none, none, none, none, none, none, none, none, none, none, none, none, none, none, none, none, 
  none, none, none, none, none, none, none, none, none, none, none, none, none, none, none, none, none, none, none, none, none, none, none, none, none, none, none, none, none, none, none, none, none, none, none, none, none, 
  none, none, none, none, none, none, none, none, none, none, none, none, none, none, none, none, none, none, none, none, none, none, none, none, none, none, none, none, none, none, none, none, none, none, none, none, none, 
  none, none, none, none, none, none, none, none, none, none, none, none, none, none, none, none, none, none, none, none, none, none, none, none, none, none, none, none, none, none, none, none, none, none, none, none, none, 
  none, none, none, none, none, none, none, none, none, none, none, none, none, none, none, none, none, none, none, none, none, none, none, none, none, none, none, none, none, none, none, none, none, none, none, none, none, 
  none, none, none, none, none, none, none, none, none, none, none, none, none, none, none, none, none, none, none, none, none, none, none, none, none, none, none, none, none, none, none, none, none, none, none, none, none, 
  none, none, none, none, none, none, none, none, none, none, none, none, none, none, none, none, none, none, none, none, none, none, none, none, none, none, none, none, none, none, none, none, none, none, none, none, none, 
  none, none, none, none, none, none, none, none, none, none, none, none, none, none, none, none, none, none, none, none, none, none, none, none, none, none, none, none, none, none, none, none, none, none, none, none, none, 
  none, none, none, none, none, none, none, none, none, none, none, none, none, none, none, none, none, none, none, none, none, none, none, none, none, none, none, none, none, none, none, none, none, none, none, none, none, 
  none, none, none, none, none, none, none, none, none, none, none, none, none, none, none, none, none, none, none, none, none, none, none, none, none, none, none, none, none, none, none, none, none, none, none, none, none, 
  none, none, none, none, none, none, none, none, none, none, none, none, none, none, none, none, none, none, none, none, none, none, none, none, none, none, none, none, none, none, none, none, none, none, none, none, none, 
  none, none, none, none, none, none, none, none, none, none, none, none, none, none, none, none, none, none, none, none, none, none, none, none, none, none, none, none, none, none, none, none, none, none, none, none, none, 
  none, none, none, none, none, none, none, none, none, none, none, none, none, none, none, none, none, none, none, none, none, none, none, none, none, none, none, none, none, none, none, none, none, none, none, none, none, 
  none, none, none, none, none, none, none, none, none, none, none, none, none, none, none, none, none, none, none, none, none, none, none, none, none, none, none, none, none, none, none, none, none, none, none, none, none, 
  none, none, none, none, none, none, none, none, none, none, none, none, none, none, none, none, none, none, none, none, none, none, none, none, none, none, none, none, none, none, none, none, none, none, none, none, none, 
  none, none, none, none, none, none, none, none, none, none, none, none, none, none, none, none, none, none, none, none, none, none, none, none, none, none, none, none, none, none, none, none, none, none, none, none, none, 
  none, none, none, none, none, none, none, none, none, none, none, none, none, none, none, none, none, none, none, none, none, none, none, none, none, none, none, none, none, none, none, none, none, none, none, none, none, 
  none, none, none, none, none, none, none, none, none, none, none, none, none, none, none, none, none, none, none, none, none, none, none, none, none, none, none, none, none, none, none, none, none, none, none, none, none, 
  none, none, none, none, none, none, none, none, none, none, none, none, none, none, none, none, none, none, none, none, none, none, none, none, none, none, none, none, none, none, none, none, none, none, none, none, none, 
  none, none, none, none, none, none, none, none, none, none, none, none, none, none, none, none, none, none, none, none, none, none, none, none, none, none, none, none, none, none, none, none, none, none, none, none, none, 
  none, none, none, none, none, none, none, none, none, none, none, none, none, none, none, none, none, none, none, none, none, none, none, none, none, none, none, none, none, none, none, none, none, none, none, none, none, 
  none, none, none, none, none, none, none, none, none, none, none, none, none, none, none, none, none, none, none, none, none, none, none, none, none, none, none, none, none, none, none, none, none, none, none, none, none, 
  none, none, none, none, none, none, none, none, none, none, none, none, none, none, none, none, none, none, none, none, none, none, none, none, none, none, none, none, none, none, none, none, none, none, none, none, none, 
  none, none, none, none, none, none, none, none, none, none, none, none, none, none, none, none, none, none, none, none, none, none, none, none, none, none, none, none, none, none, none, none, none, none, none, none, none, 
  none, none, none, none, none, none, none, none, none, none, none, none, none, none, none, none, none, none, none, none, none, none, none, none, none, none, none, none, none, none, none, none, none, none, none, none, none, 
  none, none]
set_option maxRecDepth 100000 in
def cdL0 : Cd := [none, none, none, none, none, none, none, none, none, none, none, none, none, none, none, none, e1 (.iconst 0), e1 (.istore_n 3), e1 (.iload_n 3), e1 (.aload_n 0), e1 .arraylength, eV (.bipush 6) 2 6, none, e1 .isub, eA (.if_icmp .gt 1696) 3 1720, none, none, e1 (.aload_n 0), e1 (.iload_n 3), e1 .iaload, eV (.bipush 63) 2 63, none, e1 .iand, some (.tableswitch 1681 0 47 #[207, 250, 283, 316, 349, 392, 425, 468, 511, 544, 577, 600, 613, 626, 679, 712, 745, 778, 801, 834, 857, 880, 903, 946, 969, 992, 1025, 1048, 1101, 1124, 1157, 1180, 1213, 1236, 1269, 1302, 1325, 1348, 1371, 1414, 1457, 1500, 1563, 1586, 1609, 1632, 1645, 1658], 207, 1714, 0, 0, 0, [(0, 240), (1, 283), (2, 316), (3, 349), (4, 382), (5, 425), (6, 458), (7, 501), (8, 544), (9, 577), (10, 610), (11, 633), (12, 646), (13, 659), (14, 712), (15, 745), (16, 778), (17, 811), (18, 834), (19, 867), (20, 890), (21, 913), (22, 936), (23, 979), (24, 1002), (25, 1025), (26, 1058), (27, 1081), (28, 1134), (29, 1157), (30, 1190), (31, 1213), (32, 1246), (33, 1269), (34, 1302), (35, 1335), (36, 1358), (37, 1381), (38, 1404), (39, 1447), (40, 1490), (41, 1533), (42, 1596), (43, 1619), (44, 1642), (45, 1665), (46, 1678), (47, 1691)]), none, none, none, none, none, none, none, none, none, none, none, none, none, none, none, none, none, none, none, none, none, none, none, none, none, none, none, none, none, none, none, none, none, none, none, none, none, none]
set_option maxRecDepth 100000 in
def cdL1 : Cd := [none, none, none, none, none, none, none, none, none, none, none, none, none, none, none, none, none, none, none, none, none, none, none, none, none, none, none, none, none, none, none, none, none, none, none, none, none, none, none, none, none, none, none, none, none, none, none, none, none, none, none, none, none, none, none, none, none, none, none, none, none, none, none, none, none, none, none, none, none, none, none, none]
set_option maxRecDepth 100000 in
def cdL2 : Cd := [none, none, none, none, none, none, none, none, none, none, none, none, none, none, none, none, none, none, none, none, none, none, none, none, none, none, none, none, none, none, none, none, none, none, none, none, none, none, none, none, none, none, none, none, none, none, none, none, none, none, none, none, none, none, none, none, none, none, none, none, none, none, none, none, none, none, none, none, none, none, none, none]
set_option maxRecDepth 100000 in
def cdL3 : Cd := [none, none, none, none, none, none, none, none, none, none, none, none, none, none, none, none, none, none, none, none, none, none, none, none, e1 (.aload_n 1), e1 (.aload_n 0), e1 (.iload_n 3), eV (.iconst 1) 1 1, e1 .iadd, e1 .iaload, e1 (.aload_n 0), e1 (.iload_n 3), eV (.iconst 2) 1 2, e1 .iadd, e1 .iaload, e1 (.aload_n 0), e1 (.iload_n 3), eV (.iconst 3) 1 3, e1 .iadd, e1 .iaload, eS (.invokevirtual 13) 105 3 0, none, none, e1 .pop, e1 (.aload_n 2), e1 (.aload_n 0), e1 (.iload_n 3), eV (.iconst 1) 1 1, e1 .iadd, e1 .iaload, e1 (.aload_n 0), e1 (.iload_n 3), eV (.iconst 2) 1 2, e1 .iadd, e1 .iaload, e1 (.aload_n 0), e1 (.iload_n 3), eV (.iconst 3) 1 3, e1 .iadd, e1 .iaload, eS (.invokevirtual 17) 175 3 193, none, none, e1 .pop, eA (.goto 1434) 3 1714, none, none, e1 (.aload_n 1), e1 (.aload_n 0), e1 (.iload_n 3), eV (.iconst 1) 1 1, e1 .iadd]
set_option maxRecDepth 100000 in
def cdL4 : Cd := [e1 .iaload, e1 (.aload_n 0), e1 (.iload_n 3), eV (.iconst 2) 1 2, e1 .iadd, e1 .iaload, eS (.invokevirtual 18) 106 2 5, none, none, e1 .pop, e1 (.aload_n 2), e1 (.aload_n 0), e1 (.iload_n 3), eV (.iconst 1) 1 1, e1 .iadd, e1 .iaload, e1 (.aload_n 0), e1 (.iload_n 3), eV (.iconst 2) 1 2, e1 .iadd, e1 .iaload, eS (.invokevirtual 22) 176 2 196, none, none, e1 .pop, eA (.goto 1401) 3 1714, none, none, e1 (.aload_n 1), e1 (.aload_n 0), e1 (.iload_n 3), eV (.iconst 1) 1 1, e1 .iadd, e1 .iaload, e1 (.aload_n 0), e1 (.iload_n 3), eV (.iconst 2) 1 2, e1 .iadd, e1 .iaload, eS (.invokevirtual 23) 107 2 10, none, none, e1 .pop, e1 (.aload_n 2), e1 (.aload_n 0), e1 (.iload_n 3), eV (.iconst 1) 1 1, e1 .iadd, e1 .iaload, e1 (.aload_n 0), e1 (.iload_n 3), eV (.iconst 2) 1 2, e1 .iadd, e1 .iaload, eS (.invokevirtual 26) 177 2 199, none, none, e1 .pop, eA (.goto 1368) 3 1714, none, none, e1 (.aload_n 1), e1 (.aload_n 0), e1 (.iload_n 3), eV (.iconst 1) 1 1, e1 .iadd, e1 .iaload, e1 (.aload_n 0), e1 (.iload_n 3), eV (.iconst 2) 1 2, e1 .iadd, e1 .iaload]
set_option maxRecDepth 100000 in
def cdL5 : Cd := [eS (.invokevirtual 27) 108 2 11, none, none, e1 .pop, e1 (.aload_n 2), e1 (.aload_n 0), e1 (.iload_n 3), eV (.iconst 1) 1 1, e1 .iadd, e1 .iaload, e1 (.aload_n 0), e1 (.iload_n 3), eV (.iconst 2) 1 2, e1 .iadd, e1 .iaload, eS (.invokevirtual 30) 180 2 200, none, none, e1 .pop, eA (.goto 1335) 3 1714, none, none, e1 (.aload_n 1), e1 (.aload_n 0), e1 (.iload_n 3), eV (.iconst 1) 1 1, e1 .iadd, e1 .iaload, e1 (.aload_n 0), e1 (.iload_n 3), eV (.iconst 2) 1 2, e1 .iadd, e1 .iaload, e1 (.aload_n 0), e1 (.iload_n 3), eV (.iconst 3) 1 3, e1 .iadd, e1 .iaload, eS (.invokevirtual 31) 109 3 19, none, none, e1 .pop, e1 (.aload_n 2), e1 (.aload_n 0), e1 (.iload_n 3), eV (.iconst 1) 1 1, e1 .iadd, e1 .iaload, e1 (.aload_n 0), e1 (.iload_n 3), eV (.iconst 2) 1 2, e1 .iadd, e1 .iaload, e1 (.aload_n 0), e1 (.iload_n 3), eV (.iconst 3) 1 3, e1 .iadd, e1 .iaload, eS (.invokevirtual 34) 181 3 206, none, none, e1 .pop, eA (.goto 1292) 3 1714, none, none, e1 (.aload_n 1), e1 (.aload_n 0), e1 (.iload_n 3), eV (.iconst 1) 1 1, e1 .iadd, e1 .iaload, e1 (.aload_n 0)]
set_option maxRecDepth 100000 in
def cdL6 : Cd := [e1 (.iload_n 3), eV (.iconst 2) 1 2, e1 .iadd, e1 .iaload, eS (.invokevirtual 35) 110 2 20, none, none, e1 .pop, e1 (.aload_n 2), e1 (.aload_n 0), e1 (.iload_n 3), eV (.iconst 1) 1 1, e1 .iadd, e1 .iaload, e1 (.aload_n 0), e1 (.iload_n 3), eV (.iconst 2) 1 2, e1 .iadd, e1 .iaload, eS (.invokevirtual 38) 182 2 207, none, none, e1 .pop, eA (.goto 1259) 3 1714, none, none, e1 (.aload_n 1), e1 (.aload_n 0), e1 (.iload_n 3), eV (.iconst 1) 1 1, e1 .iadd, e1 .iaload, e1 (.aload_n 0), e1 (.iload_n 3), eV (.iconst 2) 1 2, e1 .iadd, e1 .iaload, e1 (.aload_n 0), e1 (.iload_n 3), eV (.iconst 3) 1 3, e1 .iadd, e1 .iaload, eS (.invokevirtual 39) 111 3 21, none, none, e1 .pop, e1 (.aload_n 2), e1 (.aload_n 0), e1 (.iload_n 3), eV (.iconst 1) 1 1, e1 .iadd, e1 .iaload, e1 (.aload_n 0), e1 (.iload_n 3), eV (.iconst 2) 1 2, e1 .iadd, e1 .iaload, e1 (.aload_n 0), e1 (.iload_n 3), eV (.iconst 3) 1 3, e1 .iadd, e1 .iaload, eS (.invokevirtual 42) 183 3 210, none, none, e1 .pop, eA (.goto 1216) 3 1714, none, none, e1 (.aload_n 1), e1 (.aload_n 0), e1 (.iload_n 3)]
set_option maxRecDepth 100000 in
def cdL7 : Cd := [eV (.iconst 1) 1 1, e1 .iadd, e1 .iaload, e1 (.aload_n 0), e1 (.iload_n 3), eV (.iconst 2) 1 2, e1 .iadd, e1 .iaload, e1 (.aload_n 0), e1 (.iload_n 3), eV (.iconst 3) 1 3, e1 .iadd, e1 .iaload, eS (.invokevirtual 43) 113 3 23, none, none, e1 .pop, e1 (.aload_n 2), e1 (.aload_n 0), e1 (.iload_n 3), eV (.iconst 1) 1 1, e1 .iadd, e1 .iaload, e1 (.aload_n 0), e1 (.iload_n 3), eV (.iconst 2) 1 2, e1 .iadd, e1 .iaload, e1 (.aload_n 0), e1 (.iload_n 3), eV (.iconst 3) 1 3, e1 .iadd, e1 .iaload, eS (.invokevirtual 46) 185 3 211, none, none, e1 .pop, eA (.goto 1173) 3 1714, none, none, e1 (.aload_n 1), e1 (.aload_n 0), e1 (.iload_n 3), eV (.iconst 1) 1 1, e1 .iadd, e1 .iaload, e1 (.aload_n 0), e1 (.iload_n 3), eV (.iconst 2) 1 2, e1 .iadd, e1 .iaload, eS (.invokevirtual 47) 114 2 27, none, none, e1 (.aload_n 2), e1 (.aload_n 0), e1 (.iload_n 3), eV (.iconst 1) 1 1, e1 .iadd, e1 .iaload, e1 (.aload_n 0), e1 (.iload_n 3), eV (.iconst 2) 1 2, e1 .iadd, e1 .iaload, eS (.invokevirtual 50) 187 2 212, none, none, eA (.if_icmp .eq 1142) 3 1714, none, none, e1 (.iconst 0)]
set_option maxRecDepth 100000 in
def cdL8 : Cd := [e1 .ireturn, e1 (.aload_n 1), e1 (.aload_n 0), e1 (.iload_n 3), eV (.iconst 1) 1 1, e1 .iadd, e1 .iaload, e1 (.aload_n 0), e1 (.iload_n 3), eV (.iconst 2) 1 2, e1 .iadd, e1 .iaload, eS (.invokevirtual 51) 115 2 30, none, none, e1 .pop, e1 (.aload_n 2), e1 (.aload_n 0), e1 (.iload_n 3), eV (.iconst 1) 1 1, e1 .iadd, e1 .iaload, e1 (.aload_n 0), e1 (.iload_n 3), eV (.iconst 2) 1 2, e1 .iadd, e1 .iaload, eS (.invokevirtual 54) 189 2 215, none, none, e1 .pop, eA (.goto 1107) 3 1714, none, none, e1 (.aload_n 1), e1 (.aload_n 0), e1 (.iload_n 3), eV (.iconst 1) 1 1, e1 .iadd, e1 .iaload, eS (.invokevirtual 55) 116 1 37, none, none, e1 .pop, e1 (.aload_n 2), e1 (.aload_n 0), e1 (.iload_n 3), eV (.iconst 1) 1 1, e1 .iadd, e1 .iaload, eS (.invokevirtual 59) 193 1 218, none, none, e1 .pop, eA (.goto 1084) 3 1714, none, none, e1 (.aload_n 1), eS (.invokevirtual 60) 117 0 54, none, none, e1 .pop, e1 (.aload_n 2), eS (.invokevirtual 64) 194 0 222, none, none, e1 .pop, eA (.goto 1071) 3 1714, none, none, e1 (.aload_n 1), eS (.invokevirtual 65) 118 0 56]
set_option maxRecDepth 100000 in
def cdL9 : Cd := [none, none, e1 .pop, e1 (.aload_n 2), eS (.invokevirtual 68) 195 0 223, none, none, e1 .pop, eA (.goto 1058) 3 1714, none, none, e1 (.aload_n 1), e1 (.aload_n 0), e1 (.iload_n 3), eV (.iconst 1) 1 1, e1 .iadd, e1 .iaload, e1 (.aload_n 0), e1 (.iload_n 3), eV (.iconst 2) 1 2, e1 .iadd, e1 .iaload, e1 (.aload_n 0), e1 (.iload_n 3), eV (.iconst 3) 1 3, e1 .iadd, e1 .iaload, e1 (.aload_n 0), e1 (.iload_n 3), eV (.iconst 4) 1 4, e1 .iadd, e1 .iaload, eS (.invokevirtual 69) 119 4 57, none, none, e1 .pop, e1 (.aload_n 2), e1 (.aload_n 0), e1 (.iload_n 3), eV (.iconst 1) 1 1, e1 .iadd, e1 .iaload, e1 (.aload_n 0), e1 (.iload_n 3), eV (.iconst 2) 1 2, e1 .iadd, e1 .iaload, e1 (.aload_n 0), e1 (.iload_n 3), eV (.iconst 3) 1 3, e1 .iadd, e1 .iaload, e1 (.aload_n 0), e1 (.iload_n 3), eV (.iconst 4) 1 4, e1 .iadd, e1 .iaload, eS (.invokevirtual 73) 197 4 224, none, none, e1 .pop, eA (.goto 1005) 3 1714, none, none, e1 (.aload_n 1), e1 (.aload_n 0), e1 (.iload_n 3), eV (.iconst 1) 1 1, e1 .iadd, e1 .iaload, e1 (.aload_n 0), e1 (.iload_n 3)]
set_option maxRecDepth 100000 in
def cdL10 : Cd := [eV (.iconst 2) 1 2, e1 .iadd, e1 .iaload, eS (.invokevirtual 74) 120 2 60, none, none, e1 .pop, e1 (.aload_n 2), e1 (.aload_n 0), e1 (.iload_n 3), eV (.iconst 1) 1 1, e1 .iadd, e1 .iaload, e1 (.aload_n 0), e1 (.iload_n 3), eV (.iconst 2) 1 2, e1 .iadd, e1 .iaload, eS (.invokevirtual 77) 198 2 226, none, none, e1 .pop, eA (.goto 972) 3 1714, none, none, e1 (.aload_n 1), e1 (.aload_n 0), e1 (.iload_n 3), eV (.iconst 1) 1 1, e1 .iadd, e1 .iaload, e1 (.aload_n 0), e1 (.iload_n 3), eV (.iconst 2) 1 2, e1 .iadd, e1 .iaload, eS (.invokevirtual 78) 121 2 61, none, none, e1 .pop, e1 (.aload_n 2), e1 (.aload_n 0), e1 (.iload_n 3), eV (.iconst 1) 1 1, e1 .iadd, e1 .iaload, e1 (.aload_n 0), e1 (.iload_n 3), eV (.iconst 2) 1 2, e1 .iadd, e1 .iaload, eS (.invokevirtual 81) 199 2 228, none, none, e1 .pop, eA (.goto 939) 3 1714, none, none, e1 (.aload_n 1), e1 (.aload_n 0), e1 (.iload_n 3), eV (.iconst 1) 1 1, e1 .iadd, e1 .iaload, e1 (.aload_n 0), e1 (.iload_n 3), eV (.iconst 2) 1 2, e1 .iadd, e1 .iaload, eS (.invokevirtual 82) 122 2 63, none, none]
set_option maxRecDepth 100000 in
def cdL11 : Cd := [e1 .pop, e1 (.aload_n 2), e1 (.aload_n 0), e1 (.iload_n 3), eV (.iconst 1) 1 1, e1 .iadd, e1 .iaload, e1 (.aload_n 0), e1 (.iload_n 3), eV (.iconst 2) 1 2, e1 .iadd, e1 .iaload, eS (.invokevirtual 85) 200 2 229, none, none, e1 .pop, eA (.goto 906) 3 1714, none, none, e1 (.aload_n 1), e1 (.aload_n 0), e1 (.iload_n 3), eV (.iconst 1) 1 1, e1 .iadd, e1 .iaload, eS (.invokevirtual 86) 123 1 66, none, none, e1 .pop, e1 (.aload_n 2), e1 (.aload_n 0), e1 (.iload_n 3), eV (.iconst 1) 1 1, e1 .iadd, e1 .iaload, eS (.invokevirtual 89) 201 1 230, none, none, e1 .pop, eA (.goto 883) 3 1714, none, none, e1 (.aload_n 1), e1 (.aload_n 0), e1 (.iload_n 3), eV (.iconst 1) 1 1, e1 .iadd, e1 .iaload, e1 (.aload_n 0), e1 (.iload_n 3), eV (.iconst 2) 1 2, e1 .iadd, e1 .iaload, eS (.invokevirtual 90) 124 2 67, none, none, e1 .pop, e1 (.aload_n 2), e1 (.aload_n 0), e1 (.iload_n 3), eV (.iconst 1) 1 1, e1 .iadd, e1 .iaload, e1 (.aload_n 0), e1 (.iload_n 3), eV (.iconst 2) 1 2, e1 .iadd, e1 .iaload, eS (.invokevirtual 93) 202 2 231, none, none, e1 .pop]
set_option maxRecDepth 100000 in
def cdL12 : Cd := [eA (.goto 850) 3 1714, none, none, e1 (.aload_n 1), e1 (.aload_n 0), e1 (.iload_n 3), eV (.iconst 1) 1 1, e1 .iadd, e1 .iaload, eS (.invokevirtual 94) 125 1 70, none, none, e1 .pop, e1 (.aload_n 2), e1 (.aload_n 0), e1 (.iload_n 3), eV (.iconst 1) 1 1, e1 .iadd, e1 .iaload, eS (.invokevirtual 97) 203 1 232, none, none, e1 .pop, eA (.goto 827) 3 1714, none, none, e1 (.aload_n 1), e1 (.aload_n 0), e1 (.iload_n 3), eV (.iconst 1) 1 1, e1 .iadd, e1 .iaload, eS (.invokevirtual 98) 126 1 71, none, none, e1 .pop, e1 (.aload_n 2), e1 (.aload_n 0), e1 (.iload_n 3), eV (.iconst 1) 1 1, e1 .iadd, e1 .iaload, eS (.invokevirtual 101) 204 1 233, none, none, e1 .pop, eA (.goto 804) 3 1714, none, none, e1 (.aload_n 1), e1 (.aload_n 0), e1 (.iload_n 3), eV (.iconst 1) 1 1, e1 .iadd, e1 .iaload, eS (.invokevirtual 102) 127 1 72, none, none, e1 .pop, e1 (.aload_n 2), e1 (.aload_n 0), e1 (.iload_n 3), eV (.iconst 1) 1 1, e1 .iadd, e1 .iaload, eS (.invokevirtual 105) 206 1 234, none, none, e1 .pop, eA (.goto 781) 3 1714, none, none]
set_option maxRecDepth 100000 in
def cdL13 : Cd := [e1 (.aload_n 1), e1 (.aload_n 0), e1 (.iload_n 3), eV (.iconst 1) 1 1, e1 .iadd, e1 .iaload, e1 (.aload_n 0), e1 (.iload_n 3), eV (.iconst 2) 1 2, e1 .iadd, e1 .iaload, e1 (.aload_n 0), e1 (.iload_n 3), eV (.iconst 3) 1 3, e1 .iadd, e1 .iaload, eS (.invokevirtual 106) 128 3 82, none, none, e1 .pop, e1 (.aload_n 2), e1 (.aload_n 0), e1 (.iload_n 3), eV (.iconst 1) 1 1, e1 .iadd, e1 .iaload, e1 (.aload_n 0), e1 (.iload_n 3), eV (.iconst 2) 1 2, e1 .iadd, e1 .iaload, e1 (.aload_n 0), e1 (.iload_n 3), eV (.iconst 3) 1 3, e1 .iadd, e1 .iaload, eS (.invokevirtual 109) 207 3 236, none, none, e1 .pop, eA (.goto 738) 3 1714, none, none, e1 (.aload_n 1), e1 (.aload_n 0), e1 (.iload_n 3), eV (.iconst 1) 1 1, e1 .iadd, e1 .iaload, eS (.invokevirtual 110) 129 1 86, none, none, e1 .pop, e1 (.aload_n 2), e1 (.aload_n 0), e1 (.iload_n 3), eV (.iconst 1) 1 1, e1 .iadd, e1 .iaload, eS (.invokevirtual 113) 208 1 237, none, none, e1 .pop, eA (.goto 715) 3 1714, none, none, e1 (.aload_n 1), e1 (.aload_n 0), e1 (.iload_n 3), eV (.iconst 1) 1 1, e1 .iadd, e1 .iaload]
set_option maxRecDepth 100000 in
def cdL14 : Cd := [eS (.invokevirtual 114) 130 1 88, none, none, e1 .pop, e1 (.aload_n 2), e1 (.aload_n 0), e1 (.iload_n 3), eV (.iconst 1) 1 1, e1 .iadd, e1 .iaload, eS (.invokevirtual 117) 225 1 238, none, none, e1 .pop, eA (.goto 692) 3 1714, none, none, e1 (.aload_n 1), e1 (.aload_n 0), e1 (.iload_n 3), eV (.iconst 1) 1 1, e1 .iadd, e1 .iaload, e1 (.aload_n 0), e1 (.iload_n 3), eV (.iconst 2) 1 2, e1 .iadd, e1 .iaload, eS (.invokevirtual 118) 131 2 119, none, none, e1 .pop, e1 (.aload_n 2), e1 (.aload_n 0), e1 (.iload_n 3), eV (.iconst 1) 1 1, e1 .iadd, e1 .iaload, e1 (.aload_n 0), e1 (.iload_n 3), eV (.iconst 2) 1 2, e1 .iadd, e1 .iaload, eS (.invokevirtual 121) 226 2 256, none, none, e1 .pop, eA (.goto 659) 3 1714, none, none, e1 (.aload_n 1), e1 (.aload_n 0), e1 (.iload_n 3), eV (.iconst 1) 1 1, e1 .iadd, e1 .iaload, eS (.invokevirtual 122) 132 1 120, none, none, e1 .pop, e1 (.aload_n 2), e1 (.aload_n 0), e1 (.iload_n 3), eV (.iconst 1) 1 1, e1 .iadd, e1 .iaload, eS (.invokevirtual 125) 228 1 258, none, none, e1 .pop, eA (.goto 636) 3 1714, none]
set_option maxRecDepth 100000 in
def cdL15 : Cd := [none, e1 (.aload_n 1), e1 (.aload_n 0), e1 (.iload_n 3), eV (.iconst 1) 1 1, e1 .iadd, e1 .iaload, e1 (.aload_n 0), e1 (.iload_n 3), eV (.iconst 2) 1 2, e1 .iadd, e1 .iaload, e1 (.aload_n 0), e1 (.iload_n 3), eV (.iconst 3) 1 3, e1 .iadd, e1 .iaload, e1 (.aload_n 0), e1 (.iload_n 3), eV (.iconst 4) 1 4, e1 .iadd, e1 .iaload, eS (.invokevirtual 126) 133 4 122, none, none, e1 .pop, e1 (.aload_n 2), e1 (.aload_n 0), e1 (.iload_n 3), eV (.iconst 1) 1 1, e1 .iadd, e1 .iaload, e1 (.aload_n 0), e1 (.iload_n 3), eV (.iconst 2) 1 2, e1 .iadd, e1 .iaload, e1 (.aload_n 0), e1 (.iload_n 3), eV (.iconst 3) 1 3, e1 .iadd, e1 .iaload, e1 (.aload_n 0), e1 (.iload_n 3), eV (.iconst 4) 1 4, e1 .iadd, e1 .iaload, eS (.invokevirtual 129) 232 4 260, none, none, e1 .pop, eA (.goto 583) 3 1714, none, none, e1 (.aload_n 1), e1 (.aload_n 0), e1 (.iload_n 3), eV (.iconst 1) 1 1, e1 .iadd, e1 .iaload, eS (.invokevirtual 130) 134 1 132, none, none, e1 .pop, e1 (.aload_n 2), e1 (.aload_n 0), e1 (.iload_n 3), eV (.iconst 1) 1 1, e1 .iadd, e1 .iaload, eS (.invokevirtual 133) 234 1 265, none]
set_option maxRecDepth 100000 in
def cdL16 : Cd := [none, e1 .pop, eA (.goto 560) 3 1714, none, none, e1 (.aload_n 1), e1 (.aload_n 0), e1 (.iload_n 3), eV (.iconst 1) 1 1, e1 .iadd, e1 .iaload, e1 (.aload_n 0), e1 (.iload_n 3), eV (.iconst 2) 1 2, e1 .iadd, e1 .iaload, eS (.invokevirtual 134) 135 2 136, none, none, e1 .pop, e1 (.aload_n 2), e1 (.aload_n 0), e1 (.iload_n 3), eV (.iconst 1) 1 1, e1 .iadd, e1 .iaload, e1 (.aload_n 0), e1 (.iload_n 3), eV (.iconst 2) 1 2, e1 .iadd, e1 .iaload, eS (.invokevirtual 137) 235 2 268, none, none, e1 .pop, eA (.goto 527) 3 1714, none, none, e1 (.aload_n 1), e1 (.aload_n 0), e1 (.iload_n 3), eV (.iconst 1) 1 1, e1 .iadd, e1 .iaload, eS (.invokevirtual 138) 136 1 137, none, none, e1 .pop, e1 (.aload_n 2), e1 (.aload_n 0), e1 (.iload_n 3), eV (.iconst 1) 1 1, e1 .iadd, e1 .iaload, eS (.invokevirtual 141) 237 1 269, none, none, e1 .pop, eA (.goto 504) 3 1714, none, none, e1 (.aload_n 1), e1 (.aload_n 0), e1 (.iload_n 3), eV (.iconst 1) 1 1, e1 .iadd, e1 .iaload, e1 (.aload_n 0), e1 (.iload_n 3), eV (.iconst 2) 1 2, e1 .iadd, e1 .iaload]
set_option maxRecDepth 100000 in
def cdL17 : Cd := [eS (.invokevirtual 142) 137 2 141, none, none, e1 .pop, e1 (.aload_n 2), e1 (.aload_n 0), e1 (.iload_n 3), eV (.iconst 1) 1 1, e1 .iadd, e1 .iaload, e1 (.aload_n 0), e1 (.iload_n 3), eV (.iconst 2) 1 2, e1 .iadd, e1 .iaload, eS (.invokevirtual 145) 238 2 272, none, none, e1 .pop, eA (.goto 471) 3 1714, none, none, e1 (.aload_n 1), e1 (.aload_n 0), e1 (.iload_n 3), eV (.iconst 1) 1 1, e1 .iadd, e1 .iaload, eS (.invokevirtual 146) 139 1 142, none, none, e1 .pop, e1 (.aload_n 2), e1 (.aload_n 0), e1 (.iload_n 3), eV (.iconst 1) 1 1, e1 .iadd, e1 .iaload, eS (.invokevirtual 149) 240 1 273, none, none, e1 .pop, eA (.goto 448) 3 1714, none, none, e1 (.aload_n 1), e1 (.aload_n 0), e1 (.iload_n 3), eV (.iconst 1) 1 1, e1 .iadd, e1 .iaload, e1 (.aload_n 0), e1 (.iload_n 3), eV (.iconst 2) 1 2, e1 .iadd, e1 .iaload, eS (.invokevirtual 150) 140 2 143, none, none, e1 .pop, e1 (.aload_n 2), e1 (.aload_n 0), e1 (.iload_n 3), eV (.iconst 1) 1 1, e1 .iadd, e1 .iaload, e1 (.aload_n 0), e1 (.iload_n 3), eV (.iconst 2) 1 2, e1 .iadd, e1 .iaload, eS (.invokevirtual 153) 241 2 275]
set_option maxRecDepth 100000 in
def cdL18 : Cd := [none, none, e1 .pop, eA (.goto 415) 3 1714, none, none, e1 (.aload_n 1), e1 (.aload_n 0), e1 (.iload_n 3), eV (.iconst 1) 1 1, e1 .iadd, e1 .iaload, e1 (.aload_n 0), e1 (.iload_n 3), eV (.iconst 2) 1 2, e1 .iadd, e1 .iaload, eS (.invokevirtual 154) 141 2 144, none, none, e1 .pop, e1 (.aload_n 2), e1 (.aload_n 0), e1 (.iload_n 3), eV (.iconst 1) 1 1, e1 .iadd, e1 .iaload, e1 (.aload_n 0), e1 (.iload_n 3), eV (.iconst 2) 1 2, e1 .iadd, e1 .iaload, eS (.invokevirtual 157) 243 2 276, none, none, e1 .pop, eA (.goto 382) 3 1714, none, none, e1 (.aload_n 1), e1 (.aload_n 0), e1 (.iload_n 3), eV (.iconst 1) 1 1, e1 .iadd, e1 .iaload, eS (.invokevirtual 158) 142 1 147, none, none, e1 .pop, e1 (.aload_n 2), e1 (.aload_n 0), e1 (.iload_n 3), eV (.iconst 1) 1 1, e1 .iadd, e1 .iaload, eS (.invokevirtual 161) 248 1 278, none, none, e1 .pop, eA (.goto 359) 3 1714, none, none, e1 (.aload_n 1), e1 (.aload_n 0), e1 (.iload_n 3), eV (.iconst 1) 1 1, e1 .iadd, e1 .iaload, eS (.invokevirtual 162) 143 1 164, none, none, e1 .pop]
set_option maxRecDepth 100000 in
def cdL19 : Cd := [e1 (.aload_n 2), e1 (.aload_n 0), e1 (.iload_n 3), eV (.iconst 1) 1 1, e1 .iadd, e1 .iaload, eS (.invokevirtual 165) 249 1 283, none, none, e1 .pop, eA (.goto 336) 3 1714, none, none, e1 (.aload_n 1), e1 (.aload_n 0), e1 (.iload_n 3), eV (.iconst 1) 1 1, e1 .iadd, e1 .iaload, eS (.invokevirtual 166) 144 1 165, none, none, e1 .pop, e1 (.aload_n 2), e1 (.aload_n 0), e1 (.iload_n 3), eV (.iconst 1) 1 1, e1 .iadd, e1 .iaload, eS (.invokevirtual 169) 250 1 284, none, none, e1 .pop, eA (.goto 313) 3 1714, none, none, e1 (.aload_n 1), e1 (.aload_n 0), e1 (.iload_n 3), eV (.iconst 1) 1 1, e1 .iadd, e1 .iaload, e1 (.aload_n 0), e1 (.iload_n 3), eV (.iconst 2) 1 2, e1 .iadd, e1 .iaload, e1 (.aload_n 0), e1 (.iload_n 3), eV (.iconst 3) 1 3, e1 .iadd, e1 .iaload, eS (.invokevirtual 170) 145 3 168, none, none, e1 .pop, e1 (.aload_n 2), e1 (.aload_n 0), e1 (.iload_n 3), eV (.iconst 1) 1 1, e1 .iadd, e1 .iaload, e1 (.aload_n 0), e1 (.iload_n 3), eV (.iconst 2) 1 2, e1 .iadd, e1 .iaload, e1 (.aload_n 0), e1 (.iload_n 3), eV (.iconst 3) 1 3, e1 .iadd, e1 .iaload]
set_option maxRecDepth 100000 in
def cdL20 : Cd := [eS (.invokevirtual 173) 253 3 285, none, none, e1 .pop, eA (.goto 270) 3 1714, none, none, e1 (.aload_n 1), e1 (.aload_n 0), e1 (.iload_n 3), eV (.iconst 1) 1 1, e1 .iadd, e1 .iaload, e1 (.aload_n 0), e1 (.iload_n 3), eV (.iconst 2) 1 2, e1 .iadd, e1 .iaload, e1 (.aload_n 0), e1 (.iload_n 3), eV (.iconst 3) 1 3, e1 .iadd, e1 .iaload, eS (.invokevirtual 174) 146 3 171, none, none, e1 .pop, e1 (.aload_n 2), e1 (.aload_n 0), e1 (.iload_n 3), eV (.iconst 1) 1 1, e1 .iadd, e1 .iaload, e1 (.aload_n 0), e1 (.iload_n 3), eV (.iconst 2) 1 2, e1 .iadd, e1 .iaload, e1 (.aload_n 0), e1 (.iload_n 3), eV (.iconst 3) 1 3, e1 .iadd, e1 .iaload, eS (.invokevirtual 177) 255 3 287, none, none, e1 .pop, eA (.goto 227) 3 1714, none, none, e1 (.aload_n 1), e1 (.aload_n 0), e1 (.iload_n 3), eV (.iconst 1) 1 1, e1 .iadd, e1 .iaload, e1 (.aload_n 0), e1 (.iload_n 3), eV (.iconst 2) 1 2, e1 .iadd, e1 .iaload, e1 (.aload_n 0), e1 (.iload_n 3), eV (.iconst 3) 1 3, e1 .iadd, e1 .iaload, eS (.invokevirtual 178) 147 3 175, none, none, e1 .pop, e1 (.aload_n 2), e1 (.aload_n 0)]
set_option maxRecDepth 100000 in
def cdL21 : Cd := [e1 (.iload_n 3), eV (.iconst 1) 1 1, e1 .iadd, e1 .iaload, e1 (.aload_n 0), e1 (.iload_n 3), eV (.iconst 2) 1 2, e1 .iadd, e1 .iaload, e1 (.aload_n 0), e1 (.iload_n 3), eV (.iconst 3) 1 3, e1 .iadd, e1 .iaload, eS (.invokevirtual 181) 256 3 290, none, none, e1 .pop, eA (.goto 184) 3 1714, none, none, e1 (.aload_n 1), e1 (.aload_n 0), e1 (.iload_n 3), eV (.iconst 1) 1 1, e1 .iadd, e1 .iaload, e1 (.aload_n 0), e1 (.iload_n 3), eV (.iconst 2) 1 2, e1 .iadd, e1 .iaload, e1 (.aload_n 0), e1 (.iload_n 3), eV (.iconst 3) 1 3, e1 .iadd, e1 .iaload, e1 (.aload_n 0), e1 (.iload_n 3), eV (.iconst 4) 1 4, e1 .iadd, e1 .iaload, e1 (.aload_n 0), e1 (.iload_n 3), eV (.iconst 5) 1 5, e1 .iadd, e1 .iaload, eS (.invokevirtual 182) 148 5 176, none, none, e1 .pop, e1 (.aload_n 2), e1 (.aload_n 0), e1 (.iload_n 3), eV (.iconst 1) 1 1, e1 .iadd, e1 .iaload, e1 (.aload_n 0), e1 (.iload_n 3), eV (.iconst 2) 1 2, e1 .iadd, e1 .iaload, e1 (.aload_n 0), e1 (.iload_n 3), eV (.iconst 3) 1 3, e1 .iadd, e1 .iaload, e1 (.aload_n 0), e1 (.iload_n 3), eV (.iconst 4) 1 4, e1 .iadd, e1 .iaload]
set_option maxRecDepth 100000 in
def cdL22 : Cd := [e1 (.aload_n 0), e1 (.iload_n 3), eV (.iconst 5) 1 5, e1 .iadd, e1 .iaload, eS (.invokevirtual 186) 257 5 291, none, none, e1 .pop, eA (.goto 121) 3 1714, none, none, e1 (.aload_n 1), e1 (.aload_n 0), e1 (.iload_n 3), eV (.iconst 1) 1 1, e1 .iadd, e1 .iaload, eS (.invokevirtual 187) 149 1 179, none, none, e1 .pop, e1 (.aload_n 2), e1 (.aload_n 0), e1 (.iload_n 3), eV (.iconst 1) 1 1, e1 .iadd, e1 .iaload, eS (.invokevirtual 190) 258 1 292, none, none, e1 .pop, eA (.goto 98) 3 1714, none, none, e1 (.aload_n 1), e1 (.aload_n 0), e1 (.iload_n 3), eV (.iconst 1) 1 1, e1 .iadd, e1 .iaload, eS (.invokevirtual 191) 150 1 181, none, none, e1 .pop, e1 (.aload_n 2), e1 (.aload_n 0), e1 (.iload_n 3), eV (.iconst 1) 1 1, e1 .iadd, e1 .iaload, eS (.invokevirtual 194) 259 1 293, none, none, e1 .pop, eA (.goto 75) 3 1714, none, none, e1 (.aload_n 1), e1 (.aload_n 0), e1 (.iload_n 3), eV (.iconst 1) 1 1, e1 .iadd, e1 .iaload, eS (.invokevirtual 195) 151 1 182, none, none, e1 .pop, e1 (.aload_n 2), e1 (.aload_n 0), e1 (.iload_n 3), eV (.iconst 1) 1 1]
set_option maxRecDepth 100000 in
def cdL23 : Cd := [e1 .iadd, e1 .iaload, eS (.invokevirtual 198) 261 1 294, none, none, e1 .pop, eA (.goto 52) 3 1714, none, none, e1 (.aload_n 1), eS (.invokevirtual 199) 153 0 188, none, none, e1 .pop, e1 (.aload_n 2), eS (.invokevirtual 202) 262 0 296, none, none, e1 .pop, eA (.goto 39) 3 1714, none, none, e1 (.aload_n 1), eS (.invokevirtual 203) 154 0 189, none, none, e1 .pop, e1 (.aload_n 2), eS (.invokevirtual 206) 263 0 297, none, none, e1 .pop, eA (.goto 26) 3 1714, none, none, e1 (.aload_n 1), e1 (.aload_n 0), e1 (.iload_n 3), eV (.iconst 1) 1 1, e1 .iadd, e1 .iaload, eS (.invokevirtual 207) 155 1 190, none, none, e1 .pop, e1 (.aload_n 2), e1 (.aload_n 0), e1 (.iload_n 3), eV (.iconst 1) 1 1, e1 .iadd, e1 .iaload, eS (.invokevirtual 210) 264 1 298, none, none, e1 .pop, eA (.goto 3) 3 1714, none, none, eV (.iinc 3 6) 3 6, none, none, eA (.goto (-1699)) 3 18, none, none, eV (.iconst 1) 1 1, e1 .ireturn]
def cdL : Cd := cdL0 ++ (cdL1 ++ (cdL2 ++ (cdL3 ++ (cdL4 ++ (cdL5 ++ (cdL6 ++ (cdL7 ++ (cdL8 ++ (cdL9 ++ (cdL10 ++ (cdL11 ++ (cdL12 ++ (cdL13 ++ (cdL14 ++ (cdL15 ++ (cdL16 ++ (cdL17 ++ (cdL18 ++ (cdL19 ++ (cdL20 ++ (cdL21 ++ (cdL22 ++ (cdL23)))))))))))))))))))))))
/-- the constructors, by class: the place of the return stands first among the numbers -/
def psK : List Mi := [(⟨RX0, "<init>", "(LPrisonShops$Rules;)V"⟩, prog_2_method_1_code, 2, none, 0, cdk0, (9, 1, (1, 127), (1, 126), (0, 0), (1, 7))),
  (⟨RX1, "<init>", "()V"⟩, prog_3_method_1_code, 1, none, 1, cdk1, (97, 0, (1, 159), (1, 158), (0, 0), (1, 9))),
  (⟨RX2, "<init>", "()V"⟩, prog_4_method_1_code, 1, none, 2, cdk2, (38, 0, (1, 137), (1, 136), (0, 0), (1, 8))),
  (⟨RX3, "<init>", "()V"⟩, prog_5_method_1_code, 1, none, 3, cdk3, (17, 0, (1, 110), (1, 109), (0, 0), (1, 6))),
  (⟨RX4, "<init>", "(LPrisonShops$Tape;)V"⟩, prog_6_method_1_code, 2, none, 4, cdk4, (76, 1, (1, 218), (1, 217), (0, 0), (1, 11))),
  (⟨RX5, "<init>", "()V"⟩, prog_7_method_1_code, 1, none, 5, cdk5, (15, 0, (1, 104), (1, 103), (0, 0), (1, 5))),
  (⟨RX6, "<init>", "()V"⟩, prog_8_method_1_code, 1, none, 6, cdk6, (42, 0, (2, 23), (2, 22), (0, 0), (1, 12))),
  (⟨RX7, "<init>", "()V"⟩, prog_9_method_1_code, 1, none, 7, cdk7, (87, 0, (1, 33), (1, 32), (0, 0), (1, 2))),
  (⟨RX8, "<init>", "(II)V"⟩, prog_10_method_1_code, 3, none, 8, cdk8, (42, 2, (1, 39), (1, 38), (0, 0), (1, 3))),
  (⟨RX9, "<init>", "()V"⟩, prog_11_method_1_code, 1, none, 9, cdk9, (17, 0, (1, 205), (1, 204), (0, 0), (1, 10))),
  (⟨RX10, "<init>", "()V"⟩, prog_1_method_1_code, 1, none, 10, cdk10, (140, 0, (1, 25), (1, 24), (0, 0), (1, 1))),
  (⟨RX11, "<init>", "()V"⟩, prog_13_method_1_code, 2, none, 11, cdk11, (169, 0, (5, 187), (5, 186), (0, 0), (1, 13)))]
def kcT : List (Nat × Nat × Nat × Nat × (Nat × Nat) × (Nat × Nat) × (Nat × Nat)) := [(13, 7, 10, 13, (1, 21), (1, 22), (1, 1)), (10, 9, 7, 7, (1, 29), (1, 30), (1, 2)), (7, 9, 8, 4, (1, 35), (1, 36), (1, 3)), (10, 22, 5, 1, (1, 100), (1, 101), (1, 5)), (5, 9, 3, 2, (1, 106), (1, 107), (1, 6)), (10, 29, 0, 1, (1, 123), (1, 124), (1, 7)), (10, 38, 2, 5, (1, 133), (1, 134), (1, 8)), (10, 45, 1, 13, (1, 155), (1, 156), (1, 9)), (10, 52, 9, 2, (1, 201), (1, 202), (1, 10)), (10, 59, 4, 12, (1, 214), (1, 215), (1, 11)), (4, 9, 3, 2, (1, 220), (1, 107), (1, 6)), (10, 68, 6, 3, (2, 19), (2, 20), (1, 12)), (13, 10, 11, 36, (5, 183), (5, 184), (1, 13))]
def kmT : List (Nat × Nat × Nat × Nat × Nat) := [(13, 9, 10, (1, 23)), (10, 3, 99, (1, 26)), (7, 3, 99, (1, 34)), (7, 11, 8, (1, 37)), (8, 3, 99, (1, 40)), (5, 3, 99, (1, 105)), (3, 3, 99, (1, 111)), (10, 31, 0, (1, 125)), (0, 3, 99, (1, 128)), (2, 3, 99, (1, 138)), (1, 3, 99, (1, 160)), (9, 3, 99, (1, 206)), (10, 61, 4, (1, 216)), (4, 3, 99, (1, 219)), (6, 3, 99, (2, 24)), (13, 12, 11, (5, 185)), (11, 1, 99, (5, 188))]
def nsT : List (Nat × Nat × Nat × String) := [(10, 11, 7, "PrisonShops"), (10, 24, 5, "PrisonShops"), (5, 11, 3, "PrisonShops"), (10, 40, 2, "PrisonShops"), (10, 47, 1, "PrisonShops"), (10, 54, 9, "PrisonShops"), (4, 11, 3, "PrisonShops"), (10, 70, 6, "PrisonShops")]
abbrev lbq8 : Nat × Nat := (1, 27)
abbrev lbq9 : Nat × Nat := (1, 28)
abbrev lbq10 : Nat × Nat := (1, 57)
abbrev lbq11 : Nat × Nat := (2, 35)
abbrev lbq12 : Nat × Nat := (6, 58)
abbrev lbq0 : Nat × Nat := (1, 42)
abbrev lbq1 : Nat × Nat := (2, 226)
abbrev lbq2 : Nat × Nat := (1, 4)
abbrev lbq3 : Nat × Nat := (3, 11)
abbrev lbq4 : Nat × Nat := (3, 10)
abbrev lbq5 : Nat × Nat := (1, 15)
abbrev lbq6 : Nat × Nat := (1, 43)
abbrev lbq7 : Nat × Nat := (2, 227)
def strT : List (Nat × String × Nat) := [(132, "pay", 1000), (134, "lost", 1001), (136, "victim", 1002), (138, "save", 1003), (140, "least", 1004), (142, "days", 1005), (144, "nkr", 1006), (146, "k", 1007), (148, "go", 1008), (150, "gt", 1009), (152, "g", 1010), (154, "wk", 1011)]
end
section
/-! A small machine over the fixed object graph of class and reference: what a method's bytecode does there, as one function of a configuration (place, locals, stack, heap). Part 04 ties it to the machine itself. -/
/-- the heap: ints by object and place, longs likewise, and the script -/
abbrev Hp : Type := (Nat → Int32 → Int32) × (Nat → Int32 → Int64) × Nat × (Nat → Int32)
abbrev Lc : Type := List (Option Value)
abbrev Cf : Type := Nat × Lc × List Value × Hp
def hI (h : Hp) (i : Nat) (j v : Int32) : Hp := (fun a b => if a = i ∧ b = j then v else h.1 a b, h.2)
def hL (h : Hp) (i : Nat) (j : Int32) (v : Int64) : Hp := (h.1, fun a b => if a = i ∧ b = j then v else h.2.1 a b, h.2.2)
def hC (h : Hp) (s : Nat) (sp : Int32) (d : Nat) (dp n : Int32) : Hp := (fun a b => if a = d ∧ dp ≤ b ∧ b < dp + n then h.1 s (sp + (b - dp)) else h.1 a b, h.2)
def hCL (h : Hp) (s : Nat) (sp : Int32) (d : Nat) (dp n : Int32) : Hp := (h.1, fun a b => if a = d ∧ dp ≤ b ∧ b < dp + n then h.2.1 s (sp + (b - dp)) else h.2.1 a b, h.2.2)
set_option maxRecDepth 100000 in
def oT : List (Nat × Nat × List (Option Value)) := [(3, 10, [some (.ref 1), some (.ref 12), some (.ref 23), some (.ref 34), some (.ref 37), some (.ref 38), some (.ref 42), some (.ref 53), some (.ref 55), some (.ref 60), some (.ref 64), none, none]),
  (3, 7, [some (.ref 2), some (.ref 4), some (.ref 6), some (.ref 8), some (.ref 10), none, none]),
  (3, 8, [some (.int 8), some (.ref 3), none, some (.int 3)]),
  (0, 24, []),
  (3, 8, [some (.int 14), some (.ref 5), none, some (.int 10)]),
  (0, 140, []),
  (3, 8, [some (.int 8), some (.ref 7), none, some (.int 30)]),
  (0, 240, []),
  (3, 8, [some (.int 100), some (.ref 9), none, some (.int 12)]),
  (0, 1200, []),
  (3, 8, [some (.int 4), some (.ref 11), none, some (.int 40)]),
  (0, 160, []),
  (3, 7, [some (.ref 13), some (.ref 15), some (.ref 17), some (.ref 19), some (.ref 21), none, none]),
  (3, 8, [some (.int 8), some (.ref 14), none, some (.int 3)]),
  (0, 24, []),
  (3, 8, [some (.int 14), some (.ref 16), none, some (.int 10)]),
  (0, 140, []),
  (3, 8, [some (.int 8), some (.ref 18), none, some (.int 30)]),
  (0, 240, []),
  (3, 8, [some (.int 100), some (.ref 20), none, some (.int 12)]),
  (0, 1200, []),
  (3, 8, [some (.int 4), some (.ref 22), none, some (.int 40)]),
  (0, 160, []),
  (3, 7, [some (.ref 24), some (.ref 26), some (.ref 28), some (.ref 30), some (.ref 32), none, none]),
  (3, 8, [some (.int 8), some (.ref 25), none, some (.int 3)]),
  (0, 24, []),
  (3, 8, [some (.int 14), some (.ref 27), none, some (.int 10)]),
  (0, 140, []),
  (3, 8, [some (.int 8), some (.ref 29), none, some (.int 30)]),
  (0, 240, []),
  (3, 8, [some (.int 100), some (.ref 31), none, some (.int 12)]),
  (0, 1200, []),
  (3, 8, [some (.int 4), some (.ref 33), none, some (.int 40)]),
  (0, 160, []),
  (3, 5, [some (.ref 35)]),
  (3, 3, [some (.ref 36), none]),
  (0, 96, []),
  (3, 0, [some (.ref 34)]),
  (3, 2, [some (.ref 39), some (.ref 40), some (.ref 41), none, none]),
  (0, 30, []),
  (0, 10, []),
  (0, 10, []),
  (3, 1, [some (.ref 43), some (.ref 44), some (.ref 45), some (.ref 46), some (.ref 47), some (.ref 48), some (.ref 49), some (.ref 50), some (.ref 51), some (.ref 52), none, none, none]),
  (0, 10, []),
  (0, 10, []),
  (0, 10, []),
  (0, 3, []),
  (0, 3, []),
  (0, 10, []),
  (0, 10, []),
  (0, 11, []),
  (0, 121, []),
  (0, 11, []),
  (3, 9, [some (.ref 54), none]),
  (0, 96, []),
  (3, 4, [some (.ref 53), some (.ref 56), some (.ref 58), none, none, none, none, none, none, none, none, none]),
  (3, 3, [some (.ref 57), none]),
  (0, 96, []),
  (3, 3, [some (.ref 59), none]),
  (0, 96, []),
  (3, 6, [some (.ref 61), some (.ref 62), some (.ref 63)]),
  (0, 4, []),
  (0, 4, []),
  (1, 96, []),
  (0, 60, []),
  (3, 11, [some (.ref 66), some (.ref 67), some (.ref 68), none, some (.ref 69), some (.ref 70), some (.ref 71), some (.ref 72), some (.ref 73), some (.ref 74), none, none, some (.ref 75), some (.ref 76), some (.ref 77), some (.ref 78), none, none, none, none, none, none, none, none, none, none, none, some (.ref 79), some (.ref 80), none, none, none, some (.ref 81), some (.ref 82), none, some (.ref 83)]),
  (0, 3400, []),
  (0, 3400, []),
  (0, 3400, []),
  (0, 4, []),
  (0, 4, []),
  (1, 96, []),
  (0, 10, []),
  (0, 10, []),
  (0, 3, []),
  (2, 30, []),
  (0, 10, []),
  (0, 10, []),
  (0, 96, []),
  (0, 128, []),
  (0, 100, []),
  (1, 24, []),
  (0, 60, []),
  (0, 60, [])]
abbrev psNO : Nat := 84
def oK (i : Nat) : Nat := (oT.getD i (9, 0, [])).1
def oP (i : Nat) : Nat := (oT.getD i (9, 0, [])).2.1
def oF (i : Nat) : List (Option Value) := (oT.getD i (9, 0, [])).2.2
/-- the tables that nobody writes: the four of the class; 1300: the script -/
def roT (i : Nat) : List Int32 := if i = 1200 then [-1, 0, 1, 2, 0, 4] else if i = 1201 then [0, 0, 0, 0, 0, 1] else if i = 1202 then [0, 0, 3, 3, 9999, 9999] else if i = 1203 then [0, 0, 0, 0, 0, 999] else []
def aln (h : Hp) (r : Nat) : Nat := if r < 1000 then oP r else if r = 1300 then h.2.2.1 else (roT r).length
def agt (h : Hp) (r : Nat) (j : Int32) : Int32 := if r < 1000 then h.1 r j else if r = 1300 then h.2.2.2 j.toNatClampNeg else (roT r).getD j.toNatClampNeg 0
/-- a place of an array of so many -/
def ibd (j : Int32) (n : Nat) : Prop := 0 ≤ j ∧ j < nI n
/-- an array of ints, or a table -/
def isIA (r : Nat) : Bool := if r < 1000 then oK r == 0 else r == 1300 || (1200 ≤ r && r ≤ 1203)
def isCl (r a : Nat) : Bool := r < 1000 && oK r == 3 && oP r == a
def gfv (h : Hp) (r b : Nat) (k : Int32) : Option Value := match (oF r)[b]? with
  | some (some v) => some v
  | some none => some (.int (h.1 r k))
  | none => none
/-- a field of kind boolean -/
def isZf (a b : Nat) : Bool := (a == 10 && b == 12) || (a == 4 && b == 9) || (a == 11 && b == 3)
def isB (v : Int32) : Prop := v = 0 ∨ v = 1
def pfG (a b : Nat) (v : Int32) : Prop := if isZf a b = true then isB v else True
def isLong (v : Option (Option Value)) : Bool := match v with
  | some (some v) => v.category == 2
  | _ => false
def swt : List (Int32 × Nat) → Nat → Int32 → Nat
  | [], d, _ => d
  | (k, t) :: r, d, x => if x = k then t else swt r d x
abbrev St : Type := Option (Prop × Cf)
def fLdI (ls : Lc) (k n pc : Nat) (st : List Value) (h : Hp) : St := match ls[k]? with
  | some (some (.int x)) => some (True, pc + n, ls, .int x :: st, h)
  | _ => none
def fLdL (ls : Lc) (k n pc : Nat) (st : List Value) (h : Hp) : St := match ls[k]? with
  | some (some (.long x)) => some (True, pc + n, ls, .long x :: st, h)
  | _ => none
def fLdA (ls : Lc) (k n pc : Nat) (st : List Value) (h : Hp) : St := match ls[k]? with
  | some (some (.ref x)) => some (True, pc + n, ls, .ref x :: st, h)
  | _ => none
def fSt (ls : Lc) (k n pc : Nat) (v : Value) (st : List Value) (h : Hp) : St := if isLong ls[k]? = true then none else if isLong ls[k - 1]? = true then none else if k < ls.length then some (True, pc + n, ls.set k (some v), st, h) else none
def fStI (ls : Lc) (k n pc : Nat) (st : List Value) (h : Hp) : St := match st with
  | .int x :: r => fSt ls k n pc (.int x) r h
  | _ => none
def fI2 (f : Int32 → Int32 → Int32) (ls : Lc) (pc : Nat) (st : List Value) (h : Hp) : St := match st with
  | .int y :: .int x :: r => some (True, pc + 1, ls, .int (f x y) :: r, h)
  | _ => none
def fI2g (f : Int32 → Int32 → Int32) (ls : Lc) (pc : Nat) (st : List Value) (h : Hp) : St := match st with
  | .int y :: .int x :: r => some (¬ y = 0, pc + 1, ls, .int (f x y) :: r, h)
  | _ => none
def fI1 (f : Int32 → Int32) (ls : Lc) (pc : Nat) (st : List Value) (h : Hp) : St := match st with
  | .int x :: r => some (True, pc + 1, ls, .int (f x) :: r, h)
  | _ => none
def fL2 (f : Int64 → Int64 → Int64) (ls : Lc) (pc : Nat) (st : List Value) (h : Hp) : St := match st with
  | .long y :: .long x :: r => some (True, pc + 1, ls, .long (f x y) :: r, h)
  | _ => none
def fLI (f : Int64 → Int32 → Int64) (ls : Lc) (pc : Nat) (st : List Value) (h : Hp) : St := match st with
  | .int y :: .long x :: r => some (True, pc + 1, ls, .long (f x y) :: r, h)
  | _ => none
def fIf (q : ClassFile.Cond) (a : Nat) (ls : Lc) (pc : Nat) (st : List Value) (h : Hp) : St := match st with
  | .int x :: r => some (True, (match q with
    | .eq => if x = 0 then a else pc + 3
    | .ne => if x = 0 then pc + 3 else a
    | .lt => if x < 0 then a else pc + 3
    | .ge => if 0 ≤ x then a else pc + 3
    | .gt => if 0 < x then a else pc + 3
    | .le => if x ≤ 0 then a else pc + 3), ls, r, h)
  | _ => none
def fIc (q : ClassFile.Cond) (a : Nat) (ls : Lc) (pc : Nat) (st : List Value) (h : Hp) : St := match st with
  | .int y :: .int x :: r => some (True, (match q with
    | .eq => if x = y then a else pc + 3
    | .ne => if x = y then pc + 3 else a
    | .lt => if x < y then a else pc + 3
    | .ge => if y ≤ x then a else pc + 3
    | .gt => if y < x then a else pc + 3
    | .le => if x ≤ y then a else pc + 3), ls, r, h)
  | _ => none
def fGf (a b : Nat) (k : Int32) (ls : Lc) (pc : Nat) (st : List Value) (h : Hp) : St := match st with
  | .ref r :: t => if isCl r a = true then (match gfv h r b k with
    | some v => some (True, pc + 3, ls, v :: t, h)
    | none => none) else none
  | _ => none
def fPf (a b : Nat) (k : Int32) (ls : Lc) (pc : Nat) (st : List Value) (h : Hp) : St := match st with
  | .int v :: .ref r :: t => if isCl r a = true then (match (oF r)[b]? with
    | some none => some (pfG a b v, pc + 3, ls, t, hI h r k v)
    | _ => none) else none
  | _ => none
def fAl (ls : Lc) (pc : Nat) (st : List Value) (h : Hp) : St := match st with
  | .ref r :: t => if isIA r = true then some (True, pc + 1, ls, .int (nI (aln h r)) :: t, h) else none
  | _ => none
def fIal (ls : Lc) (pc : Nat) (st : List Value) (h : Hp) : St := match st with
  | .int j :: .ref r :: t => if isIA r = true then some (ibd j (aln h r), pc + 1, ls, .int (agt h r j) :: t, h) else none
  | _ => none
def fBal (ls : Lc) (pc : Nat) (st : List Value) (h : Hp) : St := match st with
  | .int j :: .ref r :: t => if r < 1000 ∧ oK r = 2 then some (ibd j (oP r), pc + 1, ls, .int (h.1 r j) :: t, h) else none
  | _ => none
def fLal (ls : Lc) (pc : Nat) (st : List Value) (h : Hp) : St := match st with
  | .int j :: .ref r :: t => if r < 1000 ∧ oK r = 1 then some (ibd j (oP r), pc + 1, ls, .long (h.2.1 r j) :: t, h) else none
  | _ => none
def fIas (ls : Lc) (pc : Nat) (st : List Value) (h : Hp) : St := match st with
  | .int v :: .int j :: .ref r :: t => if r < 1000 ∧ oK r = 0 then some (ibd j (oP r), pc + 1, ls, t, hI h r j v) else none
  | _ => none
def fBas (ls : Lc) (pc : Nat) (st : List Value) (h : Hp) : St := match st with
  | .int v :: .int j :: .ref r :: t => if r < 1000 ∧ oK r = 2 then some (ibd j (oP r) ∧ isB v, pc + 1, ls, t, hI h r j v) else none
  | _ => none
def fLas (ls : Lc) (pc : Nat) (st : List Value) (h : Hp) : St := match st with
  | .long v :: .int j :: .ref r :: t => if r < 1000 ∧ oK r = 1 then some (ibd j (oP r), pc + 1, ls, t, hL h r j v) else none
  | _ => none
/-- may so many places be copied? -/
def cpG (sp dp n : Int32) (ls ld : Nat) : Prop := 0 ≤ sp ∧ 0 ≤ dp ∧ 0 ≤ n ∧ n ≤ nI ls ∧ sp ≤ nI ls - n ∧ n ≤ nI ld ∧ dp ≤ nI ld - n
def fLib (a : Nat) (ls : Lc) (pc : Nat) (st : List Value) (h : Hp) : St := match st with
  | .int y :: .int x :: r => if Nat.ble (r.map fun v => v.category).sum 16 = false then none else if a = 1001 then some (True, pc + 3, ls, .int (if x < y then y else x) :: r, h) else if a = 1002 then some (True, pc + 3, ls, .int (if y < x then y else x) :: r, h) else (match r with
    | .ref d :: .int sp :: .ref s :: t => if a = 1003 then (if d < 1000 ∧ s < 1000 ∧ oK d = 0 ∧ oK s = 0 then some (cpG sp x y (oP s) (oP d), pc + 3, ls, t, hC h s sp d x y)
      else if d < 1000 ∧ s < 1000 ∧ oK d = 1 ∧ oK s = 1 then some (cpG sp x y (oP s) (oP d), pc + 3, ls, t, hCL h s sp d x y) else none) else none
    | _ => none)
  | _ => none
def stI (i : Instr) (a b : Nat) (v : Int32) (w : Int64) (sw : List (Int32 × Nat)) (pc : Nat) (ls : Lc) (st : List Value) (h : Hp) : St := match i with
  | .iload_n k => fLdI ls k 1 pc st h
  | .iload k => fLdI ls k 2 pc st h
  | .aload_n k => fLdA ls k 1 pc st h
  | .aload k => fLdA ls k 2 pc st h
  | .lload_n k => fLdL ls k 1 pc st h
  | .lload k => fLdL ls k 2 pc st h
  | .istore_n k => fStI ls k 1 pc st h
  | .istore k => fStI ls k 2 pc st h
  | .iconst _ => some (True, pc + 1, ls, .int v :: st, h)
  | .bipush _ => some (True, pc + 2, ls, .int v :: st, h)
  | .sipush _ => some (True, pc + 3, ls, .int v :: st, h)
  | .lconst _ => some (True, pc + 1, ls, .long w :: st, h)
  | .ldc _ => if a = 0 then some (True, pc + 2, ls, .int v :: st, h) else some (True, pc + 2, ls, .ref a :: st, h)
  | .ldc_w _ => some (True, pc + 3, ls, .int v :: st, h)
  | .ldc2_w _ => some (True, pc + 3, ls, .long w :: st, h)
  | .iadd => fI2 (fun x y => x + y) ls pc st h
  | .isub => fI2 (fun x y => x - y) ls pc st h
  | .imul => fI2 (fun x y => x * y) ls pc st h
  | .iand => fI2 (fun x y => x &&& y) ls pc st h
  | .ior => fI2 (fun x y => x ||| y) ls pc st h
  | .ixor => fI2 (fun x y => x ^^^ y) ls pc st h
  | .ishl => fI2 (fun x y => x <<< (y &&& 31)) ls pc st h
  | .ishr => fI2 (fun x y => x >>> (y &&& 31)) ls pc st h
  | .iushr => fI2 (fun x y => (x.toUInt32 >>> (y.toUInt32 &&& Int32.toUInt32 31)).toInt32) ls pc st h
  | .idiv => fI2g (fun x y => x / y) ls pc st h
  | .irem => fI2g (fun x y => x - x / y * y) ls pc st h
  | .ineg => fI1 (fun x => -x) ls pc st h
  | .i2b => fI1 (fun x => x.toInt8.toInt32) ls pc st h
  | .i2s => fI1 (fun x => x.toInt16.toInt32) ls pc st h
  | .i2c => fI1 (fun x => (x.toUInt32 % 65536).toInt32) ls pc st h
  | .i2l => (match st with
    | .int x :: r => some (True, pc + 1, ls, .long x.toInt64 :: r, h)
    | _ => none)
  | .l2i => (match st with
    | .long x :: r => some (True, pc + 1, ls, .int x.toInt32 :: r, h)
    | _ => none)
  | .ladd => fL2 (fun x y => x + y) ls pc st h
  | .lsub => fL2 (fun x y => x - y) ls pc st h
  | .lmul => fL2 (fun x y => x * y) ls pc st h
  | .lshl => fLI (fun x y => x <<< (y.toInt64 &&& 63)) ls pc st h
  | .lshr => fLI (fun x y => x >>> (y.toInt64 &&& 63)) ls pc st h
  | .lcmp => (match st with
    | .long y :: .long x :: r => some (True, pc + 1, ls, .int (lg_cmp x y) :: r, h)
    | _ => none)
  | .iinc k _ => (match ls[k]? with
    | some (some (.int x)) => fSt ls k 3 pc (.int (x + v)) st h
    | _ => none)
  | .ifCond q _ => fIf q a ls pc st h
  | .if_icmp q _ => fIc q a ls pc st h
  | .goto _ => some (True, a, ls, st, h)
  | .ifnull _ => (match st with
    | .ref _ :: r => some (True, pc + 3, ls, r, h)
    | _ => none)
  | .ifnonnull _ => (match st with
    | .ref _ :: r => some (True, a, ls, r, h)
    | _ => none)
  | .getfield _ => fGf a b v ls pc st h
  | .putfield _ => fPf a b v ls pc st h
  | .getstatic _ => some (True, pc + 3, ls, .ref a :: st, h)
  | .arraylength => fAl ls pc st h
  | .iaload => fIal ls pc st h
  | .baload => fBal ls pc st h
  | .laload => fLal ls pc st h
  | .iastore => fIas ls pc st h
  | .bastore => fBas ls pc st h
  | .lastore => fLas ls pc st h
  | .dup => (match st with
    | .int x :: r => some (True, pc + 1, ls, .int x :: .int x :: r, h)
    | .ref x :: r => some (True, pc + 1, ls, .ref x :: .ref x :: r, h)
    | _ => none)
  | .pop => (match st with
    | .int _ :: r => some (True, pc + 1, ls, r, h)
    | .ref _ :: r => some (True, pc + 1, ls, r, h)
    | _ => none)
  | .dup2 => (match st with
    | .int x :: .ref y :: r => some (True, pc + 1, ls, .int x :: .ref y :: .int x :: .ref y :: r, h)
    | _ => none)
  | .tableswitch _ _ _ _ => (match st with
    | .int x :: r => some (True, swt sw a x, ls, r, h)
    | _ => none)
  | .lookupswitch _ _ => (match st with
    | .int x :: r => some (True, swt sw a x, ls, r, h)
    | _ => none)
  | .invokestatic _ => if a < 1000 then none else fLib a ls pc st h
  | _ => none
def cdAt (cd : Cd) (pc : Nat) : Option En := match cd[pc]? with
  | some (some q) => some q
  | _ => none
/-- one step: what must hold for it, and where it leads -/
def stp (cd : Cd) (z : Cf) : St := match cdAt cd z.1 with
  | some (i, _, a, b, v, w, sw) => stI i a b v w sw z.1 z.2.1 z.2.2.1 z.2.2.2
  | none => none
/-- a call: the method's number, its arguments (the receiver too), what stays on the stack -/
def cal (cd : Cd) (z : Cf) : Option (Nat × Nat) := match cdAt cd z.1 with
  | some (.invokevirtual _, _, a, b, _) => some (a, b + 1)
  | some (.invokestatic _, _, a, b, _) => if a < 1000 then some (a, b) else none
  | _ => none
def rok (rt : Option FieldType) (i : Instr) (st : List Value) : Option (Prop × Option Value) := match i, st with
  | .ireturn, [.int v] => (match rt with
    | some .int => some (True, some (.int v))
    | some .boolean => some (isB v, some (.int v))
    | _ => none)
  | .lreturn, [.long v] => if rt = some .long then some (True, some (.long v)) else none
  | .areturn, [.ref v] => if rt = some (.object "java/lang/String") then some (True, some (.ref v)) else none
  | .return_, [] => if rt = none then some (True, none) else none
  | _, _ => none
def rtp (cd : Cd) (rt : Option FieldType) (z : Cf) : Option (Prop × Option Value) := match cdAt cd z.1 with
  | some (i, _) => rok rt i z.2.2.1
  | none => none
/-- the judgement: X holds at a configuration if it holds where a step, a call's return, leads; at a return the post holds -/
def Clo (C : Nat → List Value → Hp → (Option Value → Hp → Prop) → Prop) (cd : Cd) (rt : Option FieldType) (Q : Option Value → Hp → Prop) (X : Cf → Prop) : Prop :=
  (∀ (z z' : Cf) (G : Prop), stp cd z = some (G, z') → G → X z' → X z) ∧
  (∀ (pc : Nat) (ls : Lc) (st : List Value) (h : Hp) (mid n : Nat) (as rest : List Value), cal cd (pc, ls, st, h) = some (mid, n) → as.length = n → st = as.reverse ++ rest → (rest.map fun v => v.category).sum ≤ 8 → C mid as h (fun r h' => X (pc + 3, ls, r.toList ++ rest, h')) → X (pc, ls, st, h)) ∧
  (∀ (z : Cf) (G : Prop) (r : Option Value), rtp cd rt z = some (G, r) → G → Q r z.2.2.2 → X z)
def eL : List Value → Lc
  | [] => []
  | v :: vs => if v.category = 2 then some v :: none :: eL vs else some v :: eL vs
def eLn (n : Nat) (as : List Value) : Lc := eL as ++ List.replicate (n - (eL as).length) none
/-- String's own three methods, of a constant of the class -/
def stT' : List (List Nat) := [[112, 97, 121], [108, 111, 115, 116], [118, 105, 99, 116, 105, 109], [115, 97, 118, 101], [108, 101, 97, 115, 116], [100, 97, 121, 115], [110, 107, 114], [107], [103, 111], [103, 116], [103], [119, 107]]
def sIx : List Nat → Int32 → Nat → Int32
  | [], _, _ => -1
  | c :: r, x, k => if x = nI c then nI k else sIx r x (k + 1)
def lib (mid : Nat) (as : List Value) (h : Hp) (Q : Option Value → Hp → Prop) : Prop := match as with
  | [.ref r] => mid = 900 ∧ ∃ i l, r = 1000 + i ∧ stT'[i]? = some l ∧ Q (some (.int (nI l.length))) h
  | [.ref r, .int x] => (∃ i l, r = 1000 + i ∧ stT'[i]? = some l ∧ ((mid = 901 ∧ ∃ k c, x = nI k ∧ l[k]? = some c ∧ Q (some (.int (nI c))) h) ∨ (mid = 902 ∧ (0 ≤ x ∧ x ≤ 65535) ∧ Q (some (.int (sIx l x 0))) h)))
  | _ => False
/-- the receiver is an object of the method's class -/
def rcv (k o : Nat) (as : List Value) : Prop := if k = 0 then True else ∃ r t, as = .ref r :: t ∧ isCl r o = true
def Call : Nat → Nat → List Value → Hp → (Option Value → Hp → Prop) → Prop
  | 0, _, _, _, _ => False
  | d + 1, mid, as, h, Q => (lib mid as h Q) ∨ ∃ y b ml rt o cd q, psM[mid]? = some (y, b, ml, rt, o, cd, q) ∧ (eL as).length ≤ ml ∧ as.length = (if q.1 = 0 then q.2.1 else q.2.1 + 1) ∧ rcv q.1 o as ∧ ∀ X : Cf → Prop, Clo (Call d) cd rt Q X → X (0, eLn ml as, [], h)
end
section
/-! What stands at a place of the bytes, byte by byte: one look at an instruction, its length in bytes alone. -/
def dK (pc : Nat) : { K : Nat → Decoder Instr // Decoder.instr pc = (Reader.u1 >>= K) } := ⟨_, rfl⟩
theorem dr_bind {α β : Type} {m : Decoder α} {f : α → Decoder β} {c : ByteArray} {p q : Nat} {a : α} (h : Reader.runAt m c p = .ok (a, q)) : Reader.runAt (m >>= f) c p = Reader.runAt (f a) c q := by
  have h : m c p = .ok (a, q) := h
  show Except.bind (m c p) (fun r => f r.1 c r.2) = f a c q
  rw [h]
  rfl
theorem dr_u1 {c : ByteArray} {p : Nat} {b : UInt8} {r : List UInt8} (h : c.data.toList.drop p = b :: r) : Reader.runAt (Reader.u1 : Decoder Nat) c p = .ok (b.toNat, p + 1) := by
  have hp : p < c.data.toList.length := by
    rcases Nat.lt_or_ge p c.data.toList.length with h1 | h1
    · exact h1
    · rw [List.drop_eq_nil_of_le h1] at h; cases h
  have hb : c.data.toList[p] = b := by
    rw [List.drop_eq_getElem_cons hp] at h
    exact (List.cons.inj h).1
  have hp' : p < c.size := hp
  have e : c[p] = b := hb
  show (if h : p < c.size then (do set (p + 1); pure c[p].toNat : Decoder Nat) else throw (HasTruncated.truncated p)) c p = _
  rw [dif_pos hp', e]
  rfl
theorem dr_tl {c : ByteArray} {p : Nat} {b : UInt8} {r : List UInt8} (h : c.data.toList.drop p = b :: r) : c.data.toList.drop (p + 1) = r := by
  rw [← List.drop_drop, h]
  rfl
theorem dr_u2 {c : ByteArray} {p : Nat} {x y : UInt8} {r : List UInt8} (h : c.data.toList.drop p = x :: y :: r) : Reader.runAt (Reader.u2 : Decoder Nat) c p = .ok (x.toNat * 256 + y.toNat, p + 2) :=
  (dr_bind (f := fun hi => do let lo ← Reader.u1; pure (hi * 256 + lo)) (dr_u1 h)).trans (dr_bind (f := fun lo => pure (x.toNat * 256 + lo)) (dr_u1 (dr_tl h)))
theorem dr_s1 {c : ByteArray} {p : Nat} {x : UInt8} {r : List UInt8} (h : c.data.toList.drop p = x :: r) : Reader.runAt (Reader.s1 : Decoder Int) c p = .ok (Reader.signed 8 x.toNat, p + 1) := by
  have e : (Reader.u1 : Decoder Nat) c p = .ok (x.toNat, p + 1) := dr_u1 h
  show Except.map _ ((Reader.u1 : Decoder Nat) c p) = _
  rw [e]
  rfl
theorem dr_s2 {c : ByteArray} {p : Nat} {x y : UInt8} {r : List UInt8} (h : c.data.toList.drop p = x :: y :: r) : Reader.runAt (Reader.s2 : Decoder Int) c p = .ok (Reader.signed 16 (x.toNat * 256 + y.toNat), p + 2) := by
  have e : (Reader.u2 : Decoder Nat) c p = .ok (x.toNat * 256 + y.toNat, p + 2) := dr_u2 h
  show Except.map _ ((Reader.u2 : Decoder Nat) c p) = _
  rw [e]
  rfl
theorem dr_ins {c : ByteArray} {pc n k : Nat} {i : Instr} {b : UInt8} {r : List UInt8} (h : c.data.toList.drop pc = b :: r) (hb : b.toNat = k) (hk : Reader.runAt ((dK pc).1 k) c (pc + 1) = .ok (i, pc + n)) : decode c pc = .ok (i, n) := by
  have h1 : Reader.runAt (Decoder.instr pc) c pc = .ok (i, pc + n) := by
    rw [(dK pc).2, dr_bind (dr_u1 h), hb]
    exact hk
  show Except.bind (Reader.runAt (Decoder.instr pc) c pc) (fun r => pure (r.1, r.2 - pc)) = _
  rw [h1]
  show Except.ok (i, pc + n - pc) = _
  rw [Nat.add_sub_cancel_left]
/-- the first byte of those with no operand -/
def op0 : Instr → Option Nat
  | .iconst v => if v = -1 then some 2 else if v = 0 then some 3 else if v = 1 then some 4 else if v = 2 then some 5 else if v = 3 then some 6 else if v = 4 then some 7 else if v = 5 then some 8 else none
  | .lconst v => if v = 0 then some 9 else some 10
  | .iload_n k => if k = 0 then some 26 else if k = 1 then some 27 else if k = 2 then some 28 else some 29
  | .lload_n k => if k = 0 then some 30 else if k = 1 then some 31 else if k = 2 then some 32 else some 33
  | .aload_n k => if k = 0 then some 42 else if k = 1 then some 43 else if k = 2 then some 44 else some 45
  | .istore_n k => if k = 0 then some 59 else if k = 1 then some 60 else if k = 2 then some 61 else some 62
  | .astore_n k => if k = 0 then some 75 else if k = 1 then some 76 else if k = 2 then some 77 else some 78
  | .iaload => some 46
  | .laload => some 47
  | .baload => some 51
  | .iastore => some 79
  | .lastore => some 80
  | .bastore => some 84
  | .pop => some 87
  | .dup => some 89
  | .dup2 => some 92
  | .iadd => some 96
  | .ladd => some 97
  | .isub => some 100
  | .lsub => some 101
  | .imul => some 104
  | .lmul => some 105
  | .idiv => some 108
  | .irem => some 112
  | .ineg => some 116
  | .ishl => some 120
  | .lshl => some 121
  | .ishr => some 122
  | .lshr => some 123
  | .iushr => some 124
  | .iand => some 126
  | .ior => some 128
  | .ixor => some 130
  | .i2l => some 133
  | .l2i => some 136
  | .i2b => some 145
  | .i2c => some 146
  | .i2s => some 147
  | .lcmp => some 148
  | .ireturn => some 172
  | .lreturn => some 173
  | .areturn => some 176
  | .return_ => some 177
  | .arraylength => some 190
  | _ => none
def op1 : Instr → Option (Nat × Nat)
  | .ldc k => some (18, k)
  | .iload k => some (21, k)
  | .lload k => some (22, k)
  | .aload k => some (25, k)
  | .istore k => some (54, k)
  | _ => none
def op2 : Instr → Option (Nat × Nat)
  | .ldc_w k => some (19, k)
  | .ldc2_w k => some (20, k)
  | .getstatic k => some (178, k)
  | .getfield k => some (180, k)
  | .putfield k => some (181, k)
  | .invokevirtual k => some (182, k)
  | .invokespecial k => some (183, k)
  | .invokestatic k => some (184, k)
  | .new k => some (187, k)
  | _ => none
def opS : Instr → Option (Nat × Int)
  | .sipush k => some (17, k)
  | .ifCond .eq k => some (153, k)
  | .ifCond .ne k => some (154, k)
  | .ifCond .lt k => some (155, k)
  | .ifCond .ge k => some (156, k)
  | .ifCond .gt k => some (157, k)
  | .ifCond .le k => some (158, k)
  | .if_icmp .eq k => some (159, k)
  | .if_icmp .ne k => some (160, k)
  | .if_icmp .lt k => some (161, k)
  | .if_icmp .ge k => some (162, k)
  | .if_icmp .gt k => some (163, k)
  | .if_icmp .le k => some (164, k)
  | .goto k => some (167, k)
  | .ifnull k => some (198, k)
  | .ifnonnull k => some (199, k)
  | _ => none
set_option maxRecDepth 100000 in
theorem op0_sp {i : Instr} {k : Nat} (h : op0 i = some k) (c : ByteArray) (pc : Nat) : Reader.runAt ((dK pc).1 k) c (pc + 1) = .ok (i, pc + 1) := by
  unfold op0 at h
  split at h
  case h_1 v =>
    (repeat' split at h) <;> first | (cases h; done) | (cases h; subst v; rfl)
  case h_2 v =>
    (repeat' split at h) <;> (cases h) <;> (first | (subst v; rfl) | (match v with
      | 0 => contradiction
      | 1 => rfl))
  case h_3 v =>
    match v with
    | 0 => cases h; rfl
    | 1 => cases h; rfl
    | 2 => cases h; rfl
    | 3 => cases h; rfl
  case h_4 v =>
    match v with
    | 0 => cases h; rfl
    | 1 => cases h; rfl
    | 2 => cases h; rfl
    | 3 => cases h; rfl
  case h_5 v =>
    match v with
    | 0 => cases h; rfl
    | 1 => cases h; rfl
    | 2 => cases h; rfl
    | 3 => cases h; rfl
  case h_6 v =>
    match v with
    | 0 => cases h; rfl
    | 1 => cases h; rfl
    | 2 => cases h; rfl
    | 3 => cases h; rfl
  case h_7 v =>
    match v with
    | 0 => cases h; rfl
    | 1 => cases h; rfl
    | 2 => cases h; rfl
    | 3 => cases h; rfl
  all_goals first | (cases h; done) | (cases h; rfl)
set_option maxRecDepth 100000 in
theorem op1_sp {i : Instr} {k v : Nat} (h : op1 i = some (k, v)) {c : ByteArray} {pc : Nat} {x : UInt8} {r : List UInt8} (hl : c.data.toList.drop (pc + 1) = x :: r) (hx : x.toNat = v) : Reader.runAt ((dK pc).1 k) c (pc + 1) = .ok (i, pc + 2) := by
  have hu := dr_u1 hl
  rw [hx] at hu
  unfold op1 at h
  split at h
  all_goals first | (cases h; done) | (cases h; exact dr_bind (f := fun v => pure _) hu)
set_option maxRecDepth 100000 in
theorem op2_sp {i : Instr} {k v : Nat} (h : op2 i = some (k, v)) {c : ByteArray} {pc : Nat} {x y : UInt8} {r : List UInt8} (hl : c.data.toList.drop (pc + 1) = x :: y :: r) (hx : x.toNat * 256 + y.toNat = v) : Reader.runAt ((dK pc).1 k) c (pc + 1) = .ok (i, pc + 3) := by
  have hu := dr_u2 hl
  rw [hx] at hu
  unfold op2 at h
  split at h
  all_goals first | (cases h; done) | (cases h; exact dr_bind (f := fun v => pure _) hu)
set_option maxRecDepth 100000 in
theorem opS_sp {i : Instr} {k : Nat} {v : Int} (h : opS i = some (k, v)) {c : ByteArray} {pc : Nat} {x y : UInt8} {r : List UInt8} (hl : c.data.toList.drop (pc + 1) = x :: y :: r) (hx : Reader.signed 16 (x.toNat * 256 + y.toNat) = v) : Reader.runAt ((dK pc).1 k) c (pc + 1) = .ok (i, pc + 3) := by
  have hu := dr_s2 hl
  rw [hx] at hu
  unfold opS at h
  split at h
  all_goals first | (cases h; done) | (cases h; exact dr_bind (f := fun v => pure _) hu)
/-- the bytes from a place on say that the instruction stands there -/
def okI (c : ByteArray) (pc : Nat) (b : UInt8) (bs : List UInt8) (i : Instr) (n : Nat) : Bool := match op0 i with
  | some k => Nat.beq b.toNat k && Nat.beq n 1
  | none => match op2 i with
    | some (k, v) => (match bs with
      | x :: y :: _ => Nat.beq b.toNat k && Nat.beq (x.toNat * 256 + y.toNat) v && Nat.beq n 3
      | _ => false)
    | none => match op1 i with
      | some (k, v) => (match bs with
        | x :: _ => Nat.beq b.toNat k && Nat.beq x.toNat v && Nat.beq n 2
        | _ => false)
      | none => match opS i with
        | some (k, v) => (match bs with
          | x :: y :: _ => Nat.beq b.toNat k && decide (Reader.signed 16 (x.toNat * 256 + y.toNat) = v) && Nat.beq n 3
          | _ => false)
        | none => match i with
          | .bipush v => (match bs with
            | x :: _ => Nat.beq b.toNat 16 && decide (Reader.signed 8 x.toNat = v) && Nat.beq n 2
            | _ => false)
          | .iinc k v => (match bs with
            | x :: y :: _ => Nat.beq b.toNat 132 && Nat.beq x.toNat k && decide (Reader.signed 8 y.toNat = v) && Nat.beq n 3
            | _ => false)
          | _ => decide (decode c pc = .ok (i, n))
set_option maxRecDepth 100000 in
theorem okI_sp {c : ByteArray} {pc : Nat} {b : UInt8} {bs : List UInt8} {i : Instr} {n : Nat} (hl : c.data.toList.drop pc = b :: bs) (h : okI c pc b bs i n = true) : decode c pc = .ok (i, n) := by
  have ht := dr_tl hl
  unfold okI at h
  split at h
  · rename_i k hk
    simp only [Bool.and_eq_true] at h
    have h1 := Nat.eq_of_beq_eq_true h.1
    have h2 := Nat.eq_of_beq_eq_true h.2
    subst h2
    exact dr_ins hl h1 (op0_sp hk c pc)
  split at h
  · rename_i k v hk
    split at h
    · simp only [Bool.and_eq_true] at h
      have h1 := Nat.eq_of_beq_eq_true h.1.1
      have h2 := Nat.eq_of_beq_eq_true h.1.2
      have h3 := Nat.eq_of_beq_eq_true h.2
      subst h3
      exact dr_ins hl h1 (op2_sp hk ht h2)
    · cases h
  split at h
  · rename_i k v hk
    split at h
    · simp only [Bool.and_eq_true] at h
      have h1 := Nat.eq_of_beq_eq_true h.1.1
      have h2 := Nat.eq_of_beq_eq_true h.1.2
      have h3 := Nat.eq_of_beq_eq_true h.2
      subst h3
      exact dr_ins hl h1 (op1_sp hk ht h2)
    · cases h
  split at h
  · rename_i k v hk
    split at h
    · simp only [Bool.and_eq_true, decide_eq_true_eq] at h
      have h1 := Nat.eq_of_beq_eq_true h.1.1
      have h3 := Nat.eq_of_beq_eq_true h.2
      subst h3
      exact dr_ins hl h1 (opS_sp hk ht h.1.2)
    · cases h
  split at h
  · rename_i v
    split at h
    · simp only [Bool.and_eq_true, decide_eq_true_eq] at h
      have h1 := Nat.eq_of_beq_eq_true h.1.1
      have h3 := Nat.eq_of_beq_eq_true h.2
      have hs := dr_s1 ht
      rw [h.1.2] at hs
      subst h3
      exact dr_ins hl h1 (dr_bind (f := fun v => pure (Instr.bipush v)) hs)
    · cases h
  · rename_i k v
    split at h
    · simp only [Bool.and_eq_true, decide_eq_true_eq] at h
      have h1 := Nat.eq_of_beq_eq_true h.1.1.1
      have h2 := Nat.eq_of_beq_eq_true h.1.1.2
      have h3 := Nat.eq_of_beq_eq_true h.2
      have hu := dr_u1 ht
      rw [h2] at hu
      have hs := dr_s1 (dr_tl ht)
      rw [h.1.2] at hs
      subst h3
      exact dr_ins hl h1 ((dr_bind (f := fun k => do let v ← Reader.s1; pure (Instr.iinc k v)) hu).trans (dr_bind (f := fun v => pure (Instr.iinc _ v)) hs))
    · cases h
  · exact of_decide_eq_true h
end
section
/-! What the tables of part 02 say is so of the Statement: every row is decided. -/
def gT : List Jvm.Cond := lw_tbl.filter goodWord
theorem lwB_in {j k : Nat} {w : Jvm.Cond} (h : (lwB j)[k]? = some w) : w ∈ lw_tbl := by
  have hm := List.mem_of_getElem? h
  unfold lwB at hm
  simp only [lw_tbl, tables_1, List.mem_append]
  split at hm
  · exact Or.inl hm
  split at hm
  · exact Or.inr (Or.inl hm)
  split at hm
  · exact Or.inr (Or.inr (Or.inl hm))
  split at hm
  · exact Or.inr (Or.inr (Or.inr (Or.inl hm)))
  split at hm
  · exact Or.inr (Or.inr (Or.inr (Or.inr (Or.inl hm))))
  split at hm
  · exact Or.inr (Or.inr (Or.inr (Or.inr (Or.inr (Or.inl hm)))))
  split at hm
  · exact Or.inr (Or.inr (Or.inr (Or.inr (Or.inr (Or.inr (Or.inl hm))))))
  split at hm
  · exact Or.inr (Or.inr (Or.inr (Or.inr (Or.inr (Or.inr (Or.inr (Or.inl hm)))))))
  · exact Or.inr (Or.inr (Or.inr (Or.inr (Or.inr (Or.inr (Or.inr (Or.inr hm)))))))
def hasW (q : Nat × Nat) (w : Jvm.Cond) : Bool := decide ((lwB q.1)[q.2]? = some w) && goodWord w
theorem hasW_in {q : Nat × Nat} {w : Jvm.Cond} (h : hasW q w = true) : w ∈ gT := by
  simp only [hasW, Bool.and_eq_true, decide_eq_true_eq] at h
  exact List.mem_filter.mpr ⟨lwB_in h.1, h.2⟩
theorem gT_good : ∀ w ∈ gT, goodWord w = true := fun w h => (List.mem_filter.mp h).2
theorem gT_lw : ∀ w ∈ gT, w ∈ lw_tbl := fun w h => (List.mem_filter.mp h).1
def nmO (o : Nat) : String := psN.getD o ""
def flC (q : Nat × Nat × Nat × Nat × Nat × Nat) : Bool := match vwCl[q.2.2.1]? with
  | some (_, T, N) => decide (q.2.2.2.1 < N) && hasW q.2.2.2.2 (.fieldLink (nmO q.1) q.2.1 (T q.2.2.2.1).1 (T q.2.2.2.1).2.1 (T q.2.2.2.1).2.2.1)
  | none => false
set_option maxRecDepth 100000 in
theorem flT_ok : flT.all flC = true := by decide +kernel
def csC (q : Nat × Nat × Int × Nat × Nat) : Bool := hasW q.2.2.2 (.constant (nmO q.1) q.2.1 (Int32.ofInt q.2.2.1))
set_option maxRecDepth 100000 in
theorem csT_ok : csT.all csC = true := by decide +kernel
def clC (q : Nat × Nat × Int × Nat × Nat) : Bool := hasW q.2.2.2 (.constantLong (nmO q.1) q.2.1 (Int64.ofInt q.2.2.1))
set_option maxRecDepth 100000 in
theorem clT_ok : clT.all clC = true := by decide +kernel
def mlC (q : Nat × Nat × Nat × Nat × Nat) : Bool := match psM[q.2.2.1]? with
  | some (y, _) => hasW q.2.2.2 (.methodLink (nmO q.1) q.2.1 y)
  | none => false
set_option maxRecDepth 100000 in
theorem mlT_ok : mlT.all mlC = true := by decide +kernel
def yLib (m : Nat) : MethodName := if m = 1001 then Lib.Math.max.name else if m = 1002 then Lib.Math.min.name else if m = 1003 then arraycopyName else if m = 900 then ⟨"java/lang/String", "length", "()I"⟩ else if m = 901 then ⟨"java/lang/String", "charAt", "(I)C"⟩ else ⟨"java/lang/String", "indexOf", "(I)I"⟩
def mjC (q : Nat × Nat × Nat × Nat × Nat) : Bool := hasW q.2.2.2 (.methodLink (nmO q.1) q.2.1 (yLib q.2.2.1))
set_option maxRecDepth 100000 in
theorem mjT_ok : mjT.all mjC = true := by decide +kernel
def stN (a : Nat) : String := if a = 1200 then "KIND_ABOVE" else if a = 1201 then "LEAST_AMOUNT" else if a = 1202 then "MOST_AMOUNT" else "MOST_DATE"
def stC (q : Nat × Nat × Nat × Nat × Nat) : Bool := hasW q.2.2.2 (.fieldLink (nmO q.1) q.2.1 "PrisonShops" (stN q.2.2.1) "[I")
set_option maxRecDepth 100000 in
theorem stT_ok : stT.all stC = true := by decide +kernel
def atI {α : Type} (l : List α) (sw : List (Int32 × Nat)) (f : α → Bool) : Bool := match sw with
  | [(_, k)] => (match l[k]? with
    | some q => f q
    | none => false)
  | _ => false
theorem atI_in {α : Type} {l : List α} {sw : List (Int32 × Nat)} {f : α → Bool} (h : atI l sw f = true) : ∃ q ∈ l, f q = true := by
  unfold atI at h
  split at h
  · split at h
    · rename_i q hq
      exact ⟨q, List.mem_of_getElem? hq, h⟩
    · cases h
  · cases h
def csI (sw : List (Int32 × Nat)) (f : Nat × Nat × Int × Nat × Nat → Bool) : Bool := atI csT sw f
def clI (sw : List (Int32 × Nat)) (f : Nat × Nat × Int × Nat × Nat → Bool) : Bool := atI clT sw f
def srI (sw : List (Int32 × Nat)) (f : Nat × Nat × Nat → Bool) : Bool := atI srT sw f
def flI (sw : List (Int32 × Nat)) (f : Nat × Nat × Nat × Nat × Nat × Nat → Bool) : Bool := atI flT sw f
def mlI (sw : List (Int32 × Nat)) (f : Nat × Nat × Nat × Nat × Nat → Bool) : Bool := atI mlT sw f
def mjI (sw : List (Int32 × Nat)) (f : Nat × Nat × Nat × Nat × Nat → Bool) : Bool := atI mjT sw f
def stIx (sw : List (Int32 × Nat)) (f : Nat × Nat × Nat × Nat × Nat → Bool) : Bool := atI stT sw f
/-- is this entry what the bytes say at that place, and are its numbers the tables'? -/
def okx (o pc : Nat) (i : Instr) (n a b : Nat) (v : Int32) (w : Int64) (sw : List (Int32 × Nat)) : Bool := match i with
  | .iload_n _ | .aload_n _ | .lload_n _ | .istore_n _ => n == 1
  | .iload _ | .aload _ | .lload _ | .istore _ => n == 2
  | .iconst k => n == 1 && decide (Int32.ofInt k = v)
  | .bipush k => n == 2 && decide ((Int8.ofInt k).toInt32 = v)
  | .sipush k => n == 3 && decide ((Int16.ofInt k).toInt32 = v)
  | .lconst k => n == 1 && decide (Int64.ofNat (k : Nat) = w)
  | .ldc k => n == 2 && (if a = 0 then csI sw (fun q => q.1 == o && q.2.1 == k && decide (Int32.ofInt q.2.2.1 = v)) else srI sw (fun q => q.1 == o && q.2.1 == k && q.2.2 == a))
  | .ldc_w k => n == 3 && csI sw (fun q => q.1 == o && q.2.1 == k && decide (Int32.ofInt q.2.2.1 = v))
  | .ldc2_w k => n == 3 && clI sw (fun q => q.1 == o && q.2.1 == k && decide (Int64.ofInt q.2.2.1 = w))
  | .iadd | .isub | .imul | .iand | .ior | .ixor | .ishl | .ishr | .iushr | .idiv | .irem | .ineg | .i2b | .i2s | .i2c | .i2l | .l2i | .ladd | .lsub | .lmul | .lshl | .lshr | .lcmp => n == 1
  | .iinc _ k => n == 3 && decide (Int32.ofInt k = v)
  | .ifCond _ f | .if_icmp _ f | .goto f | .ifnonnull f => n == 3 && decide ((pc : Int) + f = (a : Int))
  | .ifnull _ => n == 3
  | .getfield k | .putfield k => n == 3 && decide (nI b = v) && decide (b < 100) && flI sw (fun q => q.1 == o && q.2.1 == k && q.2.2.1 == a && q.2.2.2.1 == b)
  | .getstatic k => n == 3 && (stIx sw (fun q => q.1 == o && q.2.1 == k && q.2.2.1 == a) || (o == 7 && k == 76 && a == 1200))
  | .arraylength | .iaload | .baload | .laload | .iastore | .bastore | .lastore | .dup | .pop | .dup2 => n == 1
  | .tableswitch d lo hi offs => decide ((pc : Int) + d = (a : Int)) && decide (sw = (List.range offs.size).map (fun (k : Nat) => (Int32.ofInt (lo + (k : Int)), ((pc : Int) + offs.toList.getD k 0).toNat))) && decide ((offs.size : Int) = hi - lo + 1) && decide (-1000 < lo) && decide (hi < 1000) && offs.all (fun f => decide (0 ≤ (pc : Int) + f))
  | .lookupswitch d ps => decide ((pc : Int) + d = (a : Int)) && decide (sw = ps.toList.map (fun q => (Int32.ofInt q.1, ((pc : Int) + q.2).toNat))) && (ps.toList.zip (ps.toList.drop 1)).all (fun (q, r) => decide (q.1 < r.1)) && ps.all (fun q => decide (0 ≤ (pc : Int) + q.2) && decide (-1000 < q.1) && decide (q.1 < 1000))
  | .invokevirtual k => n == 3 && (mlI sw (fun q => q.1 == o && q.2.1 == k && q.2.2.1 == a) || (decide (900 ≤ a) && mjI sw (fun q => q.1 == o && q.2.1 == k && q.2.2.1 == a))) && (match psM[a]? with
    | some (_, _, _, _, _, _, q) => q.1 == 1 && q.2.1 == b
    | none => a == 900 && b == 0 || a == 901 && b == 1 || a == 902 && b == 1)
  | .invokestatic k => n == 3 && (if a < 1000 then ((mlI sw (fun q => q.1 == o && q.2.1 == k && q.2.2.1 == a) || (o == 6 && k == 26 && a == 156)) && (match psM[a]? with
    | some (_, _, _, _, _, _, q) => q.1 == 0 && q.2.1 == b
    | none => false)) else mjI sw (fun q => q.1 == o && q.2.1 == k && q.2.2.1 == a))
  | .ireturn | .lreturn | .areturn | .return_ => n == 1
  | _ => false
def okE (c : ByteArray) (o pc : Nat) (q : En) : Bool := decide (decode c pc = .ok (q.1, q.2.1)) && okx o pc q.1 q.2.1 q.2.2.1 q.2.2.2.1 q.2.2.2.2.1 q.2.2.2.2.2.1 q.2.2.2.2.2.2
def okC (c : ByteArray) (o : Nat) : Nat → Cd → Bool
  | _, [] => true
  | pc, none :: r => okC c o (pc + 1) r
  | pc, some q :: r => okE c o pc q && okC c o (pc + 1) r
theorem okC_at {c : ByteArray} {o : Nat} : ∀ {cd : Cd} {k : Nat}, okC c o k cd = true → ∀ {pc : Nat} {q : En}, cdAt cd pc = some q → okE c o (k + pc) q = true
  | [], _, _, pc, q, h => by simp [cdAt] at h
  | none :: r, k, h, 0, q, hq => by simp [cdAt] at hq
  | some q0 :: r, k, h, 0, q, hq => by
    simp only [okC, Bool.and_eq_true] at h
    simp only [cdAt, List.getElem?_cons_zero, Option.some.injEq] at hq
    subst hq
    exact h.1
  | none :: r, k, h, pc + 1, q, hq => by
    have := okC_at (cd := r) (k := k + 1) h (pc := pc) (q := q) (by simpa [cdAt] using hq)
    rwa [show k + (pc + 1) = k + 1 + pc by omega]
  | some q0 :: r, k, h, pc + 1, q, hq => by
    simp only [okC, Bool.and_eq_true] at h
    have := okC_at (cd := r) (k := k + 1) h.2 (pc := pc) (q := q) (by simpa [cdAt] using hq)
    rwa [show k + (pc + 1) = k + 1 + pc by omega]
/-- the same, byte by byte -/
def okCF (c : ByteArray) (o : Nat) : Nat → List UInt8 → Cd → Bool
  | _, _, [] => true
  | pc, _ :: bs, none :: r => okCF c o (pc + 1) bs r
  | pc, [], none :: r => okCF c o (pc + 1) [] r
  | pc, b :: bs, some q :: r => okI c pc b bs q.1 q.2.1 && okx o pc q.1 q.2.1 q.2.2.1 q.2.2.2.1 q.2.2.2.2.1 q.2.2.2.2.2.1 q.2.2.2.2.2.2 && okCF c o (pc + 1) bs r
  | _, [], some _ :: _ => false
theorem okCF_sp {c : ByteArray} {o : Nat} : ∀ {cd : Cd} {pc : Nat} {l : List UInt8}, c.data.toList.drop pc = l → okCF c o pc l cd = true → okC c o pc cd = true
  | [], _, _, _, _ => rfl
  | none :: r, pc, b :: bs, hl, h => okCF_sp (cd := r) (dr_tl hl) h
  | none :: r, pc, [], hl, h => okCF_sp (cd := r) (by rw [← List.drop_drop, hl]; rfl) h
  | some q :: r, pc, b :: bs, hl, h => by
    simp only [okCF, Bool.and_eq_true] at h
    simp only [okC, okE, Bool.and_eq_true, decide_eq_true_eq]
    exact ⟨⟨okI_sp hl h.1.1, h.1.2⟩, okCF_sp (cd := r) (dr_tl hl) h.2⟩
  | some q :: r, pc, [], hl, h => by simp [okCF] at h
def isCw (q : Nat × Nat) : Bool := match (lwB q.1)[q.2]? with
  | some w => goodWord w
  | none => false
def miC (m : Mi) : Bool := match m with
  | (y, c, ml, rt, o, cd, kd, n, cp, ip, sp, np) => isCw cp && (if kd = 0 then hasW ip (.static y) else (hasW ip (.instanceMethod y) && hasW sp (.selects y.cls y y))) && hasW np (.initialized y.cls) && plainName y.cls && decide (y.cls ≠ "java/lang/invoke/MethodHandle") && decide (y.cls ≠ "java/lang/invoke/VarHandle") && decide ((parseMethodDescriptor y.desc).map (fun d => d.parameters.length) = some n) && decide (nmO o = y.cls) && decide (ml ≤ 30) && (decide (kd = 0) || decide ((vwCl[o]?).map (fun q => q.1) = some y.cls)) && okC c o 0 cd
def miCF (m : Mi) : Bool := match m with
  | (y, c, ml, rt, o, cd, kd, n, cp, ip, sp, np) => isCw cp && (if kd = 0 then hasW ip (.static y) else (hasW ip (.instanceMethod y) && hasW sp (.selects y.cls y y))) && hasW np (.initialized y.cls) && plainName y.cls && decide (y.cls ≠ "java/lang/invoke/MethodHandle") && decide (y.cls ≠ "java/lang/invoke/VarHandle") && decide ((parseMethodDescriptor y.desc).map (fun d => d.parameters.length) = some n) && decide (nmO o = y.cls) && decide (ml ≤ 30) && (decide (kd = 0) || decide ((vwCl[o]?).map (fun q => q.1) = some y.cls)) && okCF c o 0 c.data.toList cd
theorem miCF_sp {m : Mi} (h : miCF m = true) : miC m = true := by
  obtain ⟨y, c, ml, rt, o, cd, kd, n, cp, ip, sp, np⟩ := m
  obtain ⟨h1, h2⟩ := Bool.and_eq_true_iff.mp h
  exact Bool.and_eq_true_iff.mpr ⟨h1, okCF_sp (l := c.data.toList) rfl h2⟩
def MO (m : Mi) : Prop := (lwB m.2.2.2.2.2.2.2.2.1.1)[m.2.2.2.2.2.2.2.2.1.2]? = some (.code m.1 m.2.1 m.2.2.1 m.2.2.2.1) ∧ miC m = true
def moB (m : Mi) : Bool := hasW m.2.2.2.2.2.2.2.2.1 (.code m.1 m.2.1 m.2.2.1 m.2.2.2.1) && miCF m
theorem moB_sp {m : Mi} (h : moB m = true) : MO m := by
  obtain ⟨h1, h2⟩ := Bool.and_eq_true_iff.mp h
  simp only [hasW, Bool.and_eq_true, decide_eq_true_eq] at h1
  exact ⟨h1.1, miCF_sp h2⟩
set_option maxRecDepth 100000 in
theorem mo0 : MO mi0 := ⟨rfl, miCF_sp (by decide +kernel)⟩
set_option maxRecDepth 100000 in
theorem mo1 : MO mi1 := ⟨rfl, miCF_sp (by decide +kernel)⟩
set_option maxRecDepth 100000 in
theorem mo2 : MO mi2 := ⟨rfl, miCF_sp (by decide +kernel)⟩
set_option maxRecDepth 100000 in
theorem mo3 : MO mi3 := ⟨rfl, miCF_sp (by decide +kernel)⟩
set_option maxRecDepth 100000 in
theorem mo4 : MO mi4 := ⟨rfl, miCF_sp (by decide +kernel)⟩
set_option maxRecDepth 100000 in
theorem mo5 : MO mi5 := ⟨rfl, miCF_sp (by decide +kernel)⟩
set_option maxRecDepth 100000 in
theorem mo6 : MO mi6 := ⟨rfl, miCF_sp (by decide +kernel)⟩
set_option maxRecDepth 100000 in
theorem mo7 : MO mi7 := ⟨rfl, miCF_sp (by decide +kernel)⟩
set_option maxRecDepth 100000 in
theorem mo8 : MO mi8 := ⟨rfl, miCF_sp (by decide +kernel)⟩
set_option maxRecDepth 100000 in
theorem mo9 : MO mi9 := ⟨rfl, miCF_sp (by decide +kernel)⟩
set_option maxRecDepth 100000 in
theorem mo10 : MO mi10 := ⟨rfl, miCF_sp (by decide +kernel)⟩
set_option maxRecDepth 100000 in
theorem mo11 : MO mi11 := ⟨rfl, miCF_sp (by decide +kernel)⟩
set_option maxRecDepth 100000 in
theorem mo12 : MO mi12 := ⟨rfl, miCF_sp (by decide +kernel)⟩
set_option maxRecDepth 100000 in
theorem mo13 : MO mi13 := ⟨rfl, miCF_sp (by decide +kernel)⟩
set_option maxRecDepth 100000 in
theorem mo14 : MO mi14 := ⟨rfl, miCF_sp (by decide +kernel)⟩
set_option maxRecDepth 100000 in
theorem mo15 : MO mi15 := ⟨rfl, miCF_sp (by decide +kernel)⟩
set_option maxRecDepth 100000 in
theorem mo16 : MO mi16 := ⟨rfl, miCF_sp (by decide +kernel)⟩
set_option maxRecDepth 100000 in
theorem mo17 : MO mi17 := ⟨rfl, miCF_sp (by decide +kernel)⟩
set_option maxRecDepth 100000 in
theorem mo18 : MO mi18 := ⟨rfl, miCF_sp (by decide +kernel)⟩
set_option maxRecDepth 100000 in
theorem mo19 : MO mi19 := ⟨rfl, miCF_sp (by decide +kernel)⟩
set_option maxRecDepth 100000 in
theorem mo20 : MO mi20 := ⟨rfl, miCF_sp (by decide +kernel)⟩
set_option maxRecDepth 100000 in
theorem mo21 : MO mi21 := ⟨rfl, miCF_sp (by decide +kernel)⟩
set_option maxRecDepth 100000 in
theorem mo22 : MO mi22 := ⟨rfl, miCF_sp (by decide +kernel)⟩
set_option maxRecDepth 100000 in
theorem mo23 : MO mi23 := ⟨rfl, miCF_sp (by decide +kernel)⟩
set_option maxRecDepth 100000 in
theorem mo24 : MO mi24 := ⟨rfl, miCF_sp (by decide +kernel)⟩
set_option maxRecDepth 100000 in
theorem mo25 : MO mi25 := ⟨rfl, miCF_sp (by decide +kernel)⟩
set_option maxRecDepth 100000 in
theorem mo26 : MO mi26 := ⟨rfl, miCF_sp (by decide +kernel)⟩
set_option maxRecDepth 100000 in
theorem mo27 : MO mi27 := ⟨rfl, miCF_sp (by decide +kernel)⟩
set_option maxRecDepth 100000 in
theorem mo28 : MO mi28 := ⟨rfl, miCF_sp (by decide +kernel)⟩
set_option maxRecDepth 100000 in
theorem mo29 : MO mi29 := ⟨rfl, miCF_sp (by decide +kernel)⟩
set_option maxRecDepth 100000 in
theorem mo30 : MO mi30 := ⟨rfl, miCF_sp (by decide +kernel)⟩
set_option maxRecDepth 100000 in
theorem mo31 : MO mi31 := ⟨rfl, miCF_sp (by decide +kernel)⟩
set_option maxRecDepth 100000 in
theorem mo32 : MO mi32 := ⟨rfl, miCF_sp (by decide +kernel)⟩
set_option maxRecDepth 100000 in
theorem mo33 : MO mi33 := ⟨rfl, miCF_sp (by decide +kernel)⟩
set_option maxRecDepth 100000 in
theorem mo34 : MO mi34 := ⟨rfl, miCF_sp (by decide +kernel)⟩
set_option maxRecDepth 100000 in
theorem mo35 : MO mi35 := ⟨rfl, miCF_sp (by decide +kernel)⟩
set_option maxRecDepth 100000 in
theorem mo36 : MO mi36 := ⟨rfl, miCF_sp (by decide +kernel)⟩
set_option maxRecDepth 100000 in
theorem mo37 : MO mi37 := ⟨rfl, miCF_sp (by decide +kernel)⟩
set_option maxRecDepth 100000 in
theorem mo38 : MO mi38 := ⟨rfl, miCF_sp (by decide +kernel)⟩
set_option maxRecDepth 100000 in
theorem mo39 : MO mi39 := ⟨rfl, miCF_sp (by decide +kernel)⟩
set_option maxRecDepth 100000 in
theorem mo40 : MO mi40 := ⟨rfl, miCF_sp (by decide +kernel)⟩
set_option maxRecDepth 100000 in
theorem mo41 : MO mi41 := ⟨rfl, miCF_sp (by decide +kernel)⟩
set_option maxRecDepth 100000 in
theorem mo42 : MO mi42 := ⟨rfl, miCF_sp (by decide +kernel)⟩
set_option maxRecDepth 100000 in
theorem mo43 : MO mi43 := ⟨rfl, miCF_sp (by decide +kernel)⟩
set_option maxRecDepth 100000 in
theorem mo44 : MO mi44 := ⟨rfl, miCF_sp (by decide +kernel)⟩
set_option maxRecDepth 100000 in
theorem mo45 : MO mi45 := ⟨rfl, miCF_sp (by decide +kernel)⟩
set_option maxRecDepth 100000 in
theorem mo46 : MO mi46 := ⟨rfl, miCF_sp (by decide +kernel)⟩
set_option maxRecDepth 100000 in
theorem mo47 : MO mi47 := ⟨rfl, miCF_sp (by decide +kernel)⟩
set_option maxRecDepth 100000 in
theorem mo48 : MO mi48 := ⟨rfl, miCF_sp (by decide +kernel)⟩
set_option maxRecDepth 100000 in
theorem mo49 : MO mi49 := ⟨rfl, miCF_sp (by decide +kernel)⟩
set_option maxRecDepth 100000 in
theorem mo50 : MO mi50 := ⟨rfl, miCF_sp (by decide +kernel)⟩
set_option maxRecDepth 100000 in
theorem mo51 : MO mi51 := ⟨rfl, miCF_sp (by decide +kernel)⟩
set_option maxRecDepth 100000 in
theorem mo52 : MO mi52 := ⟨rfl, miCF_sp (by decide +kernel)⟩
set_option maxRecDepth 100000 in
theorem mo53 : MO mi53 := ⟨rfl, miCF_sp (by decide +kernel)⟩
set_option maxRecDepth 100000 in
theorem mo54 : MO mi54 := ⟨rfl, miCF_sp (by decide +kernel)⟩
set_option maxRecDepth 100000 in
theorem mo55 : MO mi55 := ⟨rfl, miCF_sp (by decide +kernel)⟩
set_option maxRecDepth 100000 in
theorem mo56 : MO mi56 := ⟨rfl, miCF_sp (by decide +kernel)⟩
set_option maxRecDepth 100000 in
theorem mo57 : MO mi57 := ⟨rfl, miCF_sp (by decide +kernel)⟩
set_option maxRecDepth 100000 in
theorem mo58 : MO mi58 := ⟨rfl, miCF_sp (by decide +kernel)⟩
set_option maxRecDepth 100000 in
theorem mo59 : MO mi59 := ⟨rfl, miCF_sp (by decide +kernel)⟩
set_option maxRecDepth 100000 in
theorem mo60 : MO mi60 := ⟨rfl, miCF_sp (by decide +kernel)⟩
set_option maxRecDepth 100000 in
theorem mo61 : MO mi61 := ⟨rfl, miCF_sp (by decide +kernel)⟩
set_option maxRecDepth 100000 in
theorem mo62 : MO mi62 := ⟨rfl, miCF_sp (by decide +kernel)⟩
set_option maxRecDepth 100000 in
theorem mo63 : MO mi63 := ⟨rfl, miCF_sp (by decide +kernel)⟩
set_option maxRecDepth 100000 in
theorem mo64 : MO mi64 := ⟨rfl, miCF_sp (by decide +kernel)⟩
set_option maxRecDepth 100000 in
theorem mo65 : MO mi65 := ⟨rfl, miCF_sp (by decide +kernel)⟩
set_option maxRecDepth 100000 in
theorem mo66 : MO mi66 := ⟨rfl, miCF_sp (by decide +kernel)⟩
set_option maxRecDepth 100000 in
theorem mo67 : MO mi67 := ⟨rfl, miCF_sp (by decide +kernel)⟩
set_option maxRecDepth 100000 in
theorem mo68 : MO mi68 := ⟨rfl, miCF_sp (by decide +kernel)⟩
set_option maxRecDepth 100000 in
theorem mo69 : MO mi69 := ⟨rfl, miCF_sp (by decide +kernel)⟩
set_option maxRecDepth 100000 in
theorem mo70 : MO mi70 := ⟨rfl, miCF_sp (by decide +kernel)⟩
set_option maxRecDepth 100000 in
theorem mo71 : MO mi71 := ⟨rfl, miCF_sp (by decide +kernel)⟩
set_option maxRecDepth 100000 in
theorem mo72 : MO mi72 := ⟨rfl, miCF_sp (by decide +kernel)⟩
set_option maxRecDepth 100000 in
theorem mo73 : MO mi73 := ⟨rfl, miCF_sp (by decide +kernel)⟩
set_option maxRecDepth 100000 in
theorem mo74 : MO mi74 := ⟨rfl, miCF_sp (by decide +kernel)⟩
set_option maxRecDepth 100000 in
theorem mo75 : MO mi75 := ⟨rfl, miCF_sp (by decide +kernel)⟩
set_option maxRecDepth 100000 in
theorem mo76 : MO mi76 := ⟨rfl, miCF_sp (by decide +kernel)⟩
set_option maxRecDepth 100000 in
theorem mo77 : MO mi77 := ⟨rfl, miCF_sp (by decide +kernel)⟩
set_option maxRecDepth 100000 in
theorem mo78 : MO mi78 := ⟨rfl, miCF_sp (by decide +kernel)⟩
set_option maxRecDepth 100000 in
theorem mo79 : MO mi79 := ⟨rfl, miCF_sp (by decide +kernel)⟩
set_option maxRecDepth 100000 in
theorem mo80 : MO mi80 := ⟨rfl, miCF_sp (by decide +kernel)⟩
set_option maxRecDepth 100000 in
theorem mo81 : MO mi81 := ⟨rfl, miCF_sp (by decide +kernel)⟩
set_option maxRecDepth 100000 in
theorem mo82 : MO mi82 := ⟨rfl, miCF_sp (by decide +kernel)⟩
set_option maxRecDepth 100000 in
theorem mo83 : MO mi83 := ⟨rfl, miCF_sp (by decide +kernel)⟩
set_option maxRecDepth 100000 in
theorem mo84 : MO mi84 := ⟨rfl, miCF_sp (by decide +kernel)⟩
set_option maxRecDepth 100000 in
theorem mo85 : MO mi85 := ⟨rfl, miCF_sp (by decide +kernel)⟩
set_option maxRecDepth 100000 in
theorem mo86 : MO mi86 := ⟨rfl, miCF_sp (by decide +kernel)⟩
set_option maxRecDepth 100000 in
theorem mo87 : MO mi87 := ⟨rfl, miCF_sp (by decide +kernel)⟩
set_option maxRecDepth 100000 in
theorem mo88 : MO mi88 := ⟨rfl, miCF_sp (by decide +kernel)⟩
set_option maxRecDepth 100000 in
theorem mo89 : MO mi89 := ⟨rfl, miCF_sp (by decide +kernel)⟩
set_option maxRecDepth 100000 in
theorem mo90 : MO mi90 := ⟨rfl, miCF_sp (by decide +kernel)⟩
set_option maxRecDepth 100000 in
theorem mo91 : MO mi91 := ⟨rfl, miCF_sp (by decide +kernel)⟩
set_option maxRecDepth 100000 in
theorem mo92 : MO mi92 := ⟨rfl, miCF_sp (by decide +kernel)⟩
set_option maxRecDepth 100000 in
theorem mo93 : MO mi93 := ⟨rfl, miCF_sp (by decide +kernel)⟩
set_option maxRecDepth 100000 in
theorem mo94 : MO mi94 := ⟨rfl, miCF_sp (by decide +kernel)⟩
set_option maxRecDepth 100000 in
theorem mo95 : MO mi95 := ⟨rfl, miCF_sp (by decide +kernel)⟩
set_option maxRecDepth 100000 in
theorem mo96 : MO mi96 := ⟨rfl, miCF_sp (by decide +kernel)⟩
set_option maxRecDepth 100000 in
theorem mo97 : MO mi97 := ⟨rfl, miCF_sp (by decide +kernel)⟩
set_option maxRecDepth 100000 in
theorem mo98 : MO mi98 := ⟨rfl, miCF_sp (by decide +kernel)⟩
set_option maxRecDepth 100000 in
theorem mo99 : MO mi99 := ⟨rfl, miCF_sp (by decide +kernel)⟩
set_option maxRecDepth 100000 in
theorem mo100 : MO mi100 := ⟨rfl, miCF_sp (by decide +kernel)⟩
set_option maxRecDepth 100000 in
theorem mo101 : MO mi101 := ⟨rfl, miCF_sp (by decide +kernel)⟩
set_option maxRecDepth 100000 in
theorem mo102 : MO mi102 := ⟨rfl, miCF_sp (by decide +kernel)⟩
set_option maxRecDepth 100000 in
theorem mo103 : MO mi103 := ⟨rfl, miCF_sp (by decide +kernel)⟩
set_option maxRecDepth 100000 in
theorem mo104 : MO mi104 := ⟨rfl, miCF_sp (by decide +kernel)⟩
set_option maxRecDepth 100000 in
theorem mo105 : MO mi105 := ⟨rfl, miCF_sp (by decide +kernel)⟩
set_option maxRecDepth 100000 in
theorem mo106 : MO mi106 := ⟨rfl, miCF_sp (by decide +kernel)⟩
set_option maxRecDepth 100000 in
theorem mo107 : MO mi107 := ⟨rfl, miCF_sp (by decide +kernel)⟩
set_option maxRecDepth 100000 in
theorem mo108 : MO mi108 := ⟨rfl, miCF_sp (by decide +kernel)⟩
set_option maxRecDepth 100000 in
theorem mo109 : MO mi109 := ⟨rfl, miCF_sp (by decide +kernel)⟩
set_option maxRecDepth 100000 in
theorem mo110 : MO mi110 := ⟨rfl, miCF_sp (by decide +kernel)⟩
set_option maxRecDepth 100000 in
theorem mo111 : MO mi111 := ⟨rfl, miCF_sp (by decide +kernel)⟩
set_option maxRecDepth 100000 in
theorem mo112 : MO mi112 := ⟨rfl, miCF_sp (by decide +kernel)⟩
set_option maxRecDepth 100000 in
theorem mo113 : MO mi113 := ⟨rfl, miCF_sp (by decide +kernel)⟩
set_option maxRecDepth 100000 in
theorem mo114 : MO mi114 := ⟨rfl, miCF_sp (by decide +kernel)⟩
set_option maxRecDepth 100000 in
theorem mo115 : MO mi115 := ⟨rfl, miCF_sp (by decide +kernel)⟩
set_option maxRecDepth 100000 in
theorem mo116 : MO mi116 := ⟨rfl, miCF_sp (by decide +kernel)⟩
set_option maxRecDepth 100000 in
theorem mo117 : MO mi117 := ⟨rfl, miCF_sp (by decide +kernel)⟩
set_option maxRecDepth 100000 in
theorem mo118 : MO mi118 := ⟨rfl, miCF_sp (by decide +kernel)⟩
set_option maxRecDepth 100000 in
theorem mo119 : MO mi119 := ⟨rfl, miCF_sp (by decide +kernel)⟩
set_option maxRecDepth 100000 in
theorem mo120 : MO mi120 := ⟨rfl, miCF_sp (by decide +kernel)⟩
set_option maxRecDepth 100000 in
theorem mo121 : MO mi121 := ⟨rfl, miCF_sp (by decide +kernel)⟩
set_option maxRecDepth 100000 in
theorem mo122 : MO mi122 := ⟨rfl, miCF_sp (by decide +kernel)⟩
set_option maxRecDepth 100000 in
theorem mo123 : MO mi123 := ⟨rfl, miCF_sp (by decide +kernel)⟩
set_option maxRecDepth 100000 in
theorem mo124 : MO mi124 := ⟨rfl, miCF_sp (by decide +kernel)⟩
set_option maxRecDepth 100000 in
theorem mo125 : MO mi125 := ⟨rfl, miCF_sp (by decide +kernel)⟩
set_option maxRecDepth 100000 in
theorem mo126 : MO mi126 := ⟨rfl, miCF_sp (by decide +kernel)⟩
set_option maxRecDepth 100000 in
theorem mo127 : MO mi127 := ⟨rfl, miCF_sp (by decide +kernel)⟩
set_option maxRecDepth 100000 in
theorem mo128 : MO mi128 := ⟨rfl, miCF_sp (by decide +kernel)⟩
set_option maxRecDepth 100000 in
theorem mo129 : MO mi129 := ⟨rfl, miCF_sp (by decide +kernel)⟩
set_option maxRecDepth 100000 in
theorem mo130 : MO mi130 := ⟨rfl, miCF_sp (by decide +kernel)⟩
set_option maxRecDepth 100000 in
theorem mo131 : MO mi131 := ⟨rfl, miCF_sp (by decide +kernel)⟩
set_option maxRecDepth 100000 in
theorem mo132 : MO mi132 := ⟨rfl, miCF_sp (by decide +kernel)⟩
set_option maxRecDepth 100000 in
theorem mo133 : MO mi133 := ⟨rfl, miCF_sp (by decide +kernel)⟩
set_option maxRecDepth 100000 in
theorem mo134 : MO mi134 := ⟨rfl, miCF_sp (by decide +kernel)⟩
set_option maxRecDepth 100000 in
theorem mo135 : MO mi135 := ⟨rfl, miCF_sp (by decide +kernel)⟩
set_option maxRecDepth 100000 in
theorem mo136 : MO mi136 := ⟨rfl, miCF_sp (by decide +kernel)⟩
set_option maxRecDepth 100000 in
theorem mo137 : MO mi137 := ⟨rfl, miCF_sp (by decide +kernel)⟩
set_option maxRecDepth 100000 in
theorem mo138 : MO mi138 := ⟨rfl, miCF_sp (by decide +kernel)⟩
set_option maxRecDepth 100000 in
theorem mo139 : MO mi139 := ⟨rfl, miCF_sp (by decide +kernel)⟩
set_option maxRecDepth 100000 in
theorem mo140 : MO mi140 := ⟨rfl, miCF_sp (by decide +kernel)⟩
set_option maxRecDepth 100000 in
theorem mo141 : MO mi141 := ⟨rfl, miCF_sp (by decide +kernel)⟩
set_option maxRecDepth 100000 in
theorem mo142 : MO mi142 := ⟨rfl, miCF_sp (by decide +kernel)⟩
set_option maxRecDepth 100000 in
theorem mo143 : MO mi143 := ⟨rfl, miCF_sp (by decide +kernel)⟩
set_option maxRecDepth 100000 in
theorem mo144 : MO mi144 := ⟨rfl, miCF_sp (by decide +kernel)⟩
set_option maxRecDepth 100000 in
theorem mo145 : MO mi145 := ⟨rfl, miCF_sp (by decide +kernel)⟩
set_option maxRecDepth 100000 in
theorem mo146 : MO mi146 := ⟨rfl, miCF_sp (by decide +kernel)⟩
set_option maxRecDepth 100000 in
theorem mo147 : MO mi147 := ⟨rfl, miCF_sp (by decide +kernel)⟩
set_option maxRecDepth 100000 in
theorem mo148 : MO mi148 := ⟨rfl, miCF_sp (by decide +kernel)⟩
set_option maxRecDepth 100000 in
theorem mo149 : MO mi149 := ⟨rfl, miCF_sp (by decide +kernel)⟩
set_option maxRecDepth 100000 in
theorem mo150 : MO mi150 := ⟨rfl, miCF_sp (by decide +kernel)⟩
set_option maxRecDepth 100000 in
theorem mo151 : MO mi151 := ⟨rfl, miCF_sp (by decide +kernel)⟩
set_option maxRecDepth 100000 in
theorem mo152 : MO mi152 := ⟨rfl, miCF_sp (by decide +kernel)⟩
set_option maxRecDepth 100000 in
theorem mo153 : MO mi153 := ⟨rfl, miCF_sp (by decide +kernel)⟩
set_option maxRecDepth 100000 in
theorem mo154 : MO mi154 := ⟨rfl, miCF_sp (by decide +kernel)⟩
set_option maxRecDepth 100000 in
theorem mo155 : MO mi155 := ⟨rfl, miCF_sp (by decide +kernel)⟩
set_option maxRecDepth 100000 in
theorem mo156 : MO mi156 := ⟨rfl, miCF_sp (by decide +kernel)⟩
set_option maxRecDepth 100000 in
theorem mo157 : MO mi157 := ⟨rfl, miCF_sp (by decide +kernel)⟩
set_option maxRecDepth 100000 in
theorem mo158 : MO mi158 := ⟨rfl, miCF_sp (by decide +kernel)⟩
set_option maxRecDepth 100000 in
theorem mo159 : MO mi159 := ⟨rfl, miCF_sp (by decide +kernel)⟩
set_option maxRecDepth 100000 in
theorem mo160 : MO mi160 := ⟨rfl, miCF_sp (by decide +kernel)⟩
set_option maxRecDepth 100000 in
theorem mo161 : MO mi161 := ⟨rfl, miCF_sp (by decide +kernel)⟩
set_option maxRecDepth 100000 in
theorem mo162 : MO mi162 := ⟨rfl, miCF_sp (by decide +kernel)⟩
set_option maxRecDepth 100000 in
theorem mo163 : MO mi163 := ⟨rfl, miCF_sp (by decide +kernel)⟩
set_option maxRecDepth 100000 in
theorem mo164 : MO mi164 := ⟨rfl, miCF_sp (by decide +kernel)⟩
set_option maxRecDepth 100000 in
theorem mo165 : MO mi165 := ⟨rfl, miCF_sp (by decide +kernel)⟩
set_option maxRecDepth 100000 in
theorem mo166 : MO mi166 := ⟨rfl, miCF_sp (by decide +kernel)⟩
set_option maxRecDepth 100000 in
theorem mo167 : MO mi167 := ⟨rfl, miCF_sp (by decide +kernel)⟩
set_option maxRecDepth 100000 in
theorem mo168 : MO mi168 := ⟨rfl, miCF_sp (by decide +kernel)⟩
set_option maxRecDepth 100000 in
theorem mo169 : MO mi169 := ⟨rfl, miCF_sp (by decide +kernel)⟩
set_option maxRecDepth 100000 in
theorem mo170 : MO mi170 := ⟨rfl, miCF_sp (by decide +kernel)⟩
set_option maxRecDepth 100000 in
theorem mo171 : MO mi171 := ⟨rfl, miCF_sp (by decide +kernel)⟩
set_option maxRecDepth 100000 in
theorem mo172 : MO mi172 := ⟨rfl, miCF_sp (by decide +kernel)⟩
set_option maxRecDepth 100000 in
theorem mo173 : MO mi173 := ⟨rfl, miCF_sp (by decide +kernel)⟩
set_option maxRecDepth 100000 in
theorem mo174 : MO mi174 := ⟨rfl, miCF_sp (by decide +kernel)⟩
set_option maxRecDepth 100000 in
theorem mo175 : MO mi175 := ⟨rfl, miCF_sp (by decide +kernel)⟩
set_option maxRecDepth 100000 in
theorem mo176 : MO mi176 := ⟨rfl, miCF_sp (by decide +kernel)⟩
set_option maxRecDepth 100000 in
theorem mo177 : MO mi177 := ⟨rfl, miCF_sp (by decide +kernel)⟩
set_option maxRecDepth 100000 in
theorem mo178 : MO mi178 := ⟨rfl, miCF_sp (by decide +kernel)⟩
set_option maxRecDepth 100000 in
theorem mo179 : MO mi179 := ⟨rfl, miCF_sp (by decide +kernel)⟩
set_option maxRecDepth 100000 in
theorem mo180 : MO mi180 := ⟨rfl, miCF_sp (by decide +kernel)⟩
set_option maxRecDepth 100000 in
theorem mo181 : MO mi181 := ⟨rfl, miCF_sp (by decide +kernel)⟩
set_option maxRecDepth 100000 in
theorem mo182 : MO mi182 := ⟨rfl, miCF_sp (by decide +kernel)⟩
set_option maxRecDepth 100000 in
theorem mo183 : MO mi183 := ⟨rfl, miCF_sp (by decide +kernel)⟩
set_option maxRecDepth 100000 in
theorem mo184 : MO mi184 := ⟨rfl, miCF_sp (by decide +kernel)⟩
set_option maxRecDepth 100000 in
theorem mo185 : MO mi185 := ⟨rfl, miCF_sp (by decide +kernel)⟩
set_option maxRecDepth 100000 in
theorem mo186 : MO mi186 := ⟨rfl, miCF_sp (by decide +kernel)⟩
set_option maxRecDepth 100000 in
theorem mo187 : MO mi187 := ⟨rfl, miCF_sp (by decide +kernel)⟩
set_option maxRecDepth 100000 in
theorem mo188 : MO mi188 := ⟨rfl, miCF_sp (by decide +kernel)⟩
set_option maxRecDepth 100000 in
theorem mo189 : MO mi189 := ⟨rfl, miCF_sp (by decide +kernel)⟩
set_option maxRecDepth 100000 in
theorem mo190 : MO mi190 := ⟨rfl, miCF_sp (by decide +kernel)⟩
set_option maxRecDepth 100000 in
theorem mo191 : MO mi191 := ⟨rfl, miCF_sp (by decide +kernel)⟩
set_option maxRecDepth 100000 in
theorem mo192 : MO mi192 := ⟨rfl, miCF_sp (by decide +kernel)⟩
set_option maxRecDepth 100000 in
theorem mo193 : MO mi193 := ⟨rfl, miCF_sp (by decide +kernel)⟩
set_option maxRecDepth 100000 in
theorem mo194 : MO mi194 := ⟨rfl, miCF_sp (by decide +kernel)⟩
set_option maxRecDepth 100000 in
theorem mo195 : MO mi195 := ⟨rfl, miCF_sp (by decide +kernel)⟩
set_option maxRecDepth 100000 in
theorem mo196 : MO mi196 := ⟨rfl, miCF_sp (by decide +kernel)⟩
set_option maxRecDepth 100000 in
theorem mo197 : MO mi197 := ⟨rfl, miCF_sp (by decide +kernel)⟩
set_option maxRecDepth 100000 in
theorem mo198 : MO mi198 := ⟨rfl, miCF_sp (by decide +kernel)⟩
set_option maxRecDepth 100000 in
theorem mo199 : MO mi199 := ⟨rfl, miCF_sp (by decide +kernel)⟩
set_option maxRecDepth 100000 in
theorem mo200 : MO mi200 := ⟨rfl, miCF_sp (by decide +kernel)⟩
set_option maxRecDepth 100000 in
theorem mo201 : MO mi201 := ⟨rfl, miCF_sp (by decide +kernel)⟩
set_option maxRecDepth 100000 in
theorem mo202 : MO mi202 := ⟨rfl, miCF_sp (by decide +kernel)⟩
set_option maxRecDepth 100000 in
theorem mo203 : MO mi203 := ⟨rfl, miCF_sp (by decide +kernel)⟩
set_option maxRecDepth 100000 in
theorem mo204 : MO mi204 := ⟨rfl, miCF_sp (by decide +kernel)⟩
set_option maxRecDepth 100000 in
theorem mo205 : MO mi205 := ⟨rfl, miCF_sp (by decide +kernel)⟩
set_option maxRecDepth 100000 in
theorem mo206 : MO mi206 := ⟨rfl, miCF_sp (by decide +kernel)⟩
set_option maxRecDepth 100000 in
theorem mo207 : MO mi207 := ⟨rfl, miCF_sp (by decide +kernel)⟩
set_option maxRecDepth 100000 in
theorem mo208 : MO mi208 := ⟨rfl, miCF_sp (by decide +kernel)⟩
set_option maxRecDepth 100000 in
theorem mo209 : MO mi209 := ⟨rfl, miCF_sp (by decide +kernel)⟩
set_option maxRecDepth 100000 in
theorem mo210 : MO mi210 := ⟨rfl, miCF_sp (by decide +kernel)⟩
set_option maxRecDepth 100000 in
theorem mo211 : MO mi211 := ⟨rfl, miCF_sp (by decide +kernel)⟩
set_option maxRecDepth 100000 in
theorem mo212 : MO mi212 := ⟨rfl, miCF_sp (by decide +kernel)⟩
set_option maxRecDepth 100000 in
theorem mo213 : MO mi213 := ⟨rfl, miCF_sp (by decide +kernel)⟩
set_option maxRecDepth 100000 in
theorem mo214 : MO mi214 := ⟨rfl, miCF_sp (by decide +kernel)⟩
set_option maxRecDepth 100000 in
theorem mo215 : MO mi215 := ⟨rfl, miCF_sp (by decide +kernel)⟩
set_option maxRecDepth 100000 in
theorem mo216 : MO mi216 := ⟨rfl, miCF_sp (by decide +kernel)⟩
set_option maxRecDepth 100000 in
theorem mo217 : MO mi217 := ⟨rfl, miCF_sp (by decide +kernel)⟩
set_option maxRecDepth 100000 in
theorem mo218 : MO mi218 := ⟨rfl, miCF_sp (by decide +kernel)⟩
set_option maxRecDepth 100000 in
theorem mo219 : MO mi219 := ⟨rfl, miCF_sp (by decide +kernel)⟩
set_option maxRecDepth 100000 in
theorem mo220 : MO mi220 := ⟨rfl, miCF_sp (by decide +kernel)⟩
set_option maxRecDepth 100000 in
theorem mo221 : MO mi221 := ⟨rfl, miCF_sp (by decide +kernel)⟩
set_option maxRecDepth 100000 in
theorem mo222 : MO mi222 := ⟨rfl, miCF_sp (by decide +kernel)⟩
set_option maxRecDepth 100000 in
theorem mo223 : MO mi223 := ⟨rfl, miCF_sp (by decide +kernel)⟩
set_option maxRecDepth 100000 in
theorem mo224 : MO mi224 := ⟨rfl, miCF_sp (by decide +kernel)⟩
set_option maxRecDepth 100000 in
theorem mo225 : MO mi225 := ⟨rfl, miCF_sp (by decide +kernel)⟩
set_option maxRecDepth 100000 in
theorem mo226 : MO mi226 := ⟨rfl, miCF_sp (by decide +kernel)⟩
set_option maxRecDepth 100000 in
theorem mo227 : MO mi227 := ⟨rfl, miCF_sp (by decide +kernel)⟩
set_option maxRecDepth 100000 in
theorem mo228 : MO mi228 := ⟨rfl, miCF_sp (by decide +kernel)⟩
set_option maxRecDepth 100000 in
theorem mo229 : MO mi229 := ⟨rfl, miCF_sp (by decide +kernel)⟩
set_option maxRecDepth 100000 in
theorem mo230 : MO mi230 := ⟨rfl, miCF_sp (by decide +kernel)⟩
set_option maxRecDepth 100000 in
theorem mo231 : MO mi231 := ⟨rfl, miCF_sp (by decide +kernel)⟩
set_option maxRecDepth 100000 in
theorem mo232 : MO mi232 := ⟨rfl, miCF_sp (by decide +kernel)⟩
set_option maxRecDepth 100000 in
theorem mo233 : MO mi233 := ⟨rfl, miCF_sp (by decide +kernel)⟩
set_option maxRecDepth 100000 in
theorem mo234 : MO mi234 := ⟨rfl, miCF_sp (by decide +kernel)⟩
set_option maxRecDepth 100000 in
theorem mo235 : MO mi235 := ⟨rfl, miCF_sp (by decide +kernel)⟩
set_option maxRecDepth 100000 in
theorem mo236 : MO mi236 := ⟨rfl, miCF_sp (by decide +kernel)⟩
set_option maxRecDepth 100000 in
theorem mo237 : MO mi237 := ⟨rfl, miCF_sp (by decide +kernel)⟩
set_option maxRecDepth 100000 in
theorem mo238 : MO mi238 := ⟨rfl, miCF_sp (by decide +kernel)⟩
set_option maxRecDepth 100000 in
theorem mo239 : MO mi239 := ⟨rfl, miCF_sp (by decide +kernel)⟩
set_option maxRecDepth 100000 in
theorem mo240 : MO mi240 := ⟨rfl, miCF_sp (by decide +kernel)⟩
set_option maxRecDepth 100000 in
theorem mo241 : MO mi241 := ⟨rfl, miCF_sp (by decide +kernel)⟩
set_option maxRecDepth 100000 in
theorem mo242 : MO mi242 := ⟨rfl, miCF_sp (by decide +kernel)⟩
set_option maxRecDepth 100000 in
theorem mo243 : MO mi243 := ⟨rfl, miCF_sp (by decide +kernel)⟩
set_option maxRecDepth 100000 in
theorem mo244 : MO mi244 := ⟨rfl, miCF_sp (by decide +kernel)⟩
set_option maxRecDepth 100000 in
theorem mo245 : MO mi245 := ⟨rfl, miCF_sp (by decide +kernel)⟩
set_option maxRecDepth 100000 in
theorem mo246 : MO mi246 := ⟨rfl, miCF_sp (by decide +kernel)⟩
set_option maxRecDepth 100000 in
theorem mo247 : MO mi247 := ⟨rfl, miCF_sp (by decide +kernel)⟩
set_option maxRecDepth 100000 in
theorem mo248 : MO mi248 := ⟨rfl, miCF_sp (by decide +kernel)⟩
set_option maxRecDepth 100000 in
theorem mo249 : MO mi249 := ⟨rfl, miCF_sp (by decide +kernel)⟩
set_option maxRecDepth 100000 in
theorem mo250 : MO mi250 := ⟨rfl, miCF_sp (by decide +kernel)⟩
set_option maxRecDepth 100000 in
theorem mo251 : MO mi251 := ⟨rfl, miCF_sp (by decide +kernel)⟩
set_option maxRecDepth 100000 in
theorem mo252 : MO mi252 := ⟨rfl, miCF_sp (by decide +kernel)⟩
set_option maxRecDepth 100000 in
theorem mo253 : MO mi253 := ⟨rfl, miCF_sp (by decide +kernel)⟩
set_option maxRecDepth 100000 in
theorem mo254 : MO mi254 := ⟨rfl, miCF_sp (by decide +kernel)⟩
set_option maxRecDepth 100000 in
theorem mo255 : MO mi255 := ⟨rfl, miCF_sp (by decide +kernel)⟩
set_option maxRecDepth 100000 in
theorem mo256 : MO mi256 := ⟨rfl, miCF_sp (by decide +kernel)⟩
set_option maxRecDepth 100000 in
theorem mo257 : MO mi257 := ⟨rfl, miCF_sp (by decide +kernel)⟩
set_option maxRecDepth 100000 in
theorem mo258 : MO mi258 := ⟨rfl, miCF_sp (by decide +kernel)⟩
set_option maxRecDepth 100000 in
theorem mo259 : MO mi259 := ⟨rfl, miCF_sp (by decide +kernel)⟩
set_option maxRecDepth 100000 in
theorem mo260 : MO mi260 := ⟨rfl, miCF_sp (by decide +kernel)⟩
set_option maxRecDepth 100000 in
theorem mo261 : MO mi261 := ⟨rfl, miCF_sp (by decide +kernel)⟩
set_option maxRecDepth 100000 in
theorem mo262 : MO mi262 := ⟨rfl, miCF_sp (by decide +kernel)⟩
set_option maxRecDepth 100000 in
theorem mo263 : MO mi263 := ⟨rfl, miCF_sp (by decide +kernel)⟩
set_option maxRecDepth 100000 in
theorem mo264 : MO mi264 := ⟨rfl, miCF_sp (by decide +kernel)⟩
set_option maxRecDepth 100000 in
theorem mo265 : MO mi265 := ⟨rfl, miCF_sp (by decide +kernel)⟩
theorem psM0_ok : ∀ m ∈ psM0, MO m := List.forall_mem_cons.mpr ⟨mo0, List.forall_mem_cons.mpr ⟨mo1, List.forall_mem_cons.mpr ⟨mo2, List.forall_mem_cons.mpr ⟨mo3, List.forall_mem_cons.mpr ⟨mo4, List.forall_mem_cons.mpr ⟨mo5, List.forall_mem_cons.mpr ⟨mo6, List.forall_mem_cons.mpr ⟨mo7, List.forall_mem_cons.mpr ⟨mo8, List.forall_mem_cons.mpr ⟨mo9, List.forall_mem_cons.mpr ⟨mo10, List.forall_mem_cons.mpr ⟨mo11, List.forall_mem_cons.mpr ⟨mo12, List.forall_mem_cons.mpr ⟨mo13, List.forall_mem_cons.mpr ⟨mo14, List.forall_mem_cons.mpr ⟨mo15, List.forall_mem_cons.mpr ⟨mo16, List.forall_mem_cons.mpr ⟨mo17, List.forall_mem_cons.mpr ⟨mo18, List.forall_mem_cons.mpr ⟨mo19, List.forall_mem_cons.mpr ⟨mo20, List.forall_mem_cons.mpr ⟨mo21, List.forall_mem_cons.mpr ⟨mo22, List.forall_mem_cons.mpr ⟨mo23, List.forall_mem_cons.mpr ⟨mo24, List.forall_mem_cons.mpr ⟨mo25, List.forall_mem_cons.mpr ⟨mo26, List.forall_mem_cons.mpr ⟨mo27, List.forall_mem_cons.mpr ⟨mo28, List.forall_mem_cons.mpr ⟨mo29, List.forall_mem_cons.mpr ⟨mo30, List.forall_mem_cons.mpr ⟨mo31, fun _ h => absurd h List.not_mem_nil⟩⟩⟩⟩⟩⟩⟩⟩⟩⟩⟩⟩⟩⟩⟩⟩⟩⟩⟩⟩⟩⟩⟩⟩⟩⟩⟩⟩⟩⟩⟩⟩
theorem psM1_ok : ∀ m ∈ psM1, MO m := List.forall_mem_cons.mpr ⟨mo32, List.forall_mem_cons.mpr ⟨mo33, List.forall_mem_cons.mpr ⟨mo34, List.forall_mem_cons.mpr ⟨mo35, List.forall_mem_cons.mpr ⟨mo36, List.forall_mem_cons.mpr ⟨mo37, List.forall_mem_cons.mpr ⟨mo38, List.forall_mem_cons.mpr ⟨mo39, List.forall_mem_cons.mpr ⟨mo40, List.forall_mem_cons.mpr ⟨mo41, List.forall_mem_cons.mpr ⟨mo42, List.forall_mem_cons.mpr ⟨mo43, List.forall_mem_cons.mpr ⟨mo44, List.forall_mem_cons.mpr ⟨mo45, List.forall_mem_cons.mpr ⟨mo46, List.forall_mem_cons.mpr ⟨mo47, List.forall_mem_cons.mpr ⟨mo48, List.forall_mem_cons.mpr ⟨mo49, List.forall_mem_cons.mpr ⟨mo50, List.forall_mem_cons.mpr ⟨mo51, List.forall_mem_cons.mpr ⟨mo52, List.forall_mem_cons.mpr ⟨mo53, List.forall_mem_cons.mpr ⟨mo54, List.forall_mem_cons.mpr ⟨mo55, List.forall_mem_cons.mpr ⟨mo56, List.forall_mem_cons.mpr ⟨mo57, List.forall_mem_cons.mpr ⟨mo58, List.forall_mem_cons.mpr ⟨mo59, List.forall_mem_cons.mpr ⟨mo60, List.forall_mem_cons.mpr ⟨mo61, List.forall_mem_cons.mpr ⟨mo62, List.forall_mem_cons.mpr ⟨mo63, fun _ h => absurd h List.not_mem_nil⟩⟩⟩⟩⟩⟩⟩⟩⟩⟩⟩⟩⟩⟩⟩⟩⟩⟩⟩⟩⟩⟩⟩⟩⟩⟩⟩⟩⟩⟩⟩⟩
theorem psM2_ok : ∀ m ∈ psM2, MO m := List.forall_mem_cons.mpr ⟨mo64, List.forall_mem_cons.mpr ⟨mo65, List.forall_mem_cons.mpr ⟨mo66, List.forall_mem_cons.mpr ⟨mo67, List.forall_mem_cons.mpr ⟨mo68, List.forall_mem_cons.mpr ⟨mo69, List.forall_mem_cons.mpr ⟨mo70, List.forall_mem_cons.mpr ⟨mo71, List.forall_mem_cons.mpr ⟨mo72, List.forall_mem_cons.mpr ⟨mo73, List.forall_mem_cons.mpr ⟨mo74, List.forall_mem_cons.mpr ⟨mo75, List.forall_mem_cons.mpr ⟨mo76, List.forall_mem_cons.mpr ⟨mo77, List.forall_mem_cons.mpr ⟨mo78, List.forall_mem_cons.mpr ⟨mo79, List.forall_mem_cons.mpr ⟨mo80, List.forall_mem_cons.mpr ⟨mo81, List.forall_mem_cons.mpr ⟨mo82, List.forall_mem_cons.mpr ⟨mo83, List.forall_mem_cons.mpr ⟨mo84, List.forall_mem_cons.mpr ⟨mo85, List.forall_mem_cons.mpr ⟨mo86, List.forall_mem_cons.mpr ⟨mo87, List.forall_mem_cons.mpr ⟨mo88, List.forall_mem_cons.mpr ⟨mo89, List.forall_mem_cons.mpr ⟨mo90, List.forall_mem_cons.mpr ⟨mo91, List.forall_mem_cons.mpr ⟨mo92, List.forall_mem_cons.mpr ⟨mo93, List.forall_mem_cons.mpr ⟨mo94, List.forall_mem_cons.mpr ⟨mo95, fun _ h => absurd h List.not_mem_nil⟩⟩⟩⟩⟩⟩⟩⟩⟩⟩⟩⟩⟩⟩⟩⟩⟩⟩⟩⟩⟩⟩⟩⟩⟩⟩⟩⟩⟩⟩⟩⟩
theorem psM3_ok : ∀ m ∈ psM3, MO m := List.forall_mem_cons.mpr ⟨mo96, List.forall_mem_cons.mpr ⟨mo97, List.forall_mem_cons.mpr ⟨mo98, List.forall_mem_cons.mpr ⟨mo99, List.forall_mem_cons.mpr ⟨mo100, List.forall_mem_cons.mpr ⟨mo101, List.forall_mem_cons.mpr ⟨mo102, List.forall_mem_cons.mpr ⟨mo103, List.forall_mem_cons.mpr ⟨mo104, List.forall_mem_cons.mpr ⟨mo105, List.forall_mem_cons.mpr ⟨mo106, List.forall_mem_cons.mpr ⟨mo107, List.forall_mem_cons.mpr ⟨mo108, List.forall_mem_cons.mpr ⟨mo109, List.forall_mem_cons.mpr ⟨mo110, List.forall_mem_cons.mpr ⟨mo111, List.forall_mem_cons.mpr ⟨mo112, List.forall_mem_cons.mpr ⟨mo113, List.forall_mem_cons.mpr ⟨mo114, List.forall_mem_cons.mpr ⟨mo115, List.forall_mem_cons.mpr ⟨mo116, List.forall_mem_cons.mpr ⟨mo117, List.forall_mem_cons.mpr ⟨mo118, List.forall_mem_cons.mpr ⟨mo119, List.forall_mem_cons.mpr ⟨mo120, List.forall_mem_cons.mpr ⟨mo121, List.forall_mem_cons.mpr ⟨mo122, List.forall_mem_cons.mpr ⟨mo123, List.forall_mem_cons.mpr ⟨mo124, List.forall_mem_cons.mpr ⟨mo125, List.forall_mem_cons.mpr ⟨mo126, List.forall_mem_cons.mpr ⟨mo127, fun _ h => absurd h List.not_mem_nil⟩⟩⟩⟩⟩⟩⟩⟩⟩⟩⟩⟩⟩⟩⟩⟩⟩⟩⟩⟩⟩⟩⟩⟩⟩⟩⟩⟩⟩⟩⟩⟩
theorem psM4_ok : ∀ m ∈ psM4, MO m := List.forall_mem_cons.mpr ⟨mo128, List.forall_mem_cons.mpr ⟨mo129, List.forall_mem_cons.mpr ⟨mo130, List.forall_mem_cons.mpr ⟨mo131, List.forall_mem_cons.mpr ⟨mo132, List.forall_mem_cons.mpr ⟨mo133, List.forall_mem_cons.mpr ⟨mo134, List.forall_mem_cons.mpr ⟨mo135, List.forall_mem_cons.mpr ⟨mo136, List.forall_mem_cons.mpr ⟨mo137, List.forall_mem_cons.mpr ⟨mo138, List.forall_mem_cons.mpr ⟨mo139, List.forall_mem_cons.mpr ⟨mo140, List.forall_mem_cons.mpr ⟨mo141, List.forall_mem_cons.mpr ⟨mo142, List.forall_mem_cons.mpr ⟨mo143, List.forall_mem_cons.mpr ⟨mo144, List.forall_mem_cons.mpr ⟨mo145, List.forall_mem_cons.mpr ⟨mo146, List.forall_mem_cons.mpr ⟨mo147, List.forall_mem_cons.mpr ⟨mo148, List.forall_mem_cons.mpr ⟨mo149, List.forall_mem_cons.mpr ⟨mo150, List.forall_mem_cons.mpr ⟨mo151, List.forall_mem_cons.mpr ⟨mo152, List.forall_mem_cons.mpr ⟨mo153, List.forall_mem_cons.mpr ⟨mo154, List.forall_mem_cons.mpr ⟨mo155, List.forall_mem_cons.mpr ⟨mo156, List.forall_mem_cons.mpr ⟨mo157, List.forall_mem_cons.mpr ⟨mo158, List.forall_mem_cons.mpr ⟨mo159, fun _ h => absurd h List.not_mem_nil⟩⟩⟩⟩⟩⟩⟩⟩⟩⟩⟩⟩⟩⟩⟩⟩⟩⟩⟩⟩⟩⟩⟩⟩⟩⟩⟩⟩⟩⟩⟩⟩
theorem psM5_ok : ∀ m ∈ psM5, MO m := List.forall_mem_cons.mpr ⟨mo160, List.forall_mem_cons.mpr ⟨mo161, List.forall_mem_cons.mpr ⟨mo162, List.forall_mem_cons.mpr ⟨mo163, List.forall_mem_cons.mpr ⟨mo164, List.forall_mem_cons.mpr ⟨mo165, List.forall_mem_cons.mpr ⟨mo166, List.forall_mem_cons.mpr ⟨mo167, List.forall_mem_cons.mpr ⟨mo168, List.forall_mem_cons.mpr ⟨mo169, List.forall_mem_cons.mpr ⟨mo170, List.forall_mem_cons.mpr ⟨mo171, List.forall_mem_cons.mpr ⟨mo172, List.forall_mem_cons.mpr ⟨mo173, List.forall_mem_cons.mpr ⟨mo174, List.forall_mem_cons.mpr ⟨mo175, List.forall_mem_cons.mpr ⟨mo176, List.forall_mem_cons.mpr ⟨mo177, List.forall_mem_cons.mpr ⟨mo178, List.forall_mem_cons.mpr ⟨mo179, List.forall_mem_cons.mpr ⟨mo180, List.forall_mem_cons.mpr ⟨mo181, List.forall_mem_cons.mpr ⟨mo182, List.forall_mem_cons.mpr ⟨mo183, List.forall_mem_cons.mpr ⟨mo184, List.forall_mem_cons.mpr ⟨mo185, List.forall_mem_cons.mpr ⟨mo186, List.forall_mem_cons.mpr ⟨mo187, List.forall_mem_cons.mpr ⟨mo188, List.forall_mem_cons.mpr ⟨mo189, List.forall_mem_cons.mpr ⟨mo190, List.forall_mem_cons.mpr ⟨mo191, fun _ h => absurd h List.not_mem_nil⟩⟩⟩⟩⟩⟩⟩⟩⟩⟩⟩⟩⟩⟩⟩⟩⟩⟩⟩⟩⟩⟩⟩⟩⟩⟩⟩⟩⟩⟩⟩⟩
theorem psM6_ok : ∀ m ∈ psM6, MO m := List.forall_mem_cons.mpr ⟨mo192, List.forall_mem_cons.mpr ⟨mo193, List.forall_mem_cons.mpr ⟨mo194, List.forall_mem_cons.mpr ⟨mo195, List.forall_mem_cons.mpr ⟨mo196, List.forall_mem_cons.mpr ⟨mo197, List.forall_mem_cons.mpr ⟨mo198, List.forall_mem_cons.mpr ⟨mo199, List.forall_mem_cons.mpr ⟨mo200, List.forall_mem_cons.mpr ⟨mo201, List.forall_mem_cons.mpr ⟨mo202, List.forall_mem_cons.mpr ⟨mo203, List.forall_mem_cons.mpr ⟨mo204, List.forall_mem_cons.mpr ⟨mo205, List.forall_mem_cons.mpr ⟨mo206, List.forall_mem_cons.mpr ⟨mo207, List.forall_mem_cons.mpr ⟨mo208, List.forall_mem_cons.mpr ⟨mo209, List.forall_mem_cons.mpr ⟨mo210, List.forall_mem_cons.mpr ⟨mo211, List.forall_mem_cons.mpr ⟨mo212, List.forall_mem_cons.mpr ⟨mo213, List.forall_mem_cons.mpr ⟨mo214, List.forall_mem_cons.mpr ⟨mo215, List.forall_mem_cons.mpr ⟨mo216, List.forall_mem_cons.mpr ⟨mo217, List.forall_mem_cons.mpr ⟨mo218, List.forall_mem_cons.mpr ⟨mo219, List.forall_mem_cons.mpr ⟨mo220, List.forall_mem_cons.mpr ⟨mo221, List.forall_mem_cons.mpr ⟨mo222, List.forall_mem_cons.mpr ⟨mo223, fun _ h => absurd h List.not_mem_nil⟩⟩⟩⟩⟩⟩⟩⟩⟩⟩⟩⟩⟩⟩⟩⟩⟩⟩⟩⟩⟩⟩⟩⟩⟩⟩⟩⟩⟩⟩⟩⟩
theorem psM7_ok : ∀ m ∈ psM7, MO m := List.forall_mem_cons.mpr ⟨mo224, List.forall_mem_cons.mpr ⟨mo225, List.forall_mem_cons.mpr ⟨mo226, List.forall_mem_cons.mpr ⟨mo227, List.forall_mem_cons.mpr ⟨mo228, List.forall_mem_cons.mpr ⟨mo229, List.forall_mem_cons.mpr ⟨mo230, List.forall_mem_cons.mpr ⟨mo231, List.forall_mem_cons.mpr ⟨mo232, List.forall_mem_cons.mpr ⟨mo233, List.forall_mem_cons.mpr ⟨mo234, List.forall_mem_cons.mpr ⟨mo235, List.forall_mem_cons.mpr ⟨mo236, List.forall_mem_cons.mpr ⟨mo237, List.forall_mem_cons.mpr ⟨mo238, List.forall_mem_cons.mpr ⟨mo239, List.forall_mem_cons.mpr ⟨mo240, List.forall_mem_cons.mpr ⟨mo241, List.forall_mem_cons.mpr ⟨mo242, List.forall_mem_cons.mpr ⟨mo243, List.forall_mem_cons.mpr ⟨mo244, List.forall_mem_cons.mpr ⟨mo245, List.forall_mem_cons.mpr ⟨mo246, List.forall_mem_cons.mpr ⟨mo247, List.forall_mem_cons.mpr ⟨mo248, List.forall_mem_cons.mpr ⟨mo249, List.forall_mem_cons.mpr ⟨mo250, List.forall_mem_cons.mpr ⟨mo251, List.forall_mem_cons.mpr ⟨mo252, List.forall_mem_cons.mpr ⟨mo253, List.forall_mem_cons.mpr ⟨mo254, List.forall_mem_cons.mpr ⟨mo255, fun _ h => absurd h List.not_mem_nil⟩⟩⟩⟩⟩⟩⟩⟩⟩⟩⟩⟩⟩⟩⟩⟩⟩⟩⟩⟩⟩⟩⟩⟩⟩⟩⟩⟩⟩⟩⟩⟩
theorem psM8_ok : ∀ m ∈ psM8, MO m := List.forall_mem_cons.mpr ⟨mo256, List.forall_mem_cons.mpr ⟨mo257, List.forall_mem_cons.mpr ⟨mo258, List.forall_mem_cons.mpr ⟨mo259, List.forall_mem_cons.mpr ⟨mo260, List.forall_mem_cons.mpr ⟨mo261, List.forall_mem_cons.mpr ⟨mo262, List.forall_mem_cons.mpr ⟨mo263, List.forall_mem_cons.mpr ⟨mo264, List.forall_mem_cons.mpr ⟨mo265, fun _ h => absurd h List.not_mem_nil⟩⟩⟩⟩⟩⟩⟩⟩⟩⟩
theorem psM_ok : ∀ m ∈ psM, MO m := by
  intro m h
  simp only [psM, List.mem_append] at h
  rcases h with h | h | h | h | h | h | h | h | h
  · exact psM0_ok m h
  · exact psM1_ok m h
  · exact psM2_ok m h
  · exact psM3_ok m h
  · exact psM4_ok m h
  · exact psM5_ok m h
  · exact psM6_ok m h
  · exact psM7_ok m h
  · exact psM8_ok m h
set_option maxRecDepth 100000 in
theorem vw_in : ∀ q ∈ vwCl, ∀ w ∈ u_ws q.1 q.2.1 q.2.2, w ∈ lw_tbl ∧ goodWord w = true := by decide +kernel
theorem vw_gT {ci : Nat} {C : String} {T : u_T} {N : Nat} (h : vwCl[ci]? = some (C, T, N)) : ∀ w ∈ u_ws C T N, w ∈ gT := fun w hw => List.mem_filter.mpr (vw_in _ (List.mem_of_getElem? h) w hw)
theorem lb0 : Jvm.Cond.static Lib.Math.max.name ∈ gT := hasW_in (q := lbq0) (by decide +kernel)
theorem lb1 : Jvm.Cond.static Lib.Math.min.name ∈ gT := hasW_in (q := lbq1) (by decide +kernel)
theorem lb2 : Jvm.Cond.initialized "java/lang/Math" ∈ gT := hasW_in (q := lbq2) (by decide +kernel)
theorem lb3 : Jvm.Cond.native arraycopyName ∈ gT := hasW_in (q := lbq3) (by decide +kernel)
theorem lb4 : Jvm.Cond.static arraycopyName ∈ gT := hasW_in (q := lbq4) (by decide +kernel)
theorem lb5 : Jvm.Cond.initialized "java/lang/System" ∈ gT := hasW_in (q := lbq5) (by decide +kernel)
theorem lb6 : Jvm.Cond.code Lib.Math.max.name Lib.Math.max.code 2 (some .int) ∈ gT := hasW_in (q := lbq6) (by decide +kernel)
theorem lb7 : Jvm.Cond.code Lib.Math.min.name Lib.Math.min.code 2 (some .int) ∈ gT := hasW_in (q := lbq7) (by decide +kernel)
end
section
/-! The world: the cells of the object graph at their addresses; how each store changes it. -/
def tr (ad : Nat → Nat) : Value → Value
  | .ref r => .ref (ad r)
  | v => v
def fv (ad : Nat → Nat) (h : Hp) (i k : Nat) : Value := match (oF i)[k]? with
  | some (some v) => tr ad v
  | _ => .int (h.1 i (nI k))
def fsL (ad : Nat → Nat) (h : Hp) (i : Nat) : List Value := (List.range (oF i).length).map (fv ad h i)
def ent (ad : Nat → Nat) (cA : Nat → ClassId) (h : Hp) (i : Nat) : va_E := if oK i = 0 then .inl (cA 0, (oP i, .inl (fun j => h.1 i (nI j)))) else if oK i = 1 then .inl (cA 1, (oP i, .inr (.inl (fun j => h.2.1 i (nI j))))) else if oK i = 2 then .inl (cA 2, (oP i, .inl (fun j => h.1 i (nI j)))) else .inr (oP i, fsL ad h i)
def wl (ad : Nat → Nat) (cA : Nat → ClassId) (h : Hp) : va_W := (List.range psNO).map (fun i => (ad i, ent ad cA h i))
def tysP (cA : Nat → ClassId) : List (ClassId × FieldType) := [(cA 0, .int), (cA 1, .long), (cA 2, .boolean)]
theorem oT_len : oT.length = psNO := by decide +kernel
theorem oK_lt {i : Nat} (h : oK i ≠ 9) : i < psNO := by
  rcases Nat.lt_or_ge i psNO with q | q
  · exact q
  · exact absurd (by unfold oK; rw [List.getD_eq_getElem?_getD, List.getElem?_eq_none (by rw [oT_len]; exact q)]; rfl) h
theorem wl_at {ad : Nat → Nat} {cA : Nat → ClassId} {h : Hp} {i : Nat} (hi : i < psNO) : (wl ad cA h)[i]? = some (ad i, ent ad cA h i) := by
  unfold wl
  rw [List.getElem?_map, List.getElem?_range hi]
  rfl
theorem wl_none {ad : Nat → Nat} {cA : Nat → ClassId} {h : Hp} {i : Nat} (hi : ¬ i < psNO) : (wl ad cA h)[i]? = none := List.getElem?_eq_none (by unfold wl; simp; omega)
/-- a cell is another now: the world of the new heap -/
theorem wl_P {ad : Nat → Nat} {D : va_G} {cA : Nat → ClassId} {h h' : Hp} {i : Nat} {e : va_E} {H : Heap} (hi : i < psNO) (he : va_at D vwCl (ad i, e) H → va_at D vwCl (ad i, ent ad cA h' i) H) (ho : ∀ j, j ≠ i → ent ad cA h' j = ent ad cA h j) (hP : va_P D vwCl ((wl ad cA h).set i (ad i, e)) H) : va_P D vwCl (wl ad cA h') H := by
  have hl : i < (wl ad cA h).length := by unfold wl; simpa using hi
  intro k q hk
  by_cases hkn : k < psNO
  · rw [wl_at hkn] at hk
    cases hk
    by_cases hki : k = i
    · subst hki
      exact he (hP k _ (List.getElem?_set_self hl))
    · have := hP k (ad k, ent ad cA h k) (by rw [List.getElem?_set_ne (fun q => hki q.symm)]; exact wl_at hkn)
      rw [ho k hki]
      exact this
  · rw [wl_none hkn] at hk
    cases hk
theorem wl_D {ad : Nat → Nat} {cA : Nat → ClassId} {A : Nat → Prop} {h h' : Hp} (hD : va_D A (wl ad cA h)) : va_D A (wl ad cA h') := by
  have key : ∀ (k : Nat) (q : Nat × va_E), (wl ad cA h')[k]? = some q → ∃ q0, (wl ad cA h)[k]? = some q0 ∧ q0.1 = q.1 := by
    intro k q hk
    by_cases hkn : k < psNO
    · rw [wl_at hkn] at hk
      cases hk
      exact ⟨_, wl_at hkn, rfl⟩
    · rw [wl_none hkn] at hk
      cases hk
  refine ⟨fun i j x y hi hj hxy => ?_, fun k q hk => ?_⟩
  · obtain ⟨x0, h1, h2⟩ := key i x hi
    obtain ⟨y0, h3, h4⟩ := key j y hj
    exact hD.1 i j x0 y0 h1 h3 (h2.trans (hxy.trans h4.symm))
  · obtain ⟨q0, h1, h2⟩ := key k q hk
    rw [← h2]
    exact hD.2 k q0 h1
theorem arrV_congr {cI : ClassId} {N : Nat} {f g : Nat → Value} (h : ∀ j, j < N → f j = g j) : arrV cI N f = arrV cI N g := by
  unfold arrV
  congr 1
  apply Array.ext
  · simp
  · intro i h1 h2
    simp only [Array.getElem_ofFn]
    exact h i (by simpa using h1)
/-- what is read at a place in range -/
theorem nI_at {j : Int32} {n : Nat} (h : ibd j n) (hn : n < 2 ^ 31) : ∃ k, k < n ∧ j = nI k ∧ j.toNatClampNeg = k := by
  obtain ⟨h0, h1⟩ := h
  obtain ⟨k, hk, rfl⟩ := nI_of (x := j) (by rw [Int32.lt_iff_toInt_lt, Int32.toInt_zero]; rw [Int32.le_iff_toInt_le, Int32.toInt_zero] at h0; omega)
  rw [nI_ltI hk hn] at h1
  exact ⟨k, h1, rfl, nI_clamp hk⟩
theorem ibd_in {j : Int32} {n : Nat} (h : ibd j n) (hn : n < 2 ^ 31) : vp_in j n := by
  obtain ⟨k, h1, rfl, -⟩ := nI_at h hn
  exact vp_in_nI h1 hn
theorem oP_small : oT.all (fun q => decide (q.2.1 < 100000)) = true := by decide +kernel
theorem oP_lt (r : Nat) : oP r < 2 ^ 31 := by
  unfold oP
  rw [List.getD_eq_getElem?_getD]
  cases h : oT[r]? with
  | none => show 0 < _; decide
  | some q =>
    have := List.all_eq_true.mp oP_small q (List.mem_of_getElem? h)
    simp only [decide_eq_true_eq] at this
    show q.2.1 < _
    omega
theorem fsL_at {ad : Nat → Nat} {h : Hp} {i k : Nat} {v : Value} (hv : gfv h i k (nI k) = some v) : (fsL ad h i)[k]? = some (tr ad v) := by
  unfold gfv at hv
  have hk : k < (oF i).length := by
    rcases Nat.lt_or_ge k (oF i).length with q | q
    · exact q
    · rw [List.getElem?_eq_none q] at hv; cases hv
  unfold fsL
  rw [List.getElem?_map, List.getElem?_range hk]
  show some (fv ad h i k) = _
  unfold fv
  cases hq : (oF i)[k]? with
  | none => rw [hq] at hv; cases hv
  | some o =>
    rw [hq] at hv
    cases o with
    | some w => cases hv; rfl
    | none => cases hv; rfl
theorem hI_ne {h : Hp} {i a : Nat} {j b v : Int32} (hn : a ≠ i) : (hI h i j v).1 a b = h.1 a b := by
  show (if a = i ∧ b = j then v else h.1 a b) = _
  rw [if_neg (fun q => hn q.1)]
theorem hI_rowne {h : Hp} {i a : Nat} {j v : Int32} (hn : a ≠ i) : (hI h i j v).1 a = h.1 a := by
  funext b
  exact hI_ne hn
theorem hL_rowne {h : Hp} {i a : Nat} {j : Int32} {v : Int64} (hn : a ≠ i) : (hL h i j v).2.1 a = h.2.1 a := by
  funext b
  show (if a = i ∧ b = j then v else h.2.1 a b) = _
  rw [if_neg (fun q => hn q.1)]
theorem hC_rowne {h : Hp} {s d a : Nat} {sp dp n : Int32} (hn : a ≠ d) : (hC h s sp d dp n).1 a = h.1 a := by
  funext b
  show (if a = d ∧ _ then _ else h.1 a b) = _
  rw [if_neg (fun q => hn q.1)]
theorem hCL_rowne {h : Hp} {s d a : Nat} {sp dp n : Int32} (hn : a ≠ d) : (hCL h s sp d dp n).2.1 a = h.2.1 a := by
  funext b
  show (if a = d ∧ _ then _ else h.2.1 a b) = _
  rw [if_neg (fun q => hn q.1)]
/-- a store at a place in range, as the cells have it -/
theorem hI_cell {h : Hp} {i n k : Nat} {j v : Int32} (h1 : ibd j n) (hn : n < 2 ^ 31) (hk : k < n) : upd (fun j => h.1 i (nI j)) j.toNatClampNeg v k = (hI h i j v).1 i (nI k) := by
  obtain ⟨m, hm, rfl, e⟩ := nI_at h1 hn
  rw [e]
  show (if k = m then v else h.1 i (nI k)) = (if i = i ∧ nI k = nI m then v else h.1 i (nI k))
  by_cases hkm : k = m
  · subst hkm; simp
  · rw [if_neg hkm, if_neg (fun q => hkm ((nI_eq (by omega) (by omega)).mp q.2))]
theorem hL_cell {h : Hp} {i n k : Nat} {j : Int32} {v : Int64} (h1 : ibd j n) (hn : n < 2 ^ 31) (hk : k < n) : vp_updL (fun j => h.2.1 i (nI j)) j.toNatClampNeg v k = (hL h i j v).2.1 i (nI k) := by
  obtain ⟨m, hm, rfl, e⟩ := nI_at h1 hn
  rw [e]
  show (if k = m then v else h.2.1 i (nI k)) = (if i = i ∧ nI k = nI m then v else h.2.1 i (nI k))
  by_cases hkm : k = m
  · subst hkm; simp
  · rw [if_neg hkm, if_neg (fun q => hkm ((nI_eq (by omega) (by omega)).mp q.2))]
theorem cpG_nat {sp dp n : Int32} {ls ld : Nat} (h : cpG sp dp n ls ld) (h1 : ls < 2 ^ 31) (h2 : ld < 2 ^ 31) : ∃ a b c : Nat, sp = nI a ∧ dp = nI b ∧ n = nI c ∧ a + c ≤ ls ∧ b + c ≤ ld := by
  obtain ⟨g1, g2, g3, g4, g5, g6, g7⟩ := h
  have pos : ∀ {x : Int32}, 0 ≤ x → ∃ j : Nat, j < 2 ^ 31 ∧ x = nI j := fun {x} hx => nI_of (x := x) (by rw [Int32.lt_iff_toInt_lt, Int32.toInt_zero]; rw [Int32.le_iff_toInt_le, Int32.toInt_zero] at hx; omega)
  obtain ⟨a, ha, rfl⟩ := pos g1
  obtain ⟨b, hb, rfl⟩ := pos g2
  obtain ⟨c, hc, rfl⟩ := pos g3
  rw [nI_leI hc h1] at g4
  rw [nI_leI hc h2] at g6
  rw [pk_sub g4, nI_leI ha (by omega)] at g5
  rw [pk_sub g6, nI_leI hb (by omega)] at g7
  exact ⟨a, b, c, rfl, rfl, rfl, by omega, by omega⟩
theorem nI_cpy {b k a : Nat} (hb : b ≤ k) (hk : k < 2 ^ 31) : nI a + (nI k - nI b) = nI (a + (k - b)) := by rw [pk_sub hb, nI_add]
theorem hC_cell {h : Hp} {s d k ls ld : Nat} {sp dp n : Int32} (hg : cpG sp dp n ls ld) (h1 : ls < 2 ^ 31) (h2 : ld < 2 ^ 31) (hk : k < ld) : va_cpy (fun j => h.1 s (nI j)) (fun j => h.1 d (nI j)) sp.toNatClampNeg dp.toNatClampNeg n.toNatClampNeg k = (hC h s sp d dp n).1 d (nI k) := by
  obtain ⟨a, b, c, rfl, rfl, rfl, e1, e2⟩ := cpG_nat hg h1 h2
  rw [nI_clamp (by omega), nI_clamp (by omega), nI_clamp (by omega)]
  show (if b ≤ k ∧ k < b + c then h.1 s (nI (a + (k - b))) else h.1 d (nI k)) = (if d = d ∧ nI b ≤ nI k ∧ nI k < nI b + nI c then h.1 s (nI a + (nI k - nI b)) else h.1 d (nI k))
  have hh : (d = d ∧ nI b ≤ nI k ∧ nI k < nI b + nI c) ↔ (b ≤ k ∧ k < b + c) := by
    rw [nI_add, nI_leI (by omega) (by omega), nI_ltI (by omega) (by omega)]
    exact ⟨fun q => q.2, fun q => ⟨rfl, q⟩⟩
  by_cases hc : b ≤ k ∧ k < b + c
  · rw [if_pos hc, if_pos (hh.mpr hc), nI_cpy hc.1 (by omega)]
  · rw [if_neg hc, if_neg (fun q => hc (hh.mp q))]
theorem hCL_cell {h : Hp} {s d k ls ld : Nat} {sp dp n : Int32} (hg : cpG sp dp n ls ld) (h1 : ls < 2 ^ 31) (h2 : ld < 2 ^ 31) (hk : k < ld) : va_cpy (fun j => h.2.1 s (nI j)) (fun j => h.2.1 d (nI j)) sp.toNatClampNeg dp.toNatClampNeg n.toNatClampNeg k = (hCL h s sp d dp n).2.1 d (nI k) := by
  obtain ⟨a, b, c, rfl, rfl, rfl, e1, e2⟩ := cpG_nat hg h1 h2
  rw [nI_clamp (by omega), nI_clamp (by omega), nI_clamp (by omega)]
  show (if b ≤ k ∧ k < b + c then h.2.1 s (nI (a + (k - b))) else h.2.1 d (nI k)) = (if d = d ∧ nI b ≤ nI k ∧ nI k < nI b + nI c then h.2.1 s (nI a + (nI k - nI b)) else h.2.1 d (nI k))
  have hh : (d = d ∧ nI b ≤ nI k ∧ nI k < nI b + nI c) ↔ (b ≤ k ∧ k < b + c) := by
    rw [nI_add, nI_leI (by omega) (by omega), nI_ltI (by omega) (by omega)]
    exact ⟨fun q => q.2, fun q => ⟨rfl, q⟩⟩
  by_cases hc : b ≤ k ∧ k < b + c
  · rw [if_pos hc, if_pos (hh.mpr hc), nI_cpy hc.1 (by omega)]
  · rw [if_neg hc, if_neg (fun q => hc (hh.mp q))]
theorem ent_ne {ad : Nat → Nat} {cA : Nat → ClassId} {h h' : Hp} {j : Nat} (h1 : h'.1 j = h.1 j) (h2 : h'.2.1 j = h.2.1 j) : ent ad cA h' j = ent ad cA h j := by
  have hf : fsL ad h' j = fsL ad h j := by
    unfold fsL
    congr 1
    funext k
    unfold fv
    rw [h1]
  unfold ent
  rw [h1, h2, hf]
theorem ent_0 {ad : Nat → Nat} {cA : Nat → ClassId} {h : Hp} {i : Nat} (hk : oK i = 0) : ent ad cA h i = .inl (cA 0, (oP i, .inl (fun j => h.1 i (nI j)))) := by unfold ent; rw [if_pos hk]
theorem ent_1 {ad : Nat → Nat} {cA : Nat → ClassId} {h : Hp} {i : Nat} (hk : oK i = 1) : ent ad cA h i = .inl (cA 1, (oP i, .inr (.inl (fun j => h.2.1 i (nI j))))) := by unfold ent; rw [if_neg (by omega), if_pos hk]
theorem ent_2 {ad : Nat → Nat} {cA : Nat → ClassId} {h : Hp} {i : Nat} (hk : oK i = 2) : ent ad cA h i = .inl (cA 2, (oP i, .inl (fun j => h.1 i (nI j)))) := by unfold ent; rw [if_neg (by omega), if_neg (by omega), if_pos hk]
theorem ent_3 {ad : Nat → Nat} {cA : Nat → ClassId} {h : Hp} {i : Nat} (hk : oK i = 3) : ent ad cA h i = .inr (oP i, fsL ad h i) := by unfold ent; rw [if_neg (by omega), if_neg (by omega), if_neg (by omega)]
theorem oF_len0 : oT.all (fun q => decide (q.2.2.length < 100)) = true := by decide +kernel
theorem oF_lt (r : Nat) : (oF r).length < 100 := by
  unfold oF
  rw [List.getD_eq_getElem?_getD]
  cases h : oT[r]? with
  | none => show 0 < _; decide
  | some q =>
    have := List.all_eq_true.mp oF_len0 q (List.mem_of_getElem? h)
    simp only [decide_eq_true_eq] at this
    exact this
theorem fsL_set {ad : Nat → Nat} {h : Hp} {i k : Nat} {v : Int32} (hk : (oF i)[k]? = some none) : (fsL ad h i).set k (.int v) = fsL ad (hI h i (nI k) v) i := by
  have hl : k < (oF i).length := (List.getElem?_eq_some_iff.mp hk).1
  have h100 := oF_lt i
  apply List.ext_getElem?
  intro j
  by_cases hj : j = k
  · subst hj
    rw [List.getElem?_set_self (by unfold fsL; simpa using hl)]
    unfold fsL
    rw [List.getElem?_map, List.getElem?_range hl]
    show _ = some (fv ad (hI h i (nI j) v) i j)
    unfold fv
    rw [hk]
    show _ = some (Value.int (if i = i ∧ nI j = nI j then v else h.1 i (nI j)))
    simp
  · rw [List.getElem?_set_ne (fun q => hj q.symm)]
    unfold fsL
    rw [List.getElem?_map, List.getElem?_map]
    cases hq : (List.range (oF i).length)[j]? with
    | none => rfl
    | some j' =>
      have hjl := List.getElem?_eq_some_iff.mp hq
      obtain ⟨hjl1, e⟩ := hjl
      have : j' = j := by simpa using e.symm
      subst this
      have hjl2 : j' < (oF i).length := by simpa using hjl1
      show some (fv ad h i j') = some (fv ad (hI h i (nI k) v) i j')
      have hne : ¬ (i = i ∧ nI j' = nI k) := fun q => hj ((nI_eq (by omega) (by omega)).mp q.2)
      unfold fv
      cases (oF i)[j']? with
      | none =>
        show some (Value.int (h.1 i (nI j'))) = some (Value.int (if i = i ∧ nI j' = nI k then v else h.1 i (nI j')))
        rw [if_neg hne]
      | some o =>
        cases o with
        | some w => rfl
        | none =>
          show some (Value.int (h.1 i (nI j'))) = some (Value.int (if i = i ∧ nI j' = nI k then v else h.1 i (nI j')))
          rw [if_neg hne]
/-- the fields that a method may write -/
def pfC (a b : Nat) : Bool := match vwCl[a]? with
  | some (_, T, N) => decide (b < N) && !(T b).2.2.2 && decide ((T b).2.2.1 = (if isZf a b = true then "Z" else "I"))
  | none => false
set_option maxRecDepth 100000 in
theorem pf_all : (List.range psNO).all (fun r => (List.range 40).all (fun b => if oK r = 3 then (match (oF r)[b]? with
  | some none => pfC (oP r) b
  | _ => true) else true)) = true := by decide +kernel
set_option maxRecDepth 100000 in
theorem oF_len : (List.range psNO).all (fun r => decide ((oF r).length ≤ 40)) = true := by decide +kernel
theorem pf_ok {r b : Nat} (h3 : oK r = 3) (hb : (oF r)[b]? = some none) : pfC (oP r) b = true := by
  have hr : r < psNO := oK_lt (by omega)
  have hl := List.all_eq_true.mp oF_len r (List.mem_range.mpr hr)
  have hb2 : b < 40 := Nat.lt_of_lt_of_le (List.getElem?_eq_some_iff.mp hb).1 (by simpa using hl)
  have h := List.all_eq_true.mp (List.all_eq_true.mp pf_all r (List.mem_range.mpr hr)) b (List.mem_range.mpr hb2)
  rw [if_pos h3, hb] at h
  exact h
theorem vw_ty {ci : Nat} {C : String} {T : u_T} {N : Nat} (h : vwCl[ci]? = some (C, T, N)) : (∃ ty0 : Nat → FieldType, ∀ k, k < N → parseFieldDescriptor (T k).2.2.1 = some (ty0 k)) ∧ (∀ a, a < N → ∀ b, b < N → a ≠ b → (T a).2.1 ≠ (T b).2.1) := by
  match ci, h with
  | 0, h => cases h; exact ⟨⟨tyX0, tyX0_ok⟩, nmX0⟩
  | 1, h => cases h; exact ⟨⟨tyX1, tyX1_ok⟩, nmX1⟩
  | 2, h => cases h; exact ⟨⟨tyX2, tyX2_ok⟩, nmX2⟩
  | 3, h => cases h; exact ⟨⟨tyX3, tyX3_ok⟩, nmX3⟩
  | 4, h => cases h; exact ⟨⟨tyX4, tyX4_ok⟩, nmX4⟩
  | 5, h => cases h; exact ⟨⟨tyX5, tyX5_ok⟩, nmX5⟩
  | 6, h => cases h; exact ⟨⟨tyX6, tyX6_ok⟩, nmX6⟩
  | 7, h => cases h; exact ⟨⟨tyX7, tyX7_ok⟩, nmX7⟩
  | 8, h => cases h; exact ⟨⟨tyX8, tyX8_ok⟩, nmX8⟩
  | 9, h => cases h; exact ⟨⟨tyX9, tyX9_ok⟩, nmX9⟩
  | 10, h => cases h; exact ⟨⟨tyX10, tyX10_ok⟩, nmX10⟩
  | 11, h => cases h; exact ⟨⟨tyX11, tyX11_ok⟩, nmX11⟩
  | n + 12, h => simp [vwCl] at h
/-- the locals: what is known of each -/
def LH (ad : Nat → Nat) (la : Array Slot) (n : Nat) (ls : Lc) : Prop := la.size = n ∧ lv_wf la ∧ ls.length = n ∧ ∀ (k : Nat) (v : Value), ls[k]? = some (some v) → la[k]? = some (.val (tr ad v))
def knL (ad : Nat → Nat) (ls : Lc) : List (Nat × Value) := (List.range ls.length).filterMap (fun k => match ls[k]? with
  | some (some v) => some (k, tr ad v)
  | _ => none)
theorem knL_in {ad : Nat → Nat} {ls : Lc} {q : Nat × Value} : q ∈ knL ad ls ↔ ∃ v, ls[q.1]? = some (some v) ∧ q.2 = tr ad v := by
  unfold knL
  rw [List.mem_filterMap]
  constructor
  · rintro ⟨k, -, hk⟩
    cases h : ls[k]? with
    | none => rw [h] at hk; cases hk
    | some o =>
      rw [h] at hk
      cases o with
      | none => cases hk
      | some v => cases hk; exact ⟨v, h, rfl⟩
  · rintro ⟨v, h, e⟩
    refine ⟨q.1, List.mem_range.mpr (List.getElem?_eq_some_iff.mp h).1, ?_⟩
    rw [h]
    show some (q.1, tr ad v) = some q
    rw [← e]
theorem LH.has {ad : Nat → Nat} {la : Array Slot} {n : Nat} {ls : Lc} (h : LH ad la n ls) : lv_has la n (knL ad ls) := by
  refine ⟨h.1, h.2.1, fun q hq => ?_⟩
  obtain ⟨v, h1, h2⟩ := knL_in.mp hq
  rw [h2]
  exact h.2.2.2 _ _ h1
theorem LH.of {ad : Nat → Nat} {la : Array Slot} {n : Nat} {ls : Lc} {l : List (Nat × Value)} (h : lv_has la n l) (hn : ls.length = n) (hk : ∀ (k : Nat) (v : Value), ls[k]? = some (some v) → (k, tr ad v) ∈ l) : LH ad la n ls := ⟨h.1, h.2.1, hn, fun k v hv => h.2.2 (k, tr ad v) (hk k v hv)⟩
theorem tr_cat (ad : Nat → Nat) (v : Value) : (tr ad v).category = v.category := by cases v <;> rfl
/-- the locals behind a store of one slot -/
theorem LH.store {ad : Nat → Nat} {la' : Array Slot} {n k : Nat} {ls : Lc} {v : Value} (hn : ls.length = n) (hp : isLong ls[k - 1]? = false) (h : lv_has la' n ((k, tr ad v) :: (knL ad ls).filter (fun q => !(q.1 == k) && !(q.1 + 1 == k && q.2.category == 2)))) : LH ad la' n (ls.set k (some v)) := by
  refine LH.of h (by rw [List.length_set]; exact hn) (fun j w hw => ?_)
  by_cases hj : j = k
  · subst hj
    by_cases hl : j < ls.length
    · rw [List.getElem?_set_self hl] at hw
      cases hw
      exact List.mem_cons_self
    · rw [List.getElem?_eq_none (by rw [List.length_set]; omega)] at hw
      cases hw
  · rw [List.getElem?_set_ne (fun q => hj q.symm)] at hw
    refine List.mem_cons_of_mem _ (List.mem_filter.mpr ⟨knL_in.mpr ⟨w, hw, rfl⟩, ?_⟩)
    have e1 : (j == k) = false := by simpa using hj
    by_cases h2 : j + 1 = k
    · have : k - 1 = j := by omega
      rw [this, hw] at hp
      have hc : ((tr ad w).category == 2) = false := by rw [tr_cat]; exact hp
      simp [e1, hc]
    · simp [e1, h2]
end
section
/-! The small machine's steps are the machine's. -/
abbrev nwW : Jvm.Cond := .methodLinkNest "PrisonShops$Sheets" 26 ⟨"PrisonShops", "isWithin", "(III)Z"⟩ "PrisonShops"
abbrev nwK : Jvm.Cond := .fieldLinkNest "PrisonShops$State" 76 "PrisonShops" "KIND_ABOVE" "[I" "PrisonShops"
/-- what the String constants need, and String's own methods -/
def JF (ad : Nat → Nat) (A : Nat → Prop) (U : State) (H : Heap) : Prop := (∀ q ∈ strT, vk_R "PrisonShops$Reader" q.1 q.2.1 (ad q.2.2) U) ∧ vk_S 12 (stT'.map List.length) (stT'.map (fun l => l.map nI)) (fun i => ad (1000 + i)) (fun i => ad (1100 + i)) A U H ∧ va_Z "java/lang/String" "COMPACT_STRINGS" "Z" (.int 1) A U H ∧ va_Zq "jdk/internal/util/Preconditions" "SIOOBE_FORMATTER" "Ljava/util/function/BiFunction;" A U H
/-- what nobody writes -/
def SF (ad : Nat → Nat) (A : Nat → Prop) (sc : Nat × (Nat → Int32)) (U : State) (H : Heap) : Prop := (∀ k, k < 4 → va_Z "PrisonShops" (stN (1200 + k)) "[I" (.ref (ad (1200 + k))) A U H ∧ va_T .int (ad (1200 + k)) 6 (fun j => .int ((roT (1200 + k)).getD j 0)) A U H) ∧ va_T .int (ad 1300) sc.1 (fun j => .int (sc.2 j)) A U H ∧ va_Nw nwW U ∧ va_Nw nwK U ∧ JF ad A U H ∧ sc.1 < 2 ^ 31
theorem SF.go {ad : Nat → Nat} {A : Nat → Prop} {sc : Nat × (Nat → Int32)} {s U : State} {H : Heap} (h : SF ad A sc s s.heap) (hW : s.WarmedH U.vm) (hq : ∀ a : Nat, a < s.heap.size → ¬ A a → H[a]? = s.heap[a]?) : SF ad A sc U H := by
  obtain ⟨h1, h2, h3, h4, ⟨h5, h6, h7, h8⟩, h9⟩ := h
  exact ⟨fun k hk => ⟨((h1 k hk).1.moved hW.alike).kept hq, ((h1 k hk).2.moved hW.alike).kept hq⟩, (h2.moved hW.alike).kept hq, va_Nw.warmM hW h3, va_Nw.warmF hW h4, ⟨fun q hm => (h5 q hm).warm hW, (h6.moved hW.alike).kept hq, (h7.moved hW.alike).kept hq, (h8.moved hW.alike).kept hq⟩, h9⟩
theorem SF.calling {ad : Nat → Nat} {A : Nat → Prop} {sc : Nat × (Nat → Int32)} {U : State} {g : JFrame} {mk : MethodId} {a : Array Value} (h : SF ad A sc U U.heap) : SF ad A sc (U.calling g mk a) (U.calling g mk a).heap := by
  obtain ⟨h1, h2, h3, h4, ⟨h5, h6, h7, h8⟩, h9⟩ := h
  have e : U.vm.Alike (U.calling g mk a).vm := Vm.Alike.refl U.vm
  exact ⟨fun k hk => ⟨(h1 k hk).1.moved e, (h1 k hk).2.moved e⟩, h2.moved e, va_Nw.same rfl rfl h3, va_Nw.same rfl rfl h4, ⟨fun q hm => (h5 q hm).same rfl, h6.moved e, h7.moved e, h8.moved e⟩, h9⟩
section SOUND
variable {p : Program} {l : Launch} {e : Env} {R : Room} {s : State} {m : MethodId} {args : Array Value} {below : List Frame} {meth : Method} {c : Code} {Z : State → Prop}
variable {ad : Nat → Nat} {D : va_G} {cA : Nat → ClassId} {A : Nat → Prop} {b : ByteArray} {o ml : Nat} {sc : Nat × (Nat → Int32)} {ce sl : Nat}
/-- where a method's body stands: the machine, the code, the words, the classes, what nobody writes, the room -/
def CX (p : Program) (R : Room) (s : State) (m : MethodId) (args : Array Value) (c : Code) (ad : Nat → Nat) (D : va_G) (cA : Nat → ClassId) (A : Nat → Prop) (b : ByteArray) (o ml : Nat) (sc : Nat × (Nat → Int32)) (ce sl : Nat) : Prop := p.tables.exec = Jvm.exec ∧ c.code = b ∧ c.maxLocals = ml ∧ s.vm.findClass (nmO o) = some m.cls ∧ (∀ w ∈ gT, w.before args s = true) ∧ va_K D vwCl (tysP cA) s ∧ SF ad A sc s s.heap ∧ 1 ≤ R.frames ∧ 100 ≤ R.locals ∧ ce ≤ R.cells ∧ sl ≤ R.slots
/-- a configuration, over the machine -/
def XW (p : Program) (l : Launch) (e : Env) (R : Room) (s : State) (m : MethodId) (args : Array Value) (below : List Frame) (meth : Method) (c : Code) (Z : State → Prop) (ad : Nat → Nat) (D : va_G) (cA : Nat → ClassId) (A : Nat → Prop) (ml : Nat) (sc : Nat × (Nat → Int32)) (ce sl : Nat) : Cf → Prop := fun z => z.2.2.2.2.2 = sc → ∀ (H : Heap) (locs : List Loc) (la : Array Slot), LH ad la ml z.2.1 → va_P D vwCl (wl ad cA z.2.2.2) H → va_D A (wl ad cA z.2.2.2) → va_S A s.heap H locs → W p l e R s m args below meth c H locs ce sl Z (F0 m z.1 la (z.2.2.1.map (tr ad)))
abbrev XWp (p : Program) (l : Launch) (e : Env) (R : Room) (s : State) (m : MethodId) (args : Array Value) (below : List Frame) (meth : Method) (c : Code) (Z : State → Prop) (ad : Nat → Nat) (D : va_G) (cA : Nat → ClassId) (A : Nat → Prop) (ml : Nat) (sc : Nat × (Nat → Int32)) (ce sl : Nat) (pc : Nat) (ls : Lc) (st : List Value) (h : Hp) : Prop := XW p l e R s m args below meth c Z ad D cA A ml sc ce sl (pc, ls, st, h)
/-- a step that only moves the stack -/
theorem xw_mv {pc pc' : Nat} {ls : Lc} {st st' : List Value} {h : Hp} (k : ∀ (H : Heap) (locs : List Loc) (la : Array Slot), LH ad la ml ls → W p l e R s m args below meth c H locs ce sl Z (F0 m pc' la (st'.map (tr ad))) → W p l e R s m args below meth c H locs ce sl Z (F0 m pc la (st.map (tr ad)))) (X : XWp p l e R s m args below meth c Z ad D cA A ml sc ce sl pc' ls st' h) : XWp p l e R s m args below meth c Z ad D cA A ml sc ce sl pc ls st h := fun hs H locs la hl hP hD hS => k H locs la hl (X hs H locs la hl hP hD hS)
theorem sw_ldI {i : Instr} {n k pc : Nat} {ls : Lc} {st : List Value} {h : Hp} {G : Prop} {z : Cf} (hx : p.tables.exec = Jvm.exec) (hb : c.code = b) (hd : decode b pc = .ok (i, n)) (hi : (∃ q : Fin 4, i = .iload_n q ∧ (q : Nat) = k ∧ n = 1) ∨ (i = .iload k ∧ n = 2)) (hq : fLdI ls k n pc st h = some (G, z)) (X : XW p l e R s m args below meth c Z ad D cA A ml sc ce sl z) : XWp p l e R s m args below meth c Z ad D cA A ml sc ce sl pc ls st h := by
  unfold fLdI at hq
  split at hq
  · rename_i x hk
    cases hq
    refine xw_mv (fun H locs la hl w => ?_) X
    have hv := hl.2.2.2 _ _ hk
    rcases hi with ⟨q, rfl, rfl, rfl⟩ | ⟨rfl, rfl⟩
    · exact lv_iload_n hx hb hd rfl hv w
    · exact lv_iload hx hb hd hv w
  · cases hq
theorem sw_ldL {i : Instr} {n k pc : Nat} {ls : Lc} {st : List Value} {h : Hp} {G : Prop} {z : Cf} (hx : p.tables.exec = Jvm.exec) (hb : c.code = b) (hd : decode b pc = .ok (i, n)) (hi : (∃ q : Fin 4, i = .lload_n q ∧ (q : Nat) = k ∧ n = 1) ∨ (i = .lload k ∧ n = 2)) (hq : fLdL ls k n pc st h = some (G, z)) (X : XW p l e R s m args below meth c Z ad D cA A ml sc ce sl z) : XWp p l e R s m args below meth c Z ad D cA A ml sc ce sl pc ls st h := by
  unfold fLdL at hq
  split at hq
  · rename_i x hk
    cases hq
    refine xw_mv (fun H locs la hl w => ?_) X
    have hv := hl.2.2.2 _ _ hk
    rcases hi with ⟨q, rfl, rfl, rfl⟩ | ⟨rfl, rfl⟩
    · exact lv_lload_n hx hb hd rfl hv w
    · exact lv_lload hx hb hd hv w
  · cases hq
theorem sw_ldA {i : Instr} {n k pc : Nat} {ls : Lc} {st : List Value} {h : Hp} {G : Prop} {z : Cf} (hx : p.tables.exec = Jvm.exec) (hb : c.code = b) (hd : decode b pc = .ok (i, n)) (hi : (∃ q : Fin 4, i = .aload_n q ∧ (q : Nat) = k ∧ n = 1) ∨ (i = .aload k ∧ n = 2)) (hq : fLdA ls k n pc st h = some (G, z)) (X : XW p l e R s m args below meth c Z ad D cA A ml sc ce sl z) : XWp p l e R s m args below meth c Z ad D cA A ml sc ce sl pc ls st h := by
  unfold fLdA at hq
  split at hq
  · rename_i x hk
    cases hq
    refine xw_mv (fun H locs la hl w => ?_) X
    have hv := hl.2.2.2 _ _ hk
    rcases hi with ⟨q, rfl, rfl, rfl⟩ | ⟨rfl, rfl⟩
    · exact lv_aload_n hx hb hd rfl hv w
    · exact lv_aload hx hb hd hv w
  · cases hq
theorem sw_stI {i : Instr} {n k pc : Nat} {ls : Lc} {st : List Value} {h : Hp} {G : Prop} {z : Cf} (hx : p.tables.exec = Jvm.exec) (hb : c.code = b) (hd : decode b pc = .ok (i, n)) (hi : (∃ q : Fin 4, i = .istore_n q ∧ (q : Nat) = k ∧ n = 1) ∨ (i = .istore k ∧ n = 2)) (hq : fStI ls k n pc st h = some (G, z)) (X : XW p l e R s m args below meth c Z ad D cA A ml sc ce sl z) : XWp p l e R s m args below meth c Z ad D cA A ml sc ce sl pc ls st h := by
  unfold fStI fSt at hq
  split at hq
  · rename_i x r
    split at hq
    · cases hq
    split at hq
    · cases hq
    split at hq
    · rename_i g1 g2 g3
      cases hq
      intro hs H locs la hl hP hD hS
      have hp : isLong ls[k - 1]? = false := by simpa using g2
      have hkn : k < ml := by rw [← hl.2.2.1]; exact g3
      rcases hi with ⟨q, rfl, rfl, rfl⟩ | ⟨rfl, rfl⟩
      · exact lv_istore_n hx hb hd rfl hl.has hkn rfl (fun la' h' => X hs H locs la' (LH.store hl.2.2.1 hp h') hP hD hS)
      · exact lv_istore hx hb hd hl.has hkn rfl (fun la' h' => X hs H locs la' (LH.store hl.2.2.1 hp h') hP hD hS)
    · cases hq
  · cases hq
theorem sw_iinc {k pc : Nat} {q : Int} {v : Int32} {ls : Lc} {st : List Value} {h : Hp} {G : Prop} {z : Cf} (hx : p.tables.exec = Jvm.exec) (hb : c.code = b) (hd : decode b pc = .ok (.iinc k q, 3)) (hv : Int32.ofInt q = v) (hq : (match ls[k]? with
    | some (some (.int x)) => fSt ls k 3 pc (.int (x + v)) st h
    | _ => none) = some (G, z)) (X : XW p l e R s m args below meth c Z ad D cA A ml sc ce sl z) : XWp p l e R s m args below meth c Z ad D cA A ml sc ce sl pc ls st h := by
  unfold fSt at hq
  split at hq
  · rename_i x hk
    split at hq
    · cases hq
    split at hq
    · cases hq
    split at hq
    · rename_i g1 g2 g3
      cases hq
      intro hs H locs la hl hP hD hS
      have hp : isLong ls[k - 1]? = false := by simpa using g2
      have hkn : k < ml := by rw [← hl.2.2.1]; exact g3
      obtain ⟨j, hj⟩ := List.getElem?_of_mem (knL_in.mpr (⟨.int x, hk, rfl⟩ : ∃ w, ls[k]? = some (some w) ∧ Value.int x = tr ad w) : (k, Value.int x) ∈ knL ad ls)
      exact lv_iinc (k := j) (v := x + v) hx hb hd hl.has hj (by rw [hv]) hkn rfl (fun la' h' => X hs H locs la' (LH.store hl.2.2.1 hp h') hP hD hS)
    · cases hq
  · cases hq
theorem sw_I2 {f : Int32 → Int32 → Int32} {pc : Nat} {ls : Lc} {st : List Value} {h : Hp} {G : Prop} {z : Cf} (row : ∀ (H : Heap) (locs : List Loc) (la : Array Slot) (rest : List Value) (x y : Int32), W p l e R s m args below meth c H locs ce sl Z (F0 m (pc + 1) la (.int (f x y) :: rest)) → W p l e R s m args below meth c H locs ce sl Z (F0 m pc la (.int y :: .int x :: rest))) (hq : fI2 f ls pc st h = some (G, z)) (X : XW p l e R s m args below meth c Z ad D cA A ml sc ce sl z) : XWp p l e R s m args below meth c Z ad D cA A ml sc ce sl pc ls st h := by
  unfold fI2 at hq
  split at hq
  · cases hq
    exact xw_mv (fun H locs la hl w => row H locs la _ _ _ w) X
  · cases hq
theorem sw_I2g {f : Int32 → Int32 → Int32} {pc : Nat} {ls : Lc} {st : List Value} {h : Hp} {G : Prop} {z : Cf} (row : ∀ (H : Heap) (locs : List Loc) (la : Array Slot) (rest : List Value) (x y : Int32), ¬ y = 0 → W p l e R s m args below meth c H locs ce sl Z (F0 m (pc + 1) la (.int (f x y) :: rest)) → W p l e R s m args below meth c H locs ce sl Z (F0 m pc la (.int y :: .int x :: rest))) (hq : fI2g f ls pc st h = some (G, z)) (g : G) (X : XW p l e R s m args below meth c Z ad D cA A ml sc ce sl z) : XWp p l e R s m args below meth c Z ad D cA A ml sc ce sl pc ls st h := by
  unfold fI2g at hq
  split at hq
  · cases hq
    exact xw_mv (fun H locs la hl w => row H locs la _ _ _ g w) X
  · cases hq
theorem sw_I1 {f : Int32 → Int32} {pc : Nat} {ls : Lc} {st : List Value} {h : Hp} {G : Prop} {z : Cf} (row : ∀ (H : Heap) (locs : List Loc) (la : Array Slot) (rest : List Value) (x : Int32), W p l e R s m args below meth c H locs ce sl Z (F0 m (pc + 1) la (.int (f x) :: rest)) → W p l e R s m args below meth c H locs ce sl Z (F0 m pc la (.int x :: rest))) (hq : fI1 f ls pc st h = some (G, z)) (X : XW p l e R s m args below meth c Z ad D cA A ml sc ce sl z) : XWp p l e R s m args below meth c Z ad D cA A ml sc ce sl pc ls st h := by
  unfold fI1 at hq
  split at hq
  · cases hq
    exact xw_mv (fun H locs la hl w => row H locs la _ _ w) X
  · cases hq
theorem sw_L2 {f : Int64 → Int64 → Int64} {pc : Nat} {ls : Lc} {st : List Value} {h : Hp} {G : Prop} {z : Cf} (row : ∀ (H : Heap) (locs : List Loc) (la : Array Slot) (rest : List Value) (x y : Int64), W p l e R s m args below meth c H locs ce sl Z (F0 m (pc + 1) la (.long (f x y) :: rest)) → W p l e R s m args below meth c H locs ce sl Z (F0 m pc la (.long y :: .long x :: rest))) (hq : fL2 f ls pc st h = some (G, z)) (X : XW p l e R s m args below meth c Z ad D cA A ml sc ce sl z) : XWp p l e R s m args below meth c Z ad D cA A ml sc ce sl pc ls st h := by
  unfold fL2 at hq
  split at hq
  · cases hq
    exact xw_mv (fun H locs la hl w => row H locs la _ _ _ w) X
  · cases hq
theorem sw_LI {f : Int64 → Int32 → Int64} {pc : Nat} {ls : Lc} {st : List Value} {h : Hp} {G : Prop} {z : Cf} (row : ∀ (H : Heap) (locs : List Loc) (la : Array Slot) (rest : List Value) (x : Int64) (y : Int32), W p l e R s m args below meth c H locs ce sl Z (F0 m (pc + 1) la (.long (f x y) :: rest)) → W p l e R s m args below meth c H locs ce sl Z (F0 m pc la (.int y :: .long x :: rest))) (hq : fLI f ls pc st h = some (G, z)) (X : XW p l e R s m args below meth c Z ad D cA A ml sc ce sl z) : XWp p l e R s m args below meth c Z ad D cA A ml sc ce sl pc ls st h := by
  unfold fLI at hq
  split at hq
  · cases hq
    exact xw_mv (fun H locs la hl w => row H locs la _ _ _ w) X
  · cases hq
/-- a branch: either way -/
theorem xw_if {q : Prop} [inst : Decidable q] {t f : Nat} {ls : Lc} {st : List Value} {h : Hp} (X : XWp p l e R s m args below meth c Z ad D cA A ml sc ce sl (if q then t else f) ls st h) : (q → XWp p l e R s m args below meth c Z ad D cA A ml sc ce sl t ls st h) ∧ (¬ q → XWp p l e R s m args below meth c Z ad D cA A ml sc ce sl f ls st h) := ⟨fun y => by rw [if_pos y] at X; exact X, fun y => by rw [if_neg y] at X; exact X⟩
theorem sw_if {q : ClassFile.Cond} {f : Int} {a pc : Nat} {ls : Lc} {st : List Value} {h : Hp} {G : Prop} {z : Cf} (hx : p.tables.exec = Jvm.exec) (hb : c.code = b) (hd : decode b pc = .ok (.ifCond q f, 3)) (ht : (pc : Int) + f = (a : Int)) (hq : fIf q a ls pc st h = some (G, z)) (X : XW p l e R s m args below meth c Z ad D cA A ml sc ce sl z) : XWp p l e R s m args below meth c Z ad D cA A ml sc ce sl pc ls st h := by
  unfold fIf at hq
  split at hq
  · cases hq
    cases q <;> obtain ⟨X1, X2⟩ := xw_if X <;> intro hs H locs la hl hP hD hS
    · exact lv_if_eq hx hb hd ht (fun y => X1 y hs H locs la hl hP hD hS) (fun y => X2 y hs H locs la hl hP hD hS)
    · exact lv_if_ne hx hb hd ht (fun y => X2 y hs H locs la hl hP hD hS) (fun y => X1 y hs H locs la hl hP hD hS)
    · exact lv_if_lt hx hb hd ht (fun y => X1 y hs H locs la hl hP hD hS) (fun y => X2 y hs H locs la hl hP hD hS)
    · exact lv_if_ge hx hb hd ht (fun y => X1 y hs H locs la hl hP hD hS) (fun y => X2 y hs H locs la hl hP hD hS)
    · exact lv_if_gt hx hb hd ht (fun y => X1 y hs H locs la hl hP hD hS) (fun y => X2 y hs H locs la hl hP hD hS)
    · exact lv_if_le hx hb hd ht (fun y => X1 y hs H locs la hl hP hD hS) (fun y => X2 y hs H locs la hl hP hD hS)
  · cases hq
theorem sw_ic {q : ClassFile.Cond} {f : Int} {a pc : Nat} {ls : Lc} {st : List Value} {h : Hp} {G : Prop} {z : Cf} (hx : p.tables.exec = Jvm.exec) (hb : c.code = b) (hd : decode b pc = .ok (.if_icmp q f, 3)) (ht : (pc : Int) + f = (a : Int)) (hq : fIc q a ls pc st h = some (G, z)) (X : XW p l e R s m args below meth c Z ad D cA A ml sc ce sl z) : XWp p l e R s m args below meth c Z ad D cA A ml sc ce sl pc ls st h := by
  unfold fIc at hq
  split at hq
  · cases hq
    cases q <;> obtain ⟨X1, X2⟩ := xw_if X <;> intro hs H locs la hl hP hD hS
    · exact lv_icmp_eq hx hb hd ht (fun y => X1 y hs H locs la hl hP hD hS) (fun y => X2 y hs H locs la hl hP hD hS)
    · exact lv_icmp_ne hx hb hd ht (fun y => X2 y hs H locs la hl hP hD hS) (fun y => X1 y hs H locs la hl hP hD hS)
    · exact lv_icmp_lt hx hb hd ht (fun y => X1 y hs H locs la hl hP hD hS) (fun y => X2 y hs H locs la hl hP hD hS)
    · exact lv_icmp_ge hx hb hd ht (fun y => X1 y hs H locs la hl hP hD hS) (fun y => X2 y hs H locs la hl hP hD hS)
    · exact lv_icmp_gt hx hb hd ht (fun y => X1 y hs H locs la hl hP hD hS) (fun y => X2 y hs H locs la hl hP hD hS)
    · exact lv_icmp_le hx hb hd ht (fun y => X1 y hs H locs la hl hP hD hS) (fun y => X2 y hs H locs la hl hP hD hS)
  · cases hq
theorem isCl_spec {r a : Nat} (h : isCl r a = true) : r < psNO ∧ oK r = 3 ∧ oP r = a := by
  simp only [isCl, Bool.and_eq_true, decide_eq_true_eq, beq_iff_eq] at h
  exact ⟨oK_lt (by omega), h.1.2, h.2⟩
theorem fl_spec {a' bb' k' : Nat} {sw : List (Int32 × Nat)} (h : flI sw (fun q => q.1 == o && q.2.1 == k' && q.2.2.1 == a' && q.2.2.2.1 == bb') = true) : ∃ C T N, vwCl[a']? = some (C, T, N) ∧ bb' < N ∧ Jvm.Cond.fieldLink (nmO o) k' (T bb').1 (T bb').2.1 (T bb').2.2.1 ∈ gT := by
  obtain ⟨q, hm, hq⟩ := atI_in h
  obtain ⟨q1, q2, q3, q4, q5⟩ := q
  simp only [Bool.and_eq_true, beq_iff_eq] at hq
  obtain ⟨⟨⟨rfl, rfl⟩, rfl⟩, rfl⟩ := hq
  have hc := List.all_eq_true.mp flT_ok _ hm
  unfold flC at hc
  split at hc
  · rename_i C T N hv
    simp only [Bool.and_eq_true, decide_eq_true_eq] at hc
    exact ⟨C, T, N, hv, hc.1, hasW_in hc.2⟩
  · cases hc
theorem sw_gf {k a bb pc : Nat} {v0 : Int32} {sw : List (Int32 × Nat)} {ls : Lc} {st : List Value} {h : Hp} {G : Prop} {z : Cf} (hC : CX p R s m args c ad D cA A b o ml sc ce sl) (hd : decode b pc = .ok (.getfield k, 3)) (hf : flI sw (fun q => q.1 == o && q.2.1 == k && q.2.2.1 == a && q.2.2.2.1 == bb) = true) (hv0 : nI bb = v0) (hq : fGf a bb v0 ls pc st h = some (G, z)) (X : XW p l e R s m args below meth c Z ad D cA A ml sc ce sl z) : XWp p l e R s m args below meth c Z ad D cA A ml sc ce sl pc ls st h := by
  obtain ⟨hx, hb, hml, hown, hts, hK, hSF, hR⟩ := hC
  obtain ⟨C, T, N, hc, hk, hw⟩ := fl_spec hf
  subst hv0
  unfold fGf at hq
  split at hq
  · rename_i r t
    split at hq
    · rename_i hcl
      obtain ⟨hr, h3, h4⟩ := isCl_spec hcl
      split at hq
      · rename_i v hv
        cases hq
        intro hs H locs la hl hP hD hS
        have he := wl_at (ad := ad) (cA := cA) (h := h) hr
        rw [ent_3 h3, h4] at he
        exact va_get (D := D) hx hb hts (vw_gT hc) hown hK hP r he hc bb hk (hts _ hw) (fun _ q => q) (fsL_at hv) hd (X hs H locs la hl hP hD hS)
      · cases hq
    · cases hq
  · cases hq
theorem sw_pf {k a bb pc : Nat} {v0 : Int32} {sw : List (Int32 × Nat)} {ls : Lc} {st : List Value} {h : Hp} {G : Prop} {z : Cf} (hC : CX p R s m args c ad D cA A b o ml sc ce sl) (hd : decode b pc = .ok (.putfield k, 3)) (hf : flI sw (fun q => q.1 == o && q.2.1 == k && q.2.2.1 == a && q.2.2.2.1 == bb) = true) (hv0 : nI bb = v0) (hq : fPf a bb v0 ls pc st h = some (G, z)) (g : G) (X : XW p l e R s m args below meth c Z ad D cA A ml sc ce sl z) : XWp p l e R s m args below meth c Z ad D cA A ml sc ce sl pc ls st h := by
  obtain ⟨hx, hb, hml, hown, hts, hK, hSF, hR⟩ := hC
  obtain ⟨C, T, N, hc, hk, hw⟩ := fl_spec hf
  subst hv0
  unfold fPf at hq
  split at hq
  · rename_i v r t
    split at hq
    · rename_i hcl
      obtain ⟨hr, h3, h4⟩ := isCl_spec hcl
      split at hq
      · rename_i hv
        cases hq
        intro hs H locs la hl hP hD hS
        have he := wl_at (ad := ad) (cA := cA) (h := h) hr
        rw [ent_3 h3, h4] at he
        obtain ⟨⟨ty0, hty⟩, hnm⟩ := vw_ty hc
        have hpf := pf_ok h3 hv
        rw [h4] at hpf
        unfold pfC at hpf
        rw [hc] at hpf
        simp only [Bool.and_eq_true, decide_eq_true_eq, Bool.not_eq_true'] at hpf
        obtain ⟨⟨-, hfin⟩, hdesc⟩ := hpf
        have hset : (fsL ad h r).set bb (.int v) = fsL ad (hI h r (nI bb) v) r := fsL_set hv
        have heq : Sum.inr (a, (fsL ad h r).set bb (.int v)) = ent ad cA (hI h r (nI bb) v) r := by rw [ent_3 h3, h4, hset]
        have hlen : bb < (fsL ad h r).length := by unfold fsL; simpa using (List.getElem?_eq_some_iff.mp hv).1
        have key : ∀ ty : FieldType, parseFieldDescriptor (T bb).2.2.1 = some ty → narrow ty (.int v) = .int v → fits ty (.int v) = true → W p l e R s m args below meth c H locs ce sl Z (F0 m pc la (.int v :: .ref (ad r) :: t.map (tr ad))) := fun ty e1 e2 e3 => va_put (D := D) hx hb hts (vw_gT hc) ty0 hty hnm hown hK hP hD hS r he hc bb hk (hts _ hw) (fun _ q => q) hfin e1 e2 e3 hlen hd (fun H1 locs1 hP1 hD1 hS1 => X hs H1 locs1 la hl (wl_P hr (by rw [heq]; exact id) (fun j hj => ent_ne (hI_rowne hj) rfl) hP1) (wl_D hD) hS1)
        unfold pfG at g
        by_cases hz : isZf a bb = true
        · rw [if_pos hz] at hdesc g
          refine key .boolean (by rw [hdesc]; decide +kernel) ?_ ?_
          · rcases g with rfl | rfl <;> rfl
          · rcases g with rfl | rfl <;> rfl
        · rw [if_neg hz] at hdesc
          exact key .int (by rw [hdesc]; decide +kernel) rfl rfl
      · cases hq
    · cases hq
  · cases hq
theorem isIA_spec {r : Nat} (h : isIA r = true) : (r < 1000 ∧ r < psNO ∧ oK r = 0) ∨ (¬ r < 1000 ∧ r = 1300) ∨ (¬ r < 1000 ∧ ∃ k, k < 4 ∧ r = 1200 + k) := by
  unfold isIA at h
  split at h
  · rename_i h1
    have h2 : oK r = 0 := by simpa using h
    exact Or.inl ⟨h1, oK_lt (by omega), h2⟩
  · rename_i h1
    simp only [Bool.or_eq_true, beq_iff_eq, Bool.and_eq_true, decide_eq_true_eq] at h
    rcases h with h | h
    · exact Or.inr (Or.inl ⟨h1, h⟩)
    · exact Or.inr (Or.inr ⟨h1, r - 1200, by omega, by omega⟩)
theorem ro4 {k : Nat} (hk : k < 4) : (roT (1200 + k)).length = 6 := by
  rcases (show k = 0 ∨ k = 1 ∨ k = 2 ∨ k = 3 by omega) with rfl | rfl | rfl | rfl <;> rfl
theorem aln_w {h : Hp} {r : Nat} (hr : r < 1000) : aln h r = oP r := by unfold aln; rw [if_pos hr]
theorem aln_s {h : Hp} : aln h 1300 = h.2.2.1 := rfl
theorem aln_t {h : Hp} {k : Nat} (hk : k < 4) : aln h (1200 + k) = 6 := by
  unfold aln
  rw [if_neg (by omega), if_neg (by omega), ro4 hk]
theorem agt_w {h : Hp} {r : Nat} {j : Int32} (hr : r < 1000) : agt h r j = h.1 r j := by unfold agt; rw [if_pos hr]
theorem agt_t {h : Hp} {k : Nat} {j : Int32} (hk : k < 4) : agt h (1200 + k) j = (roT (1200 + k)).getD j.toNatClampNeg 0 := by
  unfold agt
  rw [if_neg (by omega), if_neg (by omega)]
theorem sw_al {pc : Nat} {ls : Lc} {st : List Value} {h : Hp} {G : Prop} {z : Cf} (hC : CX p R s m args c ad D cA A b o ml sc ce sl) (hd : decode b pc = .ok (.arraylength, 1)) (hq : fAl ls pc st h = some (G, z)) (X : XW p l e R s m args below meth c Z ad D cA A ml sc ce sl z) : XWp p l e R s m args below meth c Z ad D cA A ml sc ce sl pc ls st h := by
  obtain ⟨hx, hb, hml, hown, hts, hK, hSF, hR⟩ := hC
  unfold fAl at hq
  split at hq
  · rename_i r t
    split at hq
    · rename_i hia
      cases hq
      intro hs H locs la hl hP hD hS
      rcases isIA_spec hia with ⟨h1, h2, h3⟩ | ⟨h1, rfl⟩ | ⟨h1, k, hk, rfl⟩
      · have he := wl_at (ad := ad) (cA := cA) (h := h) h2
        rw [ent_0 h3] at he
        exact va_alen (D := D) hx hb hK hP r 0 he rfl (by rw [aln_w h1]; rfl) hd (X hs H locs la hl hP hD hS)
      · exact va_tlen hx hb hSF.2.1 hS (by rw [aln_s, show h.2.2 = sc from hs]; rfl) hd (X hs H locs la hl hP hD hS)
      · exact va_tlen hx hb (hSF.1 k hk).2 hS (by rw [aln_t hk]; rfl) hd (X hs H locs la hl hP hD hS)
    · cases hq
  · cases hq
theorem sw_ial {pc : Nat} {ls : Lc} {st : List Value} {h : Hp} {G : Prop} {z : Cf} (hC : CX p R s m args c ad D cA A b o ml sc ce sl) (hd : decode b pc = .ok (.iaload, 1)) (hq : fIal ls pc st h = some (G, z)) (g : G) (X : XW p l e R s m args below meth c Z ad D cA A ml sc ce sl z) : XWp p l e R s m args below meth c Z ad D cA A ml sc ce sl pc ls st h := by
  obtain ⟨hx, hb, hml, hown, hts, hK, hSF, hR⟩ := hC
  unfold fIal at hq
  split at hq
  · rename_i j r t
    split at hq
    · rename_i hia
      cases hq
      intro hs H locs la hl hP hD hS
      rcases isIA_spec hia with ⟨h1, h2, h3⟩ | ⟨h1, rfl⟩ | ⟨h1, k, hk, rfl⟩
      · have he := wl_at (ad := ad) (cA := cA) (h := h) h2
        rw [ent_0 h3] at he
        rw [aln_w h1] at g
        have X' := X hs H locs la hl hP hD hS
        rw [agt_w h1] at X'
        obtain ⟨k, hk, rfl, ek⟩ := nI_at g (oP_lt r)
        exact va_iald (D := D) hx hb hK hP r 0 he rfl (ibd_in g (oP_lt r)) hd (by rw [ek]; exact X')
      · rw [aln_s, show h.2.2 = sc from hs] at g
        have e : agt h 1300 j = sc.2 j.toNatClampNeg := by show h.2.2.2 _ = _; rw [show h.2.2 = sc from hs]
        exact va_ti hx hb hSF.2.1 hS (ibd_in g hSF.2.2.2.2.2) (by rw [e]; rfl) hd (X hs H locs la hl hP hD hS)
      · rw [aln_t hk] at g
        exact va_ti hx hb (hSF.1 k hk).2 hS (ibd_in g (by decide)) (by rw [agt_t hk]; rfl) hd (X hs H locs la hl hP hD hS)
    · cases hq
  · cases hq
theorem sw_bal {pc : Nat} {ls : Lc} {st : List Value} {h : Hp} {G : Prop} {z : Cf} (hC : CX p R s m args c ad D cA A b o ml sc ce sl) (hd : decode b pc = .ok (.baload, 1)) (hq : fBal ls pc st h = some (G, z)) (g : G) (X : XW p l e R s m args below meth c Z ad D cA A ml sc ce sl z) : XWp p l e R s m args below meth c Z ad D cA A ml sc ce sl pc ls st h := by
  obtain ⟨hx, hb, hml, hown, hts, hK, hSF, hR⟩ := hC
  unfold fBal at hq
  split at hq
  · rename_i j r t
    split at hq
    · rename_i hia
      cases hq
      intro hs H locs la hl hP hD hS
      have he := wl_at (ad := ad) (cA := cA) (h := h) (oK_lt (by omega) : r < psNO)
      rw [ent_2 hia.2] at he
      obtain ⟨k, hk, rfl, ek⟩ := nI_at g (oP_lt r)
      have X' := X hs H locs la hl hP hD hS
      exact va_zald (D := D) hx hb hK hP r 2 he rfl (ibd_in g (oP_lt r)) hd (by rw [ek]; exact X')
    · cases hq
  · cases hq
theorem sw_lal {pc : Nat} {ls : Lc} {st : List Value} {h : Hp} {G : Prop} {z : Cf} (hC : CX p R s m args c ad D cA A b o ml sc ce sl) (hd : decode b pc = .ok (.laload, 1)) (hq : fLal ls pc st h = some (G, z)) (g : G) (X : XW p l e R s m args below meth c Z ad D cA A ml sc ce sl z) : XWp p l e R s m args below meth c Z ad D cA A ml sc ce sl pc ls st h := by
  obtain ⟨hx, hb, hml, hown, hts, hK, hSF, hR⟩ := hC
  unfold fLal at hq
  split at hq
  · rename_i j r t
    split at hq
    · rename_i hia
      cases hq
      intro hs H locs la hl hP hD hS
      have he := wl_at (ad := ad) (cA := cA) (h := h) (oK_lt (by omega) : r < psNO)
      rw [ent_1 hia.2] at he
      obtain ⟨k, hk, rfl, ek⟩ := nI_at g (oP_lt r)
      have X' := X hs H locs la hl hP hD hS
      exact va_lald (D := D) hx hb hK hP r 1 he rfl (ibd_in g (oP_lt r)) hd (by rw [ek]; exact X')
    · cases hq
  · cases hq
theorem sw_ias {pc : Nat} {ls : Lc} {st : List Value} {h : Hp} {G : Prop} {z : Cf} (hC : CX p R s m args c ad D cA A b o ml sc ce sl) (hd : decode b pc = .ok (.iastore, 1)) (hq : fIas ls pc st h = some (G, z)) (g : G) (X : XW p l e R s m args below meth c Z ad D cA A ml sc ce sl z) : XWp p l e R s m args below meth c Z ad D cA A ml sc ce sl pc ls st h := by
  obtain ⟨hx, hb, hml, hown, hts, hK, hSF, hR⟩ := hC
  unfold fIas at hq
  split at hq
  · rename_i v j r t
    split at hq
    · rename_i hia
      cases hq
      intro hs H locs la hl hP hD hS
      have he := wl_at (ad := ad) (cA := cA) (h := h) (oK_lt (by omega) : r < psNO)
      rw [ent_0 hia.2] at he
      exact va_iast (D := D) hx hb hK hP hD hS r 0 he rfl (ibd_in g (oP_lt r)) hd (fun H1 locs1 hP1 hD1 hS1 => X hs H1 locs1 la hl (wl_P (oK_lt (by omega)) (fun q => by
        rw [ent_0 hia.2]
        exact q.trans (congrArg some (arrV_congr (fun i hi => congrArg Value.int (hI_cell g (oP_lt r) hi))))) (fun i hi => ent_ne (hI_rowne hi) rfl) hP1) (wl_D hD) hS1)
    · cases hq
  · cases hq
theorem sw_bas {pc : Nat} {ls : Lc} {st : List Value} {h : Hp} {G : Prop} {z : Cf} (hC : CX p R s m args c ad D cA A b o ml sc ce sl) (hd : decode b pc = .ok (.bastore, 1)) (hq : fBas ls pc st h = some (G, z)) (g : G) (X : XW p l e R s m args below meth c Z ad D cA A ml sc ce sl z) : XWp p l e R s m args below meth c Z ad D cA A ml sc ce sl pc ls st h := by
  obtain ⟨hx, hb, hml, hown, hts, hK, hSF, hR⟩ := hC
  unfold fBas at hq
  split at hq
  · rename_i v j r t
    split at hq
    · rename_i hia
      cases hq
      intro hs H locs la hl hP hD hS
      have he := wl_at (ad := ad) (cA := cA) (h := h) (oK_lt (by omega) : r < psNO)
      rw [ent_2 hia.2] at he
      have hv : vp_nar .boolean v = v := by rcases g.2 with rfl | rfl <;> rfl
      exact va_zast (D := D) hx hb hK hP hD hS r 2 he rfl (ibd_in g.1 (oP_lt r)) hd (fun H1 locs1 hP1 hD1 hS1 => X hs H1 locs1 la hl (wl_P (oK_lt (by omega)) (fun q => by
        rw [ent_2 hia.2]
        rw [hv] at q
        exact q.trans (congrArg some (arrV_congr (fun i hi => congrArg Value.int (hI_cell g.1 (oP_lt r) hi))))) (fun i hi => ent_ne (hI_rowne hi) rfl) hP1) (wl_D hD) hS1)
    · cases hq
  · cases hq
theorem sw_las {pc : Nat} {ls : Lc} {st : List Value} {h : Hp} {G : Prop} {z : Cf} (hC : CX p R s m args c ad D cA A b o ml sc ce sl) (hd : decode b pc = .ok (.lastore, 1)) (hq : fLas ls pc st h = some (G, z)) (g : G) (X : XW p l e R s m args below meth c Z ad D cA A ml sc ce sl z) : XWp p l e R s m args below meth c Z ad D cA A ml sc ce sl pc ls st h := by
  obtain ⟨hx, hb, hml, hown, hts, hK, hSF, hR⟩ := hC
  unfold fLas at hq
  split at hq
  · rename_i v j r t
    split at hq
    · rename_i hia
      cases hq
      intro hs H locs la hl hP hD hS
      have he := wl_at (ad := ad) (cA := cA) (h := h) (oK_lt (by omega) : r < psNO)
      rw [ent_1 hia.2] at he
      exact va_last (D := D) hx hb hK hP hD hS r 1 he rfl (ibd_in g (oP_lt r)) hd (fun H1 locs1 hP1 hD1 hS1 => X hs H1 locs1 la hl (wl_P (h := h) (i := r) (oK_lt (by omega)) (fun q => by
        rw [ent_1 hia.2]
        exact q.trans (congrArg some (arrV_congr (fun i hi => congrArg Value.long (hL_cell g (oP_lt r) hi))))) (fun i hi => ent_ne rfl (hL_rowne hi)) hP1) (wl_D hD) hS1)
    · cases hq
  · cases hq
theorem srT_ok : srT.all (fun q => q.1 == 4 && strT.any (fun z => z.1 == q.2.1 && z.2.2 == q.2.2)) = true := by decide +kernel
theorem stT_in : stT.all (fun q => decide (1200 ≤ q.2.2.1) && decide (q.2.2.1 < 1204)) = true := by decide +kernel
theorem ml_spec {a' k' : Nat} {sw : List (Int32 × Nat)} (h : mlI sw (fun q => q.1 == o && q.2.1 == k' && q.2.2.1 == a') = true) : ∃ mi : Mi, psM[a']? = some mi ∧ Jvm.Cond.methodLink (nmO o) k' mi.1 ∈ gT := by
  obtain ⟨q, hm, hq⟩ := atI_in h
  obtain ⟨q1, q2, q3, q4⟩ := q
  simp only [Bool.and_eq_true, beq_iff_eq] at hq
  obtain ⟨⟨rfl, rfl⟩, rfl⟩ := hq
  have hc := List.all_eq_true.mp mlT_ok _ hm
  unfold mlC at hc
  split at hc
  · rename_i y r hv
    exact ⟨_, hv, hasW_in hc⟩
  · cases hc
theorem mj_spec {a' k' : Nat} {sw : List (Int32 × Nat)} (h : mjI sw (fun q => q.1 == o && q.2.1 == k' && q.2.2.1 == a') = true) : Jvm.Cond.methodLink (nmO o) k' (yLib a') ∈ gT := by
  obtain ⟨q, hm, hq⟩ := atI_in h
  obtain ⟨q1, q2, q3, q4⟩ := q
  simp only [Bool.and_eq_true, beq_iff_eq] at hq
  obtain ⟨⟨rfl, rfl⟩, rfl⟩ := hq
  exact hasW_in (List.all_eq_true.mp mjT_ok _ hm)
theorem sw_gs {k a pc : Nat} {sw : List (Int32 × Nat)} {ls : Lc} {st : List Value} {h : Hp} (hC : CX p R s m args c ad D cA A b o ml sc ce sl) (hd : decode b pc = .ok (.getstatic k, 3)) (hf : (stIx sw (fun q => q.1 == o && q.2.1 == k && q.2.2.1 == a) || (o == 7 && k == 76 && a == 1200)) = true) (X : XWp p l e R s m args below meth c Z ad D cA A ml sc ce sl (pc + 3) ls (.ref a :: st) h) : XWp p l e R s m args below meth c Z ad D cA A ml sc ce sl pc ls st h := by
  obtain ⟨hx, hb, hml, hown, hts, hK, hSF, hR⟩ := hC
  intro hs H locs la hl hP hD hS
  rw [Bool.or_eq_true] at hf
  rcases hf with hf | hf
  · obtain ⟨q, hm, hq⟩ := atI_in hf
    obtain ⟨q1, q2, q3, q4⟩ := q
    simp only [Bool.and_eq_true, beq_iff_eq] at hq
    obtain ⟨⟨rfl, rfl⟩, rfl⟩ := hq
    have hr := List.all_eq_true.mp stT_in _ hm
    simp only [Bool.and_eq_true, decide_eq_true_eq] at hr
    obtain ⟨j, rfl⟩ : ∃ j, q3 = 1200 + j := ⟨q3 - 1200, by omega⟩
    exact va_gets hx hb (hSF.1 j (by omega)).1 hS hown (hts _ (hasW_in (List.all_eq_true.mp stT_ok _ hm))) (fun _ q => q) hd (X hs H locs la hl hP hD hS)
  · simp only [Bool.and_eq_true, beq_iff_eq] at hf
    obtain ⟨⟨rfl, rfl⟩, rfl⟩ := hf
    exact va_getsN hx hb (hSF.1 0 (by omega)).1 hS hown (va_Nw.use rfl hSF.2.2.2.1) (fun _ q => q) hd (X hs H locs la hl hP hD hS)
theorem sw_ldc {k a pc : Nat} {v : Int32} {sw : List (Int32 × Nat)} {ls : Lc} {st : List Value} {h : Hp} {G : Prop} {z : Cf} (hC : CX p R s m args c ad D cA A b o ml sc ce sl) (hd : decode b pc = .ok (.ldc k, 2)) (hf : (if a = 0 then csI sw (fun q => q.1 == o && q.2.1 == k && decide (Int32.ofInt q.2.2.1 = v)) else srI sw (fun q => q.1 == o && q.2.1 == k && q.2.2 == a)) = true) (hq : (if a = 0 then some (True, pc + 2, ls, .int v :: st, h) else some (True, pc + 2, ls, .ref a :: st, h) : St) = some (G, z)) (X : XW p l e R s m args below meth c Z ad D cA A ml sc ce sl z) : XWp p l e R s m args below meth c Z ad D cA A ml sc ce sl pc ls st h := by
  obtain ⟨hx, hb, hml, hown, hts, hK, hSF, hR⟩ := hC
  split at hf
  · rename_i ha
    rw [if_pos ha] at hq
    cases hq
    obtain ⟨q, hm, hq⟩ := atI_in hf
    obtain ⟨q1, q2, q3, q4⟩ := q
    simp only [Bool.and_eq_true, beq_iff_eq, decide_eq_true_eq] at hq
    obtain ⟨⟨rfl, rfl⟩, rfl⟩ := hq
    exact xw_mv (fun H locs la hl w => lv_ldc hx hb hown (hts _ (hasW_in (List.all_eq_true.mp csT_ok _ hm))) hd w) X
  · rename_i ha
    rw [if_neg ha] at hq
    cases hq
    obtain ⟨q, hm, hq⟩ := atI_in hf
    obtain ⟨q1, q2, q3⟩ := q
    simp only [Bool.and_eq_true, beq_iff_eq] at hq
    obtain ⟨⟨rfl, rfl⟩, rfl⟩ := hq
    have hr := List.all_eq_true.mp srT_ok _ hm
    simp only [Bool.and_eq_true, beq_iff_eq, List.any_eq_true] at hr
    obtain ⟨rfl, z, hz, e1, e2⟩ := hr
    obtain ⟨z1, z2, z3⟩ := z
    cases e1
    cases e2
    exact xw_mv (fun H locs la hl w => va_ldcS hx hb hown (hSF.2.2.2.2.1.1 _ hz) hd w) X
theorem sw_ldcw {k pc : Nat} {v : Int32} {sw : List (Int32 × Nat)} {ls : Lc} {st : List Value} {h : Hp} (hC : CX p R s m args c ad D cA A b o ml sc ce sl) (hd : decode b pc = .ok (.ldc_w k, 3)) (hf : csI sw (fun q => q.1 == o && q.2.1 == k && decide (Int32.ofInt q.2.2.1 = v)) = true) (X : XWp p l e R s m args below meth c Z ad D cA A ml sc ce sl (pc + 3) ls (.int v :: st) h) : XWp p l e R s m args below meth c Z ad D cA A ml sc ce sl pc ls st h := by
  obtain ⟨hx, hb, hml, hown, hts, hK, hSF, hR⟩ := hC
  obtain ⟨q, hm, hq⟩ := atI_in hf
  obtain ⟨q1, q2, q3, q4⟩ := q
  simp only [Bool.and_eq_true, beq_iff_eq, decide_eq_true_eq] at hq
  obtain ⟨⟨rfl, rfl⟩, rfl⟩ := hq
  exact xw_mv (fun H locs la hl w => lv_ldcw hx hb hown (hts _ (hasW_in (List.all_eq_true.mp csT_ok _ hm))) hd w) X
theorem sw_ldc2 {k pc : Nat} {v : Int64} {sw : List (Int32 × Nat)} {ls : Lc} {st : List Value} {h : Hp} (hC : CX p R s m args c ad D cA A b o ml sc ce sl) (hd : decode b pc = .ok (.ldc2_w k, 3)) (hf : clI sw (fun q => q.1 == o && q.2.1 == k && decide (Int64.ofInt q.2.2.1 = v)) = true) (X : XWp p l e R s m args below meth c Z ad D cA A ml sc ce sl (pc + 3) ls (.long v :: st) h) : XWp p l e R s m args below meth c Z ad D cA A ml sc ce sl pc ls st h := by
  obtain ⟨hx, hb, hml, hown, hts, hK, hSF, hR⟩ := hC
  obtain ⟨q, hm, hq⟩ := atI_in hf
  obtain ⟨q1, q2, q3, q4⟩ := q
  simp only [Bool.and_eq_true, beq_iff_eq, decide_eq_true_eq] at hq
  obtain ⟨⟨rfl, rfl⟩, rfl⟩ := hq
  exact xw_mv (fun H locs la hl w => lv_ldc2 hx hb hown (hts _ (hasW_in (List.all_eq_true.mp clT_ok _ hm))) hd w) X
theorem cat_map (ad : Nat → Nat) (r : List Value) : ((r.map (tr ad)).map fun v => v.category) = r.map fun v => v.category := by
  rw [List.map_map]
  congr 1
  funext v
  exact tr_cat ad v
theorem sw_lib {k a pc : Nat} {sw : List (Int32 × Nat)} {ls : Lc} {st : List Value} {h : Hp} {G : Prop} {z : Cf} (hC : CX p R s m args c ad D cA A b o ml sc ce sl) (hd : decode b pc = .ok (.invokestatic k, 3)) (ha : ¬ a < 1000) (hf : mjI sw (fun q => q.1 == o && q.2.1 == k && q.2.2.1 == a) = true) (hq : fLib a ls pc st h = some (G, z)) (g : G) (X : XW p l e R s m args below meth c Z ad D cA A ml sc ce sl z) : XWp p l e R s m args below meth c Z ad D cA A ml sc ce sl pc ls st h := by
  obtain ⟨hx, hb, hml, hown, hts, hK, hSF, hRf, hRl, hRc, hRs⟩ := hC
  have hlk := hts _ (mj_spec hf)
  have hnf : nativeFrameWords "java/lang/System" "arraycopy" 5 = 7 := by decide +kernel
  unfold fLib at hq
  split at hq
  · rename_i y x r
    split at hq
    · cases hq
    rename_i hble
    have hsum : (r.map fun v => v.category).sum ≤ 16 := Nat.le_of_ble_eq_true (by simpa using hble)
    split at hq
    · rename_i e1
      subst e1
      cases hq
      intro hs H locs la hl hP hD hS
      exact va_mmax hx hb (by rw [hml, hl.1]) hown hlk (hts _ lb0) (hts _ lb2) (hts _ lb6) hRf (by rw [cat_map]; omega) hRc hRs hd (X hs H locs la hl hP hD hS)
    split at hq
    · rename_i e0 e1
      subst e1
      cases hq
      intro hs H locs la hl hP hD hS
      exact va_mmin hx hb (by rw [hml, hl.1]) hown hlk (hts _ lb1) (hts _ lb2) (hts _ lb7) hRf (by rw [cat_map]; omega) hRc hRs hd (X hs H locs la hl hP hD hS)
    rename_i n1 n2
    split at hq
    · rename_i d sp s' t
      simp only [List.map_cons, List.sum_cons] at hsum
      split at hq
      · rename_i e3
        subst e3
        split at hq
        · rename_i hk
          obtain ⟨k1, k2, k3, k4⟩ := hk
          cases hq
          intro hs H locs la hl hP hD hS
          have he0 := wl_at (ad := ad) (cA := cA) (h := h) (oK_lt (by omega) : s' < psNO)
          have he1 := wl_at (ad := ad) (cA := cA) (h := h) (oK_lt (by omega) : d < psNO)
          rw [ent_0 k4] at he0
          rw [ent_0 k3] at he1
          obtain ⟨na, nb, nc, ea, eb, ec, l1, l2⟩ := cpG_nat g (oP_lt s') (oP_lt d)
          have hn : ∀ {x : Int32} {k : Nat}, x = nI k → k < 2 ^ 31 → ¬ x < 0 := fun {x k} e hk => by rw [e]; exact nI_pos hk
          have o1 := oP_lt s'
          have o2 := oP_lt d
          exact va_copyi (D := D) hx hb (by rw [hml, hl.1]) hown hlk (hts _ lb3) (hts _ lb4) (hts _ lb5) hK hP hD hS s' d 0 0 he0 he1 rfl rfl rfl (hn ea (by omega)) (hn eb (by omega)) (hn ec (by omega)) (by rw [ea, ec, nI_clamp (by omega), nI_clamp (by omega)]; exact l1) (by rw [eb, ec, nI_clamp (by omega), nI_clamp (by omega)]; exact l2) (fun _ _ => rfl) hRf (by rw [cat_map, hnf]; omega) hd (fun H1 locs1 hP1 hD1 hS1 => X hs H1 locs1 la hl (wl_P (oK_lt (by omega)) (fun q => by
            rw [ent_0 k3]
            exact q.trans (congrArg some (arrV_congr (fun i hi => congrArg Value.int (hC_cell g (oP_lt s') (oP_lt d) hi))))) (fun i hi => ent_ne (hC_rowne hi) rfl) hP1) (wl_D hD) hS1)
        split at hq
        · rename_i hk
          obtain ⟨k1, k2, k3, k4⟩ := hk
          cases hq
          intro hs H locs la hl hP hD hS
          have he0 := wl_at (ad := ad) (cA := cA) (h := h) (oK_lt (by omega) : s' < psNO)
          have he1 := wl_at (ad := ad) (cA := cA) (h := h) (oK_lt (by omega) : d < psNO)
          rw [ent_1 k4] at he0
          rw [ent_1 k3] at he1
          obtain ⟨na, nb, nc, ea, eb, ec, l1, l2⟩ := cpG_nat g (oP_lt s') (oP_lt d)
          have hn : ∀ {x : Int32} {k : Nat}, x = nI k → k < 2 ^ 31 → ¬ x < 0 := fun {x k} e hk => by rw [e]; exact nI_pos hk
          have o1 := oP_lt s'
          have o2 := oP_lt d
          exact va_copyl (D := D) hx hb (by rw [hml, hl.1]) hown hlk (hts _ lb3) (hts _ lb4) (hts _ lb5) hK hP hD hS s' d 1 1 he0 he1 rfl rfl rfl (hn ea (by omega)) (hn eb (by omega)) (hn ec (by omega)) (by rw [ea, ec, nI_clamp (by omega), nI_clamp (by omega)]; exact l1) (by rw [eb, ec, nI_clamp (by omega), nI_clamp (by omega)]; exact l2) (fun _ _ => rfl) hRf (by rw [cat_map, hnf]; omega) hd (fun H1 locs1 hP1 hD1 hS1 => X hs H1 locs1 la hl (wl_P (h := h) (i := d) (oK_lt (by omega)) (fun q => by
            rw [ent_1 k3]
            exact q.trans (congrArg some (arrV_congr (fun i hi => congrArg Value.long (hCL_cell g (oP_lt s') (oP_lt d) hi))))) (fun i hi => ent_ne rfl (hCL_rowne hi)) hP1) (wl_D hD) hS1)
        · cases hq
      · cases hq
    · cases hq
  · cases hq
theorem swt_in {x : Int32} {t : Nat} : ∀ (l : List (Int32 × Nat)) (d i : Nat), l[i]? = some (x, t) → (∀ j q, j < i → l[j]? = some q → q.1 ≠ x) → swt l d x = t
  | [], _, _, h, _ => by simp at h
  | (k, u) :: r, d, 0, h, _ => by
    simp only [List.getElem?_cons_zero, Option.some.injEq, Prod.mk.injEq] at h
    unfold swt
    rw [if_pos h.1.symm, h.2]
  | (k, u) :: r, d, i + 1, h, hn => by
    have h0 := hn 0 (k, u) (by omega) rfl
    unfold swt
    rw [if_neg (fun q => h0 q.symm)]
    exact swt_in r d i (by simpa using h) (fun j q hj hq => hn (j + 1) q (by omega) (by simpa using hq))
theorem swt_out {x : Int32} : ∀ (l : List (Int32 × Nat)) (d : Nat), (∀ q ∈ l, q.1 ≠ x) → swt l d x = d
  | [], _, _ => rfl
  | (k, u) :: r, d, h => by
    unfold swt
    rw [if_neg (fun q => h (k, u) List.mem_cons_self q.symm)]
    exact swt_out r d (fun q hq => h q (List.mem_cons_of_mem _ hq))
theorem i32_ofInt {x : Int32} {v : Int} (h1 : -1000 < v) (h2 : v < 1000) : Int32.ofInt v = x ↔ v = x.toInt := by
  constructor
  · rintro rfl
    exact (Int32.toInt_ofInt_of_le (by omega) (by omega)).symm
  · rintro rfl
    exact Int32.ofInt_toInt x
theorem sw_ts {d lo hi : Int} {offs : Array Int} {n a pc : Nat} {sw : List (Int32 × Nat)} {x : Int32} {ls : Lc} {st : List Value} {h : Hp} (hx : p.tables.exec = Jvm.exec) (hb : c.code = b) (hd : decode b pc = .ok (.tableswitch d lo hi offs, n)) (h1 : (pc : Int) + d = (a : Int)) (h2 : sw = (List.range offs.size).map (fun (k : Nat) => (Int32.ofInt (lo + (k : Int)), ((pc : Int) + offs.toList.getD k 0).toNat))) (h3 : (offs.size : Int) = hi - lo + 1) (h4 : -1000 < lo) (h5 : hi < 1000) (h6 : offs.all (fun f => decide (0 ≤ (pc : Int) + f)) = true) (X : XWp p l e R s m args below meth c Z ad D cA A ml sc ce sl (swt sw a x) ls st h) : XWp p l e R s m args below meth c Z ad D cA A ml sc ce sl pc ls (.int x :: st) h := by
  have hel : ∀ q, sw[q]? = (if q < offs.size then some (Int32.ofInt (lo + (q : Int)), ((pc : Int) + offs.toList.getD q 0).toNat) else none) := by
    intro q
    rw [h2, List.getElem?_map]
    by_cases hq : q < offs.size
    · rw [List.getElem?_range hq, if_pos hq]; rfl
    · rw [List.getElem?_eq_none (by simp; omega), if_neg hq]; rfl
  by_cases hin : x.toInt < lo ∨ hi < x.toInt
  · have e : swt sw a x = a := swt_out sw a (fun q hq => by
      obtain ⟨j, hj⟩ := List.getElem?_of_mem hq
      rw [hel j] at hj
      split at hj
      · rename_i hl
        cases hj
        intro hz
        have := (i32_ofInt (by omega) (by omega)).mp hz
        omega
      · cases hj)
    rw [e] at X
    exact xw_mv (fun H locs la hl w => lv_tableOut hx hb hd hin h1 w) X
  · have hlo : ¬ x.toInt < lo := fun q => hin (Or.inl q)
    have hhi : ¬ hi < x.toInt := fun q => hin (Or.inr q)
    obtain ⟨j, hj⟩ : ∃ j : Nat, x.toInt - lo = (j : Int) := ⟨(x.toInt - lo).toNat, by omega⟩
    have hjs : j < offs.size := by omega
    have hoff : offs[(x.toInt - lo).toNat]? = some offs[j] := by
      rw [show (x.toInt - lo).toNat = j by omega]
      exact Array.getElem?_eq_getElem hjs
    have hget : offs.toList.getD j 0 = offs[j] := by simp [List.getD_eq_getElem?_getD, hjs]
    have hpos : 0 ≤ (pc : Int) + offs[j] := by
      have := Array.all_eq_true.mp h6 j hjs
      simpa using this
    have e : swt sw a x = ((pc : Int) + offs[j]).toNat := swt_in sw a j (by
      rw [hel j, if_pos hjs, hget, (i32_ofInt (x := x) (by omega) (by omega)).mpr (by omega)]) (fun i q hi' hq => by
      rw [hel i, if_pos (by omega)] at hq
      cases hq
      intro hz
      have := (i32_ofInt (by omega) (by omega)).mp hz
      omega)
    rw [e] at X
    exact xw_mv (fun H locs la hl w => lv_tableIn hx hb hd hlo hhi hoff (by omega) w) X
theorem look_eq {x : Int32} {pc a : Nat} {d : Int} (hd : (pc : Int) + d = (a : Int)) : ∀ (r : List (Int × Int)), (∀ q ∈ r, 0 ≤ (pc : Int) + q.2 ∧ -1000 < q.1 ∧ q.1 < 1000) → (pc : Int) + Op.lookupswitch.offset r d x.toInt = ((swt (r.map (fun q => (Int32.ofInt q.1, ((pc : Int) + q.2).toNat))) a x : Nat) : Int)
  | [], _ => hd
  | (k, f) :: r, h => by
    have h0 := h (k, f) List.mem_cons_self
    have ih := look_eq (x := x) hd r (fun q hq => h q (List.mem_cons_of_mem _ hq))
    show (pc : Int) + (if k = x.toInt then f else Op.lookupswitch.offset r d x.toInt) = ((if x = Int32.ofInt k then ((pc : Int) + f).toNat else swt (r.map (fun q => (Int32.ofInt q.1, ((pc : Int) + q.2).toNat))) a x : Nat) : Int)
    have hh := i32_ofInt (x := x) (v := k) h0.2.1 h0.2.2
    by_cases hk : k = x.toInt
    · rw [if_pos hk, if_pos (hh.mpr hk).symm]
      have := h0.1
      omega
    · rw [if_neg hk, if_neg (fun q => hk (hh.mp q.symm))]
      exact ih
theorem sw_ls {d : Int} {ps : Array (Int × Int)} {n a pc : Nat} {sw : List (Int32 × Nat)} {x : Int32} {ls : Lc} {st : List Value} {h : Hp} (hx : p.tables.exec = Jvm.exec) (hb : c.code = b) (hd : decode b pc = .ok (.lookupswitch d ps, n)) (h1 : (pc : Int) + d = (a : Int)) (h2 : sw = ps.toList.map (fun q => (Int32.ofInt q.1, ((pc : Int) + q.2).toNat))) (h3 : (ps.toList.zip (ps.toList.drop 1)).all (fun (a, next) => a.1 < next.1) = true) (h6 : ps.all (fun q => decide (0 ≤ (pc : Int) + q.2) && decide (-1000 < q.1) && decide (q.1 < 1000)) = true) (X : XWp p l e R s m args below meth c Z ad D cA A ml sc ce sl (swt sw a x) ls st h) : XWp p l e R s m args below meth c Z ad D cA A ml sc ce sl pc ls (.int x :: st) h := by
  have e := look_eq (x := x) h1 ps.toList (fun q hq => by
    have := Array.all_eq_true'.mp h6 q (by simpa using hq)
    simpa [and_assoc] using this)
  rw [← h2] at e
  exact xw_mv (fun H locs la hl w => lv_lookup hx hb hd h3 rfl e w) X
theorem stp_W {cd : Cd} {z z' : Cf} {G : Prop} (hC : CX p R s m args c ad D cA A b o ml sc ce sl) (hcd : okC b o 0 cd = true) (hq : stp cd z = some (G, z')) (g : G) (X : XW p l e R s m args below meth c Z ad D cA A ml sc ce sl z') : XW p l e R s m args below meth c Z ad D cA A ml sc ce sl z := by
  obtain ⟨pc, ls, st, h⟩ := z
  have hx := hC.1
  have hb := hC.2.1
  unfold stp at hq
  split at hq
  · rename_i i n a bb v w sw hat
    have hok := okC_at hcd hat
    rw [Nat.zero_add] at hok
    simp only [okE, Bool.and_eq_true, decide_eq_true_eq] at hok
    obtain ⟨hd, hok⟩ := hok
    dsimp only at hd hok hq
    cases i
    case iload_n q => simp only [okx, beq_iff_eq] at hok; subst hok; exact sw_ldI hx hb hd (Or.inl ⟨q, rfl, rfl, rfl⟩) hq X
    case iload q => simp only [okx, beq_iff_eq] at hok; subst hok; exact sw_ldI hx hb hd (Or.inr ⟨rfl, rfl⟩) hq X
    case lload_n q => simp only [okx, beq_iff_eq] at hok; subst hok; exact sw_ldL hx hb hd (Or.inl ⟨q, rfl, rfl, rfl⟩) hq X
    case lload q => simp only [okx, beq_iff_eq] at hok; subst hok; exact sw_ldL hx hb hd (Or.inr ⟨rfl, rfl⟩) hq X
    case aload_n q => simp only [okx, beq_iff_eq] at hok; subst hok; exact sw_ldA hx hb hd (Or.inl ⟨q, rfl, rfl, rfl⟩) hq X
    case aload q => simp only [okx, beq_iff_eq] at hok; subst hok; exact sw_ldA hx hb hd (Or.inr ⟨rfl, rfl⟩) hq X
    case istore_n q => simp only [okx, beq_iff_eq] at hok; subst hok; exact sw_stI hx hb hd (Or.inl ⟨q, rfl, rfl, rfl⟩) hq X
    case istore q => simp only [okx, beq_iff_eq] at hok; subst hok; exact sw_stI hx hb hd (Or.inr ⟨rfl, rfl⟩) hq X
    case iconst q => simp only [okx, Bool.and_eq_true, beq_iff_eq, decide_eq_true_eq] at hok; obtain ⟨rfl, hv⟩ := hok; cases hq; exact xw_mv (fun H locs la hl w => lv_iconst hx hb hd hv w) X
    case bipush q => simp only [okx, Bool.and_eq_true, beq_iff_eq, decide_eq_true_eq] at hok; obtain ⟨rfl, hv⟩ := hok; cases hq; exact xw_mv (fun H locs la hl w => lv_bipush hx hb hd hv w) X
    case sipush q => simp only [okx, Bool.and_eq_true, beq_iff_eq, decide_eq_true_eq] at hok; obtain ⟨rfl, hv⟩ := hok; cases hq; exact xw_mv (fun H locs la hl w => lv_sipush hx hb hd hv w) X
    case lconst q => simp only [okx, Bool.and_eq_true, beq_iff_eq, decide_eq_true_eq] at hok; obtain ⟨rfl, hv⟩ := hok; cases hq; exact xw_mv (fun H locs la hl w => lv_lconst hx hb hd hv w) X
    case ldc q => simp only [okx, Bool.and_eq_true, beq_iff_eq] at hok; obtain ⟨rfl, hv⟩ := hok; exact sw_ldc hC hd hv hq X
    case ldc_w q => simp only [okx, Bool.and_eq_true, beq_iff_eq] at hok; obtain ⟨rfl, hv⟩ := hok; cases hq; exact sw_ldcw hC hd hv X
    case ldc2_w q => simp only [okx, Bool.and_eq_true, beq_iff_eq] at hok; obtain ⟨rfl, hv⟩ := hok; cases hq; exact sw_ldc2 hC hd hv X
    case iadd => simp only [okx, beq_iff_eq] at hok; subst hok; exact sw_I2 (fun H locs la rest x y w => lv_iadd hx hb hd w) hq X
    case isub => simp only [okx, beq_iff_eq] at hok; subst hok; exact sw_I2 (fun H locs la rest x y w => lv_isub hx hb hd w) hq X
    case imul => simp only [okx, beq_iff_eq] at hok; subst hok; exact sw_I2 (fun H locs la rest x y w => lv_imul hx hb hd w) hq X
    case iand => simp only [okx, beq_iff_eq] at hok; subst hok; exact sw_I2 (fun H locs la rest x y w => lv_iand hx hb hd w) hq X
    case ior => simp only [okx, beq_iff_eq] at hok; subst hok; exact sw_I2 (fun H locs la rest x y w => lv_ior hx hb hd w) hq X
    case ixor => simp only [okx, beq_iff_eq] at hok; subst hok; exact sw_I2 (fun H locs la rest x y w => lv_ixor hx hb hd w) hq X
    case ishl => simp only [okx, beq_iff_eq] at hok; subst hok; exact sw_I2 (fun H locs la rest x y w => lv_ishl hx hb hd w) hq X
    case ishr => simp only [okx, beq_iff_eq] at hok; subst hok; exact sw_I2 (fun H locs la rest x y w => lv_ishr hx hb hd w) hq X
    case iushr => simp only [okx, beq_iff_eq] at hok; subst hok; exact sw_I2 (fun H locs la rest x y w => lv_iushr hx hb hd rfl w) hq X
    case idiv => simp only [okx, beq_iff_eq] at hok; subst hok; exact sw_I2g (fun H locs la rest x y hy w => lv_idiv hx hb hd hy w) hq g X
    case irem => simp only [okx, beq_iff_eq] at hok; subst hok; exact sw_I2g (fun H locs la rest x y hy w => lv_irem hx hb hd hy w) hq g X
    case ineg => simp only [okx, beq_iff_eq] at hok; subst hok; exact sw_I1 (fun H locs la rest x w => lv_ineg hx hb hd w) hq X
    case i2b => simp only [okx, beq_iff_eq] at hok; subst hok; exact sw_I1 (fun H locs la rest x w => lv_i2b hx hb hd rfl w) hq X
    case i2s => simp only [okx, beq_iff_eq] at hok; subst hok; exact sw_I1 (fun H locs la rest x w => lv_i2s hx hb hd rfl w) hq X
    case i2c => simp only [okx, beq_iff_eq] at hok; subst hok; exact sw_I1 (fun H locs la rest x w => lv_i2c hx hb hd rfl w) hq X
    case i2l =>
      simp only [okx, beq_iff_eq] at hok; subst hok
      simp only [stI] at hq
      split at hq
      · cases hq; exact xw_mv (fun H locs la hl w => lv_i2l hx hb hd rfl w) X
      · cases hq
    case l2i =>
      simp only [okx, beq_iff_eq] at hok; subst hok
      simp only [stI] at hq
      split at hq
      · cases hq; exact xw_mv (fun H locs la hl w => lv_l2i hx hb hd rfl w) X
      · cases hq
    case ladd => simp only [okx, beq_iff_eq] at hok; subst hok; exact sw_L2 (fun H locs la rest x y w => lv_ladd hx hb hd w) hq X
    case lsub => simp only [okx, beq_iff_eq] at hok; subst hok; exact sw_L2 (fun H locs la rest x y w => lv_lsub hx hb hd w) hq X
    case lmul => simp only [okx, beq_iff_eq] at hok; subst hok; exact sw_L2 (fun H locs la rest x y w => lv_lmul hx hb hd w) hq X
    case lshl => simp only [okx, beq_iff_eq] at hok; subst hok; exact sw_LI (fun H locs la rest x y w => lv_lshl hx hb hd rfl w) hq X
    case lshr => simp only [okx, beq_iff_eq] at hok; subst hok; exact sw_LI (fun H locs la rest x y w => lv_lshr hx hb hd rfl w) hq X
    case lcmp =>
      simp only [okx, beq_iff_eq] at hok; subst hok
      simp only [stI] at hq
      split at hq
      · cases hq; exact xw_mv (fun H locs la hl w => W.lcmp hx hb hd w) X
      · cases hq
    case iinc k q => simp only [okx, Bool.and_eq_true, beq_iff_eq, decide_eq_true_eq] at hok; obtain ⟨rfl, hv⟩ := hok; exact sw_iinc hx hb hd hv hq X
    case ifCond q f => simp only [okx, Bool.and_eq_true, beq_iff_eq, decide_eq_true_eq] at hok; obtain ⟨rfl, hv⟩ := hok; exact sw_if hx hb hd hv hq X
    case if_icmp q f => simp only [okx, Bool.and_eq_true, beq_iff_eq, decide_eq_true_eq] at hok; obtain ⟨rfl, hv⟩ := hok; exact sw_ic hx hb hd hv hq X
    case goto f => simp only [okx, Bool.and_eq_true, beq_iff_eq, decide_eq_true_eq] at hok; obtain ⟨rfl, hv⟩ := hok; cases hq; exact xw_mv (fun H locs la hl w => lv_goto hx hb hd hv w) X
    case ifnull f =>
      simp only [okx, beq_iff_eq] at hok; subst hok
      simp only [stI] at hq
      split at hq
      · cases hq; exact xw_mv (fun H locs la hl w => lv_ifnull hx hb hd w) X
      · cases hq
    case ifnonnull f =>
      simp only [okx, Bool.and_eq_true, beq_iff_eq, decide_eq_true_eq] at hok; obtain ⟨rfl, hv⟩ := hok
      simp only [stI] at hq
      split at hq
      · cases hq; exact xw_mv (fun H locs la hl w => lv_ifnonnull hx hb hd hv w) X
      · cases hq
    case getfield k => rw [okx, Bool.and_eq_true, Bool.and_eq_true, Bool.and_eq_true, beq_iff_eq, decide_eq_true_eq] at hok; obtain ⟨⟨⟨rfl, hv0⟩, -⟩, hv⟩ := hok; exact sw_gf hC hd hv hv0 hq X
    case putfield k => rw [okx, Bool.and_eq_true, Bool.and_eq_true, Bool.and_eq_true, beq_iff_eq, decide_eq_true_eq] at hok; obtain ⟨⟨⟨rfl, hv0⟩, -⟩, hv⟩ := hok; exact sw_pf hC hd hv hv0 hq g X
    case getstatic k => rw [okx, Bool.and_eq_true, beq_iff_eq] at hok; obtain ⟨rfl, hv⟩ := hok; cases hq; exact sw_gs hC hd hv X
    case arraylength => simp only [okx, beq_iff_eq] at hok; subst hok; exact sw_al hC hd hq X
    case iaload => simp only [okx, beq_iff_eq] at hok; subst hok; exact sw_ial hC hd hq g X
    case baload => simp only [okx, beq_iff_eq] at hok; subst hok; exact sw_bal hC hd hq g X
    case laload => simp only [okx, beq_iff_eq] at hok; subst hok; exact sw_lal hC hd hq g X
    case iastore => simp only [okx, beq_iff_eq] at hok; subst hok; exact sw_ias hC hd hq g X
    case bastore => simp only [okx, beq_iff_eq] at hok; subst hok; exact sw_bas hC hd hq g X
    case lastore => simp only [okx, beq_iff_eq] at hok; subst hok; exact sw_las hC hd hq g X
    case dup =>
      simp only [okx, beq_iff_eq] at hok; subst hok
      simp only [stI] at hq
      split at hq
      · cases hq; exact xw_mv (fun H locs la hl w => lv_dup hx hb hd rfl w) X
      · cases hq; exact xw_mv (fun H locs la hl w => lv_dup hx hb hd rfl w) X
      · cases hq
    case pop =>
      simp only [okx, beq_iff_eq] at hok; subst hok
      simp only [stI] at hq
      split at hq
      · cases hq; exact xw_mv (fun H locs la hl w => lv_pop hx hb hd rfl w) X
      · cases hq; exact xw_mv (fun H locs la hl w => lv_pop hx hb hd rfl w) X
      · cases hq
    case dup2 =>
      simp only [okx, beq_iff_eq] at hok; subst hok
      simp only [stI] at hq
      split at hq
      · cases hq; exact xw_mv (fun H locs la hl w => lv_dup2_11 hx hb hd rfl rfl w) X
      · cases hq
    case tableswitch d lo hi offs =>
      simp only [okx, Bool.and_eq_true, decide_eq_true_eq] at hok
      obtain ⟨⟨⟨⟨⟨h1, h2⟩, h3⟩, h4⟩, h5⟩, h6⟩ := hok
      simp only [stI] at hq
      split at hq
      · cases hq; exact sw_ts hx hb hd h1 h2 h3 h4 h5 h6 X
      · cases hq
    case lookupswitch d ps =>
      rw [okx, Bool.and_eq_true, Bool.and_eq_true, Bool.and_eq_true, decide_eq_true_eq, decide_eq_true_eq] at hok
      obtain ⟨⟨⟨h1, h2⟩, h3⟩, h6⟩ := hok
      simp only [stI] at hq
      split at hq
      · cases hq; exact sw_ls hx hb hd h1 h2 h3 h6 X
      · cases hq
    case invokestatic k =>
      rw [okx, Bool.and_eq_true, beq_iff_eq] at hok
      obtain ⟨rfl, hv⟩ := hok
      simp only [stI] at hq
      split at hq
      · cases hq
      · rename_i ha
        rw [if_neg ha] at hv
        exact sw_lib hC hd ha hv hq g X
    all_goals (simp only [stI, reduceCtorEq] at hq)
  · cases hq
end SOUND
end
section
/-! Calls and returns; the small machine's judgement gives the machine's contract. -/
def WK (ad : Nat → Nat) (D : va_G) (cA : Nat → ClassId) (A : Nat → Prop) (sc : Nat × (Nat → Int32)) (h : Hp) (U : State) : Prop := va_P D vwCl (wl ad cA h) U.heap ∧ va_K D vwCl (tysP cA) U ∧ va_D A (wl ad cA h) ∧ SF ad A sc U U.heap ∧ h.2.2 = sc
def PC (ad : Nat → Nat) (D : va_G) (cA : Nat → ClassId) (A : Nat → Prop) (sc : Nat × (Nat → Int32)) (as : List Value) (h : Hp) : Array Value → State → Prop := va_Pc (as.map (tr ad)) (WK ad D cA A sc h)
def QC (ad : Nat → Nat) (D : va_G) (cA : Nat → ClassId) (A : Nat → Prop) (sc : Nat × (Nat → Int32)) (Q : Option Value → Hp → Prop) : Array Value → State → Outcome → State → Prop := fun _ st oc t => (∃ (r : Option Value) (h : Hp), oc = .returned (r.map (tr ad)) ∧ Q r h ∧ WK ad D cA A sc h t) ∧ va_F A st t
theorem PC.blind {ad : Nat → Nat} {D : va_G} {cA : Nat → ClassId} {A : Nat → Prop} {sc : Nat × (Nat → Int32)} {as : List Value} {h : Hp} : FrameBlind (PC ad D cA A sc as h) := fun a U g mk q => ⟨q.1, q.2.1, va_K.moved (u := U) (U := U.calling g mk a) (Vm.Alike.refl U.vm) q.2.2.1, q.2.2.2.1, q.2.2.2.2.1.calling, q.2.2.2.2.2⟩
abbrev rmD (d : Nat) : Room := { frames := d + 4, cells := 0, slots := 0, locals := 60 * d + 200 }
section CALL
variable {p : Program} {l : Launch} {e : Env} {R : Room} {s : State} {m : MethodId} {args : Array Value} {below : List Frame} {meth : Method} {c : Code} {Z : State → Prop}
variable {ad : Nat → Nat} {D : va_G} {cA : Nat → ClassId} {A : Nat → Prop} {b : ByteArray} {o ml : Nat} {sc : Nat × (Nat → Int32)} {ce sl : Nat}
/-- the world at a state that a call starts from -/
theorem WK.at {h : Hp} {H : Heap} {locs : List Loc} {U : State} (hC : CX p R s m args c ad D cA A b o ml sc ce sl) (hs : h.2.2 = sc) (hP : va_P D vwCl (wl ad cA h) H) (hD : va_D A (wl ad cA h)) (hS : va_S A s.heap H locs) (hU : U.heap = H) (hW : s.WarmedH U.vm) : WK ad D cA A sc h U := ⟨by rw [hU]; exact hP, va_K.moved hW.alike hC.2.2.2.2.2.1, hD, by rw [hU]; exact hC.2.2.2.2.2.2.1.go hW hS.2.1, hs⟩
theorem rt_W {rt : Option FieldType} {cd : Cd} {z : Cf} {G : Prop} {r : Option Value} {Q : Option Value → Hp → Prop} (hC : CX p R s m args c ad D cA A b o ml sc 0 0) (hcd : okC b o 0 cd = true) (hr : meth.sig.returnType = rt) (hlk : meth.locks = false) (hq : rtp cd rt z = some (G, r)) (g : G) (hQ : Q r z.2.2.2) : XW p l e R s m args below meth c (MQ below (QC ad D cA A sc Q) args s 0 0 A) ad D cA A ml sc 0 0 z := by
  obtain ⟨pc, ls, st, h⟩ := z
  have hx := hC.1
  have hb := hC.2.1
  unfold rtp at hq
  split at hq
  · rename_i i tl hat
    obtain ⟨n, a, bb, v, w, sw⟩ := tl
    have hok := okC_at hcd hat
    rw [Nat.zero_add] at hok
    simp only [okE, Bool.and_eq_true, decide_eq_true_eq] at hok
    obtain ⟨hd, hok⟩ := hok
    dsimp only at hd hok hq
    intro hs H locs la hl hP hD hS
    have post : ∀ t : State, t.heap = H → s.WarmedH t.vm → QC ad D cA A sc Q args s (.returned (r.map (tr ad))) t := fun t ht hW => ⟨⟨r, h, rfl, hQ, WK.at hC hs hP hD hS ht hW⟩, hS.F ht⟩
    unfold rok at hq
    split at hq
    · simp only [okx, beq_iff_eq] at hok
      subst hok
      split at hq
      · cases hq
        exact W.iret hx hb hr post hS.2.2 hd hlk
      · cases hq
        exact W.zret hx hb hr (by rcases g with rfl | rfl <;> rfl) post hS.2.2 hd hlk
      · cases hq
    · simp only [okx, beq_iff_eq] at hok
      subst hok
      split at hq
      · rename_i e1
        cases hq
        exact W.lret hx hb (hr.trans e1) post hS.2.2 hd hlk
      · cases hq
    · simp only [okx, beq_iff_eq] at hok
      subst hok
      split at hq
      · rename_i e1
        cases hq
        exact W.aret hx hb (hr.trans e1) (Or.inl ⟨_, rfl⟩) (Or.inr ⟨_, rfl⟩) post hS.2.2 hd hlk
      · cases hq
    · simp only [okx, beq_iff_eq] at hok
      subst hok
      split at hq
      · rename_i e1
        cases hq
        exact W.vret hx hb (hr.trans e1) post hS.2.2 hd hlk
      · cases hq
    · cases hq
  · cases hq
end CALL
/-- a call of a method goes through, in any body that stands -/
def CO (l : Launch) (ad : Nat → Nat) (D : va_G) (cA : Nat → ClassId) (A : Nat → Prop) (sc : Nat × (Nat → Int32)) (d mid : Nat) (as : List Value) (h : Hp) (Q : Option Value → Hp → Prop) : Prop := ∀ (p : Program) (e : Env) (R : Room) (s : State) (m : MethodId) (args : Array Value) (below : List Frame) (meth : Method) (c : Code) (Z : State → Prop) (b : ByteArray) (o ml ce sl : Nat) (pc : Nat) (ls : Lc) (rest : List Value) (i : Instr) (n bb : Nat) (v : Int32) (w : Int64) (sw : List (Int32 × Nat)), CX p R s m args c ad D cA A b o ml sc ce sl → d + 5 ≤ R.frames → 60 * d + 260 ≤ R.locals → decode b pc = .ok (i, n) → okx o pc i n mid bb v w sw = true → ((∃ k, i = .invokevirtual k) ∧ as.length = bb + 1 ∨ (∃ k, i = .invokestatic k) ∧ mid < 1000 ∧ as.length = bb) → (rest.map fun v => v.category).sum ≤ 8 → (∀ r h1, Q r h1 → XWp p l e R s m args below meth c Z ad D cA A ml sc ce sl (pc + 3) ls (r.toList ++ rest) h1) → XWp p l e R s m args below meth c Z ad D cA A ml sc ce sl pc ls (as.reverse ++ rest) h
section CALL2
variable {p : Program} {l : Launch} {e : Env} {R : Room} {s : State} {m : MethodId} {args : Array Value} {below : List Frame} {meth : Method} {c : Code} {Z : State → Prop}
variable {ad : Nat → Nat} {D : va_G} {cA : Nat → ClassId} {A : Nat → Prop} {b : ByteArray} {o ml : Nat} {sc : Nat × (Nat → Int32)} {ce sl : Nat}
/-- behind a call -/
theorem xw_back {pc : Nat} {ls : Lc} {rest : List Value} {Q : Option Value → Hp → Prop} {av : Array Value} {H : Heap} {locs : List Loc} {la : Array Slot} {st0 : List Value} (hl : LH ad la ml ls) (hS : va_S A s.heap H locs) (hr : va_Run p l e R s m args below meth c H locs ce sl 0 0 (F0 m pc la st0) (rest.map (tr ad)) (QC ad D cA A sc Q av) A) (X : ∀ r h1, Q r h1 → XWp p l e R s m args below meth c Z ad D cA A ml sc ce sl (pc + 3) ls (r.toList ++ rest) h1) : W p l e R s m args below meth c H locs ce sl Z (F0 m pc la st0) := by
  intro T hT X0
  obtain ⟨v, st₀, t, T', L, h0, X', hL, e1, e2, ⟨⟨r, h1, hv, hq, hw⟩, hz, hk⟩, st⟩ := hr T hT X0
  cases hv
  rw [h0] at hz hk
  obtain ⟨w1, w2, w3, w4, w5⟩ := hw
  have hS' : va_S A s.heap T'.heap (locs ++ L) := ⟨Nat.le_trans hS.1 (by rw [e1]; exact hz), fun q g1 g2 => by rw [e1, hk q (Nat.lt_of_lt_of_le g1 hS.1) g2]; exact hS.2.1 q g1 g2, fun q hq => by
    rcases List.mem_append.mp hq with g | g
    · exact hS.2.2 q g
    · exact hL q g⟩
  obtain ⟨t2, a1, b1⟩ := X r h1 hq w5 T'.heap (locs ++ L) la hl (by rw [e1]; exact w1) w3 hS' T' rfl X'
  refine ⟨t2, st t2 ?_, b1⟩
  have es : (r.toList ++ rest).map (tr ad) = (r.map (tr ad)).toList ++ rest.map (tr ad) := by cases r <;> rfl
  rw [← es]
  exact a1
theorem gT_in {y : MethodName} {c' : ByteArray} {ml' : Nat} {rt : Option FieldType} (h : Jvm.Cond.code y c' ml' rt ∈ gT) : GoodIn gT (Jvm.Cond.code y c' ml' rt :: gT) := fun w hw => by
  rcases List.mem_cons.mp hw with rfl | hw
  · exact ⟨h, good_of_word (gT_good _ h)⟩
  · exact ⟨hw, good_of_word (gT_good _ hw)⟩
theorem mi_spec {mid : Nat} {y : MethodName} {c' : ByteArray} {ml' : Nat} {rt : Option FieldType} {o' : Nat} {cd : Cd} {q : Mp} (h : psM[mid]? = some (y, c', ml', rt, o', cd, q)) : Jvm.Cond.code y c' ml' rt ∈ gT ∧ (q.1 = 0 → Jvm.Cond.static y ∈ gT) ∧ (q.1 ≠ 0 → Jvm.Cond.instanceMethod y ∈ gT ∧ Jvm.Cond.selects y.cls y y ∈ gT) ∧ Jvm.Cond.initialized y.cls ∈ gT ∧ plainName y.cls = true ∧ (y.cls ≠ "java/lang/invoke/MethodHandle" ∧ y.cls ≠ "java/lang/invoke/VarHandle") ∧ (parseMethodDescriptor y.desc).map (fun d => d.parameters.length) = some q.2.1 ∧ nmO o' = y.cls ∧ ml' ≤ 30 ∧ (q.1 ≠ 0 → (vwCl[o']?).map (fun q => q.1) = some y.cls) ∧ okC c' o' 0 cd = true := by
  obtain ⟨h1, h2⟩ := psM_ok _ (List.mem_of_getElem? h)
  obtain ⟨kd, n, cp, ip, sp, np⟩ := q
  simp only [miC, Bool.and_eq_true, decide_eq_true_eq, Bool.or_eq_true] at h2
  obtain ⟨⟨⟨⟨⟨⟨⟨⟨⟨⟨a1, a2⟩, a3⟩, a4⟩, a5⟩, a6⟩, a7⟩, a8⟩, a9⟩, a10⟩, a11⟩ := h2
  refine ⟨?_, fun e => ?_, fun e => ?_, hasW_in a3, a4, ⟨a5, a6⟩, a7, a8, a9, fun e => ?_, a11⟩
  · refine List.mem_filter.mpr ⟨lwB_in h1, ?_⟩
    unfold isCw at a1
    have h1' : (lwB cp.1)[cp.2]? = some (Jvm.Cond.code y c' ml' rt) := h1
    rw [h1'] at a1
    exact a1
  · have e' : kd = 0 := e
    rw [if_pos e'] at a2
    exact hasW_in a2
  · have e' : ¬ kd = 0 := e
    rw [if_neg e'] at a2
    have a2' := Bool.and_eq_true_iff.mp a2
    exact ⟨hasW_in a2'.1, hasW_in a2'.2⟩
  · rcases a10 with a | a
    · exact absurd a e
    · exact a
/-- a method of the table, met: its calls go through -/
theorem co_met {d mid : Nat} {as : List Value} {h : Hp} {Q : Option Value → Hp → Prop} {y : MethodName} {c' : ByteArray} {ml' : Nat} {rt : Option FieldType} {o' : Nat} {cd : Cd} {q : Mp} (hm : psM[mid]? = some (y, c', ml', rt, o', cd, q)) (hlen : as.length = (if q.1 = 0 then q.2.1 else q.2.1 + 1)) (hrc : rcv q.1 o' as) (hM : Met l y (Jvm.Cond.code y c' ml' rt :: gT) (rmD d) (PC ad D cA A sc as h) (QC ad D cA A sc Q) 0 0 A) : CO l ad D cA A sc d mid as h Q := by
  intro p e R s m args below meth c Z b o ml ce sl pc ls rest i n bb v w sw hC hRf hRl hd hok hi hsum X
  obtain ⟨s1, s2, s3, s4, s5, s6, s7, s8, s9, s10, s11⟩ := mi_spec hm
  obtain ⟨hx, hb, hml, hown, hts, hK, hSF, -, -, hRc⟩ := id hC
  intro hs H locs la hl hP hD hS
  have hW8 : 2 * (F0 m pc la ((as.reverse ++ rest).map (tr ad))).monitorRoom + ((rest.map (tr ad)).map fun v => v.category).sum ≤ 8 := lv_room (by rw [cat_map]; exact hsum)
  have hRoom : (rmD d).frames + 1 ≤ R.frames ∧ 8 + (ml' + 11) + (rmD d).locals ≤ R.locals := ⟨by show d + 4 + 1 ≤ _; omega, by show 8 + (ml' + 11) + (60 * d + 200) ≤ _; omega⟩
  rcases hi with ⟨⟨k, rfl⟩, hn⟩ | ⟨⟨k, rfl⟩, h1000, hn⟩
  · rw [okx, Bool.and_eq_true, Bool.and_eq_true, beq_iff_eq, hm] at hok
    obtain ⟨⟨rfl, hl1⟩, hl2⟩ := hok
    have hk1 : q.1 = 1 ∧ q.2.1 = bb := by simpa using hl2
    obtain ⟨r, t, rfl, hcl⟩ : ∃ r t, as = .ref r :: t ∧ isCl r o' = true := by
      unfold rcv at hrc
      rw [if_neg (by omega)] at hrc
      exact hrc
    obtain ⟨hr, h3, h4⟩ := isCl_spec hcl
    have hlk : Jvm.Cond.methodLink (nmO o) k y ∈ gT := by
      rw [Bool.or_eq_true] at hl1
      rcases hl1 with hl1 | hl1
      · obtain ⟨mi, g1, g2⟩ := ml_spec hl1
        rw [hm] at g1
        cases g1
        exact g2
      · rw [Bool.and_eq_true, decide_eq_true_eq] at hl1
        have : mid < psM.length := (List.getElem?_eq_some_iff.mp hm).1
        have hln : psM.length ≤ 900 := by decide +kernel
        omega
    have hs10 := s10 (by omega)
    cases hvw : vwCl[o']? with
    | none => rw [hvw] at hs10; cases hs10
    | some q3 =>
      rw [hvw] at hs10
      have hq3 : q3.1 = y.cls := Option.some.inj hs10
      have he := wl_at (ad := ad) (cA := cA) (h := h) hr
      rw [ent_3 h3, h4] at he
      have hrecv := va_recv hK hP hvw he
      rw [hq3] at hrecv
      have est : (((Value.ref r :: t).reverse ++ rest).map (tr ad)) = (t.map (tr ad)).reverse ++ .ref (ad r) :: rest.map (tr ad) := by simp [tr]
      have hGI : GoodIn gT (wsV (nmO o) k y.cls y (Jvm.Cond.code y c' ml' rt :: gT)) := fun w hw => by
        unfold wsV at hw
        rcases List.mem_append.mp hw with hw | hw
        · have : w ∈ gT := by
            simp only [List.mem_cons, List.not_mem_nil, or_false] at hw
            rcases hw with rfl | rfl | rfl | rfl
            · exact hlk
            · exact (s3 (by omega)).1
            · exact (s3 (by omega)).2
            · exact s4
          exact ⟨this, good_of_word (gT_good _ this)⟩
        · exact gT_in s1 w hw
      rw [est] at hW8 ⊢
      exact xw_back hl hS (va_runV (n := bb) (As := t.map (tr ad)) (rest := rest.map (tr ad)) (b := ad r) ⟨hx, hb, hml, hown, hts⟩ hM (cwV bb hts hGI rfl rfl rfl ⟨rfl, s6.1, s6.2, by rw [s7, hk1.2]⟩ hRoom) ⟨PC.blind, hrecv, fun U hU hW => ⟨rfl, WK.at hC hs hP hD hS hU hW⟩⟩ rfl (by rw [List.length_map]; simpa using hn) (by rw [hl.1]) rfl hW8 hd hRc) X
  · rw [okx, Bool.and_eq_true, beq_iff_eq, if_pos h1000, Bool.and_eq_true, hm] at hok
    obtain ⟨rfl, hl1, hl2⟩ := hok
    have hk1 : q.1 = 0 ∧ q.2.1 = bb := by simpa using hl2
    have est : ((as.reverse ++ rest).map (tr ad)) = (as.map (tr ad)).reverse ++ rest.map (tr ad) := by simp
    rw [Bool.or_eq_true] at hl1
    rw [est] at hW8 ⊢
    rcases hl1 with hl1 | hl1
    · obtain ⟨mi, g1, g2⟩ := ml_spec hl1
      rw [hm] at g1
      cases g1
      have hGI : GoodIn gT (va_wsS (nmO o) k y (Jvm.Cond.code y c' ml' rt :: gT)) := fun w hw => by
        unfold va_wsS at hw
        rcases List.mem_append.mp hw with hw | hw
        · have : w ∈ gT := by
            simp only [List.mem_cons, List.not_mem_nil, or_false] at hw
            rcases hw with rfl | rfl | rfl
            · exact g2
            · exact s2 hk1.1
            · exact s4
          exact ⟨this, good_of_word (gT_good _ this)⟩
        · exact gT_in s1 w hw
      exact xw_back hl hS (va_runS (n := bb) (As := as.map (tr ad)) (rest := rest.map (tr ad)) ⟨hx, hb, hml, hown, hts⟩ hM (va_cwS bb hts hGI rfl rfl rfl ⟨s6.1, s6.2, by rw [s7, hk1.2]⟩ hRoom) ⟨PC.blind, fun U hU hW => ⟨rfl, WK.at hC hs hP hD hS hU hW⟩⟩ rfl (by rw [List.length_map]; exact hn) (by rw [hl.1]) rfl hW8 hd hRc) X
    · simp only [Bool.and_eq_true, beq_iff_eq] at hl1
      obtain ⟨⟨rfl, rfl⟩, rfl⟩ := hl1
      have hy : y = ⟨"PrisonShops", "isWithin", "(III)Z"⟩ := by
        have : (psM[156]?).map (fun q => q.1) = some (⟨"PrisonShops", "isWithin", "(III)Z"⟩ : MethodName) := by decide +kernel
        rw [hm] at this
        exact Option.some.inj this
      exact xw_back hl hS (va_runSN (n := bb) (As := as.map (tr ad)) (rest := rest.map (tr ad)) ⟨hx, hb, hml, hown, hts⟩ hM ⟨va_cnB bb hts (gT_in s1) rfl rfl rfl (by rw [hy]; exact hSF.2.2.1) (hts _ s4) ⟨s6.1, s6.2, by rw [s7, hk1.2]⟩ hRoom, hts _ (s2 hk1.1), trivial⟩ ⟨PC.blind, fun U hU hW => ⟨rfl, WK.at hC hs hP hD hS hU hW⟩⟩ rfl (by rw [List.length_map]; exact hn) (by rw [hl.1]) rfl hW8 hd hRc) X
end CALL2
end
section
/-! The small machine's judgement gives the machine's contract, at every depth. -/
theorem eL_lg (ad : Nat → Nat) : ∀ as : List Value, (lg_sl (as.map (tr ad))).length = (eL as).length
  | [] => rfl
  | v :: vs => by
    have ih := eL_lg ad vs
    have e : lg_sl ((v :: vs).map (tr ad)) = (if (tr ad v).category = 2 then [.val (tr ad v), .second] else [.val (tr ad v)]) ++ lg_sl (vs.map (tr ad)) := by simp [lg_sl]
    rw [e, List.length_append, ih, tr_cat, show eL (v :: vs) = (if v.category = 2 then some v :: none :: eL vs else some v :: eL vs) from rfl]
    split
    · show 2 + _ = _ + 1 + 1; omega
    · show 1 + _ = _ + 1; omega
theorem eL_in (ad : Nat → Nat) : ∀ (as : List Value) (i k : Nat) (v : Value), (eL as)[k]? = some (some v) → (i + k, tr ad v) ∈ lv_args i (as.map (tr ad))
  | [], _, _, _, h => by simp [eL] at h
  | w :: ws, i, k, v, h => by
    show (i + k, tr ad v) ∈ (i, tr ad w) :: lv_args (if (tr ad w).category = 2 then i + 2 else i + 1) (ws.map (tr ad))
    rw [tr_cat]
    unfold eL at h
    split at h
    · rename_i hc
      rw [if_pos hc]
      match k, h with
      | 0, h =>
        simp only [List.getElem?_cons_zero, Option.some.injEq] at h
        rw [h]
        exact List.mem_cons_self
      | 1, h => simp at h
      | k + 2, h =>
        have := eL_in ad ws (i + 2) k v (by simpa using h)
        rw [show i + 2 + k = i + (k + 2) by omega] at this
        exact List.mem_cons_of_mem _ this
    · rename_i hc
      rw [if_neg hc]
      match k, h with
      | 0, h =>
        simp only [List.getElem?_cons_zero, Option.some.injEq] at h
        rw [h]
        exact List.mem_cons_self
      | k + 1, h =>
        have := eL_in ad ws (i + 1) k v (by simpa using h)
        rw [show i + 1 + k = i + (k + 1) by omega] at this
        exact List.mem_cons_of_mem _ this
theorem eLn_len {n : Nat} {as : List Value} (h : (eL as).length ≤ n) : (eLn n as).length = n := by
  unfold eLn
  rw [List.length_append, List.length_replicate]
  omega
theorem eLn_in (ad : Nat → Nat) {n : Nat} {as : List Value} {k : Nat} {v : Value} (h : (eLn n as)[k]? = some (some v)) : (k, tr ad v) ∈ lv_args 0 (as.map (tr ad)) := by
  unfold eLn at h
  by_cases hk : k < (eL as).length
  · rw [List.getElem?_append_left hk] at h
    have := eL_in ad as 0 k v h
    rwa [Nat.zero_add] at this
  · rw [List.getElem?_append_right (by omega), List.getElem?_replicate] at h
    split at h <;> cases h
/-- what the law knows of the machine when it calls, and every body below it: the fixed part -/
theorem co_of {l : Launch} {ad : Nat → Nat} {D : va_G} {cA : Nat → ClassId} {A : Nat → Prop} {sc : Nat × (Nat → Int32)} (LB : ∀ (d mid : Nat) (as : List Value) (h : Hp) (Q : Option Value → Hp → Prop), lib mid as h Q → CO l ad D cA A sc d mid as h Q) : ∀ (d mid : Nat) (as : List Value) (h : Hp) (Q : Option Value → Hp → Prop), Call d mid as h Q → CO l ad D cA A sc d mid as h Q
  | 0, _, _, _, _, hc => hc.elim
  | d + 1, mid, as, h, Q, hc => by
    rcases hc with hc | ⟨y, c', ml', rt, o', cd, q, hm, hle, hlen, hrc, hX⟩
    · exact LB _ _ _ _ _ hc
    · obtain ⟨s1, s2, s3, s4, s5, s6, s7, s8, s9, s10, s11⟩ := mi_spec hm
      refine co_met hm hlen hrc (Met.ofW (cc := c') (maxL := ml') (ret := rt) s5 rfl ?_)
      intro p e s m args below meth c s₁ B hml hv
      obtain ⟨rfl, hP, hK, hD, hSF, hsc⟩ := hv
      have hts0 := atoms_spec (ws := Jvm.Cond.code y c' ml' rt :: gT) B.pre
      have hown : s.vm.findClass (nmO o') = some m.cls := by rw [s8]; exact findClass_of_methodNamed B.named
      have hC : CX p (headSpec (Jvm.Cond.code y c' ml' rt :: gT) (rmD (d + 1))).room s m ((as.map (tr ad)).toArray) c ad D cA A c' o' ml' sc 0 0 := ⟨B.exec, B.bytes, hml, hown, fun w hw => hts0 w (List.mem_cons_of_mem _ hw), hK, hSF, by show 1 ≤ d + 1 + 4; omega, by show 100 ≤ 60 * (d + 1) + 200; omega, Nat.zero_le _, Nat.zero_le _⟩
      have hl := lv_entry (as.map (tr ad)) (n := ml') (by rw [eL_lg]; exact hle)
      rw [lg_entry_eq]
      generalize (lg_sl (as.map (tr ad)) ++ List.replicate (ml' - (lg_sl (as.map (tr ad))).length) Slot.unset).toArray = la at hl ⊢
      have hLH : LH ad la ml' (eLn ml' as) := LH.of hl (eLn_len hle) (fun k v hk => eLn_in ad hk)
      have hclo : Clo (Call d) cd rt Q (XW p l e (headSpec (Jvm.Cond.code y c' ml' rt :: gT) (rmD (d + 1))).room s m ((as.map (tr ad)).toArray) below meth c (MQ below (QC ad D cA A sc Q) ((as.map (tr ad)).toArray) s 0 0 A) ad D cA A ml' sc 0 0) := by
        refine ⟨fun z z' G hq g X => stp_W hC s11 hq g X, fun pc ls st h' mid' n' as' rest hcal hn hst hsum hcall => ?_, fun z G r hq g hQ => rt_W hC s11 B.returns B.notSynchronized hq g hQ⟩
        have ih := co_of LB d mid' as' h' _ hcall
        subst hst
        unfold cal at hcal
        split at hcal
        · rename_i k n1 a1 b1 tl hat
          cases hcal
          obtain ⟨v1, w1, sw1⟩ := tl
          have hok := okC_at s11 hat
          rw [Nat.zero_add] at hok
          simp only [okE, Bool.and_eq_true, decide_eq_true_eq] at hok
          exact ih p e _ s m _ below meth c _ c' o' ml' 0 0 pc ls rest _ _ b1 v1 w1 sw1 hC (by show d + 5 ≤ d + 1 + 4; omega) (by show 60 * d + 260 ≤ 60 * (d + 1) + 200; omega) hok.1 hok.2 (Or.inl ⟨⟨k, rfl⟩, hn⟩) hsum (fun r h1 hr => hr)
        · rename_i k n1 a1 b1 tl hat
          split at hcal
          · rename_i h1000
            cases hcal
            obtain ⟨v1, w1, sw1⟩ := tl
            have hok := okC_at s11 hat
            rw [Nat.zero_add] at hok
            simp only [okE, Bool.and_eq_true, decide_eq_true_eq] at hok
            exact ih p e _ s m _ below meth c _ c' o' ml' 0 0 pc ls rest _ _ _ v1 w1 sw1 hC (by show d + 5 ≤ d + 1 + 4; omega) (by show 60 * d + 260 ≤ 60 * (d + 1) + 200; omega) hok.1 hok.2 (Or.inr ⟨⟨k, rfl⟩, h1000, hn⟩) hsum (fun r h1 hr => hr)
          · cases hcal
        · cases hcal
      exact hX _ hclo hsc s.heap [] la hLH hP hD va_S.rf
end
section
/-! How a method is run in the small machine: blocks of steps, branches, calls, returns. -/
def rG (cd : Cd) : Nat → List Prop → Cf → Option (List Prop × Cf)
  | 0, gs, z => some (gs, z)
  | n + 1, gs, z => match stp cd z with
    | some (G, z') => rG cd n (G :: gs) z'
    | none => none
def allG : List Prop → Prop
  | [] => True
  | p :: r => p ∧ allG r
section BASE
variable {C : Nat → List Value → Hp → (Option Value → Hp → Prop) → Prop} {cd : Cd} {rt : Option FieldType} {Q : Option Value → Hp → Prop} {X : Cf → Prop}
theorem rG_all : ∀ {n : Nat} {gs gs' : List Prop} {z z' : Cf}, rG cd n gs z = some (gs', z') → allG gs' → allG gs
  | 0, _, _, _, _, h, g => by cases h; exact g
  | n + 1, gs, gs', z, z', h, g => by
    unfold rG at h
    split at h
    · have := rG_all h g
      exact this.2
    · cases h
theorem clo_run (hX : Clo C cd rt Q X) : ∀ {n : Nat} {gs gs' : List Prop} {z z' : Cf}, rG cd n gs z = some (gs', z') → allG gs' → X z' → X z
  | 0, _, _, _, _, h, _, x => by cases h; exact x
  | n + 1, gs, gs', z, z', h, g, x => by
    unfold rG at h
    split at h
    · rename_i G z1 hz
      exact hX.1 z z1 G hz (rG_all h g).1 (clo_run hX h g x)
    · cases h
/-- a block of steps -/
theorem go (hX : Clo C cd rt Q X) (n : Nat) {gs : List Prop} {z z' : Cf} (h : rG cd n [] z = some (gs, z')) (g : allG gs) (x : X z') : X z := clo_run hX h g x
theorem br {c : Prop} [Decidable c] {t f : Nat} {ls : Lc} {st : List Value} {h : Hp} (a : c → X (t, ls, st, h)) (b : ¬ c → X (f, ls, st, h)) : X (if c then t else f, ls, st, h) := by
  by_cases hc : c
  · rw [if_pos hc]; exact a hc
  · rw [if_neg hc]; exact b hc
theorem cl (hX : Clo C cd rt Q X) {pc : Nat} {ls : Lc} {st : List Value} {h : Hp} (mid n : Nat) (as rest : List Value) (h1 : cal cd (pc, ls, st, h) = some (mid, n)) (h2 : as.length = n) (h3 : st = as.reverse ++ rest) (h4 : Nat.ble (rest.map fun v => v.category).sum 8 = true) (k : C mid as h (fun r h' => X (pc + 3, ls, r.toList ++ rest, h'))) : X (pc, ls, st, h) := hX.2.1 pc ls st h mid n as rest h1 h2 h3 (Nat.le_of_ble_eq_true h4) k
theorem rt_ (hX : Clo C cd rt Q X) {z : Cf} {G : Prop} {r : Option Value} (h1 : rtp cd rt z = some (G, r)) (g : G) (k : Q r z.2.2.2) : X z := hX.2.2 z G r h1 g k
end BASE
theorem call_of {d mid : Nat} {as : List Value} {h : Hp} {Q : Option Value → Hp → Prop} {y : MethodName} {b : ByteArray} {ml : Nat} {rt : Option FieldType} {o : Nat} {cd : Cd} {q : Mp} (hm : psM[mid]? = some (y, b, ml, rt, o, cd, q)) (h1 : Nat.ble (eL as).length ml = true) (h2 : as.length = (if q.1 = 0 then q.2.1 else q.2.1 + 1)) (h3 : rcv q.1 o as) (hX : ∀ X : Cf → Prop, Clo (Call d) cd rt Q X → X (0, eLn ml as, [], h)) : Call (d + 1) mid as h Q := Or.inr ⟨y, b, ml, rt, o, cd, q, hm, Nat.le_of_ble_eq_true h1, h2, h3, hX⟩
theorem rcvS {k o : Nat} {as : List Value} (h : k = 0) : rcv k o as := by unfold rcv; rw [if_pos h]; trivial
theorem rcvV {k o r : Nat} {t : List Value} (h : isCl r o = true) : rcv k o (.ref r :: t) := by
  unfold rcv
  split
  · trivial
  · exact ⟨r, t, rfl, h⟩
/-- more depth does no harm; nor a weaker post -/
theorem Call.mono {Q Q' : Option Value → Hp → Prop} : ∀ {d mid : Nat} {as : List Value} {h : Hp}, Call d mid as h Q → (∀ r h', Q r h' → Q' r h') → Call d mid as h Q'
  | 0, _, _, _, hc, _ => hc
  | d + 1, mid, as, h, hc, w => by
    rcases hc with hc | ⟨y, b, ml, rt, o, cd, q, h1, h2, h3, h4, hX⟩
    · refine Or.inl ?_
      unfold lib at hc ⊢
      split at hc
      · obtain ⟨e, i, l, a1, a2, a3⟩ := hc
        exact ⟨e, i, l, a1, a2, w _ _ a3⟩
      · obtain ⟨i, l, a1, a2, a3⟩ := hc
        refine ⟨i, l, a1, a2, ?_⟩
        rcases a3 with ⟨e, k, c, b1, b2, b3⟩ | ⟨e, b1, b2⟩
        · exact Or.inl ⟨e, k, c, b1, b2, w _ _ b3⟩
        · exact Or.inr ⟨e, b1, w _ _ b2⟩
      · exact hc
    · exact Or.inr ⟨y, b, ml, rt, o, cd, q, h1, h2, h3, h4, fun X hc => hX X ⟨hc.1, hc.2.1, fun z G r e g hq => hc.2.2 z G r e g (w _ _ hq)⟩⟩
theorem i64_le (a b : Int32) : a.toInt64 ≤ b.toInt64 ↔ a ≤ b := by rw [Int64.le_iff_toInt_le, Int32.le_iff_toInt_le, Int32.toInt_toInt64, Int32.toInt_toInt64]
theorem i64_0 (b : Int32) : (0 : Int64) ≤ b.toInt64 ↔ 0 ≤ b := i64_le 0 b
theorem isB0 : isB 0 := Or.inl rfl
theorem isB1 : isB 1 := Or.inr rfl
/-- a counter that goes up to B -/
theorem up_ind {P : Int32 → Prop} (B : Int32) (st : ∀ i : Int32, 0 ≤ i → i ≤ B → (i < B → P (i + 1)) → P i) : ∀ i : Int32, 0 ≤ i → i ≤ B → P i := by
  have key : ∀ (n : Nat) (i : Int32), 0 ≤ i → i ≤ B → B.toInt - i.toInt ≤ (n : Int) → P i := by
    intro n
    induction n with
    | zero => intro i h0 h1 h2; exact st i h0 h1 (fun h => by rw [Int32.lt_iff_toInt_lt] at h; omega)
    | succ n ih =>
      intro i h0 h1 h2
      refine st i h0 h1 (fun h => ?_)
      have hz : (i + 1).toInt = i.toInt + 1 := by
        have hB := B.toInt_lt
        rw [Int32.lt_iff_toInt_lt] at h
        rw [Int32.le_iff_toInt_le, Int32.toInt_zero] at h0
        rw [Int32.toInt_add, Int32.toInt_one]
        rw [Int.bmod_eq_of_le] <;> omega
      refine ih (i + 1) ?_ ?_ ?_
      · rw [Int32.le_iff_toInt_le, Int32.toInt_zero] at h0 ⊢; omega
      · rw [Int32.lt_iff_toInt_lt] at h; rw [Int32.le_iff_toInt_le]; omega
      · omega
  intro i h0 h1
  exact key (B.toInt - i.toInt).toNat i h0 h1 (by omega)
/-- a place among the intervals of a list -/
def inR : List (Nat × Int32 × Int32) → Nat → Int32 → Prop
  | [], _, _ => False
  | (a, l, u) :: r, o, j => (o = a ∧ l ≤ j ∧ j < u) ∨ inR r o j
/-- what is left as it was: all but the places of rs; the longs and the script -/
def fr (rs : List (Nat × Int32 × Int32)) (h h' : Hp) : Prop := (∀ (o : Nat) (j : Int32), ¬ inR rs o j → h'.1 o j = h.1 o j) ∧ h'.2 = h.2
theorem fr_rf {rs : List (Nat × Int32 × Int32)} {h : Hp} : fr rs h h := ⟨fun _ _ _ => rfl, rfl⟩
theorem fr_tr {rs : List (Nat × Int32 × Int32)} {h h1 h2 : Hp} (a : fr rs h h1) (b : fr rs h1 h2) : fr rs h h2 := ⟨fun o j q => (b.1 o j q).trans (a.1 o j q), b.2.trans a.2⟩
theorem inR_sub {rs r2 : List (Nat × Int32 × Int32)} (hs : ∀ q ∈ rs, q ∈ r2) {o : Nat} {j : Int32} (h : inR rs o j) : inR r2 o j := by
  have key : ∀ (l : List (Nat × Int32 × Int32)) (q : Nat × Int32 × Int32), q ∈ l → o = q.1 ∧ q.2.1 ≤ j ∧ j < q.2.2 → inR l o j := by
    intro l
    induction l with
    | nil => intro q hq; cases hq
    | cons x r ih =>
      intro q hq hz
      rcases List.mem_cons.mp hq with rfl | hq
      · exact Or.inl hz
      · exact Or.inr (ih q hq hz)
  induction rs with
  | nil => exact h.elim
  | cons x r ih =>
    rcases h with h | h
    · exact key r2 x (hs x List.mem_cons_self) h
    · exact ih (fun q hq => hs q (List.mem_cons_of_mem _ hq)) h
theorem fr_wk {rs r2 : List (Nat × Int32 × Int32)} {h h1 : Hp} (a : fr rs h h1) (hs : ∀ q ∈ rs, q ∈ r2) : fr r2 h h1 := ⟨fun o j q => a.1 o j (fun z => q (inR_sub hs z)), a.2⟩
theorem fr_im {rs r2 : List (Nat × Int32 × Int32)} {h h1 : Hp} (a : fr rs h h1) (hs : ∀ o j, inR rs o j → inR r2 o j) : fr r2 h h1 := ⟨fun o j q => a.1 o j (fun z => q (hs o j z)), a.2⟩
theorem fr_st {rs : List (Nat × Int32 × Int32)} {h h1 : Hp} {o : Nat} {j v : Int32} (a : fr rs h h1) (ho : inR rs o j) : fr rs h (hI h1 o j v) := ⟨fun o' j' q => by
  show (if o' = o ∧ j' = j then v else _) = _
  rw [if_neg (fun (z : o' = o ∧ j' = j) => q (z.1 ▸ z.2 ▸ ho))]
  exact a.1 o' j' q, a.2⟩
theorem fr_at {rs : List (Nat × Int32 × Int32)} {h h1 : Hp} (a : fr rs h h1) {o : Nat} {j : Int32} (q : ¬ inR rs o j) : h1.1 o j = h.1 o j := a.1 o j q
theorem fr_2 {rs : List (Nat × Int32 × Int32)} {h h1 : Hp} (a : fr rs h h1) : h1.2 = h.2 := a.2
theorem hI_eq {h : Hp} {o : Nat} {j v : Int32} : (hI h o j v).1 o j = v := by show (if o = o ∧ j = j then v else _) = v; simp
theorem hI_j {h : Hp} {o : Nat} {j k v : Int32} (hk : k ≠ j) : (hI h o j v).1 o k = h.1 o k := by
  show (if o = o ∧ k = j then v else _) = _
  rw [if_neg (fun q => hk q.2)]
theorem hI_o {h : Hp} {o a : Nat} {j k v : Int32} (ha : a ≠ o) : (hI h o j v).1 a k = h.1 a k := hI_ne ha
end
