-- ===== PART A: goes FIRST, ahead of the names: the tables' words, and 'selects' of the private methods out of them =====
/-- a private method of a class that the tables say can be made, by its rows of tables_1 -/
def lw_okq (q : MethodName × Nat) : Prop := (q.1.cls ≠ "java/lang/invoke/MethodHandle" ∧ q.1.cls ≠ "java/lang/invoke/VarHandle") ∧ Cond.instantiable q.1.cls q.2 ∈ tables_1 ∧ Cond.privateMethod q.1 ∈ tables_1 ∧ Cond.instanceMethod q.1 ∈ tables_1
theorem lw_p0 : lw_okq (⟨"PrisonShops", "canBecome", "(II)Z"⟩, 13) := ⟨⟨by decide +kernel, by decide +kernel⟩, List.mem_of_getElem? (i := 22) (by decide +kernel), List.mem_of_getElem? (i := 404) (by decide +kernel), List.mem_of_getElem? (i := 405) (by decide +kernel)⟩
theorem lw_p1 : lw_okq (⟨"PrisonShops$Filling", "sumLeastTurns", "()V"⟩, 13) := ⟨⟨by decide +kernel, by decide +kernel⟩, List.mem_of_getElem? (i := 156) (by decide +kernel), List.mem_of_getElem? (i := 474) (by decide +kernel), List.mem_of_getElem? (i := 475) (by decide +kernel)⟩
theorem lw_p2 : lw_okq (⟨"PrisonShops$Filling", "sortIn", "(II)V"⟩, 13) := ⟨⟨by decide +kernel, by decide +kernel⟩, List.mem_of_getElem? (i := 156) (by decide +kernel), List.mem_of_getElem? (i := 478) (by decide +kernel), List.mem_of_getElem? (i := 479) (by decide +kernel)⟩
theorem lw_p3 : lw_okq (⟨"PrisonShops$Filling", "place", "(III)V"⟩, 13) := ⟨⟨by decide +kernel, by decide +kernel⟩, List.mem_of_getElem? (i := 156) (by decide +kernel), List.mem_of_getElem? (i := 482) (by decide +kernel), List.mem_of_getElem? (i := 483) (by decide +kernel)⟩
theorem lw_p4 : lw_okq (⟨"PrisonShops$Filling", "canBeBetter", "(III)Z"⟩, 13) := ⟨⟨by decide +kernel, by decide +kernel⟩, List.mem_of_getElem? (i := 156) (by decide +kernel), List.mem_of_getElem? (i := 486) (by decide +kernel), List.mem_of_getElem? (i := 487) (by decide +kernel)⟩
theorem lw_p5 : lw_okq (⟨"PrisonShops$Filling", "placeIn", "(IIII)V"⟩, 13) := ⟨⟨by decide +kernel, by decide +kernel⟩, List.mem_of_getElem? (i := 156) (by decide +kernel), List.mem_of_getElem? (i := 493) (by decide +kernel), List.mem_of_getElem? (i := 494) (by decide +kernel)⟩
theorem lw_p6 : lw_okq (⟨"PrisonShops$Filling", "fits", "(II)Z"⟩, 13) := ⟨⟨by decide +kernel, by decide +kernel⟩, List.mem_of_getElem? (i := 156) (by decide +kernel), List.mem_of_getElem? (i := 497) (by decide +kernel), List.mem_of_getElem? (i := 498) (by decide +kernel)⟩
theorem lw_p7 : lw_okq (⟨"PrisonShops$Filling", "leaveOut", "(III)V"⟩, 13) := ⟨⟨by decide +kernel, by decide +kernel⟩, List.mem_of_getElem? (i := 156) (by decide +kernel), List.mem_of_getElem? (i := 501) (by decide +kernel), List.mem_of_getElem? (i := 502) (by decide +kernel)⟩
theorem lw_p8 : lw_okq (⟨"PrisonShops$Forecast", "listOrders", "(LPrisonShops$State;I)V"⟩, 5) := ⟨⟨by decide +kernel, by decide +kernel⟩, List.mem_of_getElem? (i := 134) (by decide +kernel), List.mem_of_getElem? (i := 597) (by decide +kernel), List.mem_of_getElem? (i := 598) (by decide +kernel)⟩
theorem lw_p9 : lw_okq (⟨"PrisonShops$State", "comesAhead", "(II)Z"⟩, 7) := ⟨⟨by decide +kernel, by decide +kernel⟩, List.mem_of_getElem? (i := 30) (by decide +kernel), List.mem_of_getElem? (i := 610) (by decide +kernel), List.mem_of_getElem? (i := 611) (by decide +kernel)⟩
theorem lw_p10 : lw_okq (⟨"PrisonShops$Forecast", "listWorkers", "(LPrisonShops$State;I)V"⟩, 5) := ⟨⟨by decide +kernel, by decide +kernel⟩, List.mem_of_getElem? (i := 134) (by decide +kernel), List.mem_of_getElem? (i := 615) (by decide +kernel), List.mem_of_getElem? (i := 616) (by decide +kernel)⟩
theorem lw_p11 : lw_okq (⟨"PrisonShops$Forecast", "madeOn", "(II)I"⟩, 5) := ⟨⟨by decide +kernel, by decide +kernel⟩, List.mem_of_getElem? (i := 134) (by decide +kernel), List.mem_of_getElem? (i := 620) (by decide +kernel), List.mem_of_getElem? (i := 621) (by decide +kernel)⟩
theorem lw_p12 : lw_okq (⟨"PrisonShops$Reader", "startAnew", "()V"⟩, 12) := ⟨⟨by decide +kernel, by decide +kernel⟩, List.mem_of_getElem? (i := 215) (by decide +kernel), List.mem_of_getElem? (i := 659) (by decide +kernel), List.mem_of_getElem? (i := 660) (by decide +kernel)⟩
theorem lw_p13 : lw_okq (⟨"PrisonShops$Reader", "goOn", "()V"⟩, 12) := ⟨⟨by decide +kernel, by decide +kernel⟩, List.mem_of_getElem? (i := 215) (by decide +kernel), List.mem_of_getElem? (i := 667) (by decide +kernel), List.mem_of_getElem? (i := 668) (by decide +kernel)⟩
theorem lw_p14 : lw_okq (⟨"PrisonShops$Reader", "skipLetters", "()V"⟩, 12) := ⟨⟨by decide +kernel, by decide +kernel⟩, List.mem_of_getElem? (i := 215) (by decide +kernel), List.mem_of_getElem? (i := 679) (by decide +kernel), List.mem_of_getElem? (i := 680) (by decide +kernel)⟩
theorem lw_p15 : lw_okq (⟨"PrisonShops$Reader", "readDigits", "()V"⟩, 12) := ⟨⟨by decide +kernel, by decide +kernel⟩, List.mem_of_getElem? (i := 215) (by decide +kernel), List.mem_of_getElem? (i := 686) (by decide +kernel), List.mem_of_getElem? (i := 687) (by decide +kernel)⟩
def lw_privs_1 : List (MethodName × Nat) := [(⟨"PrisonShops", "canBecome", "(II)Z"⟩, 13), (⟨"PrisonShops$Filling", "sumLeastTurns", "()V"⟩, 13), (⟨"PrisonShops$Filling", "sortIn", "(II)V"⟩, 13), (⟨"PrisonShops$Filling", "place", "(III)V"⟩, 13), (⟨"PrisonShops$Filling", "canBeBetter", "(III)Z"⟩, 13), (⟨"PrisonShops$Filling", "placeIn", "(IIII)V"⟩, 13), (⟨"PrisonShops$Filling", "fits", "(II)Z"⟩, 13), (⟨"PrisonShops$Filling", "leaveOut", "(III)V"⟩, 13), (⟨"PrisonShops$Forecast", "listOrders", "(LPrisonShops$State;I)V"⟩, 5), (⟨"PrisonShops$State", "comesAhead", "(II)Z"⟩, 7), (⟨"PrisonShops$Forecast", "listWorkers", "(LPrisonShops$State;I)V"⟩, 5), (⟨"PrisonShops$Forecast", "madeOn", "(II)I"⟩, 5), (⟨"PrisonShops$Reader", "startAnew", "()V"⟩, 12), (⟨"PrisonShops$Reader", "goOn", "()V"⟩, 12), (⟨"PrisonShops$Reader", "skipLetters", "()V"⟩, 12), (⟨"PrisonShops$Reader", "readDigits", "()V"⟩, 12)]
theorem lw_r1 : ∀ q ∈ lw_privs_1, lw_okq q := List.forall_mem_cons.mpr ⟨lw_p0, List.forall_mem_cons.mpr ⟨lw_p1, List.forall_mem_cons.mpr ⟨lw_p2, List.forall_mem_cons.mpr ⟨lw_p3, List.forall_mem_cons.mpr ⟨lw_p4, List.forall_mem_cons.mpr ⟨lw_p5, List.forall_mem_cons.mpr ⟨lw_p6, List.forall_mem_cons.mpr ⟨lw_p7, List.forall_mem_cons.mpr ⟨lw_p8, List.forall_mem_cons.mpr ⟨lw_p9, List.forall_mem_cons.mpr ⟨lw_p10, List.forall_mem_cons.mpr ⟨lw_p11, List.forall_mem_cons.mpr ⟨lw_p12, List.forall_mem_cons.mpr ⟨lw_p13, List.forall_mem_cons.mpr ⟨lw_p14, List.forall_mem_cons.mpr ⟨lw_p15, fun _ h => absurd h List.not_mem_nil⟩⟩⟩⟩⟩⟩⟩⟩⟩⟩⟩⟩⟩⟩⟩⟩
theorem lw_p16 : lw_okq (⟨"PrisonShops$Reader", "keyHere", "()I"⟩, 12) := ⟨⟨by decide +kernel, by decide +kernel⟩, List.mem_of_getElem? (i := 215) (by decide +kernel), List.mem_of_getElem? (i := 691) (by decide +kernel), List.mem_of_getElem? (i := 692) (by decide +kernel)⟩
theorem lw_p17 : lw_okq (⟨"PrisonShops$Reader", "isSpelt", "(Ljava/lang/String;)Z"⟩, 12) := ⟨⟨by decide +kernel, by decide +kernel⟩, List.mem_of_getElem? (i := 215) (by decide +kernel), List.mem_of_getElem? (i := 704) (by decide +kernel), List.mem_of_getElem? (i := 705) (by decide +kernel)⟩
theorem lw_p18 : lw_okq (⟨"PrisonShops$Reader", "readPart", "()Z"⟩, 12) := ⟨⟨by decide +kernel, by decide +kernel⟩, List.mem_of_getElem? (i := 215) (by decide +kernel), List.mem_of_getElem? (i := 757) (by decide +kernel), List.mem_of_getElem? (i := 758) (by decide +kernel)⟩
theorem lw_p19 : lw_okq (⟨"PrisonShops$Reader", "takePart", "(I)Z"⟩, 12) := ⟨⟨by decide +kernel, by decide +kernel⟩, List.mem_of_getElem? (i := 215) (by decide +kernel), List.mem_of_getElem? (i := 761) (by decide +kernel), List.mem_of_getElem? (i := 762) (by decide +kernel)⟩
theorem lw_p20 : lw_okq (⟨"PrisonShops$Reader", "endPart", "()V"⟩, 12) := ⟨⟨by decide +kernel, by decide +kernel⟩, List.mem_of_getElem? (i := 215) (by decide +kernel), List.mem_of_getElem? (i := 769) (by decide +kernel), List.mem_of_getElem? (i := 770) (by decide +kernel)⟩
theorem lw_p21 : lw_okq (⟨"PrisonShops$Reader", "takeName", "()Z"⟩, 12) := ⟨⟨by decide +kernel, by decide +kernel⟩, List.mem_of_getElem? (i := 215) (by decide +kernel), List.mem_of_getElem? (i := 781) (by decide +kernel), List.mem_of_getElem? (i := 782) (by decide +kernel)⟩
theorem lw_p22 : lw_okq (⟨"PrisonShops$Reader", "takeOpening", "()Z"⟩, 12) := ⟨⟨by decide +kernel, by decide +kernel⟩, List.mem_of_getElem? (i := 215) (by decide +kernel), List.mem_of_getElem? (i := 849) (by decide +kernel), List.mem_of_getElem? (i := 850) (by decide +kernel)⟩
theorem lw_p23 : lw_okq (⟨"PrisonShops$Reader", "readSign", "()Z"⟩, 12) := ⟨⟨by decide +kernel, by decide +kernel⟩, List.mem_of_getElem? (i := 215) (by decide +kernel), List.mem_of_getElem? (i := 853) (by decide +kernel), List.mem_of_getElem? (i := 854) (by decide +kernel)⟩
theorem lw_p24 : lw_okq (⟨"PrisonShops$Reader", "takeClosing", "()Z"⟩, 12) := ⟨⟨by decide +kernel, by decide +kernel⟩, List.mem_of_getElem? (i := 215) (by decide +kernel), List.mem_of_getElem? (i := 857) (by decide +kernel), List.mem_of_getElem? (i := 858) (by decide +kernel)⟩
theorem lw_p25 : lw_okq (⟨"PrisonShops$Reader", "settle", "(I)V"⟩, 12) := ⟨⟨by decide +kernel, by decide +kernel⟩, List.mem_of_getElem? (i := 215) (by decide +kernel), List.mem_of_getElem? (i := 861) (by decide +kernel), List.mem_of_getElem? (i := 862) (by decide +kernel)⟩
theorem lw_p26 : lw_okq (⟨"PrisonShops$Rules", "workOut", "(LPrisonShops$Table;IIII)I"⟩, 1) := ⟨⟨by decide +kernel, by decide +kernel⟩, List.mem_of_getElem? (i := 101) (by decide +kernel), List.mem_of_getElem? (i := 905) (by decide +kernel), List.mem_of_getElem? (i := 906) (by decide +kernel)⟩
theorem lw_p27 : lw_okq (⟨"PrisonShops", "refusalOfEvent", "(I)I"⟩, 13) := ⟨⟨by decide +kernel, by decide +kernel⟩, List.mem_of_getElem? (i := 22) (by decide +kernel), List.mem_of_getElem? (i := 944) (by decide +kernel), List.mem_of_getElem? (i := 945) (by decide +kernel)⟩
theorem lw_p28 : lw_okq (⟨"PrisonShops$State", "countsOn", "(II)Z"⟩, 7) := ⟨⟨by decide +kernel, by decide +kernel⟩, List.mem_of_getElem? (i := 30) (by decide +kernel), List.mem_of_getElem? (i := 974) (by decide +kernel), List.mem_of_getElem? (i := 975) (by decide +kernel)⟩
theorem lw_p29 : lw_okq (⟨"PrisonShops$Days", "work", "(LPrisonShops$State;I)V"⟩, 1) := ⟨⟨by decide +kernel, by decide +kernel⟩, List.mem_of_getElem? (i := 124) (by decide +kernel), List.mem_of_getElem? (i := 987) (by decide +kernel), List.mem_of_getElem? (i := 988) (by decide +kernel)⟩
theorem lw_p30 : lw_okq (⟨"PrisonShops$Days", "learn", "(LPrisonShops$State;I)V"⟩, 1) := ⟨⟨by decide +kernel, by decide +kernel⟩, List.mem_of_getElem? (i := 124) (by decide +kernel), List.mem_of_getElem? (i := 1000) (by decide +kernel), List.mem_of_getElem? (i := 1001) (by decide +kernel)⟩
theorem lw_p31 : lw_okq (⟨"PrisonShops$Days", "finishOrders", "(LPrisonShops$State;I)V"⟩, 1) := ⟨⟨by decide +kernel, by decide +kernel⟩, List.mem_of_getElem? (i := 124) (by decide +kernel), List.mem_of_getElem? (i := 1006) (by decide +kernel), List.mem_of_getElem? (i := 1007) (by decide +kernel)⟩
def lw_privs_2 : List (MethodName × Nat) := [(⟨"PrisonShops$Reader", "keyHere", "()I"⟩, 12), (⟨"PrisonShops$Reader", "isSpelt", "(Ljava/lang/String;)Z"⟩, 12), (⟨"PrisonShops$Reader", "readPart", "()Z"⟩, 12), (⟨"PrisonShops$Reader", "takePart", "(I)Z"⟩, 12), (⟨"PrisonShops$Reader", "endPart", "()V"⟩, 12), (⟨"PrisonShops$Reader", "takeName", "()Z"⟩, 12), (⟨"PrisonShops$Reader", "takeOpening", "()Z"⟩, 12), (⟨"PrisonShops$Reader", "readSign", "()Z"⟩, 12), (⟨"PrisonShops$Reader", "takeClosing", "()Z"⟩, 12), (⟨"PrisonShops$Reader", "settle", "(I)V"⟩, 12), (⟨"PrisonShops$Rules", "workOut", "(LPrisonShops$Table;IIII)I"⟩, 1), (⟨"PrisonShops", "refusalOfEvent", "(I)I"⟩, 13), (⟨"PrisonShops$State", "countsOn", "(II)Z"⟩, 7), (⟨"PrisonShops$Days", "work", "(LPrisonShops$State;I)V"⟩, 1), (⟨"PrisonShops$Days", "learn", "(LPrisonShops$State;I)V"⟩, 1), (⟨"PrisonShops$Days", "finishOrders", "(LPrisonShops$State;I)V"⟩, 1)]
theorem lw_r2 : ∀ q ∈ lw_privs_2, lw_okq q := List.forall_mem_cons.mpr ⟨lw_p16, List.forall_mem_cons.mpr ⟨lw_p17, List.forall_mem_cons.mpr ⟨lw_p18, List.forall_mem_cons.mpr ⟨lw_p19, List.forall_mem_cons.mpr ⟨lw_p20, List.forall_mem_cons.mpr ⟨lw_p21, List.forall_mem_cons.mpr ⟨lw_p22, List.forall_mem_cons.mpr ⟨lw_p23, List.forall_mem_cons.mpr ⟨lw_p24, List.forall_mem_cons.mpr ⟨lw_p25, List.forall_mem_cons.mpr ⟨lw_p26, List.forall_mem_cons.mpr ⟨lw_p27, List.forall_mem_cons.mpr ⟨lw_p28, List.forall_mem_cons.mpr ⟨lw_p29, List.forall_mem_cons.mpr ⟨lw_p30, List.forall_mem_cons.mpr ⟨lw_p31, fun _ h => absurd h List.not_mem_nil⟩⟩⟩⟩⟩⟩⟩⟩⟩⟩⟩⟩⟩⟩⟩⟩
theorem lw_p32 : lw_okq (⟨"PrisonShops$Days", "openGate", "(LPrisonShops$State;I)V"⟩, 1) := ⟨⟨by decide +kernel, by decide +kernel⟩, List.mem_of_getElem? (i := 124) (by decide +kernel), List.mem_of_getElem? (i := 1013) (by decide +kernel), List.mem_of_getElem? (i := 1014) (by decide +kernel)⟩
theorem lw_p33 : lw_okq (⟨"PrisonShops$Sheets", "hasPlace", "(II)Z"⟩, 3) := ⟨⟨by decide +kernel, by decide +kernel⟩, List.mem_of_getElem? (i := 260) (by decide +kernel), List.mem_of_getElem? (i := 1060) (by decide +kernel), List.mem_of_getElem? (i := 1061) (by decide +kernel)⟩
theorem lw_p34 : lw_okq (⟨"PrisonShops$Sheets", "hasRow", "(III)Z"⟩, 3) := ⟨⟨by decide +kernel, by decide +kernel⟩, List.mem_of_getElem? (i := 260) (by decide +kernel), List.mem_of_getElem? (i := 1081) (by decide +kernel), List.mem_of_getElem? (i := 1082) (by decide +kernel)⟩
theorem lw_p35 : lw_okq (⟨"PrisonShops", "wasTold", "(III)Z"⟩, 13) := ⟨⟨by decide +kernel, by decide +kernel⟩, List.mem_of_getElem? (i := 22) (by decide +kernel), List.mem_of_getElem? (i := 1116) (by decide +kernel), List.mem_of_getElem? (i := 1117) (by decide +kernel)⟩
theorem lw_p36 : lw_okq (⟨"PrisonShopsModel", "shopAt", "(I)I"⟩, 36) := ⟨⟨by decide +kernel, by decide +kernel⟩, List.mem_of_getElem? (i := 1144) (by decide +kernel), List.mem_of_getElem? (i := 1271) (by decide +kernel), List.mem_of_getElem? (i := 1272) (by decide +kernel)⟩
theorem lw_p37 : lw_okq (⟨"PrisonShopsModel", "isShop", "(I)Z"⟩, 36) := ⟨⟨by decide +kernel, by decide +kernel⟩, List.mem_of_getElem? (i := 1144) (by decide +kernel), List.mem_of_getElem? (i := 1279) (by decide +kernel), List.mem_of_getElem? (i := 1280) (by decide +kernel)⟩
theorem lw_p38 : lw_okq (⟨"PrisonShopsModel", "becomes", "(II)I"⟩, 36) := ⟨⟨by decide +kernel, by decide +kernel⟩, List.mem_of_getElem? (i := 1144) (by decide +kernel), List.mem_of_getElem? (i := 1284) (by decide +kernel), List.mem_of_getElem? (i := 1285) (by decide +kernel)⟩
theorem lw_p39 : lw_okq (⟨"PrisonShopsModel", "tools", "(II)I"⟩, 36) := ⟨⟨by decide +kernel, by decide +kernel⟩, List.mem_of_getElem? (i := 1144) (by decide +kernel), List.mem_of_getElem? (i := 1297) (by decide +kernel), List.mem_of_getElem? (i := 1298) (by decide +kernel)⟩
theorem lw_p40 : lw_okq (⟨"PrisonShopsModel", "isTool", "(I)Z"⟩, 36) := ⟨⟨by decide +kernel, by decide +kernel⟩, List.mem_of_getElem? (i := 1144) (by decide +kernel), List.mem_of_getElem? (i := 1301) (by decide +kernel), List.mem_of_getElem? (i := 1302) (by decide +kernel)⟩
theorem lw_p41 : lw_okq (⟨"PrisonShopsModel", "thingAt", "(I)I"⟩, 36) := ⟨⟨by decide +kernel, by decide +kernel⟩, List.mem_of_getElem? (i := 1144) (by decide +kernel), List.mem_of_getElem? (i := 1305) (by decide +kernel), List.mem_of_getElem? (i := 1306) (by decide +kernel)⟩
theorem lw_p42 : lw_okq (⟨"PrisonShopsModel", "handsIn", "(I)I"⟩, 36) := ⟨⟨by decide +kernel, by decide +kernel⟩, List.mem_of_getElem? (i := 1144) (by decide +kernel), List.mem_of_getElem? (i := 1309) (by decide +kernel), List.mem_of_getElem? (i := 1310) (by decide +kernel)⟩
theorem lw_p43 : lw_okq (⟨"PrisonShopsModel", "handAt", "(I)I"⟩, 36) := ⟨⟨by decide +kernel, by decide +kernel⟩, List.mem_of_getElem? (i := 1144) (by decide +kernel), List.mem_of_getElem? (i := 1313) (by decide +kernel), List.mem_of_getElem? (i := 1314) (by decide +kernel)⟩
theorem lw_p44 : lw_okq (⟨"PrisonShopsModel", "isHand", "(I)Z"⟩, 36) := ⟨⟨by decide +kernel, by decide +kernel⟩, List.mem_of_getElem? (i := 1144) (by decide +kernel), List.mem_of_getElem? (i := 1326) (by decide +kernel), List.mem_of_getElem? (i := 1327) (by decide +kernel)⟩
theorem lw_p45 : lw_okq (⟨"PrisonShopsModel", "mayWork", "(II)Z"⟩, 36) := ⟨⟨by decide +kernel, by decide +kernel⟩, List.mem_of_getElem? (i := 1144) (by decide +kernel), List.mem_of_getElem? (i := 1348) (by decide +kernel), List.mem_of_getElem? (i := 1349) (by decide +kernel)⟩
theorem lw_p46 : lw_okq (⟨"PrisonShopsModel", "isFree", "(I)Z"⟩, 36) := ⟨⟨by decide +kernel, by decide +kernel⟩, List.mem_of_getElem? (i := 1144) (by decide +kernel), List.mem_of_getElem? (i := 1352) (by decide +kernel), List.mem_of_getElem? (i := 1353) (by decide +kernel)⟩
theorem lw_p47 : lw_okq (⟨"PrisonShopsModel", "isBarred", "(II)Z"⟩, 36) := ⟨⟨by decide +kernel, by decide +kernel⟩, List.mem_of_getElem? (i := 1144) (by decide +kernel), List.mem_of_getElem? (i := 1360) (by decide +kernel), List.mem_of_getElem? (i := 1361) (by decide +kernel)⟩
def lw_privs_3 : List (MethodName × Nat) := [(⟨"PrisonShops$Days", "openGate", "(LPrisonShops$State;I)V"⟩, 1), (⟨"PrisonShops$Sheets", "hasPlace", "(II)Z"⟩, 3), (⟨"PrisonShops$Sheets", "hasRow", "(III)Z"⟩, 3), (⟨"PrisonShops", "wasTold", "(III)Z"⟩, 13), (⟨"PrisonShopsModel", "shopAt", "(I)I"⟩, 36), (⟨"PrisonShopsModel", "isShop", "(I)Z"⟩, 36), (⟨"PrisonShopsModel", "becomes", "(II)I"⟩, 36), (⟨"PrisonShopsModel", "tools", "(II)I"⟩, 36), (⟨"PrisonShopsModel", "isTool", "(I)Z"⟩, 36), (⟨"PrisonShopsModel", "thingAt", "(I)I"⟩, 36), (⟨"PrisonShopsModel", "handsIn", "(I)I"⟩, 36), (⟨"PrisonShopsModel", "handAt", "(I)I"⟩, 36), (⟨"PrisonShopsModel", "isHand", "(I)Z"⟩, 36), (⟨"PrisonShopsModel", "mayWork", "(II)Z"⟩, 36), (⟨"PrisonShopsModel", "isFree", "(I)Z"⟩, 36), (⟨"PrisonShopsModel", "isBarred", "(II)Z"⟩, 36)]
theorem lw_r3 : ∀ q ∈ lw_privs_3, lw_okq q := List.forall_mem_cons.mpr ⟨lw_p32, List.forall_mem_cons.mpr ⟨lw_p33, List.forall_mem_cons.mpr ⟨lw_p34, List.forall_mem_cons.mpr ⟨lw_p35, List.forall_mem_cons.mpr ⟨lw_p36, List.forall_mem_cons.mpr ⟨lw_p37, List.forall_mem_cons.mpr ⟨lw_p38, List.forall_mem_cons.mpr ⟨lw_p39, List.forall_mem_cons.mpr ⟨lw_p40, List.forall_mem_cons.mpr ⟨lw_p41, List.forall_mem_cons.mpr ⟨lw_p42, List.forall_mem_cons.mpr ⟨lw_p43, List.forall_mem_cons.mpr ⟨lw_p44, List.forall_mem_cons.mpr ⟨lw_p45, List.forall_mem_cons.mpr ⟨lw_p46, List.forall_mem_cons.mpr ⟨lw_p47, fun _ h => absurd h List.not_mem_nil⟩⟩⟩⟩⟩⟩⟩⟩⟩⟩⟩⟩⟩⟩⟩⟩
theorem lw_p48 : lw_okq (⟨"PrisonShopsModel", "goes", "(II)V"⟩, 36) := ⟨⟨by decide +kernel, by decide +kernel⟩, List.mem_of_getElem? (i := 1144) (by decide +kernel), List.mem_of_getElem? (i := 1365) (by decide +kernel), List.mem_of_getElem? (i := 1366) (by decide +kernel)⟩
theorem lw_p49 : lw_okq (⟨"PrisonShopsModel", "findFilling", "()V"⟩, 36) := ⟨⟨by decide +kernel, by decide +kernel⟩, List.mem_of_getElem? (i := 1144) (by decide +kernel), List.mem_of_getElem? (i := 1373) (by decide +kernel), List.mem_of_getElem? (i := 1374) (by decide +kernel)⟩
theorem lw_p50 : lw_okq (⟨"PrisonShopsModel", "seek", "(III)V"⟩, 36) := ⟨⟨by decide +kernel, by decide +kernel⟩, List.mem_of_getElem? (i := 1144) (by decide +kernel), List.mem_of_getElem? (i := 1377) (by decide +kernel), List.mem_of_getElem? (i := 1378) (by decide +kernel)⟩
theorem lw_p51 : lw_okq (⟨"PrisonShopsModel", "canHave", "(II)Z"⟩, 36) := ⟨⟨by decide +kernel, by decide +kernel⟩, List.mem_of_getElem? (i := 1144) (by decide +kernel), List.mem_of_getElem? (i := 1381) (by decide +kernel), List.mem_of_getElem? (i := 1382) (by decide +kernel)⟩
theorem lw_p52 : lw_okq (⟨"PrisonShopsModel", "isThing", "(I)Z"⟩, 36) := ⟨⟨by decide +kernel, by decide +kernel⟩, List.mem_of_getElem? (i := 1144) (by decide +kernel), List.mem_of_getElem? (i := 1404) (by decide +kernel), List.mem_of_getElem? (i := 1405) (by decide +kernel)⟩
theorem lw_p53 : lw_okq (⟨"PrisonShopsModel", "nextOrder", "(I)I"⟩, 36) := ⟨⟨by decide +kernel, by decide +kernel⟩, List.mem_of_getElem? (i := 1144) (by decide +kernel), List.mem_of_getElem? (i := 1438) (by decide +kernel), List.mem_of_getElem? (i := 1439) (by decide +kernel)⟩
theorem lw_p54 : lw_okq (⟨"PrisonShopsModel", "parse", "()I"⟩, 36) := ⟨⟨by decide +kernel, by decide +kernel⟩, List.mem_of_getElem? (i := 1144) (by decide +kernel), List.mem_of_getElem? (i := 1454) (by decide +kernel), List.mem_of_getElem? (i := 1455) (by decide +kernel)⟩
theorem lw_p55 : lw_okq (⟨"PrisonShopsModel", "textAt", "(I)I"⟩, 36) := ⟨⟨by decide +kernel, by decide +kernel⟩, List.mem_of_getElem? (i := 1144) (by decide +kernel), List.mem_of_getElem? (i := 1458) (by decide +kernel), List.mem_of_getElem? (i := 1459) (by decide +kernel)⟩
theorem lw_p56 : lw_okq (⟨"PrisonShopsModel", "next", "()V"⟩, 36) := ⟨⟨by decide +kernel, by decide +kernel⟩, List.mem_of_getElem? (i := 1144) (by decide +kernel), List.mem_of_getElem? (i := 1462) (by decide +kernel), List.mem_of_getElem? (i := 1463) (by decide +kernel)⟩
theorem lw_p57 : lw_okq (⟨"PrisonShopsModel", "isLetter", "(I)Z"⟩, 36) := ⟨⟨by decide +kernel, by decide +kernel⟩, List.mem_of_getElem? (i := 1144) (by decide +kernel), List.mem_of_getElem? (i := 1466) (by decide +kernel), List.mem_of_getElem? (i := 1467) (by decide +kernel)⟩
theorem lw_p58 : lw_okq (⟨"PrisonShopsModel", "isDigit", "(I)Z"⟩, 36) := ⟨⟨by decide +kernel, by decide +kernel⟩, List.mem_of_getElem? (i := 1144) (by decide +kernel), List.mem_of_getElem? (i := 1472) (by decide +kernel), List.mem_of_getElem? (i := 1473) (by decide +kernel)⟩
theorem lw_p59 : lw_okq (⟨"PrisonShopsModel", "key", "()I"⟩, 36) := ⟨⟨by decide +kernel, by decide +kernel⟩, List.mem_of_getElem? (i := 1144) (by decide +kernel), List.mem_of_getElem? (i := 1478) (by decide +kernel), List.mem_of_getElem? (i := 1479) (by decide +kernel)⟩
theorem lw_p60 : lw_okq (⟨"PrisonShopsModel", "isWordAt", "(IIII)Z"⟩, 36) := ⟨⟨by decide +kernel, by decide +kernel⟩, List.mem_of_getElem? (i := 1144) (by decide +kernel), List.mem_of_getElem? (i := 1482) (by decide +kernel), List.mem_of_getElem? (i := 1483) (by decide +kernel)⟩
theorem lw_p61 : lw_okq (⟨"PrisonShopsModel", "isLong", "(IIIIII)Z"⟩, 36) := ⟨⟨by decide +kernel, by decide +kernel⟩, List.mem_of_getElem? (i := 1144) (by decide +kernel), List.mem_of_getElem? (i := 1486) (by decide +kernel), List.mem_of_getElem? (i := 1487) (by decide +kernel)⟩
theorem lw_p62 : lw_okq (⟨"PrisonShopsModel", "either", "(I)Z"⟩, 36) := ⟨⟨by decide +kernel, by decide +kernel⟩, List.mem_of_getElem? (i := 1144) (by decide +kernel), List.mem_of_getElem? (i := 1490) (by decide +kernel), List.mem_of_getElem? (i := 1491) (by decide +kernel)⟩
theorem lw_p63 : lw_okq (⟨"PrisonShopsModel", "both", "(I)Z"⟩, 36) := ⟨⟨by decide +kernel, by decide +kernel⟩, List.mem_of_getElem? (i := 1144) (by decide +kernel), List.mem_of_getElem? (i := 1494) (by decide +kernel), List.mem_of_getElem? (i := 1495) (by decide +kernel)⟩
def lw_privs_4 : List (MethodName × Nat) := [(⟨"PrisonShopsModel", "goes", "(II)V"⟩, 36), (⟨"PrisonShopsModel", "findFilling", "()V"⟩, 36), (⟨"PrisonShopsModel", "seek", "(III)V"⟩, 36), (⟨"PrisonShopsModel", "canHave", "(II)Z"⟩, 36), (⟨"PrisonShopsModel", "isThing", "(I)Z"⟩, 36), (⟨"PrisonShopsModel", "nextOrder", "(I)I"⟩, 36), (⟨"PrisonShopsModel", "parse", "()I"⟩, 36), (⟨"PrisonShopsModel", "textAt", "(I)I"⟩, 36), (⟨"PrisonShopsModel", "next", "()V"⟩, 36), (⟨"PrisonShopsModel", "isLetter", "(I)Z"⟩, 36), (⟨"PrisonShopsModel", "isDigit", "(I)Z"⟩, 36), (⟨"PrisonShopsModel", "key", "()I"⟩, 36), (⟨"PrisonShopsModel", "isWordAt", "(IIII)Z"⟩, 36), (⟨"PrisonShopsModel", "isLong", "(IIIIII)Z"⟩, 36), (⟨"PrisonShopsModel", "either", "(I)Z"⟩, 36), (⟨"PrisonShopsModel", "both", "(I)Z"⟩, 36)]
theorem lw_r4 : ∀ q ∈ lw_privs_4, lw_okq q := List.forall_mem_cons.mpr ⟨lw_p48, List.forall_mem_cons.mpr ⟨lw_p49, List.forall_mem_cons.mpr ⟨lw_p50, List.forall_mem_cons.mpr ⟨lw_p51, List.forall_mem_cons.mpr ⟨lw_p52, List.forall_mem_cons.mpr ⟨lw_p53, List.forall_mem_cons.mpr ⟨lw_p54, List.forall_mem_cons.mpr ⟨lw_p55, List.forall_mem_cons.mpr ⟨lw_p56, List.forall_mem_cons.mpr ⟨lw_p57, List.forall_mem_cons.mpr ⟨lw_p58, List.forall_mem_cons.mpr ⟨lw_p59, List.forall_mem_cons.mpr ⟨lw_p60, List.forall_mem_cons.mpr ⟨lw_p61, List.forall_mem_cons.mpr ⟨lw_p62, List.forall_mem_cons.mpr ⟨lw_p63, fun _ h => absurd h List.not_mem_nil⟩⟩⟩⟩⟩⟩⟩⟩⟩⟩⟩⟩⟩⟩⟩⟩
theorem lw_p64 : lw_okq (⟨"PrisonShopsModel", "test", "(I)Z"⟩, 36) := ⟨⟨by decide +kernel, by decide +kernel⟩, List.mem_of_getElem? (i := 1144) (by decide +kernel), List.mem_of_getElem? (i := 1498) (by decide +kernel), List.mem_of_getElem? (i := 1499) (by decide +kernel)⟩
theorem lw_p65 : lw_okq (⟨"PrisonShopsModel", "sum", "(I)Z"⟩, 36) := ⟨⟨by decide +kernel, by decide +kernel⟩, List.mem_of_getElem? (i := 1144) (by decide +kernel), List.mem_of_getElem? (i := 1502) (by decide +kernel), List.mem_of_getElem? (i := 1503) (by decide +kernel)⟩
theorem lw_p66 : lw_okq (⟨"PrisonShopsModel", "term", "(I)Z"⟩, 36) := ⟨⟨by decide +kernel, by decide +kernel⟩, List.mem_of_getElem? (i := 1144) (by decide +kernel), List.mem_of_getElem? (i := 1506) (by decide +kernel), List.mem_of_getElem? (i := 1507) (by decide +kernel)⟩
theorem lw_p67 : lw_okq (⟨"PrisonShopsModel", "part0", "(I)Z"⟩, 36) := ⟨⟨by decide +kernel, by decide +kernel⟩, List.mem_of_getElem? (i := 1144) (by decide +kernel), List.mem_of_getElem? (i := 1510) (by decide +kernel), List.mem_of_getElem? (i := 1511) (by decide +kernel)⟩
theorem lw_p68 : lw_okq (⟨"PrisonShopsModel", "step", "(II)V"⟩, 36) := ⟨⟨by decide +kernel, by decide +kernel⟩, List.mem_of_getElem? (i := 1144) (by decide +kernel), List.mem_of_getElem? (i := 1514) (by decide +kernel), List.mem_of_getElem? (i := 1515) (by decide +kernel)⟩
theorem lw_p69 : lw_okq (⟨"PrisonShopsModel", "isSign", "(I)Z"⟩, 36) := ⟨⟨by decide +kernel, by decide +kernel⟩, List.mem_of_getElem? (i := 1144) (by decide +kernel), List.mem_of_getElem? (i := 1521) (by decide +kernel), List.mem_of_getElem? (i := 1522) (by decide +kernel)⟩
theorem lw_p70 : lw_okq (⟨"PrisonShopsModel", "isText", "(I)Z"⟩, 36) := ⟨⟨by decide +kernel, by decide +kernel⟩, List.mem_of_getElem? (i := 1144) (by decide +kernel), List.mem_of_getElem? (i := 1529) (by decide +kernel), List.mem_of_getElem? (i := 1530) (by decide +kernel)⟩
theorem lw_p71 : lw_okq (⟨"PrisonShopsModel", "counts", "(I)I"⟩, 36) := ⟨⟨by decide +kernel, by decide +kernel⟩, List.mem_of_getElem? (i := 1144) (by decide +kernel), List.mem_of_getElem? (i := 1538) (by decide +kernel), List.mem_of_getElem? (i := 1539) (by decide +kernel)⟩
theorem lw_p72 : lw_okq (⟨"PrisonShopsModel", "ruleOf", "(IIII)I"⟩, 36) := ⟨⟨by decide +kernel, by decide +kernel⟩, List.mem_of_getElem? (i := 1144) (by decide +kernel), List.mem_of_getElem? (i := 1546) (by decide +kernel), List.mem_of_getElem? (i := 1547) (by decide +kernel)⟩
theorem lw_p73 : lw_okq (⟨"PrisonShopsModel", "worked", "(I)I"⟩, 36) := ⟨⟨by decide +kernel, by decide +kernel⟩, List.mem_of_getElem? (i := 1144) (by decide +kernel), List.mem_of_getElem? (i := 1550) (by decide +kernel), List.mem_of_getElem? (i := 1551) (by decide +kernel)⟩
theorem lw_p74 : lw_okq (⟨"PrisonShopsModel", "reckon", "(I)V"⟩, 36) := ⟨⟨by decide +kernel, by decide +kernel⟩, List.mem_of_getElem? (i := 1144) (by decide +kernel), List.mem_of_getElem? (i := 1564) (by decide +kernel), List.mem_of_getElem? (i := 1565) (by decide +kernel)⟩
theorem lw_p75 : lw_okq (⟨"PrisonShopsModel", "gets", "(III)V"⟩, 36) := ⟨⟨by decide +kernel, by decide +kernel⟩, List.mem_of_getElem? (i := 1144) (by decide +kernel), List.mem_of_getElem? (i := 1568) (by decide +kernel), List.mem_of_getElem? (i := 1569) (by decide +kernel)⟩
theorem lw_p76 : lw_okq (⟨"PrisonShopsModel", "newEvent", "(II)I"⟩, 36) := ⟨⟨by decide +kernel, by decide +kernel⟩, List.mem_of_getElem? (i := 1144) (by decide +kernel), List.mem_of_getElem? (i := 1581) (by decide +kernel), List.mem_of_getElem? (i := 1582) (by decide +kernel)⟩
theorem lw_p77 : lw_okq (⟨"PrisonShopsModel", "eventAt", "(I)I"⟩, 36) := ⟨⟨by decide +kernel, by decide +kernel⟩, List.mem_of_getElem? (i := 1144) (by decide +kernel), List.mem_of_getElem? (i := 1585) (by decide +kernel), List.mem_of_getElem? (i := 1586) (by decide +kernel)⟩
theorem lw_p78 : lw_okq (⟨"PrisonShopsModel", "isEvent", "(I)Z"⟩, 36) := ⟨⟨by decide +kernel, by decide +kernel⟩, List.mem_of_getElem? (i := 1144) (by decide +kernel), List.mem_of_getElem? (i := 1597) (by decide +kernel), List.mem_of_getElem? (i := 1598) (by decide +kernel)⟩
theorem lw_p79 : lw_okq (⟨"PrisonShopsModel", "endOf", "(II)I"⟩, 36) := ⟨⟨by decide +kernel, by decide +kernel⟩, List.mem_of_getElem? (i := 1144) (by decide +kernel), List.mem_of_getElem? (i := 1609) (by decide +kernel), List.mem_of_getElem? (i := 1610) (by decide +kernel)⟩
def lw_privs_5 : List (MethodName × Nat) := [(⟨"PrisonShopsModel", "test", "(I)Z"⟩, 36), (⟨"PrisonShopsModel", "sum", "(I)Z"⟩, 36), (⟨"PrisonShopsModel", "term", "(I)Z"⟩, 36), (⟨"PrisonShopsModel", "part0", "(I)Z"⟩, 36), (⟨"PrisonShopsModel", "step", "(II)V"⟩, 36), (⟨"PrisonShopsModel", "isSign", "(I)Z"⟩, 36), (⟨"PrisonShopsModel", "isText", "(I)Z"⟩, 36), (⟨"PrisonShopsModel", "counts", "(I)I"⟩, 36), (⟨"PrisonShopsModel", "ruleOf", "(IIII)I"⟩, 36), (⟨"PrisonShopsModel", "worked", "(I)I"⟩, 36), (⟨"PrisonShopsModel", "reckon", "(I)V"⟩, 36), (⟨"PrisonShopsModel", "gets", "(III)V"⟩, 36), (⟨"PrisonShopsModel", "newEvent", "(II)I"⟩, 36), (⟨"PrisonShopsModel", "eventAt", "(I)I"⟩, 36), (⟨"PrisonShopsModel", "isEvent", "(I)Z"⟩, 36), (⟨"PrisonShopsModel", "endOf", "(II)I"⟩, 36)]
theorem lw_r5 : ∀ q ∈ lw_privs_5, lw_okq q := List.forall_mem_cons.mpr ⟨lw_p64, List.forall_mem_cons.mpr ⟨lw_p65, List.forall_mem_cons.mpr ⟨lw_p66, List.forall_mem_cons.mpr ⟨lw_p67, List.forall_mem_cons.mpr ⟨lw_p68, List.forall_mem_cons.mpr ⟨lw_p69, List.forall_mem_cons.mpr ⟨lw_p70, List.forall_mem_cons.mpr ⟨lw_p71, List.forall_mem_cons.mpr ⟨lw_p72, List.forall_mem_cons.mpr ⟨lw_p73, List.forall_mem_cons.mpr ⟨lw_p74, List.forall_mem_cons.mpr ⟨lw_p75, List.forall_mem_cons.mpr ⟨lw_p76, List.forall_mem_cons.mpr ⟨lw_p77, List.forall_mem_cons.mpr ⟨lw_p78, List.forall_mem_cons.mpr ⟨lw_p79, fun _ h => absurd h List.not_mem_nil⟩⟩⟩⟩⟩⟩⟩⟩⟩⟩⟩⟩⟩⟩⟩⟩
theorem lw_p80 : lw_okq (⟨"PrisonShopsModel", "oneDay", "()V"⟩, 36) := ⟨⟨by decide +kernel, by decide +kernel⟩, List.mem_of_getElem? (i := 1144) (by decide +kernel), List.mem_of_getElem? (i := 1618) (by decide +kernel), List.mem_of_getElem? (i := 1619) (by decide +kernel)⟩
theorem lw_p81 : lw_okq (⟨"PrisonShopsModel", "works", "(I)V"⟩, 36) := ⟨⟨by decide +kernel, by decide +kernel⟩, List.mem_of_getElem? (i := 1144) (by decide +kernel), List.mem_of_getElem? (i := 1622) (by decide +kernel), List.mem_of_getElem? (i := 1623) (by decide +kernel)⟩
theorem lw_p82 : lw_okq (⟨"PrisonShopsModel", "delivers", "(I)V"⟩, 36) := ⟨⟨by decide +kernel, by decide +kernel⟩, List.mem_of_getElem? (i := 1144) (by decide +kernel), List.mem_of_getElem? (i := 1626) (by decide +kernel), List.mem_of_getElem? (i := 1627) (by decide +kernel)⟩
theorem lw_p83 : lw_okq (⟨"PrisonShopsModel", "leaves", "(I)V"⟩, 36) := ⟨⟨by decide +kernel, by decide +kernel⟩, List.mem_of_getElem? (i := 1144) (by decide +kernel), List.mem_of_getElem? (i := 1630) (by decide +kernel), List.mem_of_getElem? (i := 1631) (by decide +kernel)⟩
theorem lw_p84 : lw_okq (⟨"PrisonShopsModel", "lacks", "(II)I"⟩, 36) := ⟨⟨by decide +kernel, by decide +kernel⟩, List.mem_of_getElem? (i := 1144) (by decide +kernel), List.mem_of_getElem? (i := 1657) (by decide +kernel), List.mem_of_getElem? (i := 1658) (by decide +kernel)⟩
theorem lw_p85 : lw_okq (⟨"PrisonShopsModel", "setAside", "([I[I)V"⟩, 36) := ⟨⟨by decide +kernel, by decide +kernel⟩, List.mem_of_getElem? (i := 1144) (by decide +kernel), List.mem_of_getElem? (i := 1688) (by decide +kernel), List.mem_of_getElem? (i := 1689) (by decide +kernel)⟩
def lw_privs_6 : List (MethodName × Nat) := [(⟨"PrisonShopsModel", "oneDay", "()V"⟩, 36), (⟨"PrisonShopsModel", "works", "(I)V"⟩, 36), (⟨"PrisonShopsModel", "delivers", "(I)V"⟩, 36), (⟨"PrisonShopsModel", "leaves", "(I)V"⟩, 36), (⟨"PrisonShopsModel", "lacks", "(II)I"⟩, 36), (⟨"PrisonShopsModel", "setAside", "([I[I)V"⟩, 36)]
theorem lw_r6 : ∀ q ∈ lw_privs_6, lw_okq q := List.forall_mem_cons.mpr ⟨lw_p80, List.forall_mem_cons.mpr ⟨lw_p81, List.forall_mem_cons.mpr ⟨lw_p82, List.forall_mem_cons.mpr ⟨lw_p83, List.forall_mem_cons.mpr ⟨lw_p84, List.forall_mem_cons.mpr ⟨lw_p85, fun _ h => absurd h List.not_mem_nil⟩⟩⟩⟩⟩⟩
def lw_privs : List (MethodName × Nat) := lw_privs_1 ++ (lw_privs_2 ++ (lw_privs_3 ++ (lw_privs_4 ++ (lw_privs_5 ++ (lw_privs_6)))))
def lw_tbl : List Cond := k2_sels lw_privs ++ tables_1
theorem lw_privs_ok : ∀ q ∈ lw_privs, lw_okq q := by
  show ∀ q ∈ lw_privs_1 ++ (lw_privs_2 ++ (lw_privs_3 ++ (lw_privs_4 ++ (lw_privs_5 ++ (lw_privs_6))))), lw_okq q
  exact List.forall_mem_append.mpr ⟨lw_r1, List.forall_mem_append.mpr ⟨lw_r2, List.forall_mem_append.mpr ⟨lw_r3, List.forall_mem_append.mpr ⟨lw_r4, List.forall_mem_append.mpr ⟨lw_r5, lw_r6⟩⟩⟩⟩⟩
def RX0 : String := "PrisonShops$Days"
def TX0 : u_T := fun k => match k with
  | _ => ("PrisonShops$Days", "rules", "LPrisonShops$Rules;", true)
def tyX0 : Nat → FieldType := fun k => match k with
  | _ => .object "PrisonShops$Rules"
theorem nmX0 : ∀ a, a < 1 → ∀ b, b < 1 → a ≠ b → (TX0 a).2.1 ≠ (TX0 b).2.1 := by decide +kernel
theorem tyX0_ok : ∀ k, k < 1 → parseFieldDescriptor (TX0 k).2.2.1 = some (tyX0 k) := by decide +kernel
def RX1 : String := "PrisonShops$Filling"
def TX1 : u_T := fun k => match k with
  | 0 => ("PrisonShops$Filling", "choices", "[I", true)
  | 1 => ("PrisonShops$Filling", "bars", "[I", true)
  | 2 => ("PrisonShops$Filling", "turns", "[I", true)
  | 3 => ("PrisonShops$Filling", "room", "[I", true)
  | 4 => ("PrisonShops$Filling", "members", "[I", true)
  | 5 => ("PrisonShops$Filling", "tried", "[I", true)
  | 6 => ("PrisonShops$Filling", "best", "[I", true)
  | 7 => ("PrisonShops$Filling", "able", "[I", true)
  | 8 => ("PrisonShops$Filling", "leastTurns", "[I", true)
  | 9 => ("PrisonShops$Filling", "sorted", "[I", true)
  | 10 => ("PrisonShops$Filling", "hands", "I", false)
  | 11 => ("PrisonShops$Filling", "bestCount", "I", false)
  | _ => ("PrisonShops$Filling", "bestTurns", "I", false)
def tyX1 : Nat → FieldType := fun k => match k with
  | 0 => .array .int
  | 1 => .array .int
  | 2 => .array .int
  | 3 => .array .int
  | 4 => .array .int
  | 5 => .array .int
  | 6 => .array .int
  | 7 => .array .int
  | 8 => .array .int
  | 9 => .array .int
  | 10 => .int
  | 11 => .int
  | _ => .int
theorem nmX1 : ∀ a, a < 13 → ∀ b, b < 13 → a ≠ b → (TX1 a).2.1 ≠ (TX1 b).2.1 := by decide +kernel
theorem tyX1_ok : ∀ k, k < 13 → parseFieldDescriptor (TX1 k).2.2.1 = some (tyX1 k) := by decide +kernel
def RX2 : String := "PrisonShops$Forecast"
def TX2 : u_T := fun k => match k with
  | 0 => ("PrisonShops$Forecast", "pieces", "[I", true)
  | 1 => ("PrisonShops$Forecast", "skill", "[I", true)
  | 2 => ("PrisonShops$Forecast", "learnt", "[I", true)
  | 3 => ("PrisonShops$Forecast", "orders", "I", false)
  | _ => ("PrisonShops$Forecast", "workers", "I", false)
def tyX2 : Nat → FieldType := fun k => match k with
  | 0 => .array .int
  | 1 => .array .int
  | 2 => .array .int
  | 3 => .int
  | _ => .int
theorem nmX2 : ∀ a, a < 5 → ∀ b, b < 5 → a ≠ b → (TX2 a).2.1 ≠ (TX2 b).2.1 := by decide +kernel
theorem tyX2_ok : ∀ k, k < 5 → parseFieldDescriptor (TX2 k).2.2.1 = some (tyX2 k) := by decide +kernel
def RX3 : String := "PrisonShops$Pile"
def TX3 : u_T := fun k => match k with
  | 0 => ("PrisonShops$Pile", "cells", "[I", true)
  | _ => ("PrisonShops$Pile", "size", "I", false)
def tyX3 : Nat → FieldType := fun k => match k with
  | 0 => .array .int
  | _ => .int
theorem nmX3 : ∀ a, a < 2 → ∀ b, b < 2 → a ≠ b → (TX3 a).2.1 ≠ (TX3 b).2.1 := by decide +kernel
theorem tyX3_ok : ∀ k, k < 2 → parseFieldDescriptor (TX3 k).2.2.1 = some (tyX3 k) := by decide +kernel
def RX4 : String := "PrisonShops$Reader"
def TX4 : u_T := fun k => match k with
  | 0 => ("PrisonShops$Reader", "tape", "LPrisonShops$Tape;", true)
  | 1 => ("PrisonShops$Reader", "steps", "LPrisonShops$Pile;", true)
  | 2 => ("PrisonShops$Reader", "signs", "LPrisonShops$Pile;", true)
  | 3 => ("PrisonShops$Reader", "key", "I", false)
  | 4 => ("PrisonShops$Reader", "parts", "I", false)
  | 5 => ("PrisonShops$Reader", "start", "I", false)
  | 6 => ("PrisonShops$Reader", "next", "I", false)
  | 7 => ("PrisonShops$Reader", "token", "I", false)
  | 8 => ("PrisonShops$Reader", "value", "I", false)
  | 9 => ("PrisonShops$Reader", "partDue", "Z", false)
  | 10 => ("PrisonShops$Reader", "openBrackets", "I", false)
  | _ => ("PrisonShops$Reader", "openNots", "I", false)
def tyX4 : Nat → FieldType := fun k => match k with
  | 0 => .object "PrisonShops$Tape"
  | 1 => .object "PrisonShops$Pile"
  | 2 => .object "PrisonShops$Pile"
  | 3 => .int
  | 4 => .int
  | 5 => .int
  | 6 => .int
  | 7 => .int
  | 8 => .int
  | 9 => .boolean
  | 10 => .int
  | _ => .int
theorem nmX4 : ∀ a, a < 12 → ∀ b, b < 12 → a ≠ b → (TX4 a).2.1 ≠ (TX4 b).2.1 := by decide +kernel
theorem tyX4_ok : ∀ k, k < 12 → parseFieldDescriptor (TX4 k).2.2.1 = some (tyX4 k) := by decide +kernel
def RX5 : String := "PrisonShops$Rules"
def TX5 : u_T := fun k => match k with
  | _ => ("PrisonShops$Rules", "values", "LPrisonShops$Pile;", true)
def tyX5 : Nat → FieldType := fun k => match k with
  | _ => .object "PrisonShops$Pile"
theorem nmX5 : ∀ a, a < 1 → ∀ b, b < 1 → a ≠ b → (TX5 a).2.1 ≠ (TX5 b).2.1 := by decide +kernel
theorem tyX5_ok : ∀ k, k < 1 → parseFieldDescriptor (TX5 k).2.2.1 = some (tyX5 k) := by decide +kernel
def RX6 : String := "PrisonShops$Sheets"
def TX6 : u_T := fun k => match k with
  | 0 => ("PrisonShops$Sheets", "sorts", "[I", true)
  | 1 => ("PrisonShops$Sheets", "sizes", "[I", true)
  | _ => ("PrisonShops$Sheets", "cells", "[J", true)
def tyX6 : Nat → FieldType := fun k => match k with
  | 0 => .array .int
  | 1 => .array .int
  | _ => .array .long
theorem nmX6 : ∀ a, a < 3 → ∀ b, b < 3 → a ≠ b → (TX6 a).2.1 ≠ (TX6 b).2.1 := by decide +kernel
theorem tyX6_ok : ∀ k, k < 3 → parseFieldDescriptor (TX6 k).2.2.1 = some (tyX6 k) := by decide +kernel
def RX7 : String := "PrisonShops$State"
def TX7 : u_T := fun k => match k with
  | 0 => ("PrisonShops$State", "shops", "LPrisonShops$Table;", true)
  | 1 => ("PrisonShops$State", "hands", "LPrisonShops$Table;", true)
  | 2 => ("PrisonShops$State", "things", "LPrisonShops$Table;", true)
  | 3 => ("PrisonShops$State", "texts", "LPrisonShops$Table;", true)
  | 4 => ("PrisonShops$State", "events", "LPrisonShops$Table;", true)
  | 5 => ("PrisonShops$State", "day", "I", false)
  | _ => ("PrisonShops$State", "seed", "I", false)
def tyX7 : Nat → FieldType := fun k => match k with
  | 0 => .object "PrisonShops$Table"
  | 1 => .object "PrisonShops$Table"
  | 2 => .object "PrisonShops$Table"
  | 3 => .object "PrisonShops$Table"
  | 4 => .object "PrisonShops$Table"
  | 5 => .int
  | _ => .int
theorem nmX7 : ∀ a, a < 7 → ∀ b, b < 7 → a ≠ b → (TX7 a).2.1 ≠ (TX7 b).2.1 := by decide +kernel
theorem tyX7_ok : ∀ k, k < 7 → parseFieldDescriptor (TX7 k).2.2.1 = some (tyX7 k) := by decide +kernel
def RX8 : String := "PrisonShops$Table"
def TX8 : u_T := fun k => match k with
  | 0 => ("PrisonShops$Table", "fields", "I", true)
  | 1 => ("PrisonShops$Table", "cells", "[I", true)
  | 2 => ("PrisonShops$Table", "rows", "I", false)
  | _ => ("PrisonShops$Table", "most", "I", true)
def tyX8 : Nat → FieldType := fun k => match k with
  | 0 => .int
  | 1 => .array .int
  | 2 => .int
  | _ => .int
theorem nmX8 : ∀ a, a < 4 → ∀ b, b < 4 → a ≠ b → (TX8 a).2.1 ≠ (TX8 b).2.1 := by decide +kernel
theorem tyX8_ok : ∀ k, k < 4 → parseFieldDescriptor (TX8 k).2.2.1 = some (tyX8 k) := by decide +kernel
def RX9 : String := "PrisonShops$Tape"
def TX9 : u_T := fun k => match k with
  | 0 => ("PrisonShops$Tape", "bytes", "[I", true)
  | _ => ("PrisonShops$Tape", "size", "I", false)
def tyX9 : Nat → FieldType := fun k => match k with
  | 0 => .array .int
  | _ => .int
theorem nmX9 : ∀ a, a < 2 → ∀ b, b < 2 → a ≠ b → (TX9 a).2.1 ≠ (TX9 b).2.1 := by decide +kernel
theorem tyX9_ok : ∀ k, k < 2 → parseFieldDescriptor (TX9 k).2.2.1 = some (tyX9 k) := by decide +kernel
def RX10 : String := "PrisonShops"
def TX10 : u_T := fun k => match k with
  | 0 => ("PrisonShops", "now", "LPrisonShops$State;", true)
  | 1 => ("PrisonShops", "image", "LPrisonShops$State;", true)
  | 2 => ("PrisonShops", "trial", "LPrisonShops$State;", true)
  | 3 => ("PrisonShops", "rules", "LPrisonShops$Rules;", true)
  | 4 => ("PrisonShops", "days", "LPrisonShops$Days;", true)
  | 5 => ("PrisonShops", "forecast", "LPrisonShops$Forecast;", true)
  | 6 => ("PrisonShops", "filling", "LPrisonShops$Filling;", true)
  | 7 => ("PrisonShops", "tape", "LPrisonShops$Tape;", true)
  | 8 => ("PrisonShops", "reader", "LPrisonShops$Reader;", true)
  | 9 => ("PrisonShops", "sheets", "LPrisonShops$Sheets;", true)
  | 10 => ("PrisonShops", "waiting", "[I", true)
  | 11 => ("PrisonShops", "waits", "I", false)
  | _ => ("PrisonShops", "hasImage", "Z", false)
def tyX10 : Nat → FieldType := fun k => match k with
  | 0 => .object "PrisonShops$State"
  | 1 => .object "PrisonShops$State"
  | 2 => .object "PrisonShops$State"
  | 3 => .object "PrisonShops$Rules"
  | 4 => .object "PrisonShops$Days"
  | 5 => .object "PrisonShops$Forecast"
  | 6 => .object "PrisonShops$Filling"
  | 7 => .object "PrisonShops$Tape"
  | 8 => .object "PrisonShops$Reader"
  | 9 => .object "PrisonShops$Sheets"
  | 10 => .array .int
  | 11 => .int
  | _ => .boolean
theorem nmX10 : ∀ a, a < 13 → ∀ b, b < 13 → a ≠ b → (TX10 a).2.1 ≠ (TX10 b).2.1 := by decide +kernel
theorem tyX10_ok : ∀ k, k < 13 → parseFieldDescriptor (TX10 k).2.2.1 = some (tyX10 k) := by decide +kernel
def RX11 : String := "PrisonShopsModel"
def TX11 : u_T := fun k => match k with
  | 0 => ("PrisonShopsModel", "s", "[I", true)
  | 1 => ("PrisonShopsModel", "image", "[I", true)
  | 2 => ("PrisonShopsModel", "aside", "[I", true)
  | 3 => ("PrisonShopsModel", "hasImage", "Z", false)
  | 4 => ("PrisonShopsModel", "cSort", "[I", true)
  | 5 => ("PrisonShopsModel", "cSize", "[I", true)
  | 6 => ("PrisonShopsModel", "cNumber", "[J", true)
  | 7 => ("PrisonShopsModel", "given", "[I", true)
  | 8 => ("PrisonShopsModel", "filled", "[I", true)
  | 9 => ("PrisonShopsModel", "inShop", "[I", true)
  | 10 => ("PrisonShopsModel", "bestMany", "I", false)
  | 11 => ("PrisonShopsModel", "bestTurns", "I", false)
  | 12 => ("PrisonShopsModel", "isDone", "[Z", true)
  | 13 => ("PrisonShopsModel", "skills", "[I", true)
  | 14 => ("PrisonShopsModel", "learnt", "[I", true)
  | 15 => ("PrisonShopsModel", "tape", "[I", true)
  | 16 => ("PrisonShopsModel", "taped", "I", false)
  | 17 => ("PrisonShopsModel", "begin", "I", false)
  | 18 => ("PrisonShopsModel", "behind", "I", false)
  | 19 => ("PrisonShopsModel", "token", "I", false)
  | 20 => ("PrisonShopsModel", "number", "I", false)
  | 21 => ("PrisonShopsModel", "letter", "I", false)
  | 22 => ("PrisonShopsModel", "deep", "I", false)
  | 23 => ("PrisonShopsModel", "turned", "I", false)
  | 24 => ("PrisonShopsModel", "laid", "I", false)
  | 25 => ("PrisonShopsModel", "laidAt", "I", false)
  | 26 => ("PrisonShopsModel", "said", "I", false)
  | 27 => ("PrisonShopsModel", "named", "[I", true)
  | 28 => ("PrisonShopsModel", "pile", "[I", true)
  | 29 => ("PrisonShopsModel", "toVictims", "I", false)
  | 30 => ("PrisonShopsModel", "toSaved", "I", false)
  | 31 => ("PrisonShopsModel", "toCoin", "I", false)
  | 32 => ("PrisonShopsModel", "carried", "[J", true)
  | 33 => ("PrisonShopsModel", "waits", "[I", true)
  | 34 => ("PrisonShopsModel", "waiting", "I", false)
  | _ => ("PrisonShopsModel", "due", "[I", true)
def tyX11 : Nat → FieldType := fun k => match k with
  | 0 => .array .int
  | 1 => .array .int
  | 2 => .array .int
  | 3 => .boolean
  | 4 => .array .int
  | 5 => .array .int
  | 6 => .array .long
  | 7 => .array .int
  | 8 => .array .int
  | 9 => .array .int
  | 10 => .int
  | 11 => .int
  | 12 => .array .boolean
  | 13 => .array .int
  | 14 => .array .int
  | 15 => .array .int
  | 16 => .int
  | 17 => .int
  | 18 => .int
  | 19 => .int
  | 20 => .int
  | 21 => .int
  | 22 => .int
  | 23 => .int
  | 24 => .int
  | 25 => .int
  | 26 => .int
  | 27 => .array .int
  | 28 => .array .int
  | 29 => .int
  | 30 => .int
  | 31 => .int
  | 32 => .array .long
  | 33 => .array .int
  | 34 => .int
  | _ => .array .int
theorem nmX11 : ∀ a, a < 36 → ∀ b, b < 36 → a ≠ b → (TX11 a).2.1 ≠ (TX11 b).2.1 := by decide +kernel
theorem tyX11_ok : ∀ k, k < 36 → parseFieldDescriptor (TX11 k).2.2.1 = some (tyX11 k) := by decide +kernel
def RJ6 : String := "java/lang/Integer"
abbrev vwCl : List vw_C := [(RX0, TX0, 1), (RX1, TX1, 13), (RX2, TX2, 5), (RX3, TX3, 2), (RX4, TX4, 12), (RX5, TX5, 1), (RX6, TX6, 3), (RX7, TX7, 7), (RX8, TX8, 4), (RX9, TX9, 2), (RX10, TX10, 13), (RX11, TX11, 36)]
