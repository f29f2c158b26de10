/-! Names, decode rows and words of String's own methods (printed by wip/gen/gen_jdk.py). -/
noncomputable abbrev yLen : MethodName := ⟨"java/lang/String", "length", "()I"⟩
noncomputable abbrev cLen : ByteArray := prog_17_method_54_code
noncomputable abbrev yCod : MethodName := ⟨"java/lang/String", "coder", "()B"⟩
noncomputable abbrev cCod : ByteArray := prog_17_method_152_code
noncomputable abbrev yLat : MethodName := ⟨"java/lang/String", "isLatin1", "()Z"⟩
noncomputable abbrev cLat : ByteArray := prog_17_method_154_code
noncomputable abbrev yChr : MethodName := ⟨"java/lang/String", "charAt", "(I)C"⟩
noncomputable abbrev cChr : ByteArray := prog_17_method_56_code
noncomputable abbrev yC1 : MethodName := ⟨"java/lang/StringLatin1", "charAt", "([BI)C"⟩
noncomputable abbrev cC1 : ByteArray := prog_18_method_2_code
noncomputable abbrev yK0 : MethodName := ⟨"java/lang/String", "checkIndex", "(II)V"⟩
noncomputable abbrev cK0 : ByteArray := prog_17_method_155_code
noncomputable abbrev yK3 : MethodName := ⟨"jdk/internal/util/Preconditions", "checkIndex", "(IILjava/util/function/BiFunction;)I"⟩
noncomputable abbrev cK3 : ByteArray := prog_21_method_11_code
noncomputable abbrev yIx1 : MethodName := ⟨"java/lang/String", "indexOf", "(I)I"⟩
noncomputable abbrev cIx1 : ByteArray := prog_17_method_79_code
noncomputable abbrev yIx2 : MethodName := ⟨"java/lang/String", "indexOf", "(II)I"⟩
noncomputable abbrev cIx2 : ByteArray := prog_17_method_80_code
noncomputable abbrev yI1 : MethodName := ⟨"java/lang/StringLatin1", "indexOf", "([BIII)I"⟩
noncomputable abbrev cI1 : ByteArray := prog_18_method_22_code
noncomputable abbrev yCan : MethodName := ⟨"java/lang/StringLatin1", "canEncode", "(I)Z"⟩
noncomputable abbrev cCan : ByteArray := prog_18_method_4_code
noncomputable abbrev yIC : MethodName := ⟨"java/lang/StringLatin1", "indexOfChar", "([BIII)I"⟩
noncomputable abbrev cIC : ByteArray := prog_18_method_23_code
theorem dLen_0 : decode cLen 0 = .ok (.aload_n 0, 1) := by decide +kernel
theorem dLen_1 : decode cLen 1 = .ok (.getfield 9, 3) := by decide +kernel
theorem dLen_4 : decode cLen 4 = .ok (.arraylength, 1) := by decide +kernel
theorem dLen_5 : decode cLen 5 = .ok (.aload_n 0, 1) := by decide +kernel
theorem dLen_6 : decode cLen 6 = .ok (.invokevirtual 335, 3) := by decide +kernel
theorem dLen_9 : decode cLen 9 = .ok (.ishr, 1) := by decide +kernel
theorem dLen_10 : decode cLen 10 = .ok (.ireturn, 1) := by decide +kernel
theorem dCod_0 : decode cCod 0 = .ok (.getstatic 38, 3) := by decide +kernel
theorem dCod_3 : decode cCod 3 = .ok (.ifCond .eq 10, 3) := by decide +kernel
theorem dCod_6 : decode cCod 6 = .ok (.aload_n 0, 1) := by decide +kernel
theorem dCod_7 : decode cCod 7 = .ok (.getfield 15, 3) := by decide +kernel
theorem dCod_10 : decode cCod 10 = .ok (.goto 4, 3) := by decide +kernel
theorem dCod_13 : decode cCod 13 = .ok (.iconst 1, 1) := by decide +kernel
theorem dCod_14 : decode cCod 14 = .ok (.ireturn, 1) := by decide +kernel
theorem dLat_0 : decode cLat 0 = .ok (.getstatic 38, 3) := by decide +kernel
theorem dLat_3 : decode cLat 3 = .ok (.ifCond .eq 14, 3) := by decide +kernel
theorem dLat_6 : decode cLat 6 = .ok (.aload_n 0, 1) := by decide +kernel
theorem dLat_7 : decode cLat 7 = .ok (.getfield 15, 3) := by decide +kernel
theorem dLat_10 : decode cLat 10 = .ok (.ifCond .ne 7, 3) := by decide +kernel
theorem dLat_13 : decode cLat 13 = .ok (.iconst 1, 1) := by decide +kernel
theorem dLat_14 : decode cLat 14 = .ok (.goto 4, 3) := by decide +kernel
theorem dLat_17 : decode cLat 17 = .ok (.iconst 0, 1) := by decide +kernel
theorem dLat_18 : decode cLat 18 = .ok (.ireturn, 1) := by decide +kernel
theorem dChr_0 : decode cChr 0 = .ok (.aload_n 0, 1) := by decide +kernel
theorem dChr_1 : decode cChr 1 = .ok (.invokevirtual 492, 3) := by decide +kernel
theorem dChr_4 : decode cChr 4 = .ok (.ifCond .eq 12, 3) := by decide +kernel
theorem dChr_7 : decode cChr 7 = .ok (.aload_n 0, 1) := by decide +kernel
theorem dChr_8 : decode cChr 8 = .ok (.getfield 9, 3) := by decide +kernel
theorem dChr_11 : decode cChr 11 = .ok (.iload_n 1, 1) := by decide +kernel
theorem dChr_12 : decode cChr 12 = .ok (.invokestatic 495, 3) := by decide +kernel
theorem dChr_15 : decode cChr 15 = .ok (.ireturn, 1) := by decide +kernel
theorem dChr_16 : decode cChr 16 = .ok (.aload_n 0, 1) := by decide +kernel
theorem dChr_17 : decode cChr 17 = .ok (.getfield 9, 3) := by decide +kernel
theorem dChr_20 : decode cChr 20 = .ok (.iload_n 1, 1) := by decide +kernel
theorem dChr_21 : decode cChr 21 = .ok (.invokestatic 498, 3) := by decide +kernel
theorem dChr_24 : decode cChr 24 = .ok (.ireturn, 1) := by decide +kernel
theorem dC1_0 : decode cC1 0 = .ok (.iload_n 1, 1) := by decide +kernel
theorem dC1_1 : decode cC1 1 = .ok (.aload_n 0, 1) := by decide +kernel
theorem dC1_2 : decode cC1 2 = .ok (.arraylength, 1) := by decide +kernel
theorem dC1_3 : decode cC1 3 = .ok (.invokestatic 9, 3) := by decide +kernel
theorem dC1_6 : decode cC1 6 = .ok (.aload_n 0, 1) := by decide +kernel
theorem dC1_7 : decode cC1 7 = .ok (.iload_n 1, 1) := by decide +kernel
theorem dC1_8 : decode cC1 8 = .ok (.baload, 1) := by decide +kernel
theorem dC1_9 : decode cC1 9 = .ok (.sipush 255, 3) := by decide +kernel
theorem dC1_12 : decode cC1 12 = .ok (.iand, 1) := by decide +kernel
theorem dC1_13 : decode cC1 13 = .ok (.i2c, 1) := by decide +kernel
theorem dC1_14 : decode cC1 14 = .ok (.ireturn, 1) := by decide +kernel
theorem dK0_0 : decode cK0 0 = .ok (.iload_n 0, 1) := by decide +kernel
theorem dK0_1 : decode cK0 1 = .ok (.iload_n 1, 1) := by decide +kernel
theorem dK0_2 : decode cK0 2 = .ok (.getstatic 1053, 3) := by decide +kernel
theorem dK0_5 : decode cK0 5 = .ok (.invokestatic 1059, 3) := by decide +kernel
theorem dK0_8 : decode cK0 8 = .ok (.pop, 1) := by decide +kernel
theorem dK0_9 : decode cK0 9 = .ok (.return_, 1) := by decide +kernel
theorem dK3_0 : decode cK3 0 = .ok (.iload_n 0, 1) := by decide +kernel
theorem dK3_1 : decode cK3 1 = .ok (.ifCond .lt 8, 3) := by decide +kernel
theorem dK3_4 : decode cK3 4 = .ok (.iload_n 0, 1) := by decide +kernel
theorem dK3_5 : decode cK3 5 = .ok (.iload_n 1, 1) := by decide +kernel
theorem dK3_6 : decode cK3 6 = .ok (.if_icmp .lt 10, 3) := by decide +kernel
theorem dK3_9 : decode cK3 9 = .ok (.aload_n 2, 1) := by decide +kernel
theorem dK3_10 : decode cK3 10 = .ok (.iload_n 0, 1) := by decide +kernel
theorem dK3_11 : decode cK3 11 = .ok (.iload_n 1, 1) := by decide +kernel
theorem dK3_12 : decode cK3 12 = .ok (.invokestatic 95, 3) := by decide +kernel
theorem dK3_15 : decode cK3 15 = .ok (.athrow, 1) := by decide +kernel
theorem dK3_16 : decode cK3 16 = .ok (.iload_n 0, 1) := by decide +kernel
theorem dK3_17 : decode cK3 17 = .ok (.ireturn, 1) := by decide +kernel
theorem dIx1_0 : decode cIx1 0 = .ok (.aload_n 0, 1) := by decide +kernel
theorem dIx1_1 : decode cIx1 1 = .ok (.iload_n 1, 1) := by decide +kernel
theorem dIx1_2 : decode cIx1 2 = .ok (.iconst 0, 1) := by decide +kernel
theorem dIx1_3 : decode cIx1 3 = .ok (.invokevirtual 633, 3) := by decide +kernel
theorem dIx1_6 : decode cIx1 6 = .ok (.ireturn, 1) := by decide +kernel
theorem dIx2_0 : decode cIx2 0 = .ok (.aload_n 0, 1) := by decide +kernel
theorem dIx2_1 : decode cIx2 1 = .ok (.invokevirtual 492, 3) := by decide +kernel
theorem dIx2_4 : decode cIx2 4 = .ok (.ifCond .eq 19, 3) := by decide +kernel
theorem dIx2_7 : decode cIx2 7 = .ok (.aload_n 0, 1) := by decide +kernel
theorem dIx2_8 : decode cIx2 8 = .ok (.getfield 9, 3) := by decide +kernel
theorem dIx2_11 : decode cIx2 11 = .ok (.iload_n 1, 1) := by decide +kernel
theorem dIx2_12 : decode cIx2 12 = .ok (.iload_n 2, 1) := by decide +kernel
theorem dIx2_13 : decode cIx2 13 = .ok (.aload_n 0, 1) := by decide +kernel
theorem dIx2_14 : decode cIx2 14 = .ok (.invokevirtual 505, 3) := by decide +kernel
theorem dIx2_17 : decode cIx2 17 = .ok (.invokestatic 637, 3) := by decide +kernel
theorem dIx2_20 : decode cIx2 20 = .ok (.goto 16, 3) := by decide +kernel
theorem dIx2_23 : decode cIx2 23 = .ok (.aload_n 0, 1) := by decide +kernel
theorem dIx2_24 : decode cIx2 24 = .ok (.getfield 9, 3) := by decide +kernel
theorem dIx2_27 : decode cIx2 27 = .ok (.iload_n 1, 1) := by decide +kernel
theorem dIx2_28 : decode cIx2 28 = .ok (.iload_n 2, 1) := by decide +kernel
theorem dIx2_29 : decode cIx2 29 = .ok (.aload_n 0, 1) := by decide +kernel
theorem dIx2_30 : decode cIx2 30 = .ok (.invokevirtual 505, 3) := by decide +kernel
theorem dIx2_33 : decode cIx2 33 = .ok (.invokestatic 640, 3) := by decide +kernel
theorem dIx2_36 : decode cIx2 36 = .ok (.ireturn, 1) := by decide +kernel
theorem dI1_0 : decode cI1 0 = .ok (.iload_n 1, 1) := by decide +kernel
theorem dI1_1 : decode cI1 1 = .ok (.invokestatic 88, 3) := by decide +kernel
theorem dI1_4 : decode cI1 4 = .ok (.ifCond .ne 5, 3) := by decide +kernel
theorem dI1_7 : decode cI1 7 = .ok (.iconst (-1), 1) := by decide +kernel
theorem dI1_8 : decode cI1 8 = .ok (.ireturn, 1) := by decide +kernel
theorem dI1_9 : decode cI1 9 = .ok (.iload_n 2, 1) := by decide +kernel
theorem dI1_10 : decode cI1 10 = .ok (.iconst 0, 1) := by decide +kernel
theorem dI1_11 : decode cI1 11 = .ok (.invokestatic 92, 3) := by decide +kernel
theorem dI1_14 : decode cI1 14 = .ok (.istore_n 2, 1) := by decide +kernel
theorem dI1_15 : decode cI1 15 = .ok (.iload_n 3, 1) := by decide +kernel
theorem dI1_16 : decode cI1 16 = .ok (.aload_n 0, 1) := by decide +kernel
theorem dI1_17 : decode cI1 17 = .ok (.arraylength, 1) := by decide +kernel
theorem dI1_18 : decode cI1 18 = .ok (.invokestatic 38, 3) := by decide +kernel
theorem dI1_21 : decode cI1 21 = .ok (.istore_n 3, 1) := by decide +kernel
theorem dI1_22 : decode cI1 22 = .ok (.iload_n 2, 1) := by decide +kernel
theorem dI1_23 : decode cI1 23 = .ok (.iload_n 3, 1) := by decide +kernel
theorem dI1_24 : decode cI1 24 = .ok (.if_icmp .lt 5, 3) := by decide +kernel
theorem dI1_27 : decode cI1 27 = .ok (.iconst (-1), 1) := by decide +kernel
theorem dI1_28 : decode cI1 28 = .ok (.ireturn, 1) := by decide +kernel
theorem dI1_29 : decode cI1 29 = .ok (.aload_n 0, 1) := by decide +kernel
theorem dI1_30 : decode cI1 30 = .ok (.iload_n 1, 1) := by decide +kernel
theorem dI1_31 : decode cI1 31 = .ok (.iload_n 2, 1) := by decide +kernel
theorem dI1_32 : decode cI1 32 = .ok (.iload_n 3, 1) := by decide +kernel
theorem dI1_33 : decode cI1 33 = .ok (.invokestatic 95, 3) := by decide +kernel
theorem dI1_36 : decode cI1 36 = .ok (.ireturn, 1) := by decide +kernel
theorem dCan_0 : decode cCan 0 = .ok (.iload_n 0, 1) := by decide +kernel
theorem dCan_1 : decode cCan 1 = .ok (.ifCond .lt 14, 3) := by decide +kernel
theorem dCan_4 : decode cCan 4 = .ok (.iload_n 0, 1) := by decide +kernel
theorem dCan_5 : decode cCan 5 = .ok (.sipush 255, 3) := by decide +kernel
theorem dCan_8 : decode cCan 8 = .ok (.if_icmp .gt 7, 3) := by decide +kernel
theorem dCan_11 : decode cCan 11 = .ok (.iconst 1, 1) := by decide +kernel
theorem dCan_12 : decode cCan 12 = .ok (.goto 4, 3) := by decide +kernel
theorem dCan_15 : decode cCan 15 = .ok (.iconst 0, 1) := by decide +kernel
theorem dCan_16 : decode cCan 16 = .ok (.ireturn, 1) := by decide +kernel
theorem dIC_0 : decode cIC 0 = .ok (.iload_n 1, 1) := by decide +kernel
theorem dIC_1 : decode cIC 1 = .ok (.i2b, 1) := by decide +kernel
theorem dIC_2 : decode cIC 2 = .ok (.istore 4, 2) := by decide +kernel
theorem dIC_4 : decode cIC 4 = .ok (.iload_n 2, 1) := by decide +kernel
theorem dIC_5 : decode cIC 5 = .ok (.istore 5, 2) := by decide +kernel
theorem dIC_7 : decode cIC 7 = .ok (.iload 5, 2) := by decide +kernel
theorem dIC_9 : decode cIC 9 = .ok (.iload_n 3, 1) := by decide +kernel
theorem dIC_10 : decode cIC 10 = .ok (.if_icmp .ge 21, 3) := by decide +kernel
theorem dIC_13 : decode cIC 13 = .ok (.aload_n 0, 1) := by decide +kernel
theorem dIC_14 : decode cIC 14 = .ok (.iload 5, 2) := by decide +kernel
theorem dIC_16 : decode cIC 16 = .ok (.baload, 1) := by decide +kernel
theorem dIC_17 : decode cIC 17 = .ok (.iload 4, 2) := by decide +kernel
theorem dIC_19 : decode cIC 19 = .ok (.if_icmp .ne 6, 3) := by decide +kernel
theorem dIC_22 : decode cIC 22 = .ok (.iload 5, 2) := by decide +kernel
theorem dIC_24 : decode cIC 24 = .ok (.ireturn, 1) := by decide +kernel
theorem dIC_25 : decode cIC 25 = .ok (.iinc 5 1, 3) := by decide +kernel
theorem dIC_28 : decode cIC 28 = .ok (.goto (-21), 3) := by decide +kernel
theorem dIC_31 : decode cIC 31 = .ok (.iconst (-1), 1) := by decide +kernel
theorem dIC_32 : decode cIC 32 = .ok (.ireturn, 1) := by decide +kernel
theorem jcLen : Jvm.Cond.code yLen cLen 1 (some .int) ∈ gT := hasW_in (q := (3, 230)) (by decide +kernel)
theorem jmLen : Jvm.Cond.instanceMethod yLen ∈ gT := hasW_in (q := (3, 228)) (by decide +kernel)
theorem jSLen : Jvm.Cond.selects "java/lang/String" yLen yLen ∈ gT := hasW_in (q := (3, 229)) (by decide +kernel)
theorem jcCod : Jvm.Cond.code yCod cCod 1 (some .byte) ∈ gT := hasW_in (q := (3, 234)) (by decide +kernel)
theorem jmCod : Jvm.Cond.instanceMethod yCod ∈ gT := hasW_in (q := (3, 232)) (by decide +kernel)
theorem jSCod : Jvm.Cond.selects "java/lang/String" yCod yCod ∈ gT := hasW_in (q := (3, 233)) (by decide +kernel)
theorem jcLat : Jvm.Cond.code yLat cLat 1 (some .boolean) ∈ gT := hasW_in (q := (4, 4)) (by decide +kernel)
theorem jmLat : Jvm.Cond.instanceMethod yLat ∈ gT := hasW_in (q := (4, 2)) (by decide +kernel)
theorem jSLat : Jvm.Cond.selects "java/lang/String" yLat yLat ∈ gT := hasW_in (q := (4, 3)) (by decide +kernel)
theorem jcChr : Jvm.Cond.code yChr cChr 2 (some .char) ∈ gT := hasW_in (q := (4, 0)) (by decide +kernel)
theorem jmChr : Jvm.Cond.instanceMethod yChr ∈ gT := hasW_in (q := (3, 238)) (by decide +kernel)
theorem jSChr : Jvm.Cond.selects "java/lang/String" yChr yChr ∈ gT := hasW_in (q := (3, 239)) (by decide +kernel)
theorem jcC1 : Jvm.Cond.code yC1 cC1 2 (some .char) ∈ gT := hasW_in (q := (4, 7)) (by decide +kernel)
theorem jsC1 : Jvm.Cond.static yC1 ∈ gT := hasW_in (q := (4, 6)) (by decide +kernel)
theorem jcK0 : Jvm.Cond.code yK0 cK0 2 none ∈ gT := hasW_in (q := (4, 10)) (by decide +kernel)
theorem jsK0 : Jvm.Cond.static yK0 ∈ gT := hasW_in (q := (4, 9)) (by decide +kernel)
theorem jcK3 : Jvm.Cond.code yK3 cK3 3 (some .int) ∈ gT := hasW_in (q := (4, 15)) (by decide +kernel)
theorem jsK3 : Jvm.Cond.static yK3 ∈ gT := hasW_in (q := (4, 14)) (by decide +kernel)
theorem jcIx1 : Jvm.Cond.code yIx1 cIx1 2 (some .int) ∈ gT := hasW_in (q := (4, 76)) (by decide +kernel)
theorem jmIx1 : Jvm.Cond.instanceMethod yIx1 ∈ gT := hasW_in (q := (4, 74)) (by decide +kernel)
theorem jSIx1 : Jvm.Cond.selects "java/lang/String" yIx1 yIx1 ∈ gT := hasW_in (q := (4, 75)) (by decide +kernel)
theorem jcIx2 : Jvm.Cond.code yIx2 cIx2 3 (some .int) ∈ gT := hasW_in (q := (4, 80)) (by decide +kernel)
theorem jmIx2 : Jvm.Cond.instanceMethod yIx2 ∈ gT := hasW_in (q := (4, 78)) (by decide +kernel)
theorem jSIx2 : Jvm.Cond.selects "java/lang/String" yIx2 yIx2 ∈ gT := hasW_in (q := (4, 79)) (by decide +kernel)
theorem jcI1 : Jvm.Cond.code yI1 cI1 4 (some .int) ∈ gT := hasW_in (q := (4, 84)) (by decide +kernel)
theorem jsI1 : Jvm.Cond.static yI1 ∈ gT := hasW_in (q := (4, 83)) (by decide +kernel)
theorem jcCan : Jvm.Cond.code yCan cCan 1 (some .boolean) ∈ gT := hasW_in (q := (4, 87)) (by decide +kernel)
theorem jsCan : Jvm.Cond.static yCan ∈ gT := hasW_in (q := (4, 86)) (by decide +kernel)
theorem jcIC : Jvm.Cond.code yIC cIC 6 (some .int) ∈ gT := hasW_in (q := (4, 92)) (by decide +kernel)
theorem jsIC : Jvm.Cond.static yIC ∈ gT := hasW_in (q := (4, 91)) (by decide +kernel)
theorem jiJ0 : Jvm.Cond.initialized "java/lang/String" ∈ gT := hasW_in (q := (1, 16)) (by decide +kernel)
theorem jiJ1 : Jvm.Cond.initialized "java/lang/StringLatin1" ∈ gT := hasW_in (q := (1, 17)) (by decide +kernel)
theorem jiJ3 : Jvm.Cond.initialized "jdk/internal/util/Preconditions" ∈ gT := hasW_in (q := (1, 18)) (by decide +kernel)
theorem jlJ0_335 : Jvm.Cond.methodLink "java/lang/String" 335 yCod ∈ gT := hasW_in (q := (3, 231)) (by decide +kernel)
theorem jf38 : Jvm.Cond.fieldLink "java/lang/String" 38 "java/lang/String" "COMPACT_STRINGS" "Z" ∈ gT := hasW_in (q := (3, 235)) (by decide +kernel)
theorem jlJ0_492 : Jvm.Cond.methodLink "java/lang/String" 492 yLat ∈ gT := hasW_in (q := (4, 1)) (by decide +kernel)
theorem jlJ0_495 : Jvm.Cond.methodLink "java/lang/String" 495 yC1 ∈ gT := hasW_in (q := (4, 5)) (by decide +kernel)
theorem jlJ1_9 : Jvm.Cond.methodLink "java/lang/StringLatin1" 9 yK0 ∈ gT := hasW_in (q := (4, 8)) (by decide +kernel)
theorem jf1053 : Jvm.Cond.fieldLink "java/lang/String" 1053 "jdk/internal/util/Preconditions" "SIOOBE_FORMATTER" "Ljava/util/function/BiFunction;" ∈ gT := hasW_in (q := (4, 11)) (by decide +kernel)
theorem jlJ0_1059 : Jvm.Cond.methodLink "java/lang/String" 1059 yK3 ∈ gT := hasW_in (q := (4, 13)) (by decide +kernel)
theorem jlJ0_633 : Jvm.Cond.methodLink "java/lang/String" 633 yIx2 ∈ gT := hasW_in (q := (4, 77)) (by decide +kernel)
theorem jlJ0_505 : Jvm.Cond.methodLink "java/lang/String" 505 yLen ∈ gT := hasW_in (q := (4, 81)) (by decide +kernel)
theorem jlJ0_637 : Jvm.Cond.methodLink "java/lang/String" 637 yI1 ∈ gT := hasW_in (q := (4, 82)) (by decide +kernel)
theorem jlJ1_88 : Jvm.Cond.methodLink "java/lang/StringLatin1" 88 yCan ∈ gT := hasW_in (q := (4, 85)) (by decide +kernel)
theorem jlJ1_92 : Jvm.Cond.methodLink "java/lang/StringLatin1" 92 Lib.Math.max.name ∈ gT := hasW_in (q := (4, 88)) (by decide +kernel)
theorem jlJ1_38 : Jvm.Cond.methodLink "java/lang/StringLatin1" 38 Lib.Math.min.name ∈ gT := hasW_in (q := (4, 89)) (by decide +kernel)
theorem jlJ1_95 : Jvm.Cond.methodLink "java/lang/StringLatin1" 95 yIC ∈ gT := hasW_in (q := (4, 90)) (by decide +kernel)
theorem jf9 : Jvm.Cond.fieldLink "java/lang/String" 9 "java/lang/String" "value" "[B" ∈ gT := hasW_in (q := (8, 23)) (by decide +kernel)
theorem jf15 : Jvm.Cond.fieldLink "java/lang/String" 15 "java/lang/String" "coder" "B" ∈ gT := hasW_in (q := (8, 24)) (by decide +kernel)
