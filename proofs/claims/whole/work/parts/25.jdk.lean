abbrev bS_length : ByteArray := prog_12_method_54_code
def yS_length : MethodName := ⟨"java/lang/String", "length", "()I"⟩
def wS_length : List Cond := Cond.code yS_length bS_length 1 (some .int) :: xT
abbrev bS_coder : ByteArray := prog_12_method_152_code
def yS_coder : MethodName := ⟨"java/lang/String", "coder", "()B"⟩
def wS_coder : List Cond := Cond.code yS_coder bS_coder 1 (some .byte) :: xT
abbrev bS_charAt : ByteArray := prog_12_method_56_code
def yS_charAt : MethodName := ⟨"java/lang/String", "charAt", "(I)C"⟩
def wS_charAt : List Cond := Cond.code yS_charAt bS_charAt 2 (some .char) :: xT
abbrev bS_isLatin1 : ByteArray := prog_12_method_154_code
def yS_isLatin1 : MethodName := ⟨"java/lang/String", "isLatin1", "()Z"⟩
def wS_isLatin1 : List Cond := Cond.code yS_isLatin1 bS_isLatin1 1 (some .boolean) :: xT
abbrev bJ_charAt : ByteArray := prog_13_method_2_code
def yJ_charAt : MethodName := ⟨"java/lang/StringLatin1", "charAt", "([BI)C"⟩
def wJ_charAt : List Cond := Cond.code yJ_charAt bJ_charAt 2 (some .char) :: xT
abbrev bS_checkIndex : ByteArray := prog_12_method_155_code
def yS_checkIndex : MethodName := ⟨"java/lang/String", "checkIndex", "(II)V"⟩
def wS_checkIndex : List Cond := Cond.code yS_checkIndex bS_checkIndex 2 none :: xT
abbrev bK_checkIndex : ByteArray := prog_15_method_11_code
def yK_checkIndex : MethodName := ⟨"jdk/internal/util/Preconditions", "checkIndex", "(IILjava/util/function/BiFunction;)I"⟩
def wK_checkIndex : List Cond := Cond.code yK_checkIndex bK_checkIndex 3 (some .int) :: xT
abbrev bU_charAt : ByteArray := prog_14_method_83_code
def yU_charAt : MethodName := ⟨"java/lang/StringUTF16", "charAt", "([BI)C"⟩
def wU_charAt : List Cond := Cond.code yU_charAt bU_charAt 2 (some .char) :: xT
abbrev bU_checkIndex : ByteArray := prog_14_method_91_code
def yU_checkIndex : MethodName := ⟨"java/lang/StringUTF16", "checkIndex", "(I[B)V"⟩
def wU_checkIndex : List Cond := Cond.code yU_checkIndex bU_checkIndex 2 none :: xT
abbrev bU_length : ByteArray := prog_14_method_6_code
def yU_length : MethodName := ⟨"java/lang/StringUTF16", "length", "([B)I"⟩
def wU_length : List Cond := Cond.code yU_length bU_length 1 (some .int) :: xT
abbrev bU_getChar : ByteArray := prog_14_method_5_code
def yU_getChar : MethodName := ⟨"java/lang/StringUTF16", "getChar", "([BI)C"⟩
def wU_getChar : List Cond := Cond.code yU_getChar bU_getChar 2 (some .char) :: xT
abbrev bI_bitCount : ByteArray := prog_10_method_49_code
def yI_bitCount : MethodName := ⟨"java/lang/Integer", "bitCount", "(I)I"⟩
def wI_bitCount : List Cond := Cond.code yI_bitCount bI_bitCount 1 (some .int) :: xT
theorem dI_bitCount_0 : decode bI_bitCount 0 = .ok (.iload_n 0, 1) := by decide +kernel
theorem dI_bitCount_1 : decode bI_bitCount 1 = .ok (.iload_n 0, 1) := by decide +kernel
theorem dI_bitCount_2 : decode bI_bitCount 2 = .ok (.iconst 1, 1) := by decide +kernel
theorem dI_bitCount_3 : decode bI_bitCount 3 = .ok (.iushr, 1) := by decide +kernel
theorem dI_bitCount_4 : decode bI_bitCount 4 = .ok (.ldc_w 265, 3) := by decide +kernel
theorem dI_bitCount_7 : decode bI_bitCount 7 = .ok (.iand, 1) := by decide +kernel
theorem dI_bitCount_8 : decode bI_bitCount 8 = .ok (.isub, 1) := by decide +kernel
theorem dI_bitCount_9 : decode bI_bitCount 9 = .ok (.istore_n 0, 1) := by decide +kernel
theorem dI_bitCount_10 : decode bI_bitCount 10 = .ok (.iload_n 0, 1) := by decide +kernel
theorem dI_bitCount_11 : decode bI_bitCount 11 = .ok (.ldc_w 266, 3) := by decide +kernel
theorem dI_bitCount_14 : decode bI_bitCount 14 = .ok (.iand, 1) := by decide +kernel
theorem dI_bitCount_15 : decode bI_bitCount 15 = .ok (.iload_n 0, 1) := by decide +kernel
theorem dI_bitCount_16 : decode bI_bitCount 16 = .ok (.iconst 2, 1) := by decide +kernel
theorem dI_bitCount_17 : decode bI_bitCount 17 = .ok (.iushr, 1) := by decide +kernel
theorem dI_bitCount_18 : decode bI_bitCount 18 = .ok (.ldc_w 266, 3) := by decide +kernel
theorem dI_bitCount_21 : decode bI_bitCount 21 = .ok (.iand, 1) := by decide +kernel
theorem dI_bitCount_22 : decode bI_bitCount 22 = .ok (.iadd, 1) := by decide +kernel
theorem dI_bitCount_23 : decode bI_bitCount 23 = .ok (.istore_n 0, 1) := by decide +kernel
theorem dI_bitCount_24 : decode bI_bitCount 24 = .ok (.iload_n 0, 1) := by decide +kernel
theorem dI_bitCount_25 : decode bI_bitCount 25 = .ok (.iload_n 0, 1) := by decide +kernel
theorem dI_bitCount_26 : decode bI_bitCount 26 = .ok (.iconst 4, 1) := by decide +kernel
theorem dI_bitCount_27 : decode bI_bitCount 27 = .ok (.iushr, 1) := by decide +kernel
theorem dI_bitCount_28 : decode bI_bitCount 28 = .ok (.iadd, 1) := by decide +kernel
theorem dI_bitCount_29 : decode bI_bitCount 29 = .ok (.ldc_w 267, 3) := by decide +kernel
theorem dI_bitCount_32 : decode bI_bitCount 32 = .ok (.iand, 1) := by decide +kernel
theorem dI_bitCount_33 : decode bI_bitCount 33 = .ok (.istore_n 0, 1) := by decide +kernel
theorem dI_bitCount_34 : decode bI_bitCount 34 = .ok (.iload_n 0, 1) := by decide +kernel
theorem dI_bitCount_35 : decode bI_bitCount 35 = .ok (.iload_n 0, 1) := by decide +kernel
theorem dI_bitCount_36 : decode bI_bitCount 36 = .ok (.bipush 8, 2) := by decide +kernel
theorem dI_bitCount_38 : decode bI_bitCount 38 = .ok (.iushr, 1) := by decide +kernel
theorem dI_bitCount_39 : decode bI_bitCount 39 = .ok (.iadd, 1) := by decide +kernel
theorem dI_bitCount_40 : decode bI_bitCount 40 = .ok (.istore_n 0, 1) := by decide +kernel
theorem dI_bitCount_41 : decode bI_bitCount 41 = .ok (.iload_n 0, 1) := by decide +kernel
theorem dI_bitCount_42 : decode bI_bitCount 42 = .ok (.iload_n 0, 1) := by decide +kernel
theorem dI_bitCount_43 : decode bI_bitCount 43 = .ok (.bipush 16, 2) := by decide +kernel
theorem dI_bitCount_45 : decode bI_bitCount 45 = .ok (.iushr, 1) := by decide +kernel
theorem dI_bitCount_46 : decode bI_bitCount 46 = .ok (.iadd, 1) := by decide +kernel
theorem dI_bitCount_47 : decode bI_bitCount 47 = .ok (.istore_n 0, 1) := by decide +kernel
theorem dI_bitCount_48 : decode bI_bitCount 48 = .ok (.iload_n 0, 1) := by decide +kernel
theorem dI_bitCount_49 : decode bI_bitCount 49 = .ok (.bipush 63, 2) := by decide +kernel
theorem dI_bitCount_51 : decode bI_bitCount 51 = .ok (.iand, 1) := by decide +kernel
theorem dI_bitCount_52 : decode bI_bitCount 52 = .ok (.ireturn, 1) := by decide +kernel
theorem dS_length_0 : decode bS_length 0 = .ok (.aload_n 0, 1) := by decide +kernel
theorem dS_length_1 : decode bS_length 1 = .ok (.getfield 9, 3) := by decide +kernel
theorem dS_length_4 : decode bS_length 4 = .ok (.arraylength, 1) := by decide +kernel
theorem dS_length_5 : decode bS_length 5 = .ok (.aload_n 0, 1) := by decide +kernel
theorem dS_length_6 : decode bS_length 6 = .ok (.invokevirtual 335, 3) := by decide +kernel
theorem dS_length_9 : decode bS_length 9 = .ok (.ishr, 1) := by decide +kernel
theorem dS_length_10 : decode bS_length 10 = .ok (.ireturn, 1) := by decide +kernel
theorem dS_coder_0 : decode bS_coder 0 = .ok (.getstatic 38, 3) := by decide +kernel
theorem dS_coder_3 : decode bS_coder 3 = .ok (.ifCond .eq 10, 3) := by decide +kernel
theorem dS_coder_6 : decode bS_coder 6 = .ok (.aload_n 0, 1) := by decide +kernel
theorem dS_coder_7 : decode bS_coder 7 = .ok (.getfield 15, 3) := by decide +kernel
theorem dS_coder_10 : decode bS_coder 10 = .ok (.goto 4, 3) := by decide +kernel
theorem dS_coder_13 : decode bS_coder 13 = .ok (.iconst 1, 1) := by decide +kernel
theorem dS_coder_14 : decode bS_coder 14 = .ok (.ireturn, 1) := by decide +kernel
theorem dS_charAt_0 : decode bS_charAt 0 = .ok (.aload_n 0, 1) := by decide +kernel
theorem dS_charAt_1 : decode bS_charAt 1 = .ok (.invokevirtual 492, 3) := by decide +kernel
theorem dS_charAt_4 : decode bS_charAt 4 = .ok (.ifCond .eq 12, 3) := by decide +kernel
theorem dS_charAt_7 : decode bS_charAt 7 = .ok (.aload_n 0, 1) := by decide +kernel
theorem dS_charAt_8 : decode bS_charAt 8 = .ok (.getfield 9, 3) := by decide +kernel
theorem dS_charAt_11 : decode bS_charAt 11 = .ok (.iload_n 1, 1) := by decide +kernel
theorem dS_charAt_12 : decode bS_charAt 12 = .ok (.invokestatic 495, 3) := by decide +kernel
theorem dS_charAt_15 : decode bS_charAt 15 = .ok (.ireturn, 1) := by decide +kernel
theorem dS_charAt_16 : decode bS_charAt 16 = .ok (.aload_n 0, 1) := by decide +kernel
theorem dS_charAt_17 : decode bS_charAt 17 = .ok (.getfield 9, 3) := by decide +kernel
theorem dS_charAt_20 : decode bS_charAt 20 = .ok (.iload_n 1, 1) := by decide +kernel
theorem dS_charAt_21 : decode bS_charAt 21 = .ok (.invokestatic 498, 3) := by decide +kernel
theorem dS_charAt_24 : decode bS_charAt 24 = .ok (.ireturn, 1) := by decide +kernel
theorem dS_isLatin1_0 : decode bS_isLatin1 0 = .ok (.getstatic 38, 3) := by decide +kernel
theorem dS_isLatin1_3 : decode bS_isLatin1 3 = .ok (.ifCond .eq 14, 3) := by decide +kernel
theorem dS_isLatin1_6 : decode bS_isLatin1 6 = .ok (.aload_n 0, 1) := by decide +kernel
theorem dS_isLatin1_7 : decode bS_isLatin1 7 = .ok (.getfield 15, 3) := by decide +kernel
theorem dS_isLatin1_10 : decode bS_isLatin1 10 = .ok (.ifCond .ne 7, 3) := by decide +kernel
theorem dS_isLatin1_13 : decode bS_isLatin1 13 = .ok (.iconst 1, 1) := by decide +kernel
theorem dS_isLatin1_14 : decode bS_isLatin1 14 = .ok (.goto 4, 3) := by decide +kernel
theorem dS_isLatin1_17 : decode bS_isLatin1 17 = .ok (.iconst 0, 1) := by decide +kernel
theorem dS_isLatin1_18 : decode bS_isLatin1 18 = .ok (.ireturn, 1) := by decide +kernel
theorem dS_checkIndex_0 : decode bS_checkIndex 0 = .ok (.iload_n 0, 1) := by decide +kernel
theorem dS_checkIndex_1 : decode bS_checkIndex 1 = .ok (.iload_n 1, 1) := by decide +kernel
theorem dS_checkIndex_2 : decode bS_checkIndex 2 = .ok (.getstatic 1053, 3) := by decide +kernel
theorem dS_checkIndex_5 : decode bS_checkIndex 5 = .ok (.invokestatic 1059, 3) := by decide +kernel
theorem dS_checkIndex_8 : decode bS_checkIndex 8 = .ok (.pop, 1) := by decide +kernel
theorem dS_checkIndex_9 : decode bS_checkIndex 9 = .ok (.return_, 1) := by decide +kernel
theorem dJ_charAt_0 : decode bJ_charAt 0 = .ok (.iload_n 1, 1) := by decide +kernel
theorem dJ_charAt_1 : decode bJ_charAt 1 = .ok (.aload_n 0, 1) := by decide +kernel
theorem dJ_charAt_2 : decode bJ_charAt 2 = .ok (.arraylength, 1) := by decide +kernel
theorem dJ_charAt_3 : decode bJ_charAt 3 = .ok (.invokestatic 9, 3) := by decide +kernel
theorem dJ_charAt_6 : decode bJ_charAt 6 = .ok (.aload_n 0, 1) := by decide +kernel
theorem dJ_charAt_7 : decode bJ_charAt 7 = .ok (.iload_n 1, 1) := by decide +kernel
theorem dJ_charAt_8 : decode bJ_charAt 8 = .ok (.baload, 1) := by decide +kernel
theorem dJ_charAt_9 : decode bJ_charAt 9 = .ok (.sipush 255, 3) := by decide +kernel
theorem dJ_charAt_12 : decode bJ_charAt 12 = .ok (.iand, 1) := by decide +kernel
theorem dJ_charAt_13 : decode bJ_charAt 13 = .ok (.i2c, 1) := by decide +kernel
theorem dJ_charAt_14 : decode bJ_charAt 14 = .ok (.ireturn, 1) := by decide +kernel
theorem dK_checkIndex_0 : decode bK_checkIndex 0 = .ok (.iload_n 0, 1) := by decide +kernel
theorem dK_checkIndex_1 : decode bK_checkIndex 1 = .ok (.ifCond .lt 8, 3) := by decide +kernel
theorem dK_checkIndex_4 : decode bK_checkIndex 4 = .ok (.iload_n 0, 1) := by decide +kernel
theorem dK_checkIndex_5 : decode bK_checkIndex 5 = .ok (.iload_n 1, 1) := by decide +kernel
theorem dK_checkIndex_6 : decode bK_checkIndex 6 = .ok (.if_icmp .lt 10, 3) := by decide +kernel
theorem dK_checkIndex_9 : decode bK_checkIndex 9 = .ok (.aload_n 2, 1) := by decide +kernel
theorem dK_checkIndex_10 : decode bK_checkIndex 10 = .ok (.iload_n 0, 1) := by decide +kernel
theorem dK_checkIndex_11 : decode bK_checkIndex 11 = .ok (.iload_n 1, 1) := by decide +kernel
theorem dK_checkIndex_12 : decode bK_checkIndex 12 = .ok (.invokestatic 95, 3) := by decide +kernel
theorem dK_checkIndex_15 : decode bK_checkIndex 15 = .ok (.athrow, 1) := by decide +kernel
theorem dK_checkIndex_16 : decode bK_checkIndex 16 = .ok (.iload_n 0, 1) := by decide +kernel
theorem dK_checkIndex_17 : decode bK_checkIndex 17 = .ok (.ireturn, 1) := by decide +kernel
theorem dU_charAt_0 : decode bU_charAt 0 = .ok (.iload_n 1, 1) := by decide +kernel
theorem dU_charAt_1 : decode bU_charAt 1 = .ok (.aload_n 0, 1) := by decide +kernel
theorem dU_charAt_2 : decode bU_charAt 2 = .ok (.invokestatic 67, 3) := by decide +kernel
theorem dU_charAt_5 : decode bU_charAt 5 = .ok (.aload_n 0, 1) := by decide +kernel
theorem dU_charAt_6 : decode bU_charAt 6 = .ok (.iload_n 1, 1) := by decide +kernel
theorem dU_charAt_7 : decode bU_charAt 7 = .ok (.invokestatic 71, 3) := by decide +kernel
theorem dU_charAt_10 : decode bU_charAt 10 = .ok (.ireturn, 1) := by decide +kernel
theorem dU_checkIndex_0 : decode bU_checkIndex 0 = .ok (.iload_n 0, 1) := by decide +kernel
theorem dU_checkIndex_1 : decode bU_checkIndex 1 = .ok (.aload_n 1, 1) := by decide +kernel
theorem dU_checkIndex_2 : decode bU_checkIndex 2 = .ok (.invokestatic 48, 3) := by decide +kernel
theorem dU_checkIndex_5 : decode bU_checkIndex 5 = .ok (.invokestatic 414, 3) := by decide +kernel
theorem dU_checkIndex_8 : decode bU_checkIndex 8 = .ok (.return_, 1) := by decide +kernel
theorem dU_length_0 : decode bU_length 0 = .ok (.aload_n 0, 1) := by decide +kernel
theorem dU_length_1 : decode bU_length 1 = .ok (.arraylength, 1) := by decide +kernel
theorem dU_length_2 : decode bU_length 2 = .ok (.iconst 1, 1) := by decide +kernel
theorem dU_length_3 : decode bU_length 3 = .ok (.ishr, 1) := by decide +kernel
theorem dU_length_4 : decode bU_length 4 = .ok (.ireturn, 1) := by decide +kernel
