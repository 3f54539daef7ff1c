/-! TEXTS OF THE CLASS: String.length, charAt, indexOf over the small machine (printed by wip/whole/p38.py) -/
def RJ0 : String := "java/lang/String"
abbrev cJ0_length_8abf5 : ByteArray := prog_16_method_54_code
def yJ0_length_8abf5 : MethodName := ⟨RJ0, "length", "()I"⟩
abbrev cJ0_charAt_5068e : ByteArray := prog_16_method_56_code
def yJ0_charAt_5068e : MethodName := ⟨RJ0, "charAt", "(I)C"⟩
abbrev cJ0_indexOf_0f7a4 : ByteArray := prog_16_method_79_code
def yJ0_indexOf_0f7a4 : MethodName := ⟨RJ0, "indexOf", "(I)I"⟩
abbrev cJ0_indexOf_7cf53 : ByteArray := prog_16_method_80_code
def yJ0_indexOf_7cf53 : MethodName := ⟨RJ0, "indexOf", "(II)I"⟩
abbrev cJ0_coder_7d493 : ByteArray := prog_16_method_152_code
def yJ0_coder_7d493 : MethodName := ⟨RJ0, "coder", "()B"⟩
abbrev cJ0_isLatin1_aae02 : ByteArray := prog_16_method_154_code
def yJ0_isLatin1_aae02 : MethodName := ⟨RJ0, "isLatin1", "()Z"⟩
abbrev cJ0_checkIndex_df160 : ByteArray := prog_16_method_155_code
def yJ0_checkIndex_df160 : MethodName := ⟨RJ0, "checkIndex", "(II)V"⟩
def RJ1 : String := "java/lang/StringLatin1"
abbrev cJ1_charAt_3b067 : ByteArray := prog_17_method_2_code
def yJ1_charAt_3b067 : MethodName := ⟨RJ1, "charAt", "([BI)C"⟩
abbrev cJ1_canEncode_9a6ad : ByteArray := prog_17_method_4_code
def yJ1_canEncode_9a6ad : MethodName := ⟨RJ1, "canEncode", "(I)Z"⟩
abbrev cJ1_indexOf_4cfef : ByteArray := prog_17_method_22_code
def yJ1_indexOf_4cfef : MethodName := ⟨RJ1, "indexOf", "([BIII)I"⟩
abbrev cJ1_indexOfChar_4cfef : ByteArray := prog_17_method_23_code
def yJ1_indexOfChar_4cfef : MethodName := ⟨RJ1, "indexOfChar", "([BIII)I"⟩
def RJ3 : String := "jdk/internal/util/Preconditions"
abbrev cJ3_checkIndex_8e157 : ByteArray := prog_20_method_11_code
def yJ3_checkIndex_8e157 : MethodName := ⟨RJ3, "checkIndex", "(IILjava/util/function/BiFunction;)I"⟩
theorem dJ0_length_8abf5_0 : decode cJ0_length_8abf5 0 = .ok (.aload_n 0, 1) := by decide +kernel
theorem dJ0_length_8abf5_1 : decode cJ0_length_8abf5 1 = .ok (.getfield 9, 3) := by decide +kernel
theorem dJ0_length_8abf5_4 : decode cJ0_length_8abf5 4 = .ok (.arraylength, 1) := by decide +kernel
theorem dJ0_length_8abf5_5 : decode cJ0_length_8abf5 5 = .ok (.aload_n 0, 1) := by decide +kernel
theorem dJ0_length_8abf5_6 : decode cJ0_length_8abf5 6 = .ok (.invokevirtual 335, 3) := by decide +kernel
theorem dJ0_length_8abf5_9 : decode cJ0_length_8abf5 9 = .ok (.ishr, 1) := by decide +kernel
theorem dJ0_length_8abf5_10 : decode cJ0_length_8abf5 10 = .ok (.ireturn, 1) := by decide +kernel
theorem dJ0_charAt_5068e_0 : decode cJ0_charAt_5068e 0 = .ok (.aload_n 0, 1) := by decide +kernel
theorem dJ0_charAt_5068e_1 : decode cJ0_charAt_5068e 1 = .ok (.invokevirtual 492, 3) := by decide +kernel
theorem dJ0_charAt_5068e_4 : decode cJ0_charAt_5068e 4 = .ok (.ifCond .eq 12, 3) := by decide +kernel
theorem dJ0_charAt_5068e_7 : decode cJ0_charAt_5068e 7 = .ok (.aload_n 0, 1) := by decide +kernel
theorem dJ0_charAt_5068e_8 : decode cJ0_charAt_5068e 8 = .ok (.getfield 9, 3) := by decide +kernel
theorem dJ0_charAt_5068e_11 : decode cJ0_charAt_5068e 11 = .ok (.iload_n 1, 1) := by decide +kernel
theorem dJ0_charAt_5068e_12 : decode cJ0_charAt_5068e 12 = .ok (.invokestatic 495, 3) := by decide +kernel
theorem dJ0_charAt_5068e_15 : decode cJ0_charAt_5068e 15 = .ok (.ireturn, 1) := by decide +kernel
theorem dJ0_charAt_5068e_16 : decode cJ0_charAt_5068e 16 = .ok (.aload_n 0, 1) := by decide +kernel
theorem dJ0_charAt_5068e_17 : decode cJ0_charAt_5068e 17 = .ok (.getfield 9, 3) := by decide +kernel
theorem dJ0_charAt_5068e_20 : decode cJ0_charAt_5068e 20 = .ok (.iload_n 1, 1) := by decide +kernel
theorem dJ0_charAt_5068e_21 : decode cJ0_charAt_5068e 21 = .ok (.invokestatic 498, 3) := by decide +kernel
theorem dJ0_charAt_5068e_24 : decode cJ0_charAt_5068e 24 = .ok (.ireturn, 1) := by decide +kernel
theorem dJ0_indexOf_0f7a4_0 : decode cJ0_indexOf_0f7a4 0 = .ok (.aload_n 0, 1) := by decide +kernel
theorem dJ0_indexOf_0f7a4_1 : decode cJ0_indexOf_0f7a4 1 = .ok (.iload_n 1, 1) := by decide +kernel
theorem dJ0_indexOf_0f7a4_2 : decode cJ0_indexOf_0f7a4 2 = .ok (.iconst 0, 1) := by decide +kernel
theorem dJ0_indexOf_0f7a4_3 : decode cJ0_indexOf_0f7a4 3 = .ok (.invokevirtual 633, 3) := by decide +kernel
theorem dJ0_indexOf_0f7a4_6 : decode cJ0_indexOf_0f7a4 6 = .ok (.ireturn, 1) := by decide +kernel
theorem dJ0_indexOf_7cf53_0 : decode cJ0_indexOf_7cf53 0 = .ok (.aload_n 0, 1) := by decide +kernel
theorem dJ0_indexOf_7cf53_1 : decode cJ0_indexOf_7cf53 1 = .ok (.invokevirtual 492, 3) := by decide +kernel
theorem dJ0_indexOf_7cf53_4 : decode cJ0_indexOf_7cf53 4 = .ok (.ifCond .eq 19, 3) := by decide +kernel
theorem dJ0_indexOf_7cf53_7 : decode cJ0_indexOf_7cf53 7 = .ok (.aload_n 0, 1) := by decide +kernel
theorem dJ0_indexOf_7cf53_8 : decode cJ0_indexOf_7cf53 8 = .ok (.getfield 9, 3) := by decide +kernel
theorem dJ0_indexOf_7cf53_11 : decode cJ0_indexOf_7cf53 11 = .ok (.iload_n 1, 1) := by decide +kernel
theorem dJ0_indexOf_7cf53_12 : decode cJ0_indexOf_7cf53 12 = .ok (.iload_n 2, 1) := by decide +kernel
theorem dJ0_indexOf_7cf53_13 : decode cJ0_indexOf_7cf53 13 = .ok (.aload_n 0, 1) := by decide +kernel
theorem dJ0_indexOf_7cf53_14 : decode cJ0_indexOf_7cf53 14 = .ok (.invokevirtual 505, 3) := by decide +kernel
theorem dJ0_indexOf_7cf53_17 : decode cJ0_indexOf_7cf53 17 = .ok (.invokestatic 637, 3) := by decide +kernel
theorem dJ0_indexOf_7cf53_20 : decode cJ0_indexOf_7cf53 20 = .ok (.goto 16, 3) := by decide +kernel
theorem dJ0_indexOf_7cf53_23 : decode cJ0_indexOf_7cf53 23 = .ok (.aload_n 0, 1) := by decide +kernel
theorem dJ0_indexOf_7cf53_24 : decode cJ0_indexOf_7cf53 24 = .ok (.getfield 9, 3) := by decide +kernel
theorem dJ0_indexOf_7cf53_27 : decode cJ0_indexOf_7cf53 27 = .ok (.iload_n 1, 1) := by decide +kernel
theorem dJ0_indexOf_7cf53_28 : decode cJ0_indexOf_7cf53 28 = .ok (.iload_n 2, 1) := by decide +kernel
theorem dJ0_indexOf_7cf53_29 : decode cJ0_indexOf_7cf53 29 = .ok (.aload_n 0, 1) := by decide +kernel
theorem dJ0_indexOf_7cf53_30 : decode cJ0_indexOf_7cf53 30 = .ok (.invokevirtual 505, 3) := by decide +kernel
theorem dJ0_indexOf_7cf53_33 : decode cJ0_indexOf_7cf53 33 = .ok (.invokestatic 640, 3) := by decide +kernel
theorem dJ0_indexOf_7cf53_36 : decode cJ0_indexOf_7cf53 36 = .ok (.ireturn, 1) := by decide +kernel
theorem dJ0_coder_7d493_0 : decode cJ0_coder_7d493 0 = .ok (.getstatic 38, 3) := by decide +kernel
theorem dJ0_coder_7d493_3 : decode cJ0_coder_7d493 3 = .ok (.ifCond .eq 10, 3) := by decide +kernel
theorem dJ0_coder_7d493_6 : decode cJ0_coder_7d493 6 = .ok (.aload_n 0, 1) := by decide +kernel
theorem dJ0_coder_7d493_7 : decode cJ0_coder_7d493 7 = .ok (.getfield 15, 3) := by decide +kernel
theorem dJ0_coder_7d493_10 : decode cJ0_coder_7d493 10 = .ok (.goto 4, 3) := by decide +kernel
theorem dJ0_coder_7d493_13 : decode cJ0_coder_7d493 13 = .ok (.iconst 1, 1) := by decide +kernel
theorem dJ0_coder_7d493_14 : decode cJ0_coder_7d493 14 = .ok (.ireturn, 1) := by decide +kernel
theorem dJ0_isLatin1_aae02_0 : decode cJ0_isLatin1_aae02 0 = .ok (.getstatic 38, 3) := by decide +kernel
theorem dJ0_isLatin1_aae02_3 : decode cJ0_isLatin1_aae02 3 = .ok (.ifCond .eq 14, 3) := by decide +kernel
theorem dJ0_isLatin1_aae02_6 : decode cJ0_isLatin1_aae02 6 = .ok (.aload_n 0, 1) := by decide +kernel
theorem dJ0_isLatin1_aae02_7 : decode cJ0_isLatin1_aae02 7 = .ok (.getfield 15, 3) := by decide +kernel
theorem dJ0_isLatin1_aae02_10 : decode cJ0_isLatin1_aae02 10 = .ok (.ifCond .ne 7, 3) := by decide +kernel
theorem dJ0_isLatin1_aae02_13 : decode cJ0_isLatin1_aae02 13 = .ok (.iconst 1, 1) := by decide +kernel
theorem dJ0_isLatin1_aae02_14 : decode cJ0_isLatin1_aae02 14 = .ok (.goto 4, 3) := by decide +kernel
theorem dJ0_isLatin1_aae02_17 : decode cJ0_isLatin1_aae02 17 = .ok (.iconst 0, 1) := by decide +kernel
theorem dJ0_isLatin1_aae02_18 : decode cJ0_isLatin1_aae02 18 = .ok (.ireturn, 1) := by decide +kernel
theorem dJ0_checkIndex_df160_0 : decode cJ0_checkIndex_df160 0 = .ok (.iload_n 0, 1) := by decide +kernel
theorem dJ0_checkIndex_df160_1 : decode cJ0_checkIndex_df160 1 = .ok (.iload_n 1, 1) := by decide +kernel
theorem dJ0_checkIndex_df160_2 : decode cJ0_checkIndex_df160 2 = .ok (.getstatic 1053, 3) := by decide +kernel
theorem dJ0_checkIndex_df160_5 : decode cJ0_checkIndex_df160 5 = .ok (.invokestatic 1059, 3) := by decide +kernel
theorem dJ0_checkIndex_df160_8 : decode cJ0_checkIndex_df160 8 = .ok (.pop, 1) := by decide +kernel
theorem dJ0_checkIndex_df160_9 : decode cJ0_checkIndex_df160 9 = .ok (.return_, 1) := by decide +kernel
theorem dJ1_charAt_3b067_0 : decode cJ1_charAt_3b067 0 = .ok (.iload_n 1, 1) := by decide +kernel
theorem dJ1_charAt_3b067_1 : decode cJ1_charAt_3b067 1 = .ok (.aload_n 0, 1) := by decide +kernel
theorem dJ1_charAt_3b067_2 : decode cJ1_charAt_3b067 2 = .ok (.arraylength, 1) := by decide +kernel
theorem dJ1_charAt_3b067_3 : decode cJ1_charAt_3b067 3 = .ok (.invokestatic 9, 3) := by decide +kernel
theorem dJ1_charAt_3b067_6 : decode cJ1_charAt_3b067 6 = .ok (.aload_n 0, 1) := by decide +kernel
theorem dJ1_charAt_3b067_7 : decode cJ1_charAt_3b067 7 = .ok (.iload_n 1, 1) := by decide +kernel
theorem dJ1_charAt_3b067_8 : decode cJ1_charAt_3b067 8 = .ok (.baload, 1) := by decide +kernel
theorem dJ1_charAt_3b067_9 : decode cJ1_charAt_3b067 9 = .ok (.sipush 255, 3) := by decide +kernel
theorem dJ1_charAt_3b067_12 : decode cJ1_charAt_3b067 12 = .ok (.iand, 1) := by decide +kernel
theorem dJ1_charAt_3b067_13 : decode cJ1_charAt_3b067 13 = .ok (.i2c, 1) := by decide +kernel
theorem dJ1_charAt_3b067_14 : decode cJ1_charAt_3b067 14 = .ok (.ireturn, 1) := by decide +kernel
theorem dJ1_canEncode_9a6ad_0 : decode cJ1_canEncode_9a6ad 0 = .ok (.iload_n 0, 1) := by decide +kernel
theorem dJ1_canEncode_9a6ad_1 : decode cJ1_canEncode_9a6ad 1 = .ok (.ifCond .lt 14, 3) := by decide +kernel
theorem dJ1_canEncode_9a6ad_4 : decode cJ1_canEncode_9a6ad 4 = .ok (.iload_n 0, 1) := by decide +kernel
theorem dJ1_canEncode_9a6ad_5 : decode cJ1_canEncode_9a6ad 5 = .ok (.sipush 255, 3) := by decide +kernel
theorem dJ1_canEncode_9a6ad_8 : decode cJ1_canEncode_9a6ad 8 = .ok (.if_icmp .gt 7, 3) := by decide +kernel
theorem dJ1_canEncode_9a6ad_11 : decode cJ1_canEncode_9a6ad 11 = .ok (.iconst 1, 1) := by decide +kernel
theorem dJ1_canEncode_9a6ad_12 : decode cJ1_canEncode_9a6ad 12 = .ok (.goto 4, 3) := by decide +kernel
theorem dJ1_canEncode_9a6ad_15 : decode cJ1_canEncode_9a6ad 15 = .ok (.iconst 0, 1) := by decide +kernel
theorem dJ1_canEncode_9a6ad_16 : decode cJ1_canEncode_9a6ad 16 = .ok (.ireturn, 1) := by decide +kernel
theorem dJ1_indexOf_4cfef_0 : decode cJ1_indexOf_4cfef 0 = .ok (.iload_n 1, 1) := by decide +kernel
theorem dJ1_indexOf_4cfef_1 : decode cJ1_indexOf_4cfef 1 = .ok (.invokestatic 88, 3) := by decide +kernel
theorem dJ1_indexOf_4cfef_4 : decode cJ1_indexOf_4cfef 4 = .ok (.ifCond .ne 5, 3) := by decide +kernel
theorem dJ1_indexOf_4cfef_7 : decode cJ1_indexOf_4cfef 7 = .ok (.iconst (-1), 1) := by decide +kernel
theorem dJ1_indexOf_4cfef_8 : decode cJ1_indexOf_4cfef 8 = .ok (.ireturn, 1) := by decide +kernel
theorem dJ1_indexOf_4cfef_9 : decode cJ1_indexOf_4cfef 9 = .ok (.iload_n 2, 1) := by decide +kernel
theorem dJ1_indexOf_4cfef_10 : decode cJ1_indexOf_4cfef 10 = .ok (.iconst 0, 1) := by decide +kernel
theorem dJ1_indexOf_4cfef_11 : decode cJ1_indexOf_4cfef 11 = .ok (.invokestatic 92, 3) := by decide +kernel
theorem dJ1_indexOf_4cfef_14 : decode cJ1_indexOf_4cfef 14 = .ok (.istore_n 2, 1) := by decide +kernel
theorem dJ1_indexOf_4cfef_15 : decode cJ1_indexOf_4cfef 15 = .ok (.iload_n 3, 1) := by decide +kernel
theorem dJ1_indexOf_4cfef_16 : decode cJ1_indexOf_4cfef 16 = .ok (.aload_n 0, 1) := by decide +kernel
theorem dJ1_indexOf_4cfef_17 : decode cJ1_indexOf_4cfef 17 = .ok (.arraylength, 1) := by decide +kernel
theorem dJ1_indexOf_4cfef_18 : decode cJ1_indexOf_4cfef 18 = .ok (.invokestatic 38, 3) := by decide +kernel
theorem dJ1_indexOf_4cfef_21 : decode cJ1_indexOf_4cfef 21 = .ok (.istore_n 3, 1) := by decide +kernel
theorem dJ1_indexOf_4cfef_22 : decode cJ1_indexOf_4cfef 22 = .ok (.iload_n 2, 1) := by decide +kernel
theorem dJ1_indexOf_4cfef_23 : decode cJ1_indexOf_4cfef 23 = .ok (.iload_n 3, 1) := by decide +kernel
theorem dJ1_indexOf_4cfef_24 : decode cJ1_indexOf_4cfef 24 = .ok (.if_icmp .lt 5, 3) := by decide +kernel
theorem dJ1_indexOf_4cfef_27 : decode cJ1_indexOf_4cfef 27 = .ok (.iconst (-1), 1) := by decide +kernel
theorem dJ1_indexOf_4cfef_28 : decode cJ1_indexOf_4cfef 28 = .ok (.ireturn, 1) := by decide +kernel
theorem dJ1_indexOf_4cfef_29 : decode cJ1_indexOf_4cfef 29 = .ok (.aload_n 0, 1) := by decide +kernel
theorem dJ1_indexOf_4cfef_30 : decode cJ1_indexOf_4cfef 30 = .ok (.iload_n 1, 1) := by decide +kernel
theorem dJ1_indexOf_4cfef_31 : decode cJ1_indexOf_4cfef 31 = .ok (.iload_n 2, 1) := by decide +kernel
theorem dJ1_indexOf_4cfef_32 : decode cJ1_indexOf_4cfef 32 = .ok (.iload_n 3, 1) := by decide +kernel
theorem dJ1_indexOf_4cfef_33 : decode cJ1_indexOf_4cfef 33 = .ok (.invokestatic 95, 3) := by decide +kernel
theorem dJ1_indexOf_4cfef_36 : decode cJ1_indexOf_4cfef 36 = .ok (.ireturn, 1) := by decide +kernel
theorem dJ1_indexOfChar_4cfef_0 : decode cJ1_indexOfChar_4cfef 0 = .ok (.iload_n 1, 1) := by decide +kernel
theorem dJ1_indexOfChar_4cfef_1 : decode cJ1_indexOfChar_4cfef 1 = .ok (.i2b, 1) := by decide +kernel
theorem dJ1_indexOfChar_4cfef_2 : decode cJ1_indexOfChar_4cfef 2 = .ok (.istore 4, 2) := by decide +kernel
theorem dJ1_indexOfChar_4cfef_4 : decode cJ1_indexOfChar_4cfef 4 = .ok (.iload_n 2, 1) := by decide +kernel
theorem dJ1_indexOfChar_4cfef_5 : decode cJ1_indexOfChar_4cfef 5 = .ok (.istore 5, 2) := by decide +kernel
theorem dJ1_indexOfChar_4cfef_7 : decode cJ1_indexOfChar_4cfef 7 = .ok (.iload 5, 2) := by decide +kernel
theorem dJ1_indexOfChar_4cfef_9 : decode cJ1_indexOfChar_4cfef 9 = .ok (.iload_n 3, 1) := by decide +kernel
theorem dJ1_indexOfChar_4cfef_10 : decode cJ1_indexOfChar_4cfef 10 = .ok (.if_icmp .ge 21, 3) := by decide +kernel
theorem dJ1_indexOfChar_4cfef_13 : decode cJ1_indexOfChar_4cfef 13 = .ok (.aload_n 0, 1) := by decide +kernel
theorem dJ1_indexOfChar_4cfef_14 : decode cJ1_indexOfChar_4cfef 14 = .ok (.iload 5, 2) := by decide +kernel
theorem dJ1_indexOfChar_4cfef_16 : decode cJ1_indexOfChar_4cfef 16 = .ok (.baload, 1) := by decide +kernel
theorem dJ1_indexOfChar_4cfef_17 : decode cJ1_indexOfChar_4cfef 17 = .ok (.iload 4, 2) := by decide +kernel
theorem dJ1_indexOfChar_4cfef_19 : decode cJ1_indexOfChar_4cfef 19 = .ok (.if_icmp .ne 6, 3) := by decide +kernel
theorem dJ1_indexOfChar_4cfef_22 : decode cJ1_indexOfChar_4cfef 22 = .ok (.iload 5, 2) := by decide +kernel
theorem dJ1_indexOfChar_4cfef_24 : decode cJ1_indexOfChar_4cfef 24 = .ok (.ireturn, 1) := by decide +kernel
theorem dJ1_indexOfChar_4cfef_25 : decode cJ1_indexOfChar_4cfef 25 = .ok (.iinc 5 1, 3) := by decide +kernel
theorem dJ1_indexOfChar_4cfef_28 : decode cJ1_indexOfChar_4cfef 28 = .ok (.goto (-21), 3) := by decide +kernel
theorem dJ1_indexOfChar_4cfef_31 : decode cJ1_indexOfChar_4cfef 31 = .ok (.iconst (-1), 1) := by decide +kernel
theorem dJ1_indexOfChar_4cfef_32 : decode cJ1_indexOfChar_4cfef 32 = .ok (.ireturn, 1) := by decide +kernel
theorem dJ3_checkIndex_8e157_0 : decode cJ3_checkIndex_8e157 0 = .ok (.iload_n 0, 1) := by decide +kernel
theorem dJ3_checkIndex_8e157_1 : decode cJ3_checkIndex_8e157 1 = .ok (.ifCond .lt 8, 3) := by decide +kernel
theorem dJ3_checkIndex_8e157_4 : decode cJ3_checkIndex_8e157 4 = .ok (.iload_n 0, 1) := by decide +kernel
theorem dJ3_checkIndex_8e157_5 : decode cJ3_checkIndex_8e157 5 = .ok (.iload_n 1, 1) := by decide +kernel
theorem dJ3_checkIndex_8e157_6 : decode cJ3_checkIndex_8e157 6 = .ok (.if_icmp .lt 10, 3) := by decide +kernel
theorem dJ3_checkIndex_8e157_9 : decode cJ3_checkIndex_8e157 9 = .ok (.aload_n 2, 1) := by decide +kernel
theorem dJ3_checkIndex_8e157_10 : decode cJ3_checkIndex_8e157 10 = .ok (.iload_n 0, 1) := by decide +kernel
theorem dJ3_checkIndex_8e157_11 : decode cJ3_checkIndex_8e157 11 = .ok (.iload_n 1, 1) := by decide +kernel
theorem dJ3_checkIndex_8e157_12 : decode cJ3_checkIndex_8e157 12 = .ok (.invokestatic 95, 3) := by decide +kernel
theorem dJ3_checkIndex_8e157_15 : decode cJ3_checkIndex_8e157 15 = .ok (.athrow, 1) := by decide +kernel
theorem dJ3_checkIndex_8e157_16 : decode cJ3_checkIndex_8e157 16 = .ok (.iload_n 0, 1) := by decide +kernel
theorem dJ3_checkIndex_8e157_17 : decode cJ3_checkIndex_8e157 17 = .ok (.ireturn, 1) := by decide +kernel
theorem ncJ0 : Cond.initialized RJ0 ∈ zTb := (zin (List.mem_of_getElem? (i := 119) (by decide +kernel)) rfl)
theorem ncJ1 : Cond.initialized RJ1 ∈ zTb := (zin (List.mem_of_getElem? (i := 120) (by decide +kernel)) rfl)
theorem ncJ3 : Cond.initialized RJ3 ∈ zTb := (zin (List.mem_of_getElem? (i := 121) (by decide +kernel)) rfl)
def xJ0_length_8abf5 : zX := (RJ0, cJ0_length_8abf5, 1, zrm 2 0 0, (some .int), false)
theorem mJ0_length_8abf5 : zCV yJ0_length_8abf5 xJ0_length_8abf5 0 := ⟨⟨(zin (List.mem_of_getElem? (i := 311) (by decide +kernel)) rfl), ncJ0, ⟨by decide +kernel, by decide +kernel⟩, by decide +kernel⟩, (zin (List.mem_of_getElem? (i := 309) (by decide +kernel)) rfl), (zin (List.mem_of_getElem? (i := 310) (by decide +kernel)) rfl)⟩
def xJ0_charAt_5068e : zX := (RJ0, cJ0_charAt_5068e, 2, zrm 4 0 0, (some .char), false)
theorem mJ0_charAt_5068e : zCV yJ0_charAt_5068e xJ0_charAt_5068e 1 := ⟨⟨(zin (List.mem_of_getElem? (i := 321) (by decide +kernel)) rfl), ncJ0, ⟨by decide +kernel, by decide +kernel⟩, by decide +kernel⟩, (zin (List.mem_of_getElem? (i := 319) (by decide +kernel)) rfl), (zin (List.mem_of_getElem? (i := 320) (by decide +kernel)) rfl)⟩
def xJ0_indexOf_0f7a4 : zX := (RJ0, cJ0_indexOf_0f7a4, 2, zrm 4 0 0, (some .int), false)
theorem mJ0_indexOf_0f7a4 : zCV yJ0_indexOf_0f7a4 xJ0_indexOf_0f7a4 1 := ⟨⟨(zin (List.mem_of_getElem? (i := 415) (by decide +kernel)) rfl), ncJ0, ⟨by decide +kernel, by decide +kernel⟩, by decide +kernel⟩, (zin (List.mem_of_getElem? (i := 413) (by decide +kernel)) rfl), (zin (List.mem_of_getElem? (i := 414) (by decide +kernel)) rfl)⟩
def xJ0_indexOf_7cf53 : zX := (RJ0, cJ0_indexOf_7cf53, 3, zrm 3 0 0, (some .int), false)
theorem mJ0_indexOf_7cf53 : zCV yJ0_indexOf_7cf53 xJ0_indexOf_7cf53 2 := ⟨⟨(zin (List.mem_of_getElem? (i := 419) (by decide +kernel)) rfl), ncJ0, ⟨by decide +kernel, by decide +kernel⟩, by decide +kernel⟩, (zin (List.mem_of_getElem? (i := 417) (by decide +kernel)) rfl), (zin (List.mem_of_getElem? (i := 418) (by decide +kernel)) rfl)⟩
def xJ0_coder_7d493 : zX := (RJ0, cJ0_coder_7d493, 1, zrm 1 0 0, (some .byte), false)
theorem mJ0_coder_7d493 : zCV yJ0_coder_7d493 xJ0_coder_7d493 0 := ⟨⟨(zin (List.mem_of_getElem? (i := 315) (by decide +kernel)) rfl), ncJ0, ⟨by decide +kernel, by decide +kernel⟩, by decide +kernel⟩, (zin (List.mem_of_getElem? (i := 313) (by decide +kernel)) rfl), (zin (List.mem_of_getElem? (i := 314) (by decide +kernel)) rfl)⟩
def xJ0_isLatin1_aae02 : zX := (RJ0, cJ0_isLatin1_aae02, 1, zrm 1 0 0, (some .boolean), false)
theorem mJ0_isLatin1_aae02 : zCV yJ0_isLatin1_aae02 xJ0_isLatin1_aae02 0 := ⟨⟨(zin (List.mem_of_getElem? (i := 325) (by decide +kernel)) rfl), ncJ0, ⟨by decide +kernel, by decide +kernel⟩, by decide +kernel⟩, (zin (List.mem_of_getElem? (i := 323) (by decide +kernel)) rfl), (zin (List.mem_of_getElem? (i := 324) (by decide +kernel)) rfl)⟩
def xJ0_checkIndex_df160 : zX := (RJ0, cJ0_checkIndex_df160, 2, zrm 2 0 0, none, false)
theorem mJ0_checkIndex_df160 : zCS yJ0_checkIndex_df160 xJ0_checkIndex_df160 2 := ⟨⟨(zin (List.mem_of_getElem? (i := 331) (by decide +kernel)) rfl), ncJ0, ⟨by decide +kernel, by decide +kernel⟩, by decide +kernel⟩, (zin (List.mem_of_getElem? (i := 330) (by decide +kernel)) rfl)⟩
def xJ1_charAt_3b067 : zX := (RJ1, cJ1_charAt_3b067, 2, zrm 3 0 0, (some .char), false)
theorem mJ1_charAt_3b067 : zCS yJ1_charAt_3b067 xJ1_charAt_3b067 2 := ⟨⟨(zin (List.mem_of_getElem? (i := 328) (by decide +kernel)) rfl), ncJ1, ⟨by decide +kernel, by decide +kernel⟩, by decide +kernel⟩, (zin (List.mem_of_getElem? (i := 327) (by decide +kernel)) rfl)⟩
def xJ1_canEncode_9a6ad : zX := (RJ1, cJ1_canEncode_9a6ad, 1, zrm 1 0 0, (some .boolean), false)
theorem mJ1_canEncode_9a6ad : zCS yJ1_canEncode_9a6ad xJ1_canEncode_9a6ad 1 := ⟨⟨(zin (List.mem_of_getElem? (i := 426) (by decide +kernel)) rfl), ncJ1, ⟨by decide +kernel, by decide +kernel⟩, by decide +kernel⟩, (zin (List.mem_of_getElem? (i := 425) (by decide +kernel)) rfl)⟩
def xJ1_indexOf_4cfef : zX := (RJ1, cJ1_indexOf_4cfef, 4, zrm 2 0 0, (some .int), false)
theorem mJ1_indexOf_4cfef : zCS yJ1_indexOf_4cfef xJ1_indexOf_4cfef 4 := ⟨⟨(zin (List.mem_of_getElem? (i := 423) (by decide +kernel)) rfl), ncJ1, ⟨by decide +kernel, by decide +kernel⟩, by decide +kernel⟩, (zin (List.mem_of_getElem? (i := 422) (by decide +kernel)) rfl)⟩
def xJ1_indexOfChar_4cfef : zX := (RJ1, cJ1_indexOfChar_4cfef, 6, zrm 1 0 0, (some .int), false)
theorem mJ1_indexOfChar_4cfef : zCS yJ1_indexOfChar_4cfef xJ1_indexOfChar_4cfef 4 := ⟨⟨(zin (List.mem_of_getElem? (i := 435) (by decide +kernel)) rfl), ncJ1, ⟨by decide +kernel, by decide +kernel⟩, by decide +kernel⟩, (zin (List.mem_of_getElem? (i := 434) (by decide +kernel)) rfl)⟩
def xJ3_checkIndex_8e157 : zX := (RJ3, cJ3_checkIndex_8e157, 3, zrm 1 0 0, (some .int), false)
theorem mJ3_checkIndex_8e157 : zCS yJ3_checkIndex_8e157 xJ3_checkIndex_8e157 3 := ⟨⟨(zin (List.mem_of_getElem? (i := 336) (by decide +kernel)) rfl), ncJ3, ⟨by decide +kernel, by decide +kernel⟩, by decide +kernel⟩, (zin (List.mem_of_getElem? (i := 335) (by decide +kernel)) rfl)⟩
theorem klJ0_335 : Cond.methodLink RJ0 335 yJ0_coder_7d493 ∈ zTb := (zin (List.mem_of_getElem? (i := 312) (by decide +kernel)) rfl)
theorem klJ0_492 : Cond.methodLink RJ0 492 yJ0_isLatin1_aae02 ∈ zTb := (zin (List.mem_of_getElem? (i := 322) (by decide +kernel)) rfl)
theorem klJ0_495 : Cond.methodLink RJ0 495 yJ1_charAt_3b067 ∈ zTb := (zin (List.mem_of_getElem? (i := 326) (by decide +kernel)) rfl)
theorem klJ0_505 : Cond.methodLink RJ0 505 yJ0_length_8abf5 ∈ zTb := (zin (List.mem_of_getElem? (i := 420) (by decide +kernel)) rfl)
theorem klJ0_633 : Cond.methodLink RJ0 633 yJ0_indexOf_7cf53 ∈ zTb := (zin (List.mem_of_getElem? (i := 416) (by decide +kernel)) rfl)
theorem klJ0_637 : Cond.methodLink RJ0 637 yJ1_indexOf_4cfef ∈ zTb := (zin (List.mem_of_getElem? (i := 421) (by decide +kernel)) rfl)
theorem klJ0_1059 : Cond.methodLink RJ0 1059 yJ3_checkIndex_8e157 ∈ zTb := (zin (List.mem_of_getElem? (i := 334) (by decide +kernel)) rfl)
theorem klJ1_9 : Cond.methodLink RJ1 9 yJ0_checkIndex_df160 ∈ zTb := (zin (List.mem_of_getElem? (i := 329) (by decide +kernel)) rfl)
theorem klJ1_38 : Cond.methodLink RJ1 38 (⟨"java/lang/Math", "min", "(II)I"⟩ : MethodName) ∈ zTb := (zin (List.mem_of_getElem? (i := 430) (by decide +kernel)) rfl)
theorem klJ1_88 : Cond.methodLink RJ1 88 yJ1_canEncode_9a6ad ∈ zTb := (zin (List.mem_of_getElem? (i := 424) (by decide +kernel)) rfl)
theorem klJ1_92 : Cond.methodLink RJ1 92 (⟨"java/lang/Math", "max", "(II)I"⟩ : MethodName) ∈ zTb := (zin (List.mem_of_getElem? (i := 427) (by decide +kernel)) rfl)
theorem klJ1_95 : Cond.methodLink RJ1 95 yJ1_indexOfChar_4cfef ∈ zTb := (zin (List.mem_of_getElem? (i := 433) (by decide +kernel)) rfl)
theorem flJ0_9 : Cond.fieldLink RJ0 9 "java/lang/String" "value" "[B" ∈ zTb := (zin (List.mem_of_getElem? (i := 1635) (by decide +kernel)) rfl)
theorem flJ0_15 : Cond.fieldLink RJ0 15 "java/lang/String" "coder" "B" ∈ zTb := (zin (List.mem_of_getElem? (i := 1636) (by decide +kernel)) rfl)
theorem flJ0_38 : Cond.fieldLink RJ0 38 "java/lang/String" "COMPACT_STRINGS" "Z" ∈ zTb := (zin (List.mem_of_getElem? (i := 316) (by decide +kernel)) rfl)
theorem flJ0_1053 : Cond.fieldLink RJ0 1053 "jdk/internal/util/Preconditions" "SIOOBE_FORMATTER" "Ljava/util/function/BiFunction;" ∈ zTb := (zin (List.mem_of_getElem? (i := 332) (by decide +kernel)) rfl)
/-- byte j of text i -/
def zby (i j : Nat) : Int := ((bytJS.getD i []).getD j 0).toInt
def zln (i : Nat) : Int := (lenJS.getD i 0 : Nat)
theorem zby_o (i j : Nat) : Int32.ofInt (zby i j) = (bytJS.getD i []).getD j 0 := Int32.ofInt_toInt _
theorem zby_r : ∀ i, i < 14 → ∀ j, j < lenJS.getD i 0 → 0 ≤ zby i j ∧ zby i j ≤ 127 := by decide +kernel
theorem zln_r : ∀ i, i < 14 → 2 ≤ zln i ∧ zln i ≤ 43 := by decide +kernel
theorem zAd_x (g : zG) (k : Nat) : zAd g (1000000 + (k : Int)) = g.2.2.2.2 k := by
  unfold zAd
  rw [if_neg (by omega), show (1000000 + (k : Int)).toNat - 1000000 = k by omega]
theorem zT_x (g : zG) (k : Nat) : zT g (zr (1000000 + (k : Int))) = .ref (g.2.2.2.2 k) := by
  rw [zT_r g (by omega), zAd_x]
theorem zT_y (g : zG) (k : Nat) : zT g (zr (1000100 + (k : Int))) = .ref (g.2.2.2.2 (100 + k)) := by
  rw [show (1000100 : Int) + (k : Int) = 1000000 + ((100 + k : Nat) : Int) by omega, zT_x]
theorem z255 : ∀ n, n < 128 → nI n &&& Int32.ofInt 255 = nI n := by decide +kernel
theorem z255i {z : Int} (h : 0 ≤ z ∧ z ≤ 127) : Int32.ofInt z &&& Int32.ofInt 255 = Int32.ofInt z := by
  rw [zo_n h.1]
  exact z255 _ (by omega)
theorem zi2c {z : Int} (h : 0 ≤ z ∧ z ≤ 65535) : ((Int32.ofInt z).toUInt32 % 65536).toInt32 = Int32.ofInt z := by
  rw [zo_n h.1, pk_char, pk_tn (by omega), Nat.mod_eq_of_lt (by omega)]
theorem zi2b0 : ∀ n, n < 256 → (nI n).toInt8.toInt32 = Int32.ofInt (if n < 128 then (n : Int) else n - 256) := by decide +kernel
theorem zi2b {z : Int} (h : 0 ≤ z ∧ z ≤ 255) : (Int32.ofInt z).toInt8.toInt32 = Int32.ofInt (if z < 128 then z else z - 256) := by
  have h1 := zi2b0 z.toNat (by omega)
  rw [← zo_n h.1, Int.toNat_of_nonneg h.1] at h1
  rw [h1]
  by_cases q : z < 128
  · rw [if_pos q, if_pos (by omega)]
  · rw [if_neg q, if_neg (by omega)]
section
variable {g : zG} {X : zX} {P : zP} {pc : Nat} {ls st : List zv} {N : Nat} {M : zM} {kc ks : Nat}
theorem zV_ldcS {index : Nat} (i : Nat) (hd : decode X.cc pc = .ok (.ldc index, 2)) (hi : i < 14) (ho : ownJS.getD i "" = X.own) (hx : idxJS.getD i 0 = index) (k : zV g X P (pc + 2) ls (zr (1000000 + (i : Int)) :: st) N M kc ks) : zV g X P pc ls st N M kc ks := by
  intro p e s m args below meth c H locs Q la F hl L R S E
  have k : W p g.1 e X.rm s m args below meth c H locs kc ks Q (F0 m (pc + 2) la (zT g (zr (1000000 + (i : Int))) :: st.map (zT g))) := k p e s m args below meth c H locs Q la F hl L R S E
  rw [zT_x] at k
  have hZ := F.2.2.2.2.2.1.2.1 i hi
  rw [ho, hx] at hZ
  exact va_ldcS F.1 F.2.1 F.2.2.2.1 hZ hd k
theorem zV_getSv {index i : Nat} (hd : decode X.cc pc = .ok (.getfield index, 3)) (hl : Cond.fieldLink X.own index "java/lang/String" "value" "[B" ∈ zTb) (hi : i < 14) (k : zV g X P (pc + 3) ls (zr (1000100 + (i : Int)) :: st) N M kc ks) : zV g X P pc ls (zr (1000000 + (i : Int)) :: st) N M kc ks := by
  intro p e s m args below meth c H locs Q la F hlen L R S E
  have k : W p g.1 e X.rm s m args below meth c H locs kc ks Q (F0 m (pc + 3) la (zT g (zr (1000100 + (i : Int))) :: st.map (zT g))) := k p e s m args below meth c H locs Q la F hlen L R S E
  rw [zT_y] at k
  rw [List.map_cons, zT_x]
  exact vk_getf F.1 F.2.1 (F.2.2.2.2.2.1.1.1 i hi).2.2.1 S F.2.2.2.1 (F.2.2.2.2.1 _ hl) (fun _ h => h) hd k
theorem zV_getSc {index i : Nat} (hd : decode X.cc pc = .ok (.getfield index, 3)) (hl : Cond.fieldLink X.own index "java/lang/String" "coder" "B" ∈ zTb) (hi : i < 14) (k : zV g X P (pc + 3) ls (zi 0 :: st) N M kc ks) : zV g X P pc ls (zr (1000000 + (i : Int)) :: st) N M kc ks := by
  intro p e s m args below meth c H locs Q la F hlen L R S E
  have k : W p g.1 e X.rm s m args below meth c H locs kc ks Q (F0 m (pc + 3) la (.int 0 :: st.map (zT g))) := k p e s m args below meth c H locs Q la F hlen L R S E
  rw [List.map_cons, zT_x]
  exact vk_getf F.1 F.2.1 (F.2.2.2.2.2.1.1.1 i hi).2.1 S F.2.2.2.1 (F.2.2.2.2.1 _ hl) (fun _ h => h) hd k
theorem zV_alenS {i : Nat} (hd : decode X.cc pc = .ok (.arraylength, 1)) (hi : i < 14) (k : zV g X P (pc + 1) ls (zi (zln i) :: st) N M kc ks) : zV g X P pc ls (zr (1000100 + (i : Int)) :: st) N M kc ks := by
  intro p e s m args below meth c H locs Q la F hlen L R S E
  have k : W p g.1 e X.rm s m args below meth c H locs kc ks Q (F0 m (pc + 1) la (.int (Int32.ofInt (zln i)) :: st.map (zT g))) := k p e s m args below meth c H locs Q la F hlen L R S E
  rw [List.map_cons, zT_y]
  exact va_tlen F.1 F.2.1 (F.2.2.2.2.2.1.1.1 i hi).2.2.2 S Int32.ofInt_eq_ofNat.symm hd k
theorem zV_baldS {i j : Nat} (hd : decode X.cc pc = .ok (.baload, 1)) (hi : i < 14) (hj : j < lenJS.getD i 0) (k : zV g X P (pc + 1) ls (zi (zby i j) :: st) N M kc ks) : zV g X P pc ls (zi (j : Int) :: zr (1000100 + (i : Int)) :: st) N M kc ks := by
  intro p e s m args below meth c H locs Q la F hlen L R S E
  have k : W p g.1 e X.rm s m args below meth c H locs kc ks Q (F0 m (pc + 1) la (.int (Int32.ofInt (zby i j)) :: st.map (zT g))) := k p e s m args below meth c H locs Q la F hlen L R S E
  rw [List.map_cons, List.map_cons, zT_y]
  have hr := zln_r i hi
  unfold zln at hr
  have hz := zix (i := (j : Int)) (n := lenJS.getD i 0) ⟨by omega, by omega⟩ (by omega)
  refine va_tb (v := .int (Int32.ofInt (zby i j))) F.1 F.2.1 (F.2.2.2.2.2.1.1.1 i hi).2.2.2 S ?_ ?_ hd k
  · exact hz.2
  · show Value.int ((bytJS.getD i []).getD (Int32.ofInt (j : Int)).toNatClampNeg 0) = _
    rw [hz.1, Int.toNat_natCast, zby_o]
theorem zV_getsC {index : Nat} (hd : decode X.cc pc = .ok (.getstatic index, 3)) (hl : Cond.fieldLink X.own index "java/lang/String" "COMPACT_STRINGS" "Z" ∈ zTb) (k : zV g X P (pc + 3) ls (zi 1 :: st) N M kc ks) : zV g X P pc ls st N M kc ks := by
  intro p e s m args below meth c H locs Q la F hlen L R S E
  have k : W p g.1 e X.rm s m args below meth c H locs kc ks Q (F0 m (pc + 3) la (.int 1 :: st.map (zT g))) := k p e s m args below meth c H locs Q la F hlen L R S E
  exact va_gets F.1 F.2.1 F.2.2.2.2.2.1.2.2.1 S F.2.2.2.1 (F.2.2.2.2.1 _ hl) (fun _ h => h) hd k
theorem zV_getsQ {index : Nat} (hd : decode X.cc pc = .ok (.getstatic index, 3)) (hl : Cond.fieldLink X.own index "jdk/internal/util/Preconditions" "SIOOBE_FORMATTER" "Ljava/util/function/BiFunction;" ∈ zTb) (k : ∀ z : Int, zV g X P (pc + 3) ls (zr z :: st) N M kc ks) : zV g X P pc ls st N M kc ks := by
  intro p e s m args below meth c H locs Q la F hlen L R S E
  obtain ⟨z, hz, -⟩ := F.2.2.2.2.2.1.2.2.2
  have k : W p g.1 e X.rm s m args below meth c H locs kc ks Q (F0 m (pc + 3) la (zT g (zr z) :: st.map (zT g))) := k z p e s m args below meth c H locs Q la F hlen L R S E
  exact va_gets F.1 F.2.1 hz S F.2.2.2.1 (F.2.2.2.2.1 _ hl) (fun _ h => h) hd k
/-- invokevirtual on a text, a pure one -/
theorem zV_ivS {Y : zX} {y : MethodName} {idx n i : Nat} {As st0 : List zv} (hd : decode X.cc pc = .ok (.invokevirtual idx, 3)) (hl : Cond.methodLink X.own idx y ∈ zTb) (hc : zCV y Y n) (hci : y.cls = "java/lang/String") (hr : zRm0 X Y = true) (hk : kc ≤ X.rm.cells ∧ ks ≤ X.rm.slots) {z : zv} (hK : zK g y Y (zr (1000000 + (i : Int)) :: As) N M (zPp z N M)) (hi : i < 14) (hst : st0 = As.reverse ++ zr (1000000 + (i : Int)) :: st) (hn : As.length = n) (hs : (st.map fun v => if v.1 = 1 then 2 else 1).sum ≤ 8) (k : zV g X P (pc + 3) ls (z :: st) N M kc ks) : zV g X P pc ls st0 N M kc ks := by
  subst hst
  obtain ⟨h1, h2, h3⟩ := zRm0.rm hr hk
  intro p e s m args below meth c H locs Q la F hlen L R S E
  have e1 : (((zr (1000000 + (i : Int)) :: As).map (zT g)).toArray) = (Value.ref (g.2.2.2.2 i) :: As.map (zT g)).toArray := by rw [List.map_cons, zT_x]
  have hpre := zpre (As := zr (1000000 + (i : Int)) :: As) F R S
  rw [e1] at hpre
  rw [zstk (a := 0) (b := 0), zT_x]
  exact zgo (st0 := []) (va_runV (As := As.map (zT g)) (rest := st.map (zT g)) (C := y.cls) ⟨F.1, F.2.1, F.2.2.1, F.2.2.2.1, F.2.2.2.2.1⟩ hK ⟨zcallB F hc.1 h1 hl, F.2.2.2.2.1 _ hc.2.1, F.2.2.2.2.1 _ hc.2.2⟩ ⟨zblind, by rw [hci]; exact vk_recv F.2.2.2.2.2.1.1 hi S, hpre⟩ rfl (by rw [List.length_map]; exact hn) (L.1.trans hlen) rfl (lv_room (zcat g st hs)) hd ⟨h1.2.2.1, h1.2.2.2⟩) S
    (fun v N' M' H1 locs1 hp hR hS1 => by
      obtain ⟨rfl, rfl, rfl⟩ := hp
      rw [h2, h3]
      exact k p e s m args below meth c H1 locs1 Q la F hlen L hR hS1 E)
end
section
variable {g : zG} {N : Nat} {M : zM}
set_option maxRecDepth 20000 in
set_option maxHeartbeats 2000000 in
theorem kJ0_coder {i : Nat} (hi : i < 14) : zK g yJ0_coder_7d493 xJ0_coder_7d493 [zr (1000000 + (i : Int))] N M (zPp (zi 0) N M) := by
  refine zK_of (ls0 := [zr (1000000 + (i : Int))]) (by decide) rfl (by decide) rfl (Nat.le_of_ble_eq_true rfl) ?_
  refine zV_getsC (pc := 0) dJ0_coder_7d493_0 flJ0_38 ?_
  refine zV_if_eq (pc := 3) (tgt := 13) dJ0_coder_7d493_3 (by decide) (by omega) (fun c_3 => absurd c_3 (by decide)) (fun c_3 => ?_)
  refine zV_aload_n (pc := 6) (i := 0) dJ0_coder_7d493_6 rfl rfl ?_
  refine zV_getSc (pc := 7) dJ0_coder_7d493_7 flJ0_15 hi ?_
  refine zV_goto (pc := 10) (tgt := 14) dJ0_coder_7d493_10 (by decide) ?_
  refine zV_iret (pc := 14) dJ0_coder_7d493_14 rfl ⟨Nat.zero_le _, Nat.zero_le _⟩ ?_
  exact ⟨rfl, rfl, rfl⟩
set_option maxRecDepth 20000 in
set_option maxHeartbeats 2000000 in
theorem kJ0_isLatin1 {i : Nat} (hi : i < 14) : zK g yJ0_isLatin1_aae02 xJ0_isLatin1_aae02 [zr (1000000 + (i : Int))] N M (zPp (zi 1) N M) := by
  refine zK_of (ls0 := [zr (1000000 + (i : Int))]) (by decide) rfl (by decide) rfl (Nat.le_of_ble_eq_true rfl) ?_
  refine zV_getsC (pc := 0) dJ0_isLatin1_aae02_0 flJ0_38 ?_
  refine zV_if_eq (pc := 3) (tgt := 17) dJ0_isLatin1_aae02_3 (by decide) (by omega) (fun c_3 => absurd c_3 (by decide)) (fun c_3 => ?_)
  refine zV_aload_n (pc := 6) (i := 0) dJ0_isLatin1_aae02_6 rfl rfl ?_
  refine zV_getSc (pc := 7) dJ0_isLatin1_aae02_7 flJ0_15 hi ?_
  refine zV_if_ne (pc := 10) (tgt := 17) dJ0_isLatin1_aae02_10 (by decide) (by omega) (fun c_10 => absurd c_10 (by decide)) (fun c_10 => ?_)
  refine zV_iconst (pc := 13) dJ0_isLatin1_aae02_13 ?_
  refine zV_goto (pc := 14) (tgt := 18) dJ0_isLatin1_aae02_14 (by decide) ?_
  refine zV_iret (pc := 18) dJ0_isLatin1_aae02_18 zok_b1 ⟨Nat.zero_le _, Nat.zero_le _⟩ ?_
  exact ⟨rfl, rfl, rfl⟩
set_option maxRecDepth 20000 in
set_option maxHeartbeats 2000000 in
theorem kJ0_length {i : Nat} (hi : i < 14) : zK g yJ0_length_8abf5 xJ0_length_8abf5 [zr (1000000 + (i : Int))] N M (zPp (zi (zln i)) N M) := by
  refine zK_of (ls0 := [zr (1000000 + (i : Int))]) (by decide) rfl (by decide) rfl (Nat.le_of_ble_eq_true rfl) ?_
  refine zV_aload_n (pc := 0) (i := 0) dJ0_length_8abf5_0 rfl rfl ?_
  refine zV_getSv (pc := 1) dJ0_length_8abf5_1 flJ0_9 hi ?_
  refine zV_alenS (pc := 4) dJ0_length_8abf5_4 hi ?_
  refine zV_aload_n (pc := 5) (i := 0) dJ0_length_8abf5_5 rfl rfl ?_
  refine zV_ivS (pc := 6) dJ0_length_8abf5_6 klJ0_335 mJ0_coder_7d493 rfl rfl ⟨Nat.zero_le _, Nat.zero_le _⟩ (kJ0_coder hi) hi rfl rfl (Nat.le_of_ble_eq_true rfl) ?_
  refine zV_ishr (pc := 9) dJ0_length_8abf5_9 (z_shr (by have := zln_r i hi; omega) (by omega) rfl) ?_
  refine zV_iret (pc := 10) dJ0_length_8abf5_10 trivial ⟨Nat.zero_le _, Nat.zero_le _⟩ ?_
  exact zPe (Int.ediv_one _)
set_option maxRecDepth 20000 in
set_option maxHeartbeats 2000000 in
theorem kJ3_checkIndex {x y z : Int} (h : 0 ≤ x ∧ x < y ∧ y ≤ 1000) : zK g yJ3_checkIndex_8e157 xJ3_checkIndex_8e157 [zi x, zi y, zr z] N M (zPp (zi x) N M) := by
  refine zK_of (ls0 := [zi x, zi y, zr z]) (by decide) rfl (by decide) rfl (Nat.le_of_ble_eq_true rfl) ?_
  refine zV_iload_n (pc := 0) (i := 0) dJ3_checkIndex_8e157_0 rfl rfl ?_
  refine zV_if_lt (pc := 1) (tgt := 9) dJ3_checkIndex_8e157_1 (by decide) (by omega) (fun c_1 => absurd c_1 (by omega)) (fun c_1 => ?_)
  refine zV_iload_n (pc := 4) (i := 0) dJ3_checkIndex_8e157_4 rfl rfl ?_
  refine zV_iload_n (pc := 5) (i := 1) dJ3_checkIndex_8e157_5 rfl rfl ?_
  refine zV_icmp_lt (pc := 6) (tgt := 16) dJ3_checkIndex_8e157_6 (by decide) (by omega) (fun c_6 => ?_) (fun c_6 => absurd (by omega) c_6)
  refine zV_iload_n (pc := 16) (i := 0) dJ3_checkIndex_8e157_16 rfl rfl ?_
  refine zV_iret (pc := 17) dJ3_checkIndex_8e157_17 trivial ⟨Nat.zero_le _, Nat.zero_le _⟩ ?_
  exact zPe rfl
set_option maxRecDepth 20000 in
set_option maxHeartbeats 2000000 in
theorem kJ0_checkIndex {x y : Int} (h : 0 ≤ x ∧ x < y ∧ y ≤ 1000) : zK g yJ0_checkIndex_df160 xJ0_checkIndex_df160 [zi x, zi y] N M (zPn N (fun M1 => M1 = M)) := by
  refine zK_of (ls0 := [zi x, zi y]) (by decide) rfl (by decide) rfl (Nat.le_of_ble_eq_true rfl) ?_
  refine zV_iload_n (pc := 0) (i := 0) dJ0_checkIndex_df160_0 rfl rfl ?_
  refine zV_iload_n (pc := 1) (i := 1) dJ0_checkIndex_df160_1 rfl rfl ?_
  refine zV_getsQ (pc := 2) dJ0_checkIndex_df160_2 flJ0_1053 (fun z => ?_)
  refine zV_isp (pc := 5) dJ0_checkIndex_df160_5 klJ0_1059 mJ3_checkIndex_8e157 rfl ⟨Nat.zero_le _, Nat.zero_le _⟩ (kJ3_checkIndex h) rfl rfl (Nat.le_of_ble_eq_true rfl) ?_
  refine zV_pop (pc := 8) dJ0_checkIndex_df160_8 (by simp) ?_
  refine zV_vret (pc := 9) dJ0_checkIndex_df160_9 trivial ⟨Nat.zero_le _, Nat.zero_le _⟩ ?_
  exact ⟨rfl, rfl, rfl⟩
set_option maxRecDepth 20000 in
set_option maxHeartbeats 2000000 in
theorem kJ1_charAt {i j : Nat} (hi : i < 14) (hj : j < lenJS.getD i 0) : zK g yJ1_charAt_3b067 xJ1_charAt_3b067 [zr (1000100 + (i : Int)), zi (j : Int)] N M (zPp (zi (zby i j)) N M) := by
  refine zK_of (ls0 := [zr (1000100 + (i : Int)), zi (j : Int)]) (by decide) rfl (by decide) rfl (Nat.le_of_ble_eq_true rfl) ?_
  have hb := zby_r i hi j hj
  have hl := zln_r i hi
  have hj2 : (j : Int) < zln i := by unfold zln; omega
  refine zV_iload_n (pc := 0) (i := 1) dJ1_charAt_3b067_0 rfl rfl ?_
  refine zV_aload_n (pc := 1) (i := 0) dJ1_charAt_3b067_1 rfl rfl ?_
  refine zV_alenS (pc := 2) dJ1_charAt_3b067_2 hi ?_
  refine zV_isn (pc := 3) dJ1_charAt_3b067_3 klJ1_9 mJ0_checkIndex_df160 rfl ⟨Nat.zero_le _, Nat.zero_le _⟩ (kJ0_checkIndex (by omega)) rfl rfl (Nat.le_of_ble_eq_true rfl) (fun M1 e1 => ?_)
  subst e1
  refine zV_aload_n (pc := 6) (i := 0) dJ1_charAt_3b067_6 rfl rfl ?_
  refine zV_iload_n (pc := 7) (i := 1) dJ1_charAt_3b067_7 rfl rfl ?_
  refine zV_baldS (pc := 8) dJ1_charAt_3b067_8 hi hj ?_
  refine zV_sipush (pc := 9) dJ1_charAt_3b067_9 (by decide) ?_
  refine zV_iand (pc := 12) dJ1_charAt_3b067_12 (z255i hb) ?_
  refine zV_i2c (pc := 13) dJ1_charAt_3b067_13 (zi2c (by omega)) ?_
  refine zV_iret (pc := 14) dJ1_charAt_3b067_14 (show 0 ≤ zby i j ∧ zby i j ≤ 65535 by omega) ⟨Nat.zero_le _, Nat.zero_le _⟩ ?_
  exact ⟨rfl, rfl, rfl⟩
set_option maxRecDepth 20000 in
set_option maxHeartbeats 2000000 in
theorem kJ0_charAt {i j : Nat} (hi : i < 14) (hj : j < lenJS.getD i 0) : zK g yJ0_charAt_5068e xJ0_charAt_5068e [zr (1000000 + (i : Int)), zi (j : Int)] N M (zPp (zi (zby i j)) N M) := by
  refine zK_of (ls0 := [zr (1000000 + (i : Int)), zi (j : Int)]) (by decide) rfl (by decide) rfl (Nat.le_of_ble_eq_true rfl) ?_
  have hb := zby_r i hi j hj
  have hl := zln_r i hi
  have hj2 : (j : Int) < zln i := by unfold zln; omega
  refine zV_aload_n (pc := 0) (i := 0) dJ0_charAt_5068e_0 rfl rfl ?_
  refine zV_ivS (pc := 1) dJ0_charAt_5068e_1 klJ0_492 mJ0_isLatin1_aae02 rfl rfl ⟨Nat.zero_le _, Nat.zero_le _⟩ (kJ0_isLatin1 hi) hi rfl rfl (Nat.le_of_ble_eq_true rfl) ?_
  refine zV_if_eq (pc := 4) (tgt := 16) dJ0_charAt_5068e_4 (by decide) (by omega) (fun c_4 => absurd c_4 (by decide)) (fun c_4 => ?_)
  refine zV_aload_n (pc := 7) (i := 0) dJ0_charAt_5068e_7 rfl rfl ?_
  refine zV_getSv (pc := 8) dJ0_charAt_5068e_8 flJ0_9 hi ?_
  refine zV_iload_n (pc := 11) (i := 1) dJ0_charAt_5068e_11 rfl rfl ?_
  refine zV_isp (pc := 12) dJ0_charAt_5068e_12 klJ0_495 mJ1_charAt_3b067 rfl ⟨Nat.zero_le _, Nat.zero_le _⟩ (kJ1_charAt hi hj) rfl rfl (Nat.le_of_ble_eq_true rfl) ?_
  refine zV_iret (pc := 15) dJ0_charAt_5068e_15 (show 0 ≤ zby i j ∧ zby i j ≤ 65535 by omega) ⟨Nat.zero_le _, Nat.zero_le _⟩ ?_
  exact ⟨rfl, rfl, rfl⟩
set_option maxRecDepth 20000 in
set_option maxHeartbeats 2000000 in
theorem kJ1_canEncode {x : Int} (h : 0 ≤ x ∧ x ≤ 255) : zK g yJ1_canEncode_9a6ad xJ1_canEncode_9a6ad [zi x] N M (zPp (zi 1) N M) := by
  refine zK_of (ls0 := [zi x]) (by decide) rfl (by decide) rfl (Nat.le_of_ble_eq_true rfl) ?_
  refine zV_iload_n (pc := 0) (i := 0) dJ1_canEncode_9a6ad_0 rfl rfl ?_
  refine zV_if_lt (pc := 1) (tgt := 15) dJ1_canEncode_9a6ad_1 (by decide) (by omega) (fun c_1 => absurd c_1 (by omega)) (fun c_1 => ?_)
  refine zV_iload_n (pc := 4) (i := 0) dJ1_canEncode_9a6ad_4 rfl rfl ?_
  refine zV_sipush (pc := 5) dJ1_canEncode_9a6ad_5 (by decide) ?_
  refine zV_icmp_gt (pc := 8) (tgt := 15) dJ1_canEncode_9a6ad_8 (by decide) (by omega) (fun c_8 => absurd c_8 (by omega)) (fun c_8 => ?_)
  refine zV_iconst (pc := 11) dJ1_canEncode_9a6ad_11 ?_
  refine zV_goto (pc := 12) (tgt := 16) dJ1_canEncode_9a6ad_12 (by decide) ?_
  refine zV_iret (pc := 16) dJ1_canEncode_9a6ad_16 (by first | exact zok_b1 | exact zok_b0 | exact zok_b) ⟨Nat.zero_le _, Nat.zero_le _⟩ ?_
  exact zPe rfl
/-- the first place of x in text i, from j on -/
def zix2 (i : Nat) (x : Int) : Int → Nat → Int
  | _, 0 => -1
  | j, k + 1 => if zby i j.toNat = x then j else zix2 i x (j + 1) k
theorem zix2_t {i j k : Nat} {x : Int} (h : zby i j = x) : zix2 i x (j : Int) (k + 1) = (j : Int) := by
  show (if zby i ((j : Int)).toNat = x then (j : Int) else _) = _
  rw [Int.toNat_natCast, if_pos h]
theorem zix2_f {i j k : Nat} {x : Int} (h : ¬ zby i j = x) : zix2 i x (j : Int) (k + 1) = zix2 i x ((j + 1 : Nat) : Int) k := by
  show (if zby i ((j : Int)).toNat = x then (j : Int) else _) = _
  rw [Int.toNat_natCast, if_neg h]
  rfl
theorem zb127 {i : Nat} {x : Int} (hx : 0 ≤ x ∧ x ≤ 255) {b : Int} (hb : 0 ≤ b ∧ b ≤ 127) : (b = if x < 128 then x else x - 256) ↔ b = x := by
  by_cases h : x < 128
  · rw [if_pos h]
  · rw [if_neg h]
    omega
set_option maxRecDepth 20000 in
set_option maxHeartbeats 2000000 in
theorem kJ1_ioL {i : Nat} (hi : i < 14) {x : Int} (hx : 0 ≤ x ∧ x ≤ 255) : ∀ (k : Nat) (j : Nat), j + k = lenJS.getD i 0 → zix2 i x (j : Int) k = zix2 i x 0 (lenJS.getD i 0) → zV g xJ1_indexOfChar_4cfef (zPp (zi (zix2 i x 0 (lenJS.getD i 0))) N M) 7 [zr (1000100 + (i : Int)), zi x, zi 0, zi (zln i), zi (if x < 128 then x else x - 256), zi (j : Int)] [] N M 0 0 := by
  intro k
  induction k with
  | zero =>
    intro j h0 h1
    have hl := zln_r i hi
    have hln : zln i = (lenJS.getD i 0 : Nat) := rfl
    have hq : -128 ≤ (if x < 128 then x else x - 256) ∧ (if x < 128 then x else x - 256) ≤ 127 := by split <;> omega
    refine zV_iload (pc := 7) dJ1_indexOfChar_4cfef_7 rfl ?_
    refine zV_iload_n (pc := 9) (i := 3) dJ1_indexOfChar_4cfef_9 rfl rfl ?_
    refine zV_icmp_ge (pc := 10) (tgt := 31) dJ1_indexOfChar_4cfef_10 (by decide) (by omega) (fun c_10 => ?_) (fun c_10 => absurd (by omega) c_10)
    refine zV_iconst (pc := 31) dJ1_indexOfChar_4cfef_31 ?_
    refine zV_iret (pc := 32) dJ1_indexOfChar_4cfef_32 trivial ⟨Nat.zero_le _, Nat.zero_le _⟩ ?_
    exact zPe (by rw [← h1]; rfl)
  | succ k ih =>
    intro j h0 h1
    have hl := zln_r i hi
    have hln : zln i = (lenJS.getD i 0 : Nat) := rfl
    have hq : -128 ≤ (if x < 128 then x else x - 256) ∧ (if x < 128 then x else x - 256) ≤ 127 := by split <;> omega
    refine zV_iload (pc := 7) dJ1_indexOfChar_4cfef_7 rfl ?_
    refine zV_iload_n (pc := 9) (i := 3) dJ1_indexOfChar_4cfef_9 rfl rfl ?_
    refine zV_icmp_ge (pc := 10) (tgt := 31) dJ1_indexOfChar_4cfef_10 (by decide) (by omega) (fun c_10 => absurd c_10 (by omega)) (fun c_10 => ?_)
    refine zV_aload_n (pc := 13) (i := 0) dJ1_indexOfChar_4cfef_13 rfl rfl ?_
    refine zV_iload (pc := 14) dJ1_indexOfChar_4cfef_14 rfl ?_
    refine zV_baldS (pc := 16) dJ1_indexOfChar_4cfef_16 (j := j) hi (by omega) ?_
    refine zV_iload (pc := 17) dJ1_indexOfChar_4cfef_17 rfl ?_
    have hb := zby_r i hi j (by omega)
    refine zV_icmp_ne (pc := 19) (tgt := 25) dJ1_indexOfChar_4cfef_19 (by decide) (by omega) (fun c_19 => ?_) (fun c_19 => ?_)
    · refine zV_iinc (pc := 25) dJ1_indexOfChar_4cfef_25 rfl rfl ?_
      try dsimp only [List.set_cons_succ, List.set_cons_zero]
      refine zV_goto (pc := 28) (tgt := 7) dJ1_indexOfChar_4cfef_28 (by decide) ?_
      exact ih (j + 1) (by omega) ((zix2_f (fun q => c_19 ((zb127 (i := i) hx hb).mpr q))).symm.trans h1)
    · refine zV_iload (pc := 22) dJ1_indexOfChar_4cfef_22 rfl ?_
      refine zV_iret (pc := 24) dJ1_indexOfChar_4cfef_24 trivial ⟨Nat.zero_le _, Nat.zero_le _⟩ ?_
      exact zPe ((zix2_t ((zb127 (i := i) hx hb).mp c_19)).symm.trans h1)
set_option maxRecDepth 20000 in
set_option maxHeartbeats 2000000 in
theorem kJ1_indexOfChar {i : Nat} (hi : i < 14) {x : Int} (hx : 0 ≤ x ∧ x ≤ 255) : zK g yJ1_indexOfChar_4cfef xJ1_indexOfChar_4cfef [zr (1000100 + (i : Int)), zi x, zi 0, zi (zln i)] N M (zPp (zi (zix2 i x 0 (lenJS.getD i 0))) N M) := by
  refine zK_of (ls0 := [zr (1000100 + (i : Int)), zi x, zi 0, zi (zln i), (3, 0), (3, 0)]) (by decide) rfl (by decide) rfl (Nat.le_of_ble_eq_true rfl) ?_
  refine zV_iload_n (pc := 0) (i := 1) dJ1_indexOfChar_4cfef_0 rfl rfl ?_
  refine zV_i2b (pc := 1) dJ1_indexOfChar_4cfef_1 (zi2b hx) ?_
  refine zV_istore (pc := 2) dJ1_indexOfChar_4cfef_2 rfl ?_
  try dsimp only [List.set_cons_succ, List.set_cons_zero]
  refine zV_iload_n (pc := 4) (i := 2) dJ1_indexOfChar_4cfef_4 rfl rfl ?_
  refine zV_istore (pc := 5) dJ1_indexOfChar_4cfef_5 rfl ?_
  try dsimp only [List.set_cons_succ, List.set_cons_zero]
  exact kJ1_ioL hi hx (lenJS.getD i 0) 0 (by omega) rfl
set_option maxRecDepth 20000 in
set_option maxHeartbeats 2000000 in
theorem kJ1_indexOf {i : Nat} (hi : i < 14) {x : Int} (hx : 0 ≤ x ∧ x ≤ 255) : zK g yJ1_indexOf_4cfef xJ1_indexOf_4cfef [zr (1000100 + (i : Int)), zi x, zi 0, zi (zln i)] N M (zPp (zi (zix2 i x 0 (lenJS.getD i 0))) N M) := by
  refine zK_of (ls0 := [zr (1000100 + (i : Int)), zi x, zi 0, zi (zln i)]) (by decide) rfl (by decide) rfl (Nat.le_of_ble_eq_true rfl) ?_
  have hl := zln_r i hi
  refine zV_iload_n (pc := 0) (i := 1) dJ1_indexOf_4cfef_0 rfl rfl ?_
  refine zV_isp (pc := 1) dJ1_indexOf_4cfef_1 klJ1_88 mJ1_canEncode_9a6ad rfl ⟨Nat.zero_le _, Nat.zero_le _⟩ (kJ1_canEncode hx) rfl rfl (Nat.le_of_ble_eq_true rfl) ?_
  refine zV_if_ne (pc := 4) (tgt := 9) dJ1_indexOf_4cfef_4 (by decide) (by decide) (fun _ => ?_) (fun e => absurd e (by decide))
  refine zV_iload_n (pc := 9) (i := 2) dJ1_indexOf_4cfef_9 rfl rfl ?_
  refine zV_iconst (pc := 10) dJ1_indexOf_4cfef_10 ?_
  refine zV_mmax (pc := 11) dJ1_indexOf_4cfef_11 klJ1_92 (by omega) ⟨Nat.le_of_ble_eq_true rfl, Nat.le_of_ble_eq_true rfl⟩ ⟨Nat.zero_le _, Nat.zero_le _⟩ (Nat.le_of_ble_eq_true rfl) ?_
  rw [Int.max_eq_left (by omega)]
  refine zV_istore_n (pc := 14) (i := 2) dJ1_indexOf_4cfef_14 rfl rfl ?_
  try dsimp only [List.set_cons_succ, List.set_cons_zero]
  refine zV_iload_n (pc := 15) (i := 3) dJ1_indexOf_4cfef_15 rfl rfl ?_
  refine zV_aload_n (pc := 16) (i := 0) dJ1_indexOf_4cfef_16 rfl rfl ?_
  refine zV_alenS (pc := 17) dJ1_indexOf_4cfef_17 hi ?_
  refine zV_mmin (pc := 18) dJ1_indexOf_4cfef_18 klJ1_38 (by omega) ⟨Nat.le_of_ble_eq_true rfl, Nat.le_of_ble_eq_true rfl⟩ ⟨Nat.zero_le _, Nat.zero_le _⟩ (Nat.le_of_ble_eq_true rfl) ?_
  rw [Int.min_eq_left (by omega)]
  refine zV_istore_n (pc := 21) (i := 3) dJ1_indexOf_4cfef_21 rfl rfl ?_
  try dsimp only [List.set_cons_succ, List.set_cons_zero]
  refine zV_iload_n (pc := 22) (i := 2) dJ1_indexOf_4cfef_22 rfl rfl ?_
  refine zV_iload_n (pc := 23) (i := 3) dJ1_indexOf_4cfef_23 rfl rfl ?_
  refine zV_icmp_lt (pc := 24) (tgt := 29) dJ1_indexOf_4cfef_24 (by decide) (by omega) (fun c_24 => ?_) (fun c_24 => absurd (by omega) c_24)
  refine zV_aload_n (pc := 29) (i := 0) dJ1_indexOf_4cfef_29 rfl rfl ?_
  refine zV_iload_n (pc := 30) (i := 1) dJ1_indexOf_4cfef_30 rfl rfl ?_
  refine zV_iload_n (pc := 31) (i := 2) dJ1_indexOf_4cfef_31 rfl rfl ?_
  refine zV_iload_n (pc := 32) (i := 3) dJ1_indexOf_4cfef_32 rfl rfl ?_
  refine zV_isp (pc := 33) dJ1_indexOf_4cfef_33 klJ1_95 mJ1_indexOfChar_4cfef rfl ⟨Nat.zero_le _, Nat.zero_le _⟩ (kJ1_indexOfChar hi hx) rfl rfl (Nat.le_of_ble_eq_true rfl) ?_
  refine zV_iret (pc := 36) dJ1_indexOf_4cfef_36 trivial ⟨Nat.zero_le _, Nat.zero_le _⟩ ?_
  exact zPe rfl
set_option maxRecDepth 20000 in
set_option maxHeartbeats 2000000 in
theorem kJ0_indexOfII {i : Nat} (hi : i < 14) {x : Int} (hx : 0 ≤ x ∧ x ≤ 255) : zK g yJ0_indexOf_7cf53 xJ0_indexOf_7cf53 [zr (1000000 + (i : Int)), zi x, zi 0] N M (zPp (zi (zix2 i x 0 (lenJS.getD i 0))) N M) := by
  refine zK_of (ls0 := [zr (1000000 + (i : Int)), zi x, zi 0]) (by decide) rfl (by decide) rfl (Nat.le_of_ble_eq_true rfl) ?_
  refine zV_aload_n (pc := 0) (i := 0) dJ0_indexOf_7cf53_0 rfl rfl ?_
  refine zV_ivS (pc := 1) dJ0_indexOf_7cf53_1 klJ0_492 mJ0_isLatin1_aae02 rfl rfl ⟨Nat.zero_le _, Nat.zero_le _⟩ (kJ0_isLatin1 hi) hi rfl rfl (Nat.le_of_ble_eq_true rfl) ?_
  refine zV_if_eq (pc := 4) (tgt := 23) dJ0_indexOf_7cf53_4 (by decide) (by omega) (fun c_4 => absurd c_4 (by decide)) (fun c_4 => ?_)
  refine zV_aload_n (pc := 7) (i := 0) dJ0_indexOf_7cf53_7 rfl rfl ?_
  refine zV_getSv (pc := 8) dJ0_indexOf_7cf53_8 flJ0_9 hi ?_
  refine zV_iload_n (pc := 11) (i := 1) dJ0_indexOf_7cf53_11 rfl rfl ?_
  refine zV_iload_n (pc := 12) (i := 2) dJ0_indexOf_7cf53_12 rfl rfl ?_
  refine zV_aload_n (pc := 13) (i := 0) dJ0_indexOf_7cf53_13 rfl rfl ?_
  refine zV_ivS (pc := 14) dJ0_indexOf_7cf53_14 klJ0_505 mJ0_length_8abf5 rfl rfl ⟨Nat.zero_le _, Nat.zero_le _⟩ (kJ0_length hi) hi rfl rfl (Nat.le_of_ble_eq_true rfl) ?_
  refine zV_isp (pc := 17) dJ0_indexOf_7cf53_17 klJ0_637 mJ1_indexOf_4cfef rfl ⟨Nat.zero_le _, Nat.zero_le _⟩ (kJ1_indexOf hi hx) rfl rfl (Nat.le_of_ble_eq_true rfl) ?_
  refine zV_goto (pc := 20) (tgt := 36) dJ0_indexOf_7cf53_20 (by decide) ?_
  refine zV_iret (pc := 36) dJ0_indexOf_7cf53_36 trivial ⟨Nat.zero_le _, Nat.zero_le _⟩ ?_
  exact zPe rfl
set_option maxRecDepth 20000 in
set_option maxHeartbeats 2000000 in
theorem kJ0_indexOf {i : Nat} (hi : i < 14) {x : Int} (hx : 0 ≤ x ∧ x ≤ 255) : zK g yJ0_indexOf_0f7a4 xJ0_indexOf_0f7a4 [zr (1000000 + (i : Int)), zi x] N M (zPp (zi (zix2 i x 0 (lenJS.getD i 0))) N M) := by
  refine zK_of (ls0 := [zr (1000000 + (i : Int)), zi x]) (by decide) rfl (by decide) rfl (Nat.le_of_ble_eq_true rfl) ?_
  refine zV_aload_n (pc := 0) (i := 0) dJ0_indexOf_0f7a4_0 rfl rfl ?_
  refine zV_iload_n (pc := 1) (i := 1) dJ0_indexOf_0f7a4_1 rfl rfl ?_
  refine zV_iconst (pc := 2) dJ0_indexOf_0f7a4_2 ?_
  refine zV_ivS (pc := 3) dJ0_indexOf_0f7a4_3 klJ0_633 mJ0_indexOf_7cf53 rfl rfl ⟨Nat.zero_le _, Nat.zero_le _⟩ (kJ0_indexOfII hi hx) hi rfl rfl (Nat.le_of_ble_eq_true rfl) ?_
  refine zV_iret (pc := 6) dJ0_indexOf_0f7a4_6 trivial ⟨Nat.zero_le _, Nat.zero_le _⟩ ?_
  exact zPe rfl
end
