abbrev mc_JI_numberOfLeadingZeros : ByteArray := prog_6_method_47_code
def my_JI_numberOfLeadingZeros : MethodName := ⟨"java/lang/Integer", "numberOfLeadingZeros", "(I)I"⟩
abbrev mw_JI_numberOfLeadingZeros : List Cond := Cond.code my_JI_numberOfLeadingZeros mc_JI_numberOfLeadingZeros 2 (some .int) :: gw_tbl
theorem md_JI_numberOfLeadingZeros_0 : decode mc_JI_numberOfLeadingZeros 0 = .ok (.iload_n 0, 1) := by decide +kernel
theorem md_JI_numberOfLeadingZeros_1 : decode mc_JI_numberOfLeadingZeros 1 = .ok (.ifCond .gt 14, 3) := by decide +kernel
theorem md_JI_numberOfLeadingZeros_4 : decode mc_JI_numberOfLeadingZeros 4 = .ok (.iload_n 0, 1) := by decide +kernel
theorem md_JI_numberOfLeadingZeros_5 : decode mc_JI_numberOfLeadingZeros 5 = .ok (.ifCond .ne 8, 3) := by decide +kernel
theorem md_JI_numberOfLeadingZeros_8 : decode mc_JI_numberOfLeadingZeros 8 = .ok (.bipush 32, 2) := by decide +kernel
theorem md_JI_numberOfLeadingZeros_10 : decode mc_JI_numberOfLeadingZeros 10 = .ok (.goto 4, 3) := by decide +kernel
theorem md_JI_numberOfLeadingZeros_13 : decode mc_JI_numberOfLeadingZeros 13 = .ok (.iconst 0, 1) := by decide +kernel
theorem md_JI_numberOfLeadingZeros_14 : decode mc_JI_numberOfLeadingZeros 14 = .ok (.ireturn, 1) := by decide +kernel
theorem md_JI_numberOfLeadingZeros_15 : decode mc_JI_numberOfLeadingZeros 15 = .ok (.bipush 31, 2) := by decide +kernel
theorem md_JI_numberOfLeadingZeros_17 : decode mc_JI_numberOfLeadingZeros 17 = .ok (.istore_n 1, 1) := by decide +kernel
theorem md_JI_numberOfLeadingZeros_18 : decode mc_JI_numberOfLeadingZeros 18 = .ok (.iload_n 0, 1) := by decide +kernel
theorem md_JI_numberOfLeadingZeros_19 : decode mc_JI_numberOfLeadingZeros 19 = .ok (.ldc_w 264, 3) := by decide +kernel
theorem md_JI_numberOfLeadingZeros_22 : decode mc_JI_numberOfLeadingZeros 22 = .ok (.if_icmp .lt 11, 3) := by decide +kernel
theorem md_JI_numberOfLeadingZeros_25 : decode mc_JI_numberOfLeadingZeros 25 = .ok (.iinc 1 (-16), 3) := by decide +kernel
theorem md_JI_numberOfLeadingZeros_28 : decode mc_JI_numberOfLeadingZeros 28 = .ok (.iload_n 0, 1) := by decide +kernel
theorem md_JI_numberOfLeadingZeros_29 : decode mc_JI_numberOfLeadingZeros 29 = .ok (.bipush 16, 2) := by decide +kernel
theorem md_JI_numberOfLeadingZeros_31 : decode mc_JI_numberOfLeadingZeros 31 = .ok (.iushr, 1) := by decide +kernel
theorem md_JI_numberOfLeadingZeros_32 : decode mc_JI_numberOfLeadingZeros 32 = .ok (.istore_n 0, 1) := by decide +kernel
theorem md_JI_numberOfLeadingZeros_33 : decode mc_JI_numberOfLeadingZeros 33 = .ok (.iload_n 0, 1) := by decide +kernel
theorem md_JI_numberOfLeadingZeros_34 : decode mc_JI_numberOfLeadingZeros 34 = .ok (.sipush 256, 3) := by decide +kernel
theorem md_JI_numberOfLeadingZeros_37 : decode mc_JI_numberOfLeadingZeros 37 = .ok (.if_icmp .lt 11, 3) := by decide +kernel
theorem md_JI_numberOfLeadingZeros_40 : decode mc_JI_numberOfLeadingZeros 40 = .ok (.iinc 1 (-8), 3) := by decide +kernel
theorem md_JI_numberOfLeadingZeros_43 : decode mc_JI_numberOfLeadingZeros 43 = .ok (.iload_n 0, 1) := by decide +kernel
theorem md_JI_numberOfLeadingZeros_44 : decode mc_JI_numberOfLeadingZeros 44 = .ok (.bipush 8, 2) := by decide +kernel
theorem md_JI_numberOfLeadingZeros_46 : decode mc_JI_numberOfLeadingZeros 46 = .ok (.iushr, 1) := by decide +kernel
theorem md_JI_numberOfLeadingZeros_47 : decode mc_JI_numberOfLeadingZeros 47 = .ok (.istore_n 0, 1) := by decide +kernel
theorem md_JI_numberOfLeadingZeros_48 : decode mc_JI_numberOfLeadingZeros 48 = .ok (.iload_n 0, 1) := by decide +kernel
theorem md_JI_numberOfLeadingZeros_49 : decode mc_JI_numberOfLeadingZeros 49 = .ok (.bipush 16, 2) := by decide +kernel
theorem md_JI_numberOfLeadingZeros_51 : decode mc_JI_numberOfLeadingZeros 51 = .ok (.if_icmp .lt 10, 3) := by decide +kernel
theorem md_JI_numberOfLeadingZeros_54 : decode mc_JI_numberOfLeadingZeros 54 = .ok (.iinc 1 (-4), 3) := by decide +kernel
theorem md_JI_numberOfLeadingZeros_57 : decode mc_JI_numberOfLeadingZeros 57 = .ok (.iload_n 0, 1) := by decide +kernel
theorem md_JI_numberOfLeadingZeros_58 : decode mc_JI_numberOfLeadingZeros 58 = .ok (.iconst 4, 1) := by decide +kernel
theorem md_JI_numberOfLeadingZeros_59 : decode mc_JI_numberOfLeadingZeros 59 = .ok (.iushr, 1) := by decide +kernel
theorem md_JI_numberOfLeadingZeros_60 : decode mc_JI_numberOfLeadingZeros 60 = .ok (.istore_n 0, 1) := by decide +kernel
theorem md_JI_numberOfLeadingZeros_61 : decode mc_JI_numberOfLeadingZeros 61 = .ok (.iload_n 0, 1) := by decide +kernel
theorem md_JI_numberOfLeadingZeros_62 : decode mc_JI_numberOfLeadingZeros 62 = .ok (.iconst 4, 1) := by decide +kernel
theorem md_JI_numberOfLeadingZeros_63 : decode mc_JI_numberOfLeadingZeros 63 = .ok (.if_icmp .lt 10, 3) := by decide +kernel
theorem md_JI_numberOfLeadingZeros_66 : decode mc_JI_numberOfLeadingZeros 66 = .ok (.iinc 1 (-2), 3) := by decide +kernel
theorem md_JI_numberOfLeadingZeros_69 : decode mc_JI_numberOfLeadingZeros 69 = .ok (.iload_n 0, 1) := by decide +kernel
theorem md_JI_numberOfLeadingZeros_70 : decode mc_JI_numberOfLeadingZeros 70 = .ok (.iconst 2, 1) := by decide +kernel
theorem md_JI_numberOfLeadingZeros_71 : decode mc_JI_numberOfLeadingZeros 71 = .ok (.iushr, 1) := by decide +kernel
theorem md_JI_numberOfLeadingZeros_72 : decode mc_JI_numberOfLeadingZeros 72 = .ok (.istore_n 0, 1) := by decide +kernel
theorem md_JI_numberOfLeadingZeros_73 : decode mc_JI_numberOfLeadingZeros 73 = .ok (.iload_n 1, 1) := by decide +kernel
theorem md_JI_numberOfLeadingZeros_74 : decode mc_JI_numberOfLeadingZeros 74 = .ok (.iload_n 0, 1) := by decide +kernel
theorem md_JI_numberOfLeadingZeros_75 : decode mc_JI_numberOfLeadingZeros 75 = .ok (.iconst 1, 1) := by decide +kernel
theorem md_JI_numberOfLeadingZeros_76 : decode mc_JI_numberOfLeadingZeros 76 = .ok (.iushr, 1) := by decide +kernel
theorem md_JI_numberOfLeadingZeros_77 : decode mc_JI_numberOfLeadingZeros 77 = .ok (.isub, 1) := by decide +kernel
theorem md_JI_numberOfLeadingZeros_78 : decode mc_JI_numberOfLeadingZeros 78 = .ok (.ireturn, 1) := by decide +kernel
abbrev mc_JI_numberOfTrailingZeros : ByteArray := prog_6_method_48_code
def my_JI_numberOfTrailingZeros : MethodName := ⟨"java/lang/Integer", "numberOfTrailingZeros", "(I)I"⟩
abbrev mw_JI_numberOfTrailingZeros : List Cond := Cond.code my_JI_numberOfTrailingZeros mc_JI_numberOfTrailingZeros 2 (some .int) :: gw_tbl
theorem md_JI_numberOfTrailingZeros_0 : decode mc_JI_numberOfTrailingZeros 0 = .ok (.iload_n 0, 1) := by decide +kernel
theorem md_JI_numberOfTrailingZeros_1 : decode mc_JI_numberOfTrailingZeros 1 = .ok (.iconst (-1), 1) := by decide +kernel
theorem md_JI_numberOfTrailingZeros_2 : decode mc_JI_numberOfTrailingZeros 2 = .ok (.ixor, 1) := by decide +kernel
theorem md_JI_numberOfTrailingZeros_3 : decode mc_JI_numberOfTrailingZeros 3 = .ok (.iload_n 0, 1) := by decide +kernel
theorem md_JI_numberOfTrailingZeros_4 : decode mc_JI_numberOfTrailingZeros 4 = .ok (.iconst 1, 1) := by decide +kernel
theorem md_JI_numberOfTrailingZeros_5 : decode mc_JI_numberOfTrailingZeros 5 = .ok (.isub, 1) := by decide +kernel
theorem md_JI_numberOfTrailingZeros_6 : decode mc_JI_numberOfTrailingZeros 6 = .ok (.iand, 1) := by decide +kernel
theorem md_JI_numberOfTrailingZeros_7 : decode mc_JI_numberOfTrailingZeros 7 = .ok (.istore_n 0, 1) := by decide +kernel
theorem md_JI_numberOfTrailingZeros_8 : decode mc_JI_numberOfTrailingZeros 8 = .ok (.iload_n 0, 1) := by decide +kernel
theorem md_JI_numberOfTrailingZeros_9 : decode mc_JI_numberOfTrailingZeros 9 = .ok (.ifCond .gt 8, 3) := by decide +kernel
theorem md_JI_numberOfTrailingZeros_12 : decode mc_JI_numberOfTrailingZeros 12 = .ok (.iload_n 0, 1) := by decide +kernel
theorem md_JI_numberOfTrailingZeros_13 : decode mc_JI_numberOfTrailingZeros 13 = .ok (.bipush 32, 2) := by decide +kernel
theorem md_JI_numberOfTrailingZeros_15 : decode mc_JI_numberOfTrailingZeros 15 = .ok (.iand, 1) := by decide +kernel
theorem md_JI_numberOfTrailingZeros_16 : decode mc_JI_numberOfTrailingZeros 16 = .ok (.ireturn, 1) := by decide +kernel
theorem md_JI_numberOfTrailingZeros_17 : decode mc_JI_numberOfTrailingZeros 17 = .ok (.iconst 1, 1) := by decide +kernel
theorem md_JI_numberOfTrailingZeros_18 : decode mc_JI_numberOfTrailingZeros 18 = .ok (.istore_n 1, 1) := by decide +kernel
theorem md_JI_numberOfTrailingZeros_19 : decode mc_JI_numberOfTrailingZeros 19 = .ok (.iload_n 0, 1) := by decide +kernel
theorem md_JI_numberOfTrailingZeros_20 : decode mc_JI_numberOfTrailingZeros 20 = .ok (.ldc_w 264, 3) := by decide +kernel
theorem md_JI_numberOfTrailingZeros_23 : decode mc_JI_numberOfTrailingZeros 23 = .ok (.if_icmp .le 11, 3) := by decide +kernel
theorem md_JI_numberOfTrailingZeros_26 : decode mc_JI_numberOfTrailingZeros 26 = .ok (.iinc 1 16, 3) := by decide +kernel
theorem md_JI_numberOfTrailingZeros_29 : decode mc_JI_numberOfTrailingZeros 29 = .ok (.iload_n 0, 1) := by decide +kernel
theorem md_JI_numberOfTrailingZeros_30 : decode mc_JI_numberOfTrailingZeros 30 = .ok (.bipush 16, 2) := by decide +kernel
theorem md_JI_numberOfTrailingZeros_32 : decode mc_JI_numberOfTrailingZeros 32 = .ok (.iushr, 1) := by decide +kernel
theorem md_JI_numberOfTrailingZeros_33 : decode mc_JI_numberOfTrailingZeros 33 = .ok (.istore_n 0, 1) := by decide +kernel
theorem md_JI_numberOfTrailingZeros_34 : decode mc_JI_numberOfTrailingZeros 34 = .ok (.iload_n 0, 1) := by decide +kernel
theorem md_JI_numberOfTrailingZeros_35 : decode mc_JI_numberOfTrailingZeros 35 = .ok (.sipush 256, 3) := by decide +kernel
theorem md_JI_numberOfTrailingZeros_38 : decode mc_JI_numberOfTrailingZeros 38 = .ok (.if_icmp .le 11, 3) := by decide +kernel
theorem md_JI_numberOfTrailingZeros_41 : decode mc_JI_numberOfTrailingZeros 41 = .ok (.iinc 1 8, 3) := by decide +kernel
theorem md_JI_numberOfTrailingZeros_44 : decode mc_JI_numberOfTrailingZeros 44 = .ok (.iload_n 0, 1) := by decide +kernel
theorem md_JI_numberOfTrailingZeros_45 : decode mc_JI_numberOfTrailingZeros 45 = .ok (.bipush 8, 2) := by decide +kernel
theorem md_JI_numberOfTrailingZeros_47 : decode mc_JI_numberOfTrailingZeros 47 = .ok (.iushr, 1) := by decide +kernel
theorem md_JI_numberOfTrailingZeros_48 : decode mc_JI_numberOfTrailingZeros 48 = .ok (.istore_n 0, 1) := by decide +kernel
theorem md_JI_numberOfTrailingZeros_49 : decode mc_JI_numberOfTrailingZeros 49 = .ok (.iload_n 0, 1) := by decide +kernel
theorem md_JI_numberOfTrailingZeros_50 : decode mc_JI_numberOfTrailingZeros 50 = .ok (.bipush 16, 2) := by decide +kernel
theorem md_JI_numberOfTrailingZeros_52 : decode mc_JI_numberOfTrailingZeros 52 = .ok (.if_icmp .le 10, 3) := by decide +kernel
theorem md_JI_numberOfTrailingZeros_55 : decode mc_JI_numberOfTrailingZeros 55 = .ok (.iinc 1 4, 3) := by decide +kernel
theorem md_JI_numberOfTrailingZeros_58 : decode mc_JI_numberOfTrailingZeros 58 = .ok (.iload_n 0, 1) := by decide +kernel
theorem md_JI_numberOfTrailingZeros_59 : decode mc_JI_numberOfTrailingZeros 59 = .ok (.iconst 4, 1) := by decide +kernel
theorem md_JI_numberOfTrailingZeros_60 : decode mc_JI_numberOfTrailingZeros 60 = .ok (.iushr, 1) := by decide +kernel
theorem md_JI_numberOfTrailingZeros_61 : decode mc_JI_numberOfTrailingZeros 61 = .ok (.istore_n 0, 1) := by decide +kernel
theorem md_JI_numberOfTrailingZeros_62 : decode mc_JI_numberOfTrailingZeros 62 = .ok (.iload_n 0, 1) := by decide +kernel
theorem md_JI_numberOfTrailingZeros_63 : decode mc_JI_numberOfTrailingZeros 63 = .ok (.iconst 4, 1) := by decide +kernel
theorem md_JI_numberOfTrailingZeros_64 : decode mc_JI_numberOfTrailingZeros 64 = .ok (.if_icmp .le 10, 3) := by decide +kernel
theorem md_JI_numberOfTrailingZeros_67 : decode mc_JI_numberOfTrailingZeros 67 = .ok (.iinc 1 2, 3) := by decide +kernel
theorem md_JI_numberOfTrailingZeros_70 : decode mc_JI_numberOfTrailingZeros 70 = .ok (.iload_n 0, 1) := by decide +kernel
theorem md_JI_numberOfTrailingZeros_71 : decode mc_JI_numberOfTrailingZeros 71 = .ok (.iconst 2, 1) := by decide +kernel
theorem md_JI_numberOfTrailingZeros_72 : decode mc_JI_numberOfTrailingZeros 72 = .ok (.iushr, 1) := by decide +kernel
theorem md_JI_numberOfTrailingZeros_73 : decode mc_JI_numberOfTrailingZeros 73 = .ok (.istore_n 0, 1) := by decide +kernel
theorem md_JI_numberOfTrailingZeros_74 : decode mc_JI_numberOfTrailingZeros 74 = .ok (.iload_n 1, 1) := by decide +kernel
theorem md_JI_numberOfTrailingZeros_75 : decode mc_JI_numberOfTrailingZeros 75 = .ok (.iload_n 0, 1) := by decide +kernel
theorem md_JI_numberOfTrailingZeros_76 : decode mc_JI_numberOfTrailingZeros 76 = .ok (.iconst 1, 1) := by decide +kernel
theorem md_JI_numberOfTrailingZeros_77 : decode mc_JI_numberOfTrailingZeros 77 = .ok (.iushr, 1) := by decide +kernel
theorem md_JI_numberOfTrailingZeros_78 : decode mc_JI_numberOfTrailingZeros 78 = .ok (.iadd, 1) := by decide +kernel
theorem md_JI_numberOfTrailingZeros_79 : decode mc_JI_numberOfTrailingZeros 79 = .ok (.ireturn, 1) := by decide +kernel
abbrev mc_JL_bitCount : ByteArray := prog_7_method_50_code
def my_JL_bitCount : MethodName := ⟨"java/lang/Long", "bitCount", "(J)I"⟩
abbrev mw_JL_bitCount : List Cond := Cond.code my_JL_bitCount mc_JL_bitCount 2 (some .int) :: gw_tbl
theorem md_JL_bitCount_0 : decode mc_JL_bitCount 0 = .ok (.lload_n 0, 1) := by decide +kernel
theorem md_JL_bitCount_1 : decode mc_JL_bitCount 1 = .ok (.lload_n 0, 1) := by decide +kernel
theorem md_JL_bitCount_2 : decode mc_JL_bitCount 2 = .ok (.iconst 1, 1) := by decide +kernel
theorem md_JL_bitCount_3 : decode mc_JL_bitCount 3 = .ok (.lushr, 1) := by decide +kernel
theorem md_JL_bitCount_4 : decode mc_JL_bitCount 4 = .ok (.ldc2_w 314, 3) := by decide +kernel
theorem md_JL_bitCount_7 : decode mc_JL_bitCount 7 = .ok (.land, 1) := by decide +kernel
theorem md_JL_bitCount_8 : decode mc_JL_bitCount 8 = .ok (.lsub, 1) := by decide +kernel
theorem md_JL_bitCount_9 : decode mc_JL_bitCount 9 = .ok (.lstore_n 0, 1) := by decide +kernel
theorem md_JL_bitCount_10 : decode mc_JL_bitCount 10 = .ok (.lload_n 0, 1) := by decide +kernel
theorem md_JL_bitCount_11 : decode mc_JL_bitCount 11 = .ok (.ldc2_w 316, 3) := by decide +kernel
theorem md_JL_bitCount_14 : decode mc_JL_bitCount 14 = .ok (.land, 1) := by decide +kernel
theorem md_JL_bitCount_15 : decode mc_JL_bitCount 15 = .ok (.lload_n 0, 1) := by decide +kernel
theorem md_JL_bitCount_16 : decode mc_JL_bitCount 16 = .ok (.iconst 2, 1) := by decide +kernel
theorem md_JL_bitCount_17 : decode mc_JL_bitCount 17 = .ok (.lushr, 1) := by decide +kernel
theorem md_JL_bitCount_18 : decode mc_JL_bitCount 18 = .ok (.ldc2_w 316, 3) := by decide +kernel
theorem md_JL_bitCount_21 : decode mc_JL_bitCount 21 = .ok (.land, 1) := by decide +kernel
theorem md_JL_bitCount_22 : decode mc_JL_bitCount 22 = .ok (.ladd, 1) := by decide +kernel
theorem md_JL_bitCount_23 : decode mc_JL_bitCount 23 = .ok (.lstore_n 0, 1) := by decide +kernel
theorem md_JL_bitCount_24 : decode mc_JL_bitCount 24 = .ok (.lload_n 0, 1) := by decide +kernel
theorem md_JL_bitCount_25 : decode mc_JL_bitCount 25 = .ok (.lload_n 0, 1) := by decide +kernel
theorem md_JL_bitCount_26 : decode mc_JL_bitCount 26 = .ok (.iconst 4, 1) := by decide +kernel
theorem md_JL_bitCount_27 : decode mc_JL_bitCount 27 = .ok (.lushr, 1) := by decide +kernel
theorem md_JL_bitCount_28 : decode mc_JL_bitCount 28 = .ok (.ladd, 1) := by decide +kernel
theorem md_JL_bitCount_29 : decode mc_JL_bitCount 29 = .ok (.ldc2_w 318, 3) := by decide +kernel
theorem md_JL_bitCount_32 : decode mc_JL_bitCount 32 = .ok (.land, 1) := by decide +kernel
theorem md_JL_bitCount_33 : decode mc_JL_bitCount 33 = .ok (.lstore_n 0, 1) := by decide +kernel
theorem md_JL_bitCount_34 : decode mc_JL_bitCount 34 = .ok (.lload_n 0, 1) := by decide +kernel
theorem md_JL_bitCount_35 : decode mc_JL_bitCount 35 = .ok (.lload_n 0, 1) := by decide +kernel
theorem md_JL_bitCount_36 : decode mc_JL_bitCount 36 = .ok (.bipush 8, 2) := by decide +kernel
theorem md_JL_bitCount_38 : decode mc_JL_bitCount 38 = .ok (.lushr, 1) := by decide +kernel
theorem md_JL_bitCount_39 : decode mc_JL_bitCount 39 = .ok (.ladd, 1) := by decide +kernel
theorem md_JL_bitCount_40 : decode mc_JL_bitCount 40 = .ok (.lstore_n 0, 1) := by decide +kernel
theorem md_JL_bitCount_41 : decode mc_JL_bitCount 41 = .ok (.lload_n 0, 1) := by decide +kernel
theorem md_JL_bitCount_42 : decode mc_JL_bitCount 42 = .ok (.lload_n 0, 1) := by decide +kernel
theorem md_JL_bitCount_43 : decode mc_JL_bitCount 43 = .ok (.bipush 16, 2) := by decide +kernel
theorem md_JL_bitCount_45 : decode mc_JL_bitCount 45 = .ok (.lushr, 1) := by decide +kernel
theorem md_JL_bitCount_46 : decode mc_JL_bitCount 46 = .ok (.ladd, 1) := by decide +kernel
theorem md_JL_bitCount_47 : decode mc_JL_bitCount 47 = .ok (.lstore_n 0, 1) := by decide +kernel
theorem md_JL_bitCount_48 : decode mc_JL_bitCount 48 = .ok (.lload_n 0, 1) := by decide +kernel
theorem md_JL_bitCount_49 : decode mc_JL_bitCount 49 = .ok (.lload_n 0, 1) := by decide +kernel
theorem md_JL_bitCount_50 : decode mc_JL_bitCount 50 = .ok (.bipush 32, 2) := by decide +kernel
theorem md_JL_bitCount_52 : decode mc_JL_bitCount 52 = .ok (.lushr, 1) := by decide +kernel
theorem md_JL_bitCount_53 : decode mc_JL_bitCount 53 = .ok (.ladd, 1) := by decide +kernel
theorem md_JL_bitCount_54 : decode mc_JL_bitCount 54 = .ok (.lstore_n 0, 1) := by decide +kernel
theorem md_JL_bitCount_55 : decode mc_JL_bitCount 55 = .ok (.lload_n 0, 1) := by decide +kernel
theorem md_JL_bitCount_56 : decode mc_JL_bitCount 56 = .ok (.l2i, 1) := by decide +kernel
theorem md_JL_bitCount_57 : decode mc_JL_bitCount 57 = .ok (.bipush 127, 2) := by decide +kernel
theorem md_JL_bitCount_59 : decode mc_JL_bitCount 59 = .ok (.iand, 1) := by decide +kernel
theorem md_JL_bitCount_60 : decode mc_JL_bitCount 60 = .ok (.ireturn, 1) := by decide +kernel
abbrev mc_JL_compare : ByteArray := prog_7_method_42_code
def my_JL_compare : MethodName := ⟨"java/lang/Long", "compare", "(JJ)I"⟩
abbrev mw_JL_compare : List Cond := Cond.code my_JL_compare mc_JL_compare 4 (some .int) :: gw_tbl
theorem md_JL_compare_0 : decode mc_JL_compare 0 = .ok (.lload_n 0, 1) := by decide +kernel
theorem md_JL_compare_1 : decode mc_JL_compare 1 = .ok (.lload_n 2, 1) := by decide +kernel
theorem md_JL_compare_2 : decode mc_JL_compare 2 = .ok (.lcmp, 1) := by decide +kernel
theorem md_JL_compare_3 : decode mc_JL_compare 3 = .ok (.ifCond .ge 7, 3) := by decide +kernel
theorem md_JL_compare_6 : decode mc_JL_compare 6 = .ok (.iconst (-1), 1) := by decide +kernel
theorem md_JL_compare_7 : decode mc_JL_compare 7 = .ok (.goto 14, 3) := by decide +kernel
theorem md_JL_compare_10 : decode mc_JL_compare 10 = .ok (.lload_n 0, 1) := by decide +kernel
theorem md_JL_compare_11 : decode mc_JL_compare 11 = .ok (.lload_n 2, 1) := by decide +kernel
theorem md_JL_compare_12 : decode mc_JL_compare 12 = .ok (.lcmp, 1) := by decide +kernel
theorem md_JL_compare_13 : decode mc_JL_compare 13 = .ok (.ifCond .ne 7, 3) := by decide +kernel
theorem md_JL_compare_16 : decode mc_JL_compare 16 = .ok (.iconst 0, 1) := by decide +kernel
theorem md_JL_compare_17 : decode mc_JL_compare 17 = .ok (.goto 4, 3) := by decide +kernel
theorem md_JL_compare_20 : decode mc_JL_compare 20 = .ok (.iconst 1, 1) := by decide +kernel
theorem md_JL_compare_21 : decode mc_JL_compare 21 = .ok (.ireturn, 1) := by decide +kernel
abbrev mc_JL_numberOfLeadingZeros : ByteArray := prog_7_method_48_code
def my_JL_numberOfLeadingZeros : MethodName := ⟨"java/lang/Long", "numberOfLeadingZeros", "(J)I"⟩
abbrev mw_JL_numberOfLeadingZeros : List Cond := Cond.code my_JL_numberOfLeadingZeros mc_JL_numberOfLeadingZeros 3 (some .int) :: gw_tbl
theorem md_JL_numberOfLeadingZeros_0 : decode mc_JL_numberOfLeadingZeros 0 = .ok (.lload_n 0, 1) := by decide +kernel
theorem md_JL_numberOfLeadingZeros_1 : decode mc_JL_numberOfLeadingZeros 1 = .ok (.bipush 32, 2) := by decide +kernel
theorem md_JL_numberOfLeadingZeros_3 : decode mc_JL_numberOfLeadingZeros 3 = .ok (.lushr, 1) := by decide +kernel
theorem md_JL_numberOfLeadingZeros_4 : decode mc_JL_numberOfLeadingZeros 4 = .ok (.l2i, 1) := by decide +kernel
theorem md_JL_numberOfLeadingZeros_5 : decode mc_JL_numberOfLeadingZeros 5 = .ok (.istore_n 2, 1) := by decide +kernel
theorem md_JL_numberOfLeadingZeros_6 : decode mc_JL_numberOfLeadingZeros 6 = .ok (.iload_n 2, 1) := by decide +kernel
theorem md_JL_numberOfLeadingZeros_7 : decode mc_JL_numberOfLeadingZeros 7 = .ok (.ifCond .ne 14, 3) := by decide +kernel
theorem md_JL_numberOfLeadingZeros_10 : decode mc_JL_numberOfLeadingZeros 10 = .ok (.bipush 32, 2) := by decide +kernel
theorem md_JL_numberOfLeadingZeros_12 : decode mc_JL_numberOfLeadingZeros 12 = .ok (.lload_n 0, 1) := by decide +kernel
theorem md_JL_numberOfLeadingZeros_13 : decode mc_JL_numberOfLeadingZeros 13 = .ok (.l2i, 1) := by decide +kernel
theorem md_JL_numberOfLeadingZeros_14 : decode mc_JL_numberOfLeadingZeros 14 = .ok (.invokestatic 308, 3) := by decide +kernel
theorem md_JL_numberOfLeadingZeros_17 : decode mc_JL_numberOfLeadingZeros 17 = .ok (.iadd, 1) := by decide +kernel
theorem md_JL_numberOfLeadingZeros_18 : decode mc_JL_numberOfLeadingZeros 18 = .ok (.goto 7, 3) := by decide +kernel
theorem md_JL_numberOfLeadingZeros_21 : decode mc_JL_numberOfLeadingZeros 21 = .ok (.iload_n 2, 1) := by decide +kernel
theorem md_JL_numberOfLeadingZeros_22 : decode mc_JL_numberOfLeadingZeros 22 = .ok (.invokestatic 308, 3) := by decide +kernel
theorem md_JL_numberOfLeadingZeros_25 : decode mc_JL_numberOfLeadingZeros 25 = .ok (.ireturn, 1) := by decide +kernel
abbrev mc_JL_numberOfTrailingZeros : ByteArray := prog_7_method_49_code
def my_JL_numberOfTrailingZeros : MethodName := ⟨"java/lang/Long", "numberOfTrailingZeros", "(J)I"⟩
abbrev mw_JL_numberOfTrailingZeros : List Cond := Cond.code my_JL_numberOfTrailingZeros mc_JL_numberOfTrailingZeros 3 (some .int) :: gw_tbl
theorem md_JL_numberOfTrailingZeros_0 : decode mc_JL_numberOfTrailingZeros 0 = .ok (.lload_n 0, 1) := by decide +kernel
theorem md_JL_numberOfTrailingZeros_1 : decode mc_JL_numberOfTrailingZeros 1 = .ok (.l2i, 1) := by decide +kernel
theorem md_JL_numberOfTrailingZeros_2 : decode mc_JL_numberOfTrailingZeros 2 = .ok (.istore_n 2, 1) := by decide +kernel
theorem md_JL_numberOfTrailingZeros_3 : decode mc_JL_numberOfTrailingZeros 3 = .ok (.iload_n 2, 1) := by decide +kernel
theorem md_JL_numberOfTrailingZeros_4 : decode mc_JL_numberOfTrailingZeros 4 = .ok (.ifCond .ne 17, 3) := by decide +kernel
theorem md_JL_numberOfTrailingZeros_7 : decode mc_JL_numberOfTrailingZeros 7 = .ok (.bipush 32, 2) := by decide +kernel
theorem md_JL_numberOfTrailingZeros_9 : decode mc_JL_numberOfTrailingZeros 9 = .ok (.lload_n 0, 1) := by decide +kernel
theorem md_JL_numberOfTrailingZeros_10 : decode mc_JL_numberOfTrailingZeros 10 = .ok (.bipush 32, 2) := by decide +kernel
theorem md_JL_numberOfTrailingZeros_12 : decode mc_JL_numberOfTrailingZeros 12 = .ok (.lushr, 1) := by decide +kernel
theorem md_JL_numberOfTrailingZeros_13 : decode mc_JL_numberOfTrailingZeros 13 = .ok (.l2i, 1) := by decide +kernel
theorem md_JL_numberOfTrailingZeros_14 : decode mc_JL_numberOfTrailingZeros 14 = .ok (.invokestatic 311, 3) := by decide +kernel
theorem md_JL_numberOfTrailingZeros_17 : decode mc_JL_numberOfTrailingZeros 17 = .ok (.iadd, 1) := by decide +kernel
theorem md_JL_numberOfTrailingZeros_18 : decode mc_JL_numberOfTrailingZeros 18 = .ok (.goto 7, 3) := by decide +kernel
theorem md_JL_numberOfTrailingZeros_21 : decode mc_JL_numberOfTrailingZeros 21 = .ok (.iload_n 2, 1) := by decide +kernel
theorem md_JL_numberOfTrailingZeros_22 : decode mc_JL_numberOfTrailingZeros 22 = .ok (.invokestatic 311, 3) := by decide +kernel
theorem md_JL_numberOfTrailingZeros_25 : decode mc_JL_numberOfTrailingZeros 25 = .ok (.ireturn, 1) := by decide +kernel
abbrev mc_JM_max_I : ByteArray := prog_8_method_65_code
def my_JM_max_I : MethodName := ⟨"java/lang/Math", "max", "(II)I"⟩
abbrev mw_JM_max_I : List Cond := Cond.code my_JM_max_I mc_JM_max_I 2 (some .int) :: gw_tbl
theorem md_JM_max_I_0 : decode mc_JM_max_I 0 = .ok (.iload_n 0, 1) := by decide +kernel
theorem md_JM_max_I_1 : decode mc_JM_max_I 1 = .ok (.iload_n 1, 1) := by decide +kernel
theorem md_JM_max_I_2 : decode mc_JM_max_I 2 = .ok (.if_icmp .lt 7, 3) := by decide +kernel
theorem md_JM_max_I_5 : decode mc_JM_max_I 5 = .ok (.iload_n 0, 1) := by decide +kernel
theorem md_JM_max_I_6 : decode mc_JM_max_I 6 = .ok (.goto 4, 3) := by decide +kernel
theorem md_JM_max_I_9 : decode mc_JM_max_I 9 = .ok (.iload_n 1, 1) := by decide +kernel
theorem md_JM_max_I_10 : decode mc_JM_max_I 10 = .ok (.ireturn, 1) := by decide +kernel
abbrev mc_JM_max_J : ByteArray := prog_8_method_66_code
def my_JM_max_J : MethodName := ⟨"java/lang/Math", "max", "(JJ)J"⟩
abbrev mw_JM_max_J : List Cond := Cond.code my_JM_max_J mc_JM_max_J 4 (some .long) :: gw_tbl
theorem md_JM_max_J_0 : decode mc_JM_max_J 0 = .ok (.lload_n 0, 1) := by decide +kernel
theorem md_JM_max_J_1 : decode mc_JM_max_J 1 = .ok (.lload_n 2, 1) := by decide +kernel
theorem md_JM_max_J_2 : decode mc_JM_max_J 2 = .ok (.lcmp, 1) := by decide +kernel
theorem md_JM_max_J_3 : decode mc_JM_max_J 3 = .ok (.ifCond .lt 7, 3) := by decide +kernel
theorem md_JM_max_J_6 : decode mc_JM_max_J 6 = .ok (.lload_n 0, 1) := by decide +kernel
theorem md_JM_max_J_7 : decode mc_JM_max_J 7 = .ok (.goto 4, 3) := by decide +kernel
theorem md_JM_max_J_10 : decode mc_JM_max_J 10 = .ok (.lload_n 2, 1) := by decide +kernel
theorem md_JM_max_J_11 : decode mc_JM_max_J 11 = .ok (.lreturn, 1) := by decide +kernel
abbrev mc_JM_min_I : ByteArray := prog_8_method_69_code
def my_JM_min_I : MethodName := ⟨"java/lang/Math", "min", "(II)I"⟩
abbrev mw_JM_min_I : List Cond := Cond.code my_JM_min_I mc_JM_min_I 2 (some .int) :: gw_tbl
theorem md_JM_min_I_0 : decode mc_JM_min_I 0 = .ok (.iload_n 0, 1) := by decide +kernel
theorem md_JM_min_I_1 : decode mc_JM_min_I 1 = .ok (.iload_n 1, 1) := by decide +kernel
theorem md_JM_min_I_2 : decode mc_JM_min_I 2 = .ok (.if_icmp .gt 7, 3) := by decide +kernel
theorem md_JM_min_I_5 : decode mc_JM_min_I 5 = .ok (.iload_n 0, 1) := by decide +kernel
theorem md_JM_min_I_6 : decode mc_JM_min_I 6 = .ok (.goto 4, 3) := by decide +kernel
theorem md_JM_min_I_9 : decode mc_JM_min_I 9 = .ok (.iload_n 1, 1) := by decide +kernel
theorem md_JM_min_I_10 : decode mc_JM_min_I 10 = .ok (.ireturn, 1) := by decide +kernel
abbrev mc_JM_min_J : ByteArray := prog_8_method_70_code
def my_JM_min_J : MethodName := ⟨"java/lang/Math", "min", "(JJ)J"⟩
abbrev mw_JM_min_J : List Cond := Cond.code my_JM_min_J mc_JM_min_J 4 (some .long) :: gw_tbl
theorem md_JM_min_J_0 : decode mc_JM_min_J 0 = .ok (.lload_n 0, 1) := by decide +kernel
theorem md_JM_min_J_1 : decode mc_JM_min_J 1 = .ok (.lload_n 2, 1) := by decide +kernel
theorem md_JM_min_J_2 : decode mc_JM_min_J 2 = .ok (.lcmp, 1) := by decide +kernel
theorem md_JM_min_J_3 : decode mc_JM_min_J 3 = .ok (.ifCond .gt 7, 3) := by decide +kernel
theorem md_JM_min_J_6 : decode mc_JM_min_J 6 = .ok (.lload_n 0, 1) := by decide +kernel
theorem md_JM_min_J_7 : decode mc_JM_min_J 7 = .ok (.goto 4, 3) := by decide +kernel
theorem md_JM_min_J_10 : decode mc_JM_min_J 10 = .ok (.lload_n 2, 1) := by decide +kernel
theorem md_JM_min_J_11 : decode mc_JM_min_J 11 = .ok (.lreturn, 1) := by decide +kernel
