abbrev mc_F_numberOf : ByteArray := prog_2_method_4_code
def my_F_numberOf : MethodName := ⟨"NumberProbe$Format", "numberOf", "(J)J"⟩
abbrev mw_F_numberOf : List Cond := Cond.code my_F_numberOf mc_F_numberOf 4 (some .long) :: gw_tbl
theorem md_F_numberOf_0 : decode mc_F_numberOf 0 = .ok (.lload_n 1, 1) := by decide +kernel
theorem md_F_numberOf_1 : decode mc_F_numberOf 1 = .ok (.aload_n 0, 1) := by decide +kernel
theorem md_F_numberOf_2 : decode mc_F_numberOf 2 = .ok (.getfield 39, 3) := by decide +kernel
theorem md_F_numberOf_5 : decode mc_F_numberOf 5 = .ok (.lconst 1, 1) := by decide +kernel
theorem md_F_numberOf_6 : decode mc_F_numberOf 6 = .ok (.ladd, 1) := by decide +kernel
theorem md_F_numberOf_7 : decode mc_F_numberOf 7 = .ok (.land, 1) := by decide +kernel
theorem md_F_numberOf_8 : decode mc_F_numberOf 8 = .ok (.lconst 0, 1) := by decide +kernel
theorem md_F_numberOf_9 : decode mc_F_numberOf 9 = .ok (.lcmp, 1) := by decide +kernel
theorem md_F_numberOf_10 : decode mc_F_numberOf 10 = .ok (.ifCond .eq 7, 3) := by decide +kernel
theorem md_F_numberOf_13 : decode mc_F_numberOf 13 = .ok (.iconst 1, 1) := by decide +kernel
theorem md_F_numberOf_14 : decode mc_F_numberOf 14 = .ok (.goto 4, 3) := by decide +kernel
theorem md_F_numberOf_17 : decode mc_F_numberOf 17 = .ok (.iconst 0, 1) := by decide +kernel
theorem md_F_numberOf_18 : decode mc_F_numberOf 18 = .ok (.istore_n 3, 1) := by decide +kernel
theorem md_F_numberOf_19 : decode mc_F_numberOf 19 = .ok (.aload_n 0, 1) := by decide +kernel
theorem md_F_numberOf_20 : decode mc_F_numberOf 20 = .ok (.lload_n 1, 1) := by decide +kernel
theorem md_F_numberOf_21 : decode mc_F_numberOf 21 = .ok (.invokevirtual 49, 3) := by decide +kernel
theorem md_F_numberOf_24 : decode mc_F_numberOf 24 = .ok (.ifCond .eq 10, 3) := by decide +kernel
theorem md_F_numberOf_27 : decode mc_F_numberOf 27 = .ok (.aload_n 0, 1) := by decide +kernel
theorem md_F_numberOf_28 : decode mc_F_numberOf 28 = .ok (.getfield 46, 3) := by decide +kernel
theorem md_F_numberOf_31 : decode mc_F_numberOf 31 = .ok (.goto 13, 3) := by decide +kernel
theorem md_F_numberOf_34 : decode mc_F_numberOf 34 = .ok (.aload_n 0, 1) := by decide +kernel
theorem md_F_numberOf_35 : decode mc_F_numberOf 35 = .ok (.iload_n 3, 1) := by decide +kernel
theorem md_F_numberOf_36 : decode mc_F_numberOf 36 = .ok (.aload_n 0, 1) := by decide +kernel
theorem md_F_numberOf_37 : decode mc_F_numberOf 37 = .ok (.lload_n 1, 1) := by decide +kernel
theorem md_F_numberOf_38 : decode mc_F_numberOf 38 = .ok (.invokevirtual 53, 3) := by decide +kernel
theorem md_F_numberOf_41 : decode mc_F_numberOf 41 = .ok (.invokevirtual 57, 3) := by decide +kernel
theorem md_F_numberOf_44 : decode mc_F_numberOf 44 = .ok (.lreturn, 1) := by decide +kernel
abbrev mc_F_isNaN : ByteArray := prog_2_method_5_code
def my_F_isNaN : MethodName := ⟨"NumberProbe$Format", "isNaN", "(J)Z"⟩
abbrev mw_F_isNaN : List Cond := Cond.code my_F_isNaN mc_F_isNaN 3 (some .boolean) :: gw_tbl
theorem md_F_isNaN_0 : decode mc_F_isNaN 0 = .ok (.aload_n 0, 1) := by decide +kernel
theorem md_F_isNaN_1 : decode mc_F_isNaN 1 = .ok (.lload_n 1, 1) := by decide +kernel
theorem md_F_isNaN_2 : decode mc_F_isNaN 2 = .ok (.invokevirtual 53, 3) := by decide +kernel
theorem md_F_isNaN_5 : decode mc_F_isNaN 5 = .ok (.aload_n 0, 1) := by decide +kernel
theorem md_F_isNaN_6 : decode mc_F_isNaN 6 = .ok (.getfield 43, 3) := by decide +kernel
theorem md_F_isNaN_9 : decode mc_F_isNaN 9 = .ok (.lcmp, 1) := by decide +kernel
theorem md_F_isNaN_10 : decode mc_F_isNaN 10 = .ok (.ifCond .le 7, 3) := by decide +kernel
theorem md_F_isNaN_13 : decode mc_F_isNaN 13 = .ok (.iconst 1, 1) := by decide +kernel
theorem md_F_isNaN_14 : decode mc_F_isNaN 14 = .ok (.goto 4, 3) := by decide +kernel
theorem md_F_isNaN_17 : decode mc_F_isNaN 17 = .ok (.iconst 0, 1) := by decide +kernel
theorem md_F_isNaN_18 : decode mc_F_isNaN 18 = .ok (.ireturn, 1) := by decide +kernel
abbrev mc_F_isInfinite : ByteArray := prog_2_method_6_code
def my_F_isInfinite : MethodName := ⟨"NumberProbe$Format", "isInfinite", "(J)Z"⟩
abbrev mw_F_isInfinite : List Cond := Cond.code my_F_isInfinite mc_F_isInfinite 3 (some .boolean) :: gw_tbl
theorem md_F_isInfinite_0 : decode mc_F_isInfinite 0 = .ok (.aload_n 0, 1) := by decide +kernel
theorem md_F_isInfinite_1 : decode mc_F_isInfinite 1 = .ok (.lload_n 1, 1) := by decide +kernel
theorem md_F_isInfinite_2 : decode mc_F_isInfinite 2 = .ok (.invokevirtual 53, 3) := by decide +kernel
theorem md_F_isInfinite_5 : decode mc_F_isInfinite 5 = .ok (.aload_n 0, 1) := by decide +kernel
theorem md_F_isInfinite_6 : decode mc_F_isInfinite 6 = .ok (.getfield 43, 3) := by decide +kernel
theorem md_F_isInfinite_9 : decode mc_F_isInfinite 9 = .ok (.lcmp, 1) := by decide +kernel
theorem md_F_isInfinite_10 : decode mc_F_isInfinite 10 = .ok (.ifCond .ne 7, 3) := by decide +kernel
theorem md_F_isInfinite_13 : decode mc_F_isInfinite 13 = .ok (.iconst 1, 1) := by decide +kernel
theorem md_F_isInfinite_14 : decode mc_F_isInfinite 14 = .ok (.goto 4, 3) := by decide +kernel
theorem md_F_isInfinite_17 : decode mc_F_isInfinite 17 = .ok (.iconst 0, 1) := by decide +kernel
theorem md_F_isInfinite_18 : decode mc_F_isInfinite 18 = .ok (.ireturn, 1) := by decide +kernel
abbrev mc_F_isZero : ByteArray := prog_2_method_7_code
def my_F_isZero : MethodName := ⟨"NumberProbe$Format", "isZero", "(J)Z"⟩
abbrev mw_F_isZero : List Cond := Cond.code my_F_isZero mc_F_isZero 3 (some .boolean) :: gw_tbl
theorem md_F_isZero_0 : decode mc_F_isZero 0 = .ok (.aload_n 0, 1) := by decide +kernel
theorem md_F_isZero_1 : decode mc_F_isZero 1 = .ok (.lload_n 1, 1) := by decide +kernel
theorem md_F_isZero_2 : decode mc_F_isZero 2 = .ok (.invokevirtual 53, 3) := by decide +kernel
theorem md_F_isZero_5 : decode mc_F_isZero 5 = .ok (.lconst 0, 1) := by decide +kernel
theorem md_F_isZero_6 : decode mc_F_isZero 6 = .ok (.lcmp, 1) := by decide +kernel
theorem md_F_isZero_7 : decode mc_F_isZero 7 = .ok (.ifCond .ne 7, 3) := by decide +kernel
theorem md_F_isZero_10 : decode mc_F_isZero 10 = .ok (.iconst 1, 1) := by decide +kernel
theorem md_F_isZero_11 : decode mc_F_isZero 11 = .ok (.goto 4, 3) := by decide +kernel
theorem md_F_isZero_14 : decode mc_F_isZero 14 = .ok (.iconst 0, 1) := by decide +kernel
theorem md_F_isZero_15 : decode mc_F_isZero 15 = .ok (.ireturn, 1) := by decide +kernel
abbrev mc_F_magnitude : ByteArray := prog_2_method_8_code
def my_F_magnitude : MethodName := ⟨"NumberProbe$Format", "magnitude", "(J)J"⟩
abbrev mw_F_magnitude : List Cond := Cond.code my_F_magnitude mc_F_magnitude 3 (some .long) :: gw_tbl
theorem md_F_magnitude_0 : decode mc_F_magnitude 0 = .ok (.lload_n 1, 1) := by decide +kernel
theorem md_F_magnitude_1 : decode mc_F_magnitude 1 = .ok (.aload_n 0, 1) := by decide +kernel
theorem md_F_magnitude_2 : decode mc_F_magnitude 2 = .ok (.getfield 39, 3) := by decide +kernel
theorem md_F_magnitude_5 : decode mc_F_magnitude 5 = .ok (.land, 1) := by decide +kernel
theorem md_F_magnitude_6 : decode mc_F_magnitude 6 = .ok (.lreturn, 1) := by decide +kernel
abbrev mc_F_negated : ByteArray := prog_2_method_9_code
def my_F_negated : MethodName := ⟨"NumberProbe$Format", "negated", "(J)J"⟩
abbrev mw_F_negated : List Cond := Cond.code my_F_negated mc_F_negated 3 (some .long) :: gw_tbl
theorem md_F_negated_0 : decode mc_F_negated 0 = .ok (.aload_n 0, 1) := by decide +kernel
theorem md_F_negated_1 : decode mc_F_negated 1 = .ok (.lload_n 1, 1) := by decide +kernel
theorem md_F_negated_2 : decode mc_F_negated 2 = .ok (.invokevirtual 49, 3) := by decide +kernel
theorem md_F_negated_5 : decode mc_F_negated 5 = .ok (.ifCond .eq 7, 3) := by decide +kernel
theorem md_F_negated_8 : decode mc_F_negated 8 = .ok (.lload_n 1, 1) := by decide +kernel
theorem md_F_negated_9 : decode mc_F_negated 9 = .ok (.goto 13, 3) := by decide +kernel
theorem md_F_negated_12 : decode mc_F_negated 12 = .ok (.lload_n 1, 1) := by decide +kernel
theorem md_F_negated_13 : decode mc_F_negated 13 = .ok (.aload_n 0, 1) := by decide +kernel
theorem md_F_negated_14 : decode mc_F_negated 14 = .ok (.getfield 39, 3) := by decide +kernel
theorem md_F_negated_17 : decode mc_F_negated 17 = .ok (.ldc2_w 61, 3) := by decide +kernel
theorem md_F_negated_20 : decode mc_F_negated 20 = .ok (.lxor, 1) := by decide +kernel
theorem md_F_negated_21 : decode mc_F_negated 21 = .ok (.lxor, 1) := by decide +kernel
theorem md_F_negated_22 : decode mc_F_negated 22 = .ok (.lreturn, 1) := by decide +kernel
abbrev mc_F_signed : ByteArray := prog_2_method_10_code
def my_F_signed : MethodName := ⟨"NumberProbe$Format", "signed", "(ZJ)J"⟩
abbrev mw_F_signed : List Cond := Cond.code my_F_signed mc_F_signed 4 (some .long) :: gw_tbl
theorem md_F_signed_0 : decode mc_F_signed 0 = .ok (.iload_n 1, 1) := by decide +kernel
theorem md_F_signed_1 : decode mc_F_signed 1 = .ok (.ifCond .eq 16, 3) := by decide +kernel
theorem md_F_signed_4 : decode mc_F_signed 4 = .ok (.lload_n 2, 1) := by decide +kernel
theorem md_F_signed_5 : decode mc_F_signed 5 = .ok (.aload_n 0, 1) := by decide +kernel
theorem md_F_signed_6 : decode mc_F_signed 6 = .ok (.getfield 39, 3) := by decide +kernel
theorem md_F_signed_9 : decode mc_F_signed 9 = .ok (.ldc2_w 61, 3) := by decide +kernel
theorem md_F_signed_12 : decode mc_F_signed 12 = .ok (.lxor, 1) := by decide +kernel
theorem md_F_signed_13 : decode mc_F_signed 13 = .ok (.lor, 1) := by decide +kernel
theorem md_F_signed_14 : decode mc_F_signed 14 = .ok (.goto 4, 3) := by decide +kernel
theorem md_F_signed_17 : decode mc_F_signed 17 = .ok (.lload_n 2, 1) := by decide +kernel
theorem md_F_signed_18 : decode mc_F_signed 18 = .ok (.lreturn, 1) := by decide +kernel
abbrev mc_F_significandOf : ByteArray := prog_2_method_11_code
def my_F_significandOf : MethodName := ⟨"NumberProbe$Format", "significandOf", "(J)J"⟩
abbrev mw_F_significandOf : List Cond := Cond.code my_F_significandOf mc_F_significandOf 5 (some .long) :: gw_tbl
theorem md_F_significandOf_0 : decode mc_F_significandOf 0 = .ok (.lload_n 1, 1) := by decide +kernel
theorem md_F_significandOf_1 : decode mc_F_significandOf 1 = .ok (.lconst 1, 1) := by decide +kernel
theorem md_F_significandOf_2 : decode mc_F_significandOf 2 = .ok (.aload_n 0, 1) := by decide +kernel
theorem md_F_significandOf_3 : decode mc_F_significandOf 3 = .ok (.getfield 29, 3) := by decide +kernel
theorem md_F_significandOf_6 : decode mc_F_significandOf 6 = .ok (.lshl, 1) := by decide +kernel
theorem md_F_significandOf_7 : decode mc_F_significandOf 7 = .ok (.lconst 1, 1) := by decide +kernel
theorem md_F_significandOf_8 : decode mc_F_significandOf 8 = .ok (.lsub, 1) := by decide +kernel
theorem md_F_significandOf_9 : decode mc_F_significandOf 9 = .ok (.land, 1) := by decide +kernel
theorem md_F_significandOf_10 : decode mc_F_significandOf 10 = .ok (.lstore_n 3, 1) := by decide +kernel
theorem md_F_significandOf_11 : decode mc_F_significandOf 11 = .ok (.aload_n 0, 1) := by decide +kernel
theorem md_F_significandOf_12 : decode mc_F_significandOf 12 = .ok (.lload_n 1, 1) := by decide +kernel
theorem md_F_significandOf_13 : decode mc_F_significandOf 13 = .ok (.invokevirtual 63, 3) := by decide +kernel
theorem md_F_significandOf_16 : decode mc_F_significandOf 16 = .ok (.ifCond .ne 7, 3) := by decide +kernel
theorem md_F_significandOf_19 : decode mc_F_significandOf 19 = .ok (.lload_n 3, 1) := by decide +kernel
theorem md_F_significandOf_20 : decode mc_F_significandOf 20 = .ok (.goto 11, 3) := by decide +kernel
theorem md_F_significandOf_23 : decode mc_F_significandOf 23 = .ok (.lload_n 3, 1) := by decide +kernel
theorem md_F_significandOf_24 : decode mc_F_significandOf 24 = .ok (.lconst 1, 1) := by decide +kernel
theorem md_F_significandOf_25 : decode mc_F_significandOf 25 = .ok (.aload_n 0, 1) := by decide +kernel
theorem md_F_significandOf_26 : decode mc_F_significandOf 26 = .ok (.getfield 29, 3) := by decide +kernel
theorem md_F_significandOf_29 : decode mc_F_significandOf 29 = .ok (.lshl, 1) := by decide +kernel
theorem md_F_significandOf_30 : decode mc_F_significandOf 30 = .ok (.lor, 1) := by decide +kernel
theorem md_F_significandOf_31 : decode mc_F_significandOf 31 = .ok (.lreturn, 1) := by decide +kernel
abbrev mc_F_exponentOf : ByteArray := prog_2_method_12_code
def my_F_exponentOf : MethodName := ⟨"NumberProbe$Format", "exponentOf", "(J)I"⟩
abbrev mw_F_exponentOf : List Cond := Cond.code my_F_exponentOf mc_F_exponentOf 3 (some .int) :: gw_tbl
theorem md_F_exponentOf_0 : decode mc_F_exponentOf 0 = .ok (.aload_n 0, 1) := by decide +kernel
theorem md_F_exponentOf_1 : decode mc_F_exponentOf 1 = .ok (.getfield 36, 3) := by decide +kernel
theorem md_F_exponentOf_4 : decode mc_F_exponentOf 4 = .ok (.aload_n 0, 1) := by decide +kernel
theorem md_F_exponentOf_5 : decode mc_F_exponentOf 5 = .ok (.lload_n 1, 1) := by decide +kernel
theorem md_F_exponentOf_6 : decode mc_F_exponentOf 6 = .ok (.invokevirtual 63, 3) := by decide +kernel
theorem md_F_exponentOf_9 : decode mc_F_exponentOf 9 = .ok (.iconst 1, 1) := by decide +kernel
theorem md_F_exponentOf_10 : decode mc_F_exponentOf 10 = .ok (.invokestatic 67, 3) := by decide +kernel
theorem md_F_exponentOf_13 : decode mc_F_exponentOf 13 = .ok (.iadd, 1) := by decide +kernel
theorem md_F_exponentOf_14 : decode mc_F_exponentOf 14 = .ok (.iconst 1, 1) := by decide +kernel
theorem md_F_exponentOf_15 : decode mc_F_exponentOf 15 = .ok (.isub, 1) := by decide +kernel
theorem md_F_exponentOf_16 : decode mc_F_exponentOf 16 = .ok (.ireturn, 1) := by decide +kernel
abbrev mc_F_exponentField : ByteArray := prog_2_method_13_code
def my_F_exponentField : MethodName := ⟨"NumberProbe$Format", "exponentField", "(J)I"⟩
abbrev mw_F_exponentField : List Cond := Cond.code my_F_exponentField mc_F_exponentField 3 (some .int) :: gw_tbl
theorem md_F_exponentField_0 : decode mc_F_exponentField 0 = .ok (.lload_n 1, 1) := by decide +kernel
theorem md_F_exponentField_1 : decode mc_F_exponentField 1 = .ok (.aload_n 0, 1) := by decide +kernel
theorem md_F_exponentField_2 : decode mc_F_exponentField 2 = .ok (.getfield 29, 3) := by decide +kernel
theorem md_F_exponentField_5 : decode mc_F_exponentField 5 = .ok (.lushr, 1) := by decide +kernel
theorem md_F_exponentField_6 : decode mc_F_exponentField 6 = .ok (.l2i, 1) := by decide +kernel
theorem md_F_exponentField_7 : decode mc_F_exponentField 7 = .ok (.aload_n 0, 1) := by decide +kernel
theorem md_F_exponentField_8 : decode mc_F_exponentField 8 = .ok (.getfield 33, 3) := by decide +kernel
theorem md_F_exponentField_11 : decode mc_F_exponentField 11 = .ok (.iand, 1) := by decide +kernel
theorem md_F_exponentField_12 : decode mc_F_exponentField 12 = .ok (.ireturn, 1) := by decide +kernel
abbrev mc_F_widening : ByteArray := prog_2_method_14_code
def my_F_widening : MethodName := ⟨"NumberProbe$Format", "widening", "(J)I"⟩
abbrev mw_F_widening : List Cond := Cond.code my_F_widening mc_F_widening 2 (some .int) :: gw_tbl
theorem md_F_widening_0 : decode mc_F_widening 0 = .ok (.lload_n 0, 1) := by decide +kernel
theorem md_F_widening_1 : decode mc_F_widening 1 = .ok (.invokestatic 73, 3) := by decide +kernel
theorem md_F_widening_4 : decode mc_F_widening 4 = .ok (.bipush 11, 2) := by decide +kernel
theorem md_F_widening_6 : decode mc_F_widening 6 = .ok (.isub, 1) := by decide +kernel
theorem md_F_widening_7 : decode mc_F_widening 7 = .ok (.ireturn, 1) := by decide +kernel
abbrev mc_F_digitOf : ByteArray := prog_2_method_15_code
def my_F_digitOf : MethodName := ⟨"NumberProbe$Format", "digitOf", "(JI)J"⟩
abbrev mw_F_digitOf : List Cond := Cond.code my_F_digitOf mc_F_digitOf 3 (some .long) :: gw_tbl
theorem md_F_digitOf_0 : decode mc_F_digitOf 0 = .ok (.lload_n 0, 1) := by decide +kernel
theorem md_F_digitOf_1 : decode mc_F_digitOf 1 = .ok (.iload_n 2, 1) := by decide +kernel
theorem md_F_digitOf_2 : decode mc_F_digitOf 2 = .ok (.bipush 10, 2) := by decide +kernel
theorem md_F_digitOf_4 : decode mc_F_digitOf 4 = .ok (.imul, 1) := by decide +kernel
theorem md_F_digitOf_5 : decode mc_F_digitOf 5 = .ok (.lushr, 1) := by decide +kernel
theorem md_F_digitOf_6 : decode mc_F_digitOf 6 = .ok (.ldc2_w 78, 3) := by decide +kernel
theorem md_F_digitOf_9 : decode mc_F_digitOf 9 = .ok (.land, 1) := by decide +kernel
theorem md_F_digitOf_10 : decode mc_F_digitOf 10 = .ok (.lreturn, 1) := by decide +kernel
abbrev mc_F_rankInSorting : ByteArray := prog_2_method_16_code
def my_F_rankInSorting : MethodName := ⟨"NumberProbe$Format", "rankInSorting", "(J)J"⟩
abbrev mw_F_rankInSorting : List Cond := Cond.code my_F_rankInSorting mc_F_rankInSorting 3 (some .long) :: gw_tbl
theorem md_F_rankInSorting_0 : decode mc_F_rankInSorting 0 = .ok (.lload_n 1, 1) := by decide +kernel
theorem md_F_rankInSorting_1 : decode mc_F_rankInSorting 1 = .ok (.lconst 0, 1) := by decide +kernel
theorem md_F_rankInSorting_2 : decode mc_F_rankInSorting 2 = .ok (.lcmp, 1) := by decide +kernel
theorem md_F_rankInSorting_3 : decode mc_F_rankInSorting 3 = .ok (.ifCond .ge 12, 3) := by decide +kernel
theorem md_F_rankInSorting_6 : decode mc_F_rankInSorting 6 = .ok (.lload_n 1, 1) := by decide +kernel
theorem md_F_rankInSorting_7 : decode mc_F_rankInSorting 7 = .ok (.aload_n 0, 1) := by decide +kernel
theorem md_F_rankInSorting_8 : decode mc_F_rankInSorting 8 = .ok (.getfield 39, 3) := by decide +kernel
theorem md_F_rankInSorting_11 : decode mc_F_rankInSorting 11 = .ok (.lxor, 1) := by decide +kernel
theorem md_F_rankInSorting_12 : decode mc_F_rankInSorting 12 = .ok (.goto 4, 3) := by decide +kernel
theorem md_F_rankInSorting_15 : decode mc_F_rankInSorting 15 = .ok (.lload_n 1, 1) := by decide +kernel
theorem md_F_rankInSorting_16 : decode mc_F_rankInSorting 16 = .ok (.lreturn, 1) := by decide +kernel
abbrev mc_F_rankByValue : ByteArray := prog_2_method_17_code
def my_F_rankByValue : MethodName := ⟨"NumberProbe$Format", "rankByValue", "(J)J"⟩
abbrev mw_F_rankByValue : List Cond := Cond.code my_F_rankByValue mc_F_rankByValue 3 (some .long) :: gw_tbl
theorem md_F_rankByValue_0 : decode mc_F_rankByValue 0 = .ok (.aload_n 0, 1) := by decide +kernel
theorem md_F_rankByValue_1 : decode mc_F_rankByValue 1 = .ok (.lload_n 1, 1) := by decide +kernel
theorem md_F_rankByValue_2 : decode mc_F_rankByValue 2 = .ok (.invokevirtual 80, 3) := by decide +kernel
theorem md_F_rankByValue_5 : decode mc_F_rankByValue 5 = .ok (.ifCond .eq 7, 3) := by decide +kernel
theorem md_F_rankByValue_8 : decode mc_F_rankByValue 8 = .ok (.lconst 0, 1) := by decide +kernel
theorem md_F_rankByValue_9 : decode mc_F_rankByValue 9 = .ok (.goto 8, 3) := by decide +kernel
theorem md_F_rankByValue_12 : decode mc_F_rankByValue 12 = .ok (.aload_n 0, 1) := by decide +kernel
theorem md_F_rankByValue_13 : decode mc_F_rankByValue 13 = .ok (.lload_n 1, 1) := by decide +kernel
theorem md_F_rankByValue_14 : decode mc_F_rankByValue 14 = .ok (.invokevirtual 83, 3) := by decide +kernel
theorem md_F_rankByValue_17 : decode mc_F_rankByValue 17 = .ok (.lreturn, 1) := by decide +kernel
abbrev mc_F_lesser : ByteArray := prog_2_method_18_code
def my_F_lesser : MethodName := ⟨"NumberProbe$Format", "lesser", "(JJ)J"⟩
abbrev mw_F_lesser : List Cond := Cond.code my_F_lesser mc_F_lesser 5 (some .long) :: gw_tbl
theorem md_F_lesser_0 : decode mc_F_lesser 0 = .ok (.aload_n 0, 1) := by decide +kernel
theorem md_F_lesser_1 : decode mc_F_lesser 1 = .ok (.lload_n 1, 1) := by decide +kernel
theorem md_F_lesser_2 : decode mc_F_lesser 2 = .ok (.invokevirtual 49, 3) := by decide +kernel
theorem md_F_lesser_5 : decode mc_F_lesser 5 = .ok (.ifCond .ne 11, 3) := by decide +kernel
theorem md_F_lesser_8 : decode mc_F_lesser 8 = .ok (.aload_n 0, 1) := by decide +kernel
theorem md_F_lesser_9 : decode mc_F_lesser 9 = .ok (.lload_n 3, 1) := by decide +kernel
theorem md_F_lesser_10 : decode mc_F_lesser 10 = .ok (.invokevirtual 49, 3) := by decide +kernel
theorem md_F_lesser_13 : decode mc_F_lesser 13 = .ok (.ifCond .eq 8, 3) := by decide +kernel
theorem md_F_lesser_16 : decode mc_F_lesser 16 = .ok (.aload_n 0, 1) := by decide +kernel
theorem md_F_lesser_17 : decode mc_F_lesser 17 = .ok (.getfield 46, 3) := by decide +kernel
theorem md_F_lesser_20 : decode mc_F_lesser 20 = .ok (.lreturn, 1) := by decide +kernel
theorem md_F_lesser_21 : decode mc_F_lesser 21 = .ok (.aload_n 0, 1) := by decide +kernel
theorem md_F_lesser_22 : decode mc_F_lesser 22 = .ok (.lload_n 1, 1) := by decide +kernel
theorem md_F_lesser_23 : decode mc_F_lesser 23 = .ok (.invokevirtual 83, 3) := by decide +kernel
theorem md_F_lesser_26 : decode mc_F_lesser 26 = .ok (.aload_n 0, 1) := by decide +kernel
theorem md_F_lesser_27 : decode mc_F_lesser 27 = .ok (.lload_n 3, 1) := by decide +kernel
theorem md_F_lesser_28 : decode mc_F_lesser 28 = .ok (.invokevirtual 83, 3) := by decide +kernel
theorem md_F_lesser_31 : decode mc_F_lesser 31 = .ok (.lcmp, 1) := by decide +kernel
theorem md_F_lesser_32 : decode mc_F_lesser 32 = .ok (.ifCond .gt 7, 3) := by decide +kernel
theorem md_F_lesser_35 : decode mc_F_lesser 35 = .ok (.lload_n 1, 1) := by decide +kernel
theorem md_F_lesser_36 : decode mc_F_lesser 36 = .ok (.goto 4, 3) := by decide +kernel
theorem md_F_lesser_39 : decode mc_F_lesser 39 = .ok (.lload_n 3, 1) := by decide +kernel
theorem md_F_lesser_40 : decode mc_F_lesser 40 = .ok (.lreturn, 1) := by decide +kernel
abbrev mc_F_greater : ByteArray := prog_2_method_19_code
def my_F_greater : MethodName := ⟨"NumberProbe$Format", "greater", "(JJ)J"⟩
abbrev mw_F_greater : List Cond := Cond.code my_F_greater mc_F_greater 5 (some .long) :: gw_tbl
theorem md_F_greater_0 : decode mc_F_greater 0 = .ok (.aload_n 0, 1) := by decide +kernel
theorem md_F_greater_1 : decode mc_F_greater 1 = .ok (.lload_n 1, 1) := by decide +kernel
theorem md_F_greater_2 : decode mc_F_greater 2 = .ok (.invokevirtual 49, 3) := by decide +kernel
theorem md_F_greater_5 : decode mc_F_greater 5 = .ok (.ifCond .ne 11, 3) := by decide +kernel
theorem md_F_greater_8 : decode mc_F_greater 8 = .ok (.aload_n 0, 1) := by decide +kernel
theorem md_F_greater_9 : decode mc_F_greater 9 = .ok (.lload_n 3, 1) := by decide +kernel
theorem md_F_greater_10 : decode mc_F_greater 10 = .ok (.invokevirtual 49, 3) := by decide +kernel
theorem md_F_greater_13 : decode mc_F_greater 13 = .ok (.ifCond .eq 8, 3) := by decide +kernel
theorem md_F_greater_16 : decode mc_F_greater 16 = .ok (.aload_n 0, 1) := by decide +kernel
theorem md_F_greater_17 : decode mc_F_greater 17 = .ok (.getfield 46, 3) := by decide +kernel
theorem md_F_greater_20 : decode mc_F_greater 20 = .ok (.lreturn, 1) := by decide +kernel
theorem md_F_greater_21 : decode mc_F_greater 21 = .ok (.aload_n 0, 1) := by decide +kernel
theorem md_F_greater_22 : decode mc_F_greater 22 = .ok (.lload_n 1, 1) := by decide +kernel
theorem md_F_greater_23 : decode mc_F_greater 23 = .ok (.invokevirtual 83, 3) := by decide +kernel
theorem md_F_greater_26 : decode mc_F_greater 26 = .ok (.aload_n 0, 1) := by decide +kernel
theorem md_F_greater_27 : decode mc_F_greater 27 = .ok (.lload_n 3, 1) := by decide +kernel
theorem md_F_greater_28 : decode mc_F_greater 28 = .ok (.invokevirtual 83, 3) := by decide +kernel
theorem md_F_greater_31 : decode mc_F_greater 31 = .ok (.lcmp, 1) := by decide +kernel
theorem md_F_greater_32 : decode mc_F_greater 32 = .ok (.ifCond .lt 7, 3) := by decide +kernel
theorem md_F_greater_35 : decode mc_F_greater 35 = .ok (.lload_n 1, 1) := by decide +kernel
theorem md_F_greater_36 : decode mc_F_greater 36 = .ok (.goto 4, 3) := by decide +kernel
theorem md_F_greater_39 : decode mc_F_greater 39 = .ok (.lload_n 3, 1) := by decide +kernel
theorem md_F_greater_40 : decode mc_F_greater 40 = .ok (.lreturn, 1) := by decide +kernel
abbrev mc_F_sum : ByteArray := prog_2_method_20_code
def my_F_sum : MethodName := ⟨"NumberProbe$Format", "sum", "(JJ)J"⟩
abbrev mw_F_sum : List Cond := Cond.code my_F_sum mc_F_sum 5 (some .long) :: gw_tbl
theorem md_F_sum_0 : decode mc_F_sum 0 = .ok (.aload_n 0, 1) := by decide +kernel
theorem md_F_sum_1 : decode mc_F_sum 1 = .ok (.lload_n 1, 1) := by decide +kernel
theorem md_F_sum_2 : decode mc_F_sum 2 = .ok (.invokevirtual 49, 3) := by decide +kernel
theorem md_F_sum_5 : decode mc_F_sum 5 = .ok (.ifCond .ne 11, 3) := by decide +kernel
theorem md_F_sum_8 : decode mc_F_sum 8 = .ok (.aload_n 0, 1) := by decide +kernel
theorem md_F_sum_9 : decode mc_F_sum 9 = .ok (.lload_n 3, 1) := by decide +kernel
theorem md_F_sum_10 : decode mc_F_sum 10 = .ok (.invokevirtual 49, 3) := by decide +kernel
theorem md_F_sum_13 : decode mc_F_sum 13 = .ok (.ifCond .eq 8, 3) := by decide +kernel
theorem md_F_sum_16 : decode mc_F_sum 16 = .ok (.aload_n 0, 1) := by decide +kernel
theorem md_F_sum_17 : decode mc_F_sum 17 = .ok (.getfield 46, 3) := by decide +kernel
theorem md_F_sum_20 : decode mc_F_sum 20 = .ok (.lreturn, 1) := by decide +kernel
theorem md_F_sum_21 : decode mc_F_sum 21 = .ok (.aload_n 0, 1) := by decide +kernel
theorem md_F_sum_22 : decode mc_F_sum 22 = .ok (.lload_n 1, 1) := by decide +kernel
theorem md_F_sum_23 : decode mc_F_sum 23 = .ok (.invokevirtual 86, 3) := by decide +kernel
theorem md_F_sum_26 : decode mc_F_sum 26 = .ok (.ifCond .eq 26, 3) := by decide +kernel
theorem md_F_sum_29 : decode mc_F_sum 29 = .ok (.aload_n 0, 1) := by decide +kernel
theorem md_F_sum_30 : decode mc_F_sum 30 = .ok (.lload_n 3, 1) := by decide +kernel
theorem md_F_sum_31 : decode mc_F_sum 31 = .ok (.invokevirtual 86, 3) := by decide +kernel
theorem md_F_sum_34 : decode mc_F_sum 34 = .ok (.ifCond .eq 16, 3) := by decide +kernel
theorem md_F_sum_37 : decode mc_F_sum 37 = .ok (.lload_n 1, 1) := by decide +kernel
theorem md_F_sum_38 : decode mc_F_sum 38 = .ok (.lload_n 3, 1) := by decide +kernel
theorem md_F_sum_39 : decode mc_F_sum 39 = .ok (.lcmp, 1) := by decide +kernel
theorem md_F_sum_40 : decode mc_F_sum 40 = .ok (.ifCond .eq 10, 3) := by decide +kernel
theorem md_F_sum_43 : decode mc_F_sum 43 = .ok (.aload_n 0, 1) := by decide +kernel
theorem md_F_sum_44 : decode mc_F_sum 44 = .ok (.getfield 46, 3) := by decide +kernel
theorem md_F_sum_47 : decode mc_F_sum 47 = .ok (.goto 4, 3) := by decide +kernel
theorem md_F_sum_50 : decode mc_F_sum 50 = .ok (.lload_n 1, 1) := by decide +kernel
theorem md_F_sum_51 : decode mc_F_sum 51 = .ok (.lreturn, 1) := by decide +kernel
theorem md_F_sum_52 : decode mc_F_sum 52 = .ok (.aload_n 0, 1) := by decide +kernel
theorem md_F_sum_53 : decode mc_F_sum 53 = .ok (.lload_n 3, 1) := by decide +kernel
theorem md_F_sum_54 : decode mc_F_sum 54 = .ok (.invokevirtual 86, 3) := by decide +kernel
theorem md_F_sum_57 : decode mc_F_sum 57 = .ok (.ifCond .eq 5, 3) := by decide +kernel
theorem md_F_sum_60 : decode mc_F_sum 60 = .ok (.lload_n 3, 1) := by decide +kernel
theorem md_F_sum_61 : decode mc_F_sum 61 = .ok (.lreturn, 1) := by decide +kernel
theorem md_F_sum_62 : decode mc_F_sum 62 = .ok (.aload_n 0, 1) := by decide +kernel
theorem md_F_sum_63 : decode mc_F_sum 63 = .ok (.lload_n 1, 1) := by decide +kernel
theorem md_F_sum_64 : decode mc_F_sum 64 = .ok (.invokevirtual 53, 3) := by decide +kernel
theorem md_F_sum_67 : decode mc_F_sum 67 = .ok (.aload_n 0, 1) := by decide +kernel
theorem md_F_sum_68 : decode mc_F_sum 68 = .ok (.lload_n 3, 1) := by decide +kernel
theorem md_F_sum_69 : decode mc_F_sum 69 = .ok (.invokevirtual 53, 3) := by decide +kernel
theorem md_F_sum_72 : decode mc_F_sum 72 = .ok (.lcmp, 1) := by decide +kernel
theorem md_F_sum_73 : decode mc_F_sum 73 = .ok (.ifCond .lt 12, 3) := by decide +kernel
theorem md_F_sum_76 : decode mc_F_sum 76 = .ok (.aload_n 0, 1) := by decide +kernel
theorem md_F_sum_77 : decode mc_F_sum 77 = .ok (.lload_n 1, 1) := by decide +kernel
theorem md_F_sum_78 : decode mc_F_sum 78 = .ok (.lload_n 3, 1) := by decide +kernel
theorem md_F_sum_79 : decode mc_F_sum 79 = .ok (.invokevirtual 89, 3) := by decide +kernel
theorem md_F_sum_82 : decode mc_F_sum 82 = .ok (.goto 9, 3) := by decide +kernel
theorem md_F_sum_85 : decode mc_F_sum 85 = .ok (.aload_n 0, 1) := by decide +kernel
theorem md_F_sum_86 : decode mc_F_sum 86 = .ok (.lload_n 3, 1) := by decide +kernel
theorem md_F_sum_87 : decode mc_F_sum 87 = .ok (.lload_n 1, 1) := by decide +kernel
theorem md_F_sum_88 : decode mc_F_sum 88 = .ok (.invokevirtual 89, 3) := by decide +kernel
theorem md_F_sum_91 : decode mc_F_sum 91 = .ok (.lreturn, 1) := by decide +kernel
abbrev mc_F_finiteSum : ByteArray := prog_2_method_21_code
def my_F_finiteSum : MethodName := ⟨"NumberProbe$Format", "finiteSum", "(JJ)J"⟩
abbrev mw_F_finiteSum : List Cond := Cond.code my_F_finiteSum mc_F_finiteSum 14 (some .long) :: gw_tbl
theorem md_F_finiteSum_0 : decode mc_F_finiteSum 0 = .ok (.aload_n 0, 1) := by decide +kernel
theorem md_F_finiteSum_1 : decode mc_F_finiteSum 1 = .ok (.lload_n 1, 1) := by decide +kernel
theorem md_F_finiteSum_2 : decode mc_F_finiteSum 2 = .ok (.invokevirtual 93, 3) := by decide +kernel
theorem md_F_finiteSum_5 : decode mc_F_finiteSum 5 = .ok (.istore 5, 2) := by decide +kernel
theorem md_F_finiteSum_7 : decode mc_F_finiteSum 7 = .ok (.aload_n 0, 1) := by decide +kernel
theorem md_F_finiteSum_8 : decode mc_F_finiteSum 8 = .ok (.lload_n 1, 1) := by decide +kernel
theorem md_F_finiteSum_9 : decode mc_F_finiteSum 9 = .ok (.invokevirtual 96, 3) := by decide +kernel
theorem md_F_finiteSum_12 : decode mc_F_finiteSum 12 = .ok (.bipush 9, 2) := by decide +kernel
theorem md_F_finiteSum_14 : decode mc_F_finiteSum 14 = .ok (.lshl, 1) := by decide +kernel
theorem md_F_finiteSum_15 : decode mc_F_finiteSum 15 = .ok (.lstore 6, 2) := by decide +kernel
theorem md_F_finiteSum_17 : decode mc_F_finiteSum 17 = .ok (.aload_n 0, 1) := by decide +kernel
theorem md_F_finiteSum_18 : decode mc_F_finiteSum 18 = .ok (.lload_n 3, 1) := by decide +kernel
theorem md_F_finiteSum_19 : decode mc_F_finiteSum 19 = .ok (.invokevirtual 96, 3) := by decide +kernel
theorem md_F_finiteSum_22 : decode mc_F_finiteSum 22 = .ok (.bipush 9, 2) := by decide +kernel
theorem md_F_finiteSum_24 : decode mc_F_finiteSum 24 = .ok (.lshl, 1) := by decide +kernel
theorem md_F_finiteSum_25 : decode mc_F_finiteSum 25 = .ok (.iload 5, 2) := by decide +kernel
theorem md_F_finiteSum_27 : decode mc_F_finiteSum 27 = .ok (.aload_n 0, 1) := by decide +kernel
theorem md_F_finiteSum_28 : decode mc_F_finiteSum 28 = .ok (.lload_n 3, 1) := by decide +kernel
theorem md_F_finiteSum_29 : decode mc_F_finiteSum 29 = .ok (.invokevirtual 93, 3) := by decide +kernel
theorem md_F_finiteSum_32 : decode mc_F_finiteSum 32 = .ok (.isub, 1) := by decide +kernel
theorem md_F_finiteSum_33 : decode mc_F_finiteSum 33 = .ok (.invokestatic 99, 3) := by decide +kernel
theorem md_F_finiteSum_36 : decode mc_F_finiteSum 36 = .ok (.lstore 8, 2) := by decide +kernel
theorem md_F_finiteSum_38 : decode mc_F_finiteSum 38 = .ok (.lload_n 1, 1) := by decide +kernel
theorem md_F_finiteSum_39 : decode mc_F_finiteSum 39 = .ok (.lconst 0, 1) := by decide +kernel
theorem md_F_finiteSum_40 : decode mc_F_finiteSum 40 = .ok (.lcmp, 1) := by decide +kernel
theorem md_F_finiteSum_41 : decode mc_F_finiteSum 41 = .ok (.ifCond .ge 7, 3) := by decide +kernel
theorem md_F_finiteSum_44 : decode mc_F_finiteSum 44 = .ok (.iconst 1, 1) := by decide +kernel
theorem md_F_finiteSum_45 : decode mc_F_finiteSum 45 = .ok (.goto 4, 3) := by decide +kernel
theorem md_F_finiteSum_48 : decode mc_F_finiteSum 48 = .ok (.iconst 0, 1) := by decide +kernel
theorem md_F_finiteSum_49 : decode mc_F_finiteSum 49 = .ok (.lload_n 3, 1) := by decide +kernel
theorem md_F_finiteSum_50 : decode mc_F_finiteSum 50 = .ok (.lconst 0, 1) := by decide +kernel
theorem md_F_finiteSum_51 : decode mc_F_finiteSum 51 = .ok (.lcmp, 1) := by decide +kernel
theorem md_F_finiteSum_52 : decode mc_F_finiteSum 52 = .ok (.ifCond .ge 7, 3) := by decide +kernel
theorem md_F_finiteSum_55 : decode mc_F_finiteSum 55 = .ok (.iconst 1, 1) := by decide +kernel
theorem md_F_finiteSum_56 : decode mc_F_finiteSum 56 = .ok (.goto 4, 3) := by decide +kernel
theorem md_F_finiteSum_59 : decode mc_F_finiteSum 59 = .ok (.iconst 0, 1) := by decide +kernel
theorem md_F_finiteSum_60 : decode mc_F_finiteSum 60 = .ok (.if_icmp .ne 7, 3) := by decide +kernel
theorem md_F_finiteSum_63 : decode mc_F_finiteSum 63 = .ok (.iconst 1, 1) := by decide +kernel
theorem md_F_finiteSum_64 : decode mc_F_finiteSum 64 = .ok (.goto 4, 3) := by decide +kernel
theorem md_F_finiteSum_67 : decode mc_F_finiteSum 67 = .ok (.iconst 0, 1) := by decide +kernel
theorem md_F_finiteSum_68 : decode mc_F_finiteSum 68 = .ok (.istore 10, 2) := by decide +kernel
theorem md_F_finiteSum_70 : decode mc_F_finiteSum 70 = .ok (.iload 10, 2) := by decide +kernel
theorem md_F_finiteSum_72 : decode mc_F_finiteSum 72 = .ok (.ifCond .eq 11, 3) := by decide +kernel
theorem md_F_finiteSum_75 : decode mc_F_finiteSum 75 = .ok (.lload 6, 2) := by decide +kernel
theorem md_F_finiteSum_77 : decode mc_F_finiteSum 77 = .ok (.lload 8, 2) := by decide +kernel
theorem md_F_finiteSum_79 : decode mc_F_finiteSum 79 = .ok (.ladd, 1) := by decide +kernel
theorem md_F_finiteSum_80 : decode mc_F_finiteSum 80 = .ok (.goto 8, 3) := by decide +kernel
theorem md_F_finiteSum_83 : decode mc_F_finiteSum 83 = .ok (.lload 6, 2) := by decide +kernel
theorem md_F_finiteSum_85 : decode mc_F_finiteSum 85 = .ok (.lload 8, 2) := by decide +kernel
theorem md_F_finiteSum_87 : decode mc_F_finiteSum 87 = .ok (.lsub, 1) := by decide +kernel
theorem md_F_finiteSum_88 : decode mc_F_finiteSum 88 = .ok (.lstore 11, 2) := by decide +kernel
theorem md_F_finiteSum_90 : decode mc_F_finiteSum 90 = .ok (.lload_n 1, 1) := by decide +kernel
theorem md_F_finiteSum_91 : decode mc_F_finiteSum 91 = .ok (.lconst 0, 1) := by decide +kernel
theorem md_F_finiteSum_92 : decode mc_F_finiteSum 92 = .ok (.lcmp, 1) := by decide +kernel
theorem md_F_finiteSum_93 : decode mc_F_finiteSum 93 = .ok (.ifCond .ge 19, 3) := by decide +kernel
theorem md_F_finiteSum_96 : decode mc_F_finiteSum 96 = .ok (.iload 10, 2) := by decide +kernel
theorem md_F_finiteSum_98 : decode mc_F_finiteSum 98 = .ok (.ifCond .ne 10, 3) := by decide +kernel
theorem md_F_finiteSum_101 : decode mc_F_finiteSum 101 = .ok (.lload 11, 2) := by decide +kernel
theorem md_F_finiteSum_103 : decode mc_F_finiteSum 103 = .ok (.lconst 0, 1) := by decide +kernel
theorem md_F_finiteSum_104 : decode mc_F_finiteSum 104 = .ok (.lcmp, 1) := by decide +kernel
theorem md_F_finiteSum_105 : decode mc_F_finiteSum 105 = .ok (.ifCond .eq 7, 3) := by decide +kernel
theorem md_F_finiteSum_108 : decode mc_F_finiteSum 108 = .ok (.iconst 1, 1) := by decide +kernel
theorem md_F_finiteSum_109 : decode mc_F_finiteSum 109 = .ok (.goto 4, 3) := by decide +kernel
theorem md_F_finiteSum_112 : decode mc_F_finiteSum 112 = .ok (.iconst 0, 1) := by decide +kernel
theorem md_F_finiteSum_113 : decode mc_F_finiteSum 113 = .ok (.istore 13, 2) := by decide +kernel
theorem md_F_finiteSum_115 : decode mc_F_finiteSum 115 = .ok (.aload_n 0, 1) := by decide +kernel
theorem md_F_finiteSum_116 : decode mc_F_finiteSum 116 = .ok (.iload 13, 2) := by decide +kernel
theorem md_F_finiteSum_118 : decode mc_F_finiteSum 118 = .ok (.lload 11, 2) := by decide +kernel
theorem md_F_finiteSum_120 : decode mc_F_finiteSum 120 = .ok (.iload 5, 2) := by decide +kernel
theorem md_F_finiteSum_122 : decode mc_F_finiteSum 122 = .ok (.bipush 9, 2) := by decide +kernel
theorem md_F_finiteSum_124 : decode mc_F_finiteSum 124 = .ok (.isub, 1) := by decide +kernel
theorem md_F_finiteSum_125 : decode mc_F_finiteSum 125 = .ok (.invokevirtual 103, 3) := by decide +kernel
theorem md_F_finiteSum_128 : decode mc_F_finiteSum 128 = .ok (.lreturn, 1) := by decide +kernel
abbrev mc_F_product : ByteArray := prog_2_method_22_code
def my_F_product : MethodName := ⟨"NumberProbe$Format", "product", "(JJ)J"⟩
abbrev mw_F_product : List Cond := Cond.code my_F_product mc_F_product 6 (some .long) :: gw_tbl
theorem md_F_product_0 : decode mc_F_product 0 = .ok (.lload_n 1, 1) := by decide +kernel
theorem md_F_product_1 : decode mc_F_product 1 = .ok (.lconst 0, 1) := by decide +kernel
theorem md_F_product_2 : decode mc_F_product 2 = .ok (.lcmp, 1) := by decide +kernel
theorem md_F_product_3 : decode mc_F_product 3 = .ok (.ifCond .ge 7, 3) := by decide +kernel
theorem md_F_product_6 : decode mc_F_product 6 = .ok (.iconst 1, 1) := by decide +kernel
theorem md_F_product_7 : decode mc_F_product 7 = .ok (.goto 4, 3) := by decide +kernel
theorem md_F_product_10 : decode mc_F_product 10 = .ok (.iconst 0, 1) := by decide +kernel
theorem md_F_product_11 : decode mc_F_product 11 = .ok (.lload_n 3, 1) := by decide +kernel
theorem md_F_product_12 : decode mc_F_product 12 = .ok (.lconst 0, 1) := by decide +kernel
theorem md_F_product_13 : decode mc_F_product 13 = .ok (.lcmp, 1) := by decide +kernel
theorem md_F_product_14 : decode mc_F_product 14 = .ok (.ifCond .ge 7, 3) := by decide +kernel
theorem md_F_product_17 : decode mc_F_product 17 = .ok (.iconst 1, 1) := by decide +kernel
theorem md_F_product_18 : decode mc_F_product 18 = .ok (.goto 4, 3) := by decide +kernel
theorem md_F_product_21 : decode mc_F_product 21 = .ok (.iconst 0, 1) := by decide +kernel
theorem md_F_product_22 : decode mc_F_product 22 = .ok (.if_icmp .eq 7, 3) := by decide +kernel
theorem md_F_product_25 : decode mc_F_product 25 = .ok (.iconst 1, 1) := by decide +kernel
theorem md_F_product_26 : decode mc_F_product 26 = .ok (.goto 4, 3) := by decide +kernel
theorem md_F_product_29 : decode mc_F_product 29 = .ok (.iconst 0, 1) := by decide +kernel
theorem md_F_product_30 : decode mc_F_product 30 = .ok (.istore 5, 2) := by decide +kernel
theorem md_F_product_32 : decode mc_F_product 32 = .ok (.aload_n 0, 1) := by decide +kernel
theorem md_F_product_33 : decode mc_F_product 33 = .ok (.lload_n 1, 1) := by decide +kernel
theorem md_F_product_34 : decode mc_F_product 34 = .ok (.invokevirtual 49, 3) := by decide +kernel
theorem md_F_product_37 : decode mc_F_product 37 = .ok (.ifCond .ne 11, 3) := by decide +kernel
theorem md_F_product_40 : decode mc_F_product 40 = .ok (.aload_n 0, 1) := by decide +kernel
theorem md_F_product_41 : decode mc_F_product 41 = .ok (.lload_n 3, 1) := by decide +kernel
theorem md_F_product_42 : decode mc_F_product 42 = .ok (.invokevirtual 49, 3) := by decide +kernel
theorem md_F_product_45 : decode mc_F_product 45 = .ok (.ifCond .eq 8, 3) := by decide +kernel
theorem md_F_product_48 : decode mc_F_product 48 = .ok (.aload_n 0, 1) := by decide +kernel
theorem md_F_product_49 : decode mc_F_product 49 = .ok (.getfield 46, 3) := by decide +kernel
theorem md_F_product_52 : decode mc_F_product 52 = .ok (.lreturn, 1) := by decide +kernel
theorem md_F_product_53 : decode mc_F_product 53 = .ok (.aload_n 0, 1) := by decide +kernel
theorem md_F_product_54 : decode mc_F_product 54 = .ok (.lload_n 1, 1) := by decide +kernel
theorem md_F_product_55 : decode mc_F_product 55 = .ok (.invokevirtual 86, 3) := by decide +kernel
theorem md_F_product_58 : decode mc_F_product 58 = .ok (.ifCond .ne 11, 3) := by decide +kernel
theorem md_F_product_61 : decode mc_F_product 61 = .ok (.aload_n 0, 1) := by decide +kernel
theorem md_F_product_62 : decode mc_F_product 62 = .ok (.lload_n 3, 1) := by decide +kernel
theorem md_F_product_63 : decode mc_F_product 63 = .ok (.invokevirtual 86, 3) := by decide +kernel
theorem md_F_product_66 : decode mc_F_product 66 = .ok (.ifCond .eq 37, 3) := by decide +kernel
theorem md_F_product_69 : decode mc_F_product 69 = .ok (.aload_n 0, 1) := by decide +kernel
theorem md_F_product_70 : decode mc_F_product 70 = .ok (.lload_n 1, 1) := by decide +kernel
theorem md_F_product_71 : decode mc_F_product 71 = .ok (.invokevirtual 80, 3) := by decide +kernel
theorem md_F_product_74 : decode mc_F_product 74 = .ok (.ifCond .ne 11, 3) := by decide +kernel
theorem md_F_product_77 : decode mc_F_product 77 = .ok (.aload_n 0, 1) := by decide +kernel
theorem md_F_product_78 : decode mc_F_product 78 = .ok (.lload_n 3, 1) := by decide +kernel
theorem md_F_product_79 : decode mc_F_product 79 = .ok (.invokevirtual 80, 3) := by decide +kernel
theorem md_F_product_82 : decode mc_F_product 82 = .ok (.ifCond .eq 10, 3) := by decide +kernel
theorem md_F_product_85 : decode mc_F_product 85 = .ok (.aload_n 0, 1) := by decide +kernel
theorem md_F_product_86 : decode mc_F_product 86 = .ok (.getfield 46, 3) := by decide +kernel
theorem md_F_product_89 : decode mc_F_product 89 = .ok (.goto 13, 3) := by decide +kernel
theorem md_F_product_92 : decode mc_F_product 92 = .ok (.aload_n 0, 1) := by decide +kernel
theorem md_F_product_93 : decode mc_F_product 93 = .ok (.iload 5, 2) := by decide +kernel
theorem md_F_product_95 : decode mc_F_product 95 = .ok (.aload_n 0, 1) := by decide +kernel
theorem md_F_product_96 : decode mc_F_product 96 = .ok (.getfield 43, 3) := by decide +kernel
theorem md_F_product_99 : decode mc_F_product 99 = .ok (.invokevirtual 57, 3) := by decide +kernel
theorem md_F_product_102 : decode mc_F_product 102 = .ok (.lreturn, 1) := by decide +kernel
theorem md_F_product_103 : decode mc_F_product 103 = .ok (.aload_n 0, 1) := by decide +kernel
theorem md_F_product_104 : decode mc_F_product 104 = .ok (.lload_n 1, 1) := by decide +kernel
theorem md_F_product_105 : decode mc_F_product 105 = .ok (.invokevirtual 80, 3) := by decide +kernel
theorem md_F_product_108 : decode mc_F_product 108 = .ok (.ifCond .ne 11, 3) := by decide +kernel
theorem md_F_product_111 : decode mc_F_product 111 = .ok (.aload_n 0, 1) := by decide +kernel
theorem md_F_product_112 : decode mc_F_product 112 = .ok (.lload_n 3, 1) := by decide +kernel
theorem md_F_product_113 : decode mc_F_product 113 = .ok (.invokevirtual 80, 3) := by decide +kernel
theorem md_F_product_116 : decode mc_F_product 116 = .ok (.ifCond .eq 11, 3) := by decide +kernel
theorem md_F_product_119 : decode mc_F_product 119 = .ok (.aload_n 0, 1) := by decide +kernel
theorem md_F_product_120 : decode mc_F_product 120 = .ok (.iload 5, 2) := by decide +kernel
theorem md_F_product_122 : decode mc_F_product 122 = .ok (.lconst 0, 1) := by decide +kernel
theorem md_F_product_123 : decode mc_F_product 123 = .ok (.invokevirtual 57, 3) := by decide +kernel
theorem md_F_product_126 : decode mc_F_product 126 = .ok (.lreturn, 1) := by decide +kernel
theorem md_F_product_127 : decode mc_F_product 127 = .ok (.aload_n 0, 1) := by decide +kernel
theorem md_F_product_128 : decode mc_F_product 128 = .ok (.iload 5, 2) := by decide +kernel
theorem md_F_product_130 : decode mc_F_product 130 = .ok (.lload_n 1, 1) := by decide +kernel
theorem md_F_product_131 : decode mc_F_product 131 = .ok (.lload_n 3, 1) := by decide +kernel
theorem md_F_product_132 : decode mc_F_product 132 = .ok (.invokevirtual 107, 3) := by decide +kernel
theorem md_F_product_135 : decode mc_F_product 135 = .ok (.lreturn, 1) := by decide +kernel
abbrev mc_F_finiteProduct : ByteArray := prog_2_method_23_code
def my_F_finiteProduct : MethodName := ⟨"NumberProbe$Format", "finiteProduct", "(ZJJ)J"⟩
abbrev mw_F_finiteProduct : List Cond := Cond.code my_F_finiteProduct mc_F_finiteProduct 17 (some .long) :: gw_tbl
theorem md_F_finiteProduct_0 : decode mc_F_finiteProduct 0 = .ok (.aload_n 0, 1) := by decide +kernel
theorem md_F_finiteProduct_1 : decode mc_F_finiteProduct 1 = .ok (.lload_n 2, 1) := by decide +kernel
theorem md_F_finiteProduct_2 : decode mc_F_finiteProduct 2 = .ok (.invokevirtual 96, 3) := by decide +kernel
theorem md_F_finiteProduct_5 : decode mc_F_finiteProduct 5 = .ok (.invokestatic 111, 3) := by decide +kernel
theorem md_F_finiteProduct_8 : decode mc_F_finiteProduct 8 = .ok (.istore 6, 2) := by decide +kernel
theorem md_F_finiteProduct_10 : decode mc_F_finiteProduct 10 = .ok (.aload_n 0, 1) := by decide +kernel
theorem md_F_finiteProduct_11 : decode mc_F_finiteProduct 11 = .ok (.lload 4, 2) := by decide +kernel
theorem md_F_finiteProduct_13 : decode mc_F_finiteProduct 13 = .ok (.invokevirtual 96, 3) := by decide +kernel
theorem md_F_finiteProduct_16 : decode mc_F_finiteProduct 16 = .ok (.invokestatic 111, 3) := by decide +kernel
theorem md_F_finiteProduct_19 : decode mc_F_finiteProduct 19 = .ok (.istore 7, 2) := by decide +kernel
theorem md_F_finiteProduct_21 : decode mc_F_finiteProduct 21 = .ok (.aload_n 0, 1) := by decide +kernel
theorem md_F_finiteProduct_22 : decode mc_F_finiteProduct 22 = .ok (.lload_n 2, 1) := by decide +kernel
theorem md_F_finiteProduct_23 : decode mc_F_finiteProduct 23 = .ok (.invokevirtual 96, 3) := by decide +kernel
theorem md_F_finiteProduct_26 : decode mc_F_finiteProduct 26 = .ok (.iload 6, 2) := by decide +kernel
theorem md_F_finiteProduct_28 : decode mc_F_finiteProduct 28 = .ok (.lshl, 1) := by decide +kernel
theorem md_F_finiteProduct_29 : decode mc_F_finiteProduct 29 = .ok (.lstore 8, 2) := by decide +kernel
theorem md_F_finiteProduct_31 : decode mc_F_finiteProduct 31 = .ok (.aload_n 0, 1) := by decide +kernel
theorem md_F_finiteProduct_32 : decode mc_F_finiteProduct 32 = .ok (.lload 4, 2) := by decide +kernel
theorem md_F_finiteProduct_34 : decode mc_F_finiteProduct 34 = .ok (.invokevirtual 96, 3) := by decide +kernel
theorem md_F_finiteProduct_37 : decode mc_F_finiteProduct 37 = .ok (.iload 7, 2) := by decide +kernel
theorem md_F_finiteProduct_39 : decode mc_F_finiteProduct 39 = .ok (.lshl, 1) := by decide +kernel
theorem md_F_finiteProduct_40 : decode mc_F_finiteProduct 40 = .ok (.lstore 10, 2) := by decide +kernel
theorem md_F_finiteProduct_42 : decode mc_F_finiteProduct 42 = .ok (.lconst 0, 1) := by decide +kernel
theorem md_F_finiteProduct_43 : decode mc_F_finiteProduct 43 = .ok (.lstore 12, 2) := by decide +kernel
theorem md_F_finiteProduct_45 : decode mc_F_finiteProduct 45 = .ok (.lconst 0, 1) := by decide +kernel
theorem md_F_finiteProduct_46 : decode mc_F_finiteProduct 46 = .ok (.lstore 14, 2) := by decide +kernel
theorem md_F_finiteProduct_48 : decode mc_F_finiteProduct 48 = .ok (.iconst 0, 1) := by decide +kernel
theorem md_F_finiteProduct_49 : decode mc_F_finiteProduct 49 = .ok (.istore 16, 2) := by decide +kernel
theorem md_F_finiteProduct_51 : decode mc_F_finiteProduct 51 = .ok (.iload 16, 2) := by decide +kernel
theorem md_F_finiteProduct_53 : decode mc_F_finiteProduct 53 = .ok (.bipush 6, 2) := by decide +kernel
theorem md_F_finiteProduct_55 : decode mc_F_finiteProduct 55 = .ok (.if_icmp .ge 38, 3) := by decide +kernel
theorem md_F_finiteProduct_58 : decode mc_F_finiteProduct 58 = .ok (.lload 14, 2) := by decide +kernel
theorem md_F_finiteProduct_60 : decode mc_F_finiteProduct 60 = .ok (.lload 12, 2) := by decide +kernel
theorem md_F_finiteProduct_62 : decode mc_F_finiteProduct 62 = .ok (.iconst 0, 1) := by decide +kernel
theorem md_F_finiteProduct_63 : decode mc_F_finiteProduct 63 = .ok (.invokestatic 114, 3) := by decide +kernel
theorem md_F_finiteProduct_66 : decode mc_F_finiteProduct 66 = .ok (.lor, 1) := by decide +kernel
theorem md_F_finiteProduct_67 : decode mc_F_finiteProduct 67 = .ok (.lstore 14, 2) := by decide +kernel
theorem md_F_finiteProduct_69 : decode mc_F_finiteProduct 69 = .ok (.lload 12, 2) := by decide +kernel
theorem md_F_finiteProduct_71 : decode mc_F_finiteProduct 71 = .ok (.bipush 10, 2) := by decide +kernel
theorem md_F_finiteProduct_73 : decode mc_F_finiteProduct 73 = .ok (.lushr, 1) := by decide +kernel
theorem md_F_finiteProduct_74 : decode mc_F_finiteProduct 74 = .ok (.lload 8, 2) := by decide +kernel
theorem md_F_finiteProduct_76 : decode mc_F_finiteProduct 76 = .ok (.lload 10, 2) := by decide +kernel
theorem md_F_finiteProduct_78 : decode mc_F_finiteProduct 78 = .ok (.iload 16, 2) := by decide +kernel
theorem md_F_finiteProduct_80 : decode mc_F_finiteProduct 80 = .ok (.invokestatic 114, 3) := by decide +kernel
theorem md_F_finiteProduct_83 : decode mc_F_finiteProduct 83 = .ok (.lmul, 1) := by decide +kernel
theorem md_F_finiteProduct_84 : decode mc_F_finiteProduct 84 = .ok (.ladd, 1) := by decide +kernel
theorem md_F_finiteProduct_85 : decode mc_F_finiteProduct 85 = .ok (.lstore 12, 2) := by decide +kernel
theorem md_F_finiteProduct_87 : decode mc_F_finiteProduct 87 = .ok (.iinc 16 1, 3) := by decide +kernel
theorem md_F_finiteProduct_90 : decode mc_F_finiteProduct 90 = .ok (.goto (-39), 3) := by decide +kernel
theorem md_F_finiteProduct_93 : decode mc_F_finiteProduct 93 = .ok (.aload_n 0, 1) := by decide +kernel
theorem md_F_finiteProduct_94 : decode mc_F_finiteProduct 94 = .ok (.lload_n 2, 1) := by decide +kernel
theorem md_F_finiteProduct_95 : decode mc_F_finiteProduct 95 = .ok (.invokevirtual 93, 3) := by decide +kernel
theorem md_F_finiteProduct_98 : decode mc_F_finiteProduct 98 = .ok (.iload 6, 2) := by decide +kernel
theorem md_F_finiteProduct_100 : decode mc_F_finiteProduct 100 = .ok (.isub, 1) := by decide +kernel
theorem md_F_finiteProduct_101 : decode mc_F_finiteProduct 101 = .ok (.aload_n 0, 1) := by decide +kernel
theorem md_F_finiteProduct_102 : decode mc_F_finiteProduct 102 = .ok (.lload 4, 2) := by decide +kernel
theorem md_F_finiteProduct_104 : decode mc_F_finiteProduct 104 = .ok (.invokevirtual 93, 3) := by decide +kernel
theorem md_F_finiteProduct_107 : decode mc_F_finiteProduct 107 = .ok (.iadd, 1) := by decide +kernel
theorem md_F_finiteProduct_108 : decode mc_F_finiteProduct 108 = .ok (.iload 7, 2) := by decide +kernel
theorem md_F_finiteProduct_110 : decode mc_F_finiteProduct 110 = .ok (.isub, 1) := by decide +kernel
theorem md_F_finiteProduct_111 : decode mc_F_finiteProduct 111 = .ok (.bipush 50, 2) := by decide +kernel
theorem md_F_finiteProduct_113 : decode mc_F_finiteProduct 113 = .ok (.iadd, 1) := by decide +kernel
theorem md_F_finiteProduct_114 : decode mc_F_finiteProduct 114 = .ok (.istore 16, 2) := by decide +kernel
theorem md_F_finiteProduct_116 : decode mc_F_finiteProduct 116 = .ok (.aload_n 0, 1) := by decide +kernel
theorem md_F_finiteProduct_117 : decode mc_F_finiteProduct 117 = .ok (.iload_n 1, 1) := by decide +kernel
theorem md_F_finiteProduct_118 : decode mc_F_finiteProduct 118 = .ok (.lload 12, 2) := by decide +kernel
theorem md_F_finiteProduct_120 : decode mc_F_finiteProduct 120 = .ok (.lload 14, 2) := by decide +kernel
theorem md_F_finiteProduct_122 : decode mc_F_finiteProduct 122 = .ok (.invokestatic 117, 3) := by decide +kernel
theorem md_F_finiteProduct_125 : decode mc_F_finiteProduct 125 = .ok (.iload 16, 2) := by decide +kernel
theorem md_F_finiteProduct_127 : decode mc_F_finiteProduct 127 = .ok (.invokevirtual 103, 3) := by decide +kernel
theorem md_F_finiteProduct_130 : decode mc_F_finiteProduct 130 = .ok (.lreturn, 1) := by decide +kernel
abbrev mc_F_quotient : ByteArray := prog_2_method_24_code
def my_F_quotient : MethodName := ⟨"NumberProbe$Format", "quotient", "(JJ)J"⟩
abbrev mw_F_quotient : List Cond := Cond.code my_F_quotient mc_F_quotient 6 (some .long) :: gw_tbl
theorem md_F_quotient_0 : decode mc_F_quotient 0 = .ok (.lload_n 1, 1) := by decide +kernel
theorem md_F_quotient_1 : decode mc_F_quotient 1 = .ok (.lconst 0, 1) := by decide +kernel
theorem md_F_quotient_2 : decode mc_F_quotient 2 = .ok (.lcmp, 1) := by decide +kernel
theorem md_F_quotient_3 : decode mc_F_quotient 3 = .ok (.ifCond .ge 7, 3) := by decide +kernel
theorem md_F_quotient_6 : decode mc_F_quotient 6 = .ok (.iconst 1, 1) := by decide +kernel
theorem md_F_quotient_7 : decode mc_F_quotient 7 = .ok (.goto 4, 3) := by decide +kernel
theorem md_F_quotient_10 : decode mc_F_quotient 10 = .ok (.iconst 0, 1) := by decide +kernel
theorem md_F_quotient_11 : decode mc_F_quotient 11 = .ok (.lload_n 3, 1) := by decide +kernel
theorem md_F_quotient_12 : decode mc_F_quotient 12 = .ok (.lconst 0, 1) := by decide +kernel
theorem md_F_quotient_13 : decode mc_F_quotient 13 = .ok (.lcmp, 1) := by decide +kernel
theorem md_F_quotient_14 : decode mc_F_quotient 14 = .ok (.ifCond .ge 7, 3) := by decide +kernel
theorem md_F_quotient_17 : decode mc_F_quotient 17 = .ok (.iconst 1, 1) := by decide +kernel
theorem md_F_quotient_18 : decode mc_F_quotient 18 = .ok (.goto 4, 3) := by decide +kernel
theorem md_F_quotient_21 : decode mc_F_quotient 21 = .ok (.iconst 0, 1) := by decide +kernel
theorem md_F_quotient_22 : decode mc_F_quotient 22 = .ok (.if_icmp .eq 7, 3) := by decide +kernel
theorem md_F_quotient_25 : decode mc_F_quotient 25 = .ok (.iconst 1, 1) := by decide +kernel
theorem md_F_quotient_26 : decode mc_F_quotient 26 = .ok (.goto 4, 3) := by decide +kernel
theorem md_F_quotient_29 : decode mc_F_quotient 29 = .ok (.iconst 0, 1) := by decide +kernel
theorem md_F_quotient_30 : decode mc_F_quotient 30 = .ok (.istore 5, 2) := by decide +kernel
theorem md_F_quotient_32 : decode mc_F_quotient 32 = .ok (.aload_n 0, 1) := by decide +kernel
theorem md_F_quotient_33 : decode mc_F_quotient 33 = .ok (.lload_n 1, 1) := by decide +kernel
theorem md_F_quotient_34 : decode mc_F_quotient 34 = .ok (.invokevirtual 49, 3) := by decide +kernel
theorem md_F_quotient_37 : decode mc_F_quotient 37 = .ok (.ifCond .ne 43, 3) := by decide +kernel
theorem md_F_quotient_40 : decode mc_F_quotient 40 = .ok (.aload_n 0, 1) := by decide +kernel
theorem md_F_quotient_41 : decode mc_F_quotient 41 = .ok (.lload_n 3, 1) := by decide +kernel
theorem md_F_quotient_42 : decode mc_F_quotient 42 = .ok (.invokevirtual 49, 3) := by decide +kernel
theorem md_F_quotient_45 : decode mc_F_quotient 45 = .ok (.ifCond .ne 35, 3) := by decide +kernel
theorem md_F_quotient_48 : decode mc_F_quotient 48 = .ok (.aload_n 0, 1) := by decide +kernel
theorem md_F_quotient_49 : decode mc_F_quotient 49 = .ok (.lload_n 1, 1) := by decide +kernel
theorem md_F_quotient_50 : decode mc_F_quotient 50 = .ok (.invokevirtual 86, 3) := by decide +kernel
theorem md_F_quotient_53 : decode mc_F_quotient 53 = .ok (.ifCond .eq 11, 3) := by decide +kernel
theorem md_F_quotient_56 : decode mc_F_quotient 56 = .ok (.aload_n 0, 1) := by decide +kernel
theorem md_F_quotient_57 : decode mc_F_quotient 57 = .ok (.lload_n 3, 1) := by decide +kernel
theorem md_F_quotient_58 : decode mc_F_quotient 58 = .ok (.invokevirtual 86, 3) := by decide +kernel
theorem md_F_quotient_61 : decode mc_F_quotient 61 = .ok (.ifCond .ne 19, 3) := by decide +kernel
theorem md_F_quotient_64 : decode mc_F_quotient 64 = .ok (.aload_n 0, 1) := by decide +kernel
theorem md_F_quotient_65 : decode mc_F_quotient 65 = .ok (.lload_n 1, 1) := by decide +kernel
theorem md_F_quotient_66 : decode mc_F_quotient 66 = .ok (.invokevirtual 80, 3) := by decide +kernel
theorem md_F_quotient_69 : decode mc_F_quotient 69 = .ok (.ifCond .eq 16, 3) := by decide +kernel
theorem md_F_quotient_72 : decode mc_F_quotient 72 = .ok (.aload_n 0, 1) := by decide +kernel
theorem md_F_quotient_73 : decode mc_F_quotient 73 = .ok (.lload_n 3, 1) := by decide +kernel
theorem md_F_quotient_74 : decode mc_F_quotient 74 = .ok (.invokevirtual 80, 3) := by decide +kernel
theorem md_F_quotient_77 : decode mc_F_quotient 77 = .ok (.ifCond .eq 8, 3) := by decide +kernel
theorem md_F_quotient_80 : decode mc_F_quotient 80 = .ok (.aload_n 0, 1) := by decide +kernel
theorem md_F_quotient_81 : decode mc_F_quotient 81 = .ok (.getfield 46, 3) := by decide +kernel
theorem md_F_quotient_84 : decode mc_F_quotient 84 = .ok (.lreturn, 1) := by decide +kernel
theorem md_F_quotient_85 : decode mc_F_quotient 85 = .ok (.aload_n 0, 1) := by decide +kernel
theorem md_F_quotient_86 : decode mc_F_quotient 86 = .ok (.lload_n 1, 1) := by decide +kernel
theorem md_F_quotient_87 : decode mc_F_quotient 87 = .ok (.invokevirtual 86, 3) := by decide +kernel
theorem md_F_quotient_90 : decode mc_F_quotient 90 = .ok (.ifCond .ne 11, 3) := by decide +kernel
theorem md_F_quotient_93 : decode mc_F_quotient 93 = .ok (.aload_n 0, 1) := by decide +kernel
theorem md_F_quotient_94 : decode mc_F_quotient 94 = .ok (.lload_n 3, 1) := by decide +kernel
theorem md_F_quotient_95 : decode mc_F_quotient 95 = .ok (.invokevirtual 80, 3) := by decide +kernel
theorem md_F_quotient_98 : decode mc_F_quotient 98 = .ok (.ifCond .eq 14, 3) := by decide +kernel
theorem md_F_quotient_101 : decode mc_F_quotient 101 = .ok (.aload_n 0, 1) := by decide +kernel
theorem md_F_quotient_102 : decode mc_F_quotient 102 = .ok (.iload 5, 2) := by decide +kernel
theorem md_F_quotient_104 : decode mc_F_quotient 104 = .ok (.aload_n 0, 1) := by decide +kernel
theorem md_F_quotient_105 : decode mc_F_quotient 105 = .ok (.getfield 43, 3) := by decide +kernel
theorem md_F_quotient_108 : decode mc_F_quotient 108 = .ok (.invokevirtual 57, 3) := by decide +kernel
theorem md_F_quotient_111 : decode mc_F_quotient 111 = .ok (.lreturn, 1) := by decide +kernel
theorem md_F_quotient_112 : decode mc_F_quotient 112 = .ok (.aload_n 0, 1) := by decide +kernel
theorem md_F_quotient_113 : decode mc_F_quotient 113 = .ok (.lload_n 1, 1) := by decide +kernel
theorem md_F_quotient_114 : decode mc_F_quotient 114 = .ok (.invokevirtual 80, 3) := by decide +kernel
theorem md_F_quotient_117 : decode mc_F_quotient 117 = .ok (.ifCond .ne 11, 3) := by decide +kernel
theorem md_F_quotient_120 : decode mc_F_quotient 120 = .ok (.aload_n 0, 1) := by decide +kernel
theorem md_F_quotient_121 : decode mc_F_quotient 121 = .ok (.lload_n 3, 1) := by decide +kernel
theorem md_F_quotient_122 : decode mc_F_quotient 122 = .ok (.invokevirtual 86, 3) := by decide +kernel
theorem md_F_quotient_125 : decode mc_F_quotient 125 = .ok (.ifCond .eq 11, 3) := by decide +kernel
theorem md_F_quotient_128 : decode mc_F_quotient 128 = .ok (.aload_n 0, 1) := by decide +kernel
theorem md_F_quotient_129 : decode mc_F_quotient 129 = .ok (.iload 5, 2) := by decide +kernel
theorem md_F_quotient_131 : decode mc_F_quotient 131 = .ok (.lconst 0, 1) := by decide +kernel
theorem md_F_quotient_132 : decode mc_F_quotient 132 = .ok (.invokevirtual 57, 3) := by decide +kernel
theorem md_F_quotient_135 : decode mc_F_quotient 135 = .ok (.lreturn, 1) := by decide +kernel
theorem md_F_quotient_136 : decode mc_F_quotient 136 = .ok (.aload_n 0, 1) := by decide +kernel
theorem md_F_quotient_137 : decode mc_F_quotient 137 = .ok (.iload 5, 2) := by decide +kernel
theorem md_F_quotient_139 : decode mc_F_quotient 139 = .ok (.lload_n 1, 1) := by decide +kernel
theorem md_F_quotient_140 : decode mc_F_quotient 140 = .ok (.lload_n 3, 1) := by decide +kernel
theorem md_F_quotient_141 : decode mc_F_quotient 141 = .ok (.invokevirtual 120, 3) := by decide +kernel
theorem md_F_quotient_144 : decode mc_F_quotient 144 = .ok (.lreturn, 1) := by decide +kernel
abbrev mc_F_finiteQuotient : ByteArray := prog_2_method_25_code
def my_F_finiteQuotient : MethodName := ⟨"NumberProbe$Format", "finiteQuotient", "(ZJJ)J"⟩
abbrev mw_F_finiteQuotient : List Cond := Cond.code my_F_finiteQuotient mc_F_finiteQuotient 17 (some .long) :: gw_tbl
theorem md_F_finiteQuotient_0 : decode mc_F_finiteQuotient 0 = .ok (.aload_n 0, 1) := by decide +kernel
theorem md_F_finiteQuotient_1 : decode mc_F_finiteQuotient 1 = .ok (.lload_n 2, 1) := by decide +kernel
theorem md_F_finiteQuotient_2 : decode mc_F_finiteQuotient 2 = .ok (.invokevirtual 96, 3) := by decide +kernel
theorem md_F_finiteQuotient_5 : decode mc_F_finiteQuotient 5 = .ok (.invokestatic 111, 3) := by decide +kernel
theorem md_F_finiteQuotient_8 : decode mc_F_finiteQuotient 8 = .ok (.istore 6, 2) := by decide +kernel
theorem md_F_finiteQuotient_10 : decode mc_F_finiteQuotient 10 = .ok (.aload_n 0, 1) := by decide +kernel
theorem md_F_finiteQuotient_11 : decode mc_F_finiteQuotient 11 = .ok (.lload 4, 2) := by decide +kernel
theorem md_F_finiteQuotient_13 : decode mc_F_finiteQuotient 13 = .ok (.invokevirtual 96, 3) := by decide +kernel
theorem md_F_finiteQuotient_16 : decode mc_F_finiteQuotient 16 = .ok (.invokestatic 111, 3) := by decide +kernel
theorem md_F_finiteQuotient_19 : decode mc_F_finiteQuotient 19 = .ok (.istore 7, 2) := by decide +kernel
theorem md_F_finiteQuotient_21 : decode mc_F_finiteQuotient 21 = .ok (.aload_n 0, 1) := by decide +kernel
theorem md_F_finiteQuotient_22 : decode mc_F_finiteQuotient 22 = .ok (.lload_n 2, 1) := by decide +kernel
theorem md_F_finiteQuotient_23 : decode mc_F_finiteQuotient 23 = .ok (.invokevirtual 96, 3) := by decide +kernel
theorem md_F_finiteQuotient_26 : decode mc_F_finiteQuotient 26 = .ok (.iload 6, 2) := by decide +kernel
theorem md_F_finiteQuotient_28 : decode mc_F_finiteQuotient 28 = .ok (.lshl, 1) := by decide +kernel
theorem md_F_finiteQuotient_29 : decode mc_F_finiteQuotient 29 = .ok (.lstore 8, 2) := by decide +kernel
theorem md_F_finiteQuotient_31 : decode mc_F_finiteQuotient 31 = .ok (.aload_n 0, 1) := by decide +kernel
theorem md_F_finiteQuotient_32 : decode mc_F_finiteQuotient 32 = .ok (.lload 4, 2) := by decide +kernel
theorem md_F_finiteQuotient_34 : decode mc_F_finiteQuotient 34 = .ok (.invokevirtual 96, 3) := by decide +kernel
theorem md_F_finiteQuotient_37 : decode mc_F_finiteQuotient 37 = .ok (.iload 7, 2) := by decide +kernel
theorem md_F_finiteQuotient_39 : decode mc_F_finiteQuotient 39 = .ok (.lshl, 1) := by decide +kernel
theorem md_F_finiteQuotient_40 : decode mc_F_finiteQuotient 40 = .ok (.lstore 10, 2) := by decide +kernel
theorem md_F_finiteQuotient_42 : decode mc_F_finiteQuotient 42 = .ok (.lload 8, 2) := by decide +kernel
theorem md_F_finiteQuotient_44 : decode mc_F_finiteQuotient 44 = .ok (.lload 10, 2) := by decide +kernel
theorem md_F_finiteQuotient_46 : decode mc_F_finiteQuotient 46 = .ok (.ldiv, 1) := by decide +kernel
theorem md_F_finiteQuotient_47 : decode mc_F_finiteQuotient 47 = .ok (.lstore 12, 2) := by decide +kernel
theorem md_F_finiteQuotient_49 : decode mc_F_finiteQuotient 49 = .ok (.lload 8, 2) := by decide +kernel
theorem md_F_finiteQuotient_51 : decode mc_F_finiteQuotient 51 = .ok (.lload 10, 2) := by decide +kernel
theorem md_F_finiteQuotient_53 : decode mc_F_finiteQuotient 53 = .ok (.lrem, 1) := by decide +kernel
theorem md_F_finiteQuotient_54 : decode mc_F_finiteQuotient 54 = .ok (.lstore 14, 2) := by decide +kernel
theorem md_F_finiteQuotient_56 : decode mc_F_finiteQuotient 56 = .ok (.iconst 0, 1) := by decide +kernel
theorem md_F_finiteQuotient_57 : decode mc_F_finiteQuotient 57 = .ok (.istore 16, 2) := by decide +kernel
theorem md_F_finiteQuotient_59 : decode mc_F_finiteQuotient 59 = .ok (.iload 16, 2) := by decide +kernel
theorem md_F_finiteQuotient_61 : decode mc_F_finiteQuotient 61 = .ok (.bipush 6, 2) := by decide +kernel
theorem md_F_finiteQuotient_63 : decode mc_F_finiteQuotient 63 = .ok (.if_icmp .ge 36, 3) := by decide +kernel
theorem md_F_finiteQuotient_66 : decode mc_F_finiteQuotient 66 = .ok (.lload 14, 2) := by decide +kernel
theorem md_F_finiteQuotient_68 : decode mc_F_finiteQuotient 68 = .ok (.bipush 10, 2) := by decide +kernel
theorem md_F_finiteQuotient_70 : decode mc_F_finiteQuotient 70 = .ok (.lshl, 1) := by decide +kernel
theorem md_F_finiteQuotient_71 : decode mc_F_finiteQuotient 71 = .ok (.lstore 14, 2) := by decide +kernel
theorem md_F_finiteQuotient_73 : decode mc_F_finiteQuotient 73 = .ok (.lload 12, 2) := by decide +kernel
theorem md_F_finiteQuotient_75 : decode mc_F_finiteQuotient 75 = .ok (.bipush 10, 2) := by decide +kernel
theorem md_F_finiteQuotient_77 : decode mc_F_finiteQuotient 77 = .ok (.lshl, 1) := by decide +kernel
theorem md_F_finiteQuotient_78 : decode mc_F_finiteQuotient 78 = .ok (.lload 14, 2) := by decide +kernel
theorem md_F_finiteQuotient_80 : decode mc_F_finiteQuotient 80 = .ok (.lload 10, 2) := by decide +kernel
theorem md_F_finiteQuotient_82 : decode mc_F_finiteQuotient 82 = .ok (.ldiv, 1) := by decide +kernel
theorem md_F_finiteQuotient_83 : decode mc_F_finiteQuotient 83 = .ok (.ladd, 1) := by decide +kernel
theorem md_F_finiteQuotient_84 : decode mc_F_finiteQuotient 84 = .ok (.lstore 12, 2) := by decide +kernel
theorem md_F_finiteQuotient_86 : decode mc_F_finiteQuotient 86 = .ok (.lload 14, 2) := by decide +kernel
theorem md_F_finiteQuotient_88 : decode mc_F_finiteQuotient 88 = .ok (.lload 10, 2) := by decide +kernel
theorem md_F_finiteQuotient_90 : decode mc_F_finiteQuotient 90 = .ok (.lrem, 1) := by decide +kernel
theorem md_F_finiteQuotient_91 : decode mc_F_finiteQuotient 91 = .ok (.lstore 14, 2) := by decide +kernel
theorem md_F_finiteQuotient_93 : decode mc_F_finiteQuotient 93 = .ok (.iinc 16 1, 3) := by decide +kernel
theorem md_F_finiteQuotient_96 : decode mc_F_finiteQuotient 96 = .ok (.goto (-37), 3) := by decide +kernel
theorem md_F_finiteQuotient_99 : decode mc_F_finiteQuotient 99 = .ok (.aload_n 0, 1) := by decide +kernel
theorem md_F_finiteQuotient_100 : decode mc_F_finiteQuotient 100 = .ok (.lload_n 2, 1) := by decide +kernel
theorem md_F_finiteQuotient_101 : decode mc_F_finiteQuotient 101 = .ok (.invokevirtual 93, 3) := by decide +kernel
theorem md_F_finiteQuotient_104 : decode mc_F_finiteQuotient 104 = .ok (.iload 6, 2) := by decide +kernel
theorem md_F_finiteQuotient_106 : decode mc_F_finiteQuotient 106 = .ok (.isub, 1) := by decide +kernel
theorem md_F_finiteQuotient_107 : decode mc_F_finiteQuotient 107 = .ok (.aload_n 0, 1) := by decide +kernel
theorem md_F_finiteQuotient_108 : decode mc_F_finiteQuotient 108 = .ok (.lload 4, 2) := by decide +kernel
theorem md_F_finiteQuotient_110 : decode mc_F_finiteQuotient 110 = .ok (.invokevirtual 93, 3) := by decide +kernel
theorem md_F_finiteQuotient_113 : decode mc_F_finiteQuotient 113 = .ok (.isub, 1) := by decide +kernel
theorem md_F_finiteQuotient_114 : decode mc_F_finiteQuotient 114 = .ok (.iload 7, 2) := by decide +kernel
theorem md_F_finiteQuotient_116 : decode mc_F_finiteQuotient 116 = .ok (.iadd, 1) := by decide +kernel
theorem md_F_finiteQuotient_117 : decode mc_F_finiteQuotient 117 = .ok (.bipush 60, 2) := by decide +kernel
theorem md_F_finiteQuotient_119 : decode mc_F_finiteQuotient 119 = .ok (.isub, 1) := by decide +kernel
theorem md_F_finiteQuotient_120 : decode mc_F_finiteQuotient 120 = .ok (.istore 16, 2) := by decide +kernel
theorem md_F_finiteQuotient_122 : decode mc_F_finiteQuotient 122 = .ok (.aload_n 0, 1) := by decide +kernel
theorem md_F_finiteQuotient_123 : decode mc_F_finiteQuotient 123 = .ok (.iload_n 1, 1) := by decide +kernel
theorem md_F_finiteQuotient_124 : decode mc_F_finiteQuotient 124 = .ok (.lload 12, 2) := by decide +kernel
theorem md_F_finiteQuotient_126 : decode mc_F_finiteQuotient 126 = .ok (.lload 14, 2) := by decide +kernel
theorem md_F_finiteQuotient_128 : decode mc_F_finiteQuotient 128 = .ok (.invokestatic 117, 3) := by decide +kernel
theorem md_F_finiteQuotient_131 : decode mc_F_finiteQuotient 131 = .ok (.iload 16, 2) := by decide +kernel
theorem md_F_finiteQuotient_133 : decode mc_F_finiteQuotient 133 = .ok (.invokevirtual 103, 3) := by decide +kernel
theorem md_F_finiteQuotient_136 : decode mc_F_finiteQuotient 136 = .ok (.lreturn, 1) := by decide +kernel
abbrev mc_F_remainder : ByteArray := prog_2_method_26_code
def my_F_remainder : MethodName := ⟨"NumberProbe$Format", "remainder", "(JJ)J"⟩
abbrev mw_F_remainder : List Cond := Cond.code my_F_remainder mc_F_remainder 10 (some .long) :: gw_tbl
theorem md_F_remainder_0 : decode mc_F_remainder 0 = .ok (.aload_n 0, 1) := by decide +kernel
theorem md_F_remainder_1 : decode mc_F_remainder 1 = .ok (.lload_n 1, 1) := by decide +kernel
theorem md_F_remainder_2 : decode mc_F_remainder 2 = .ok (.invokevirtual 49, 3) := by decide +kernel
theorem md_F_remainder_5 : decode mc_F_remainder 5 = .ok (.ifCond .ne 27, 3) := by decide +kernel
theorem md_F_remainder_8 : decode mc_F_remainder 8 = .ok (.aload_n 0, 1) := by decide +kernel
theorem md_F_remainder_9 : decode mc_F_remainder 9 = .ok (.lload_n 3, 1) := by decide +kernel
theorem md_F_remainder_10 : decode mc_F_remainder 10 = .ok (.invokevirtual 49, 3) := by decide +kernel
theorem md_F_remainder_13 : decode mc_F_remainder 13 = .ok (.ifCond .ne 19, 3) := by decide +kernel
theorem md_F_remainder_16 : decode mc_F_remainder 16 = .ok (.aload_n 0, 1) := by decide +kernel
theorem md_F_remainder_17 : decode mc_F_remainder 17 = .ok (.lload_n 1, 1) := by decide +kernel
theorem md_F_remainder_18 : decode mc_F_remainder 18 = .ok (.invokevirtual 86, 3) := by decide +kernel
theorem md_F_remainder_21 : decode mc_F_remainder 21 = .ok (.ifCond .ne 11, 3) := by decide +kernel
theorem md_F_remainder_24 : decode mc_F_remainder 24 = .ok (.aload_n 0, 1) := by decide +kernel
theorem md_F_remainder_25 : decode mc_F_remainder 25 = .ok (.lload_n 3, 1) := by decide +kernel
theorem md_F_remainder_26 : decode mc_F_remainder 26 = .ok (.invokevirtual 80, 3) := by decide +kernel
theorem md_F_remainder_29 : decode mc_F_remainder 29 = .ok (.ifCond .eq 8, 3) := by decide +kernel
theorem md_F_remainder_32 : decode mc_F_remainder 32 = .ok (.aload_n 0, 1) := by decide +kernel
theorem md_F_remainder_33 : decode mc_F_remainder 33 = .ok (.getfield 46, 3) := by decide +kernel
theorem md_F_remainder_36 : decode mc_F_remainder 36 = .ok (.lreturn, 1) := by decide +kernel
theorem md_F_remainder_37 : decode mc_F_remainder 37 = .ok (.aload_n 0, 1) := by decide +kernel
theorem md_F_remainder_38 : decode mc_F_remainder 38 = .ok (.lload_n 1, 1) := by decide +kernel
theorem md_F_remainder_39 : decode mc_F_remainder 39 = .ok (.invokevirtual 53, 3) := by decide +kernel
theorem md_F_remainder_42 : decode mc_F_remainder 42 = .ok (.aload_n 0, 1) := by decide +kernel
theorem md_F_remainder_43 : decode mc_F_remainder 43 = .ok (.lload_n 3, 1) := by decide +kernel
theorem md_F_remainder_44 : decode mc_F_remainder 44 = .ok (.invokevirtual 53, 3) := by decide +kernel
theorem md_F_remainder_47 : decode mc_F_remainder 47 = .ok (.lcmp, 1) := by decide +kernel
theorem md_F_remainder_48 : decode mc_F_remainder 48 = .ok (.ifCond .ge 5, 3) := by decide +kernel
theorem md_F_remainder_51 : decode mc_F_remainder 51 = .ok (.lload_n 1, 1) := by decide +kernel
theorem md_F_remainder_52 : decode mc_F_remainder 52 = .ok (.lreturn, 1) := by decide +kernel
theorem md_F_remainder_53 : decode mc_F_remainder 53 = .ok (.aload_n 0, 1) := by decide +kernel
theorem md_F_remainder_54 : decode mc_F_remainder 54 = .ok (.lload_n 3, 1) := by decide +kernel
theorem md_F_remainder_55 : decode mc_F_remainder 55 = .ok (.invokevirtual 96, 3) := by decide +kernel
theorem md_F_remainder_58 : decode mc_F_remainder 58 = .ok (.lstore 5, 2) := by decide +kernel
theorem md_F_remainder_60 : decode mc_F_remainder 60 = .ok (.aload_n 0, 1) := by decide +kernel
theorem md_F_remainder_61 : decode mc_F_remainder 61 = .ok (.lload_n 1, 1) := by decide +kernel
theorem md_F_remainder_62 : decode mc_F_remainder 62 = .ok (.invokevirtual 96, 3) := by decide +kernel
theorem md_F_remainder_65 : decode mc_F_remainder 65 = .ok (.lload 5, 2) := by decide +kernel
theorem md_F_remainder_67 : decode mc_F_remainder 67 = .ok (.lrem, 1) := by decide +kernel
theorem md_F_remainder_68 : decode mc_F_remainder 68 = .ok (.lstore 7, 2) := by decide +kernel
theorem md_F_remainder_70 : decode mc_F_remainder 70 = .ok (.aload_n 0, 1) := by decide +kernel
theorem md_F_remainder_71 : decode mc_F_remainder 71 = .ok (.lload_n 1, 1) := by decide +kernel
theorem md_F_remainder_72 : decode mc_F_remainder 72 = .ok (.invokevirtual 93, 3) := by decide +kernel
theorem md_F_remainder_75 : decode mc_F_remainder 75 = .ok (.aload_n 0, 1) := by decide +kernel
theorem md_F_remainder_76 : decode mc_F_remainder 76 = .ok (.lload_n 3, 1) := by decide +kernel
theorem md_F_remainder_77 : decode mc_F_remainder 77 = .ok (.invokevirtual 93, 3) := by decide +kernel
theorem md_F_remainder_80 : decode mc_F_remainder 80 = .ok (.isub, 1) := by decide +kernel
theorem md_F_remainder_81 : decode mc_F_remainder 81 = .ok (.istore 9, 2) := by decide +kernel
theorem md_F_remainder_83 : decode mc_F_remainder 83 = .ok (.iload 9, 2) := by decide +kernel
theorem md_F_remainder_85 : decode mc_F_remainder 85 = .ok (.ifCond .le 24, 3) := by decide +kernel
theorem md_F_remainder_88 : decode mc_F_remainder 88 = .ok (.lload 7, 2) := by decide +kernel
theorem md_F_remainder_90 : decode mc_F_remainder 90 = .ok (.iload 9, 2) := by decide +kernel
theorem md_F_remainder_92 : decode mc_F_remainder 92 = .ok (.bipush 10, 2) := by decide +kernel
theorem md_F_remainder_94 : decode mc_F_remainder 94 = .ok (.invokestatic 123, 3) := by decide +kernel
theorem md_F_remainder_97 : decode mc_F_remainder 97 = .ok (.lshl, 1) := by decide +kernel
theorem md_F_remainder_98 : decode mc_F_remainder 98 = .ok (.lload 5, 2) := by decide +kernel
theorem md_F_remainder_100 : decode mc_F_remainder 100 = .ok (.lrem, 1) := by decide +kernel
theorem md_F_remainder_101 : decode mc_F_remainder 101 = .ok (.lstore 7, 2) := by decide +kernel
theorem md_F_remainder_103 : decode mc_F_remainder 103 = .ok (.iinc 9 (-10), 3) := by decide +kernel
theorem md_F_remainder_106 : decode mc_F_remainder 106 = .ok (.goto (-23), 3) := by decide +kernel
theorem md_F_remainder_109 : decode mc_F_remainder 109 = .ok (.aload_n 0, 1) := by decide +kernel
theorem md_F_remainder_110 : decode mc_F_remainder 110 = .ok (.lload_n 1, 1) := by decide +kernel
theorem md_F_remainder_111 : decode mc_F_remainder 111 = .ok (.lconst 0, 1) := by decide +kernel
theorem md_F_remainder_112 : decode mc_F_remainder 112 = .ok (.lcmp, 1) := by decide +kernel
theorem md_F_remainder_113 : decode mc_F_remainder 113 = .ok (.ifCond .ge 7, 3) := by decide +kernel
theorem md_F_remainder_116 : decode mc_F_remainder 116 = .ok (.iconst 1, 1) := by decide +kernel
theorem md_F_remainder_117 : decode mc_F_remainder 117 = .ok (.goto 4, 3) := by decide +kernel
theorem md_F_remainder_120 : decode mc_F_remainder 120 = .ok (.iconst 0, 1) := by decide +kernel
theorem md_F_remainder_121 : decode mc_F_remainder 121 = .ok (.lload 7, 2) := by decide +kernel
theorem md_F_remainder_123 : decode mc_F_remainder 123 = .ok (.aload_n 0, 1) := by decide +kernel
theorem md_F_remainder_124 : decode mc_F_remainder 124 = .ok (.lload_n 3, 1) := by decide +kernel
theorem md_F_remainder_125 : decode mc_F_remainder 125 = .ok (.invokevirtual 93, 3) := by decide +kernel
theorem md_F_remainder_128 : decode mc_F_remainder 128 = .ok (.invokevirtual 103, 3) := by decide +kernel
theorem md_F_remainder_131 : decode mc_F_remainder 131 = .ok (.lreturn, 1) := by decide +kernel
abbrev mc_F_nearestTo : ByteArray := prog_2_method_27_code
def my_F_nearestTo : MethodName := ⟨"NumberProbe$Format", "nearestTo", "(LNumberProbe$Format;J)J"⟩
abbrev mw_F_nearestTo : List Cond := Cond.code my_F_nearestTo mc_F_nearestTo 4 (some .long) :: gw_tbl
theorem md_F_nearestTo_0 : decode mc_F_nearestTo 0 = .ok (.aload_n 1, 1) := by decide +kernel
theorem md_F_nearestTo_1 : decode mc_F_nearestTo 1 = .ok (.lload_n 2, 1) := by decide +kernel
theorem md_F_nearestTo_2 : decode mc_F_nearestTo 2 = .ok (.invokevirtual 49, 3) := by decide +kernel
theorem md_F_nearestTo_5 : decode mc_F_nearestTo 5 = .ok (.ifCond .eq 8, 3) := by decide +kernel
theorem md_F_nearestTo_8 : decode mc_F_nearestTo 8 = .ok (.aload_n 0, 1) := by decide +kernel
theorem md_F_nearestTo_9 : decode mc_F_nearestTo 9 = .ok (.getfield 46, 3) := by decide +kernel
theorem md_F_nearestTo_12 : decode mc_F_nearestTo 12 = .ok (.lreturn, 1) := by decide +kernel
theorem md_F_nearestTo_13 : decode mc_F_nearestTo 13 = .ok (.aload_n 1, 1) := by decide +kernel
theorem md_F_nearestTo_14 : decode mc_F_nearestTo 14 = .ok (.lload_n 2, 1) := by decide +kernel
theorem md_F_nearestTo_15 : decode mc_F_nearestTo 15 = .ok (.invokevirtual 86, 3) := by decide +kernel
theorem md_F_nearestTo_18 : decode mc_F_nearestTo 18 = .ok (.ifCond .eq 23, 3) := by decide +kernel
theorem md_F_nearestTo_21 : decode mc_F_nearestTo 21 = .ok (.aload_n 0, 1) := by decide +kernel
theorem md_F_nearestTo_22 : decode mc_F_nearestTo 22 = .ok (.lload_n 2, 1) := by decide +kernel
theorem md_F_nearestTo_23 : decode mc_F_nearestTo 23 = .ok (.lconst 0, 1) := by decide +kernel
theorem md_F_nearestTo_24 : decode mc_F_nearestTo 24 = .ok (.lcmp, 1) := by decide +kernel
theorem md_F_nearestTo_25 : decode mc_F_nearestTo 25 = .ok (.ifCond .ge 7, 3) := by decide +kernel
theorem md_F_nearestTo_28 : decode mc_F_nearestTo 28 = .ok (.iconst 1, 1) := by decide +kernel
theorem md_F_nearestTo_29 : decode mc_F_nearestTo 29 = .ok (.goto 4, 3) := by decide +kernel
theorem md_F_nearestTo_32 : decode mc_F_nearestTo 32 = .ok (.iconst 0, 1) := by decide +kernel
theorem md_F_nearestTo_33 : decode mc_F_nearestTo 33 = .ok (.aload_n 0, 1) := by decide +kernel
theorem md_F_nearestTo_34 : decode mc_F_nearestTo 34 = .ok (.getfield 43, 3) := by decide +kernel
theorem md_F_nearestTo_37 : decode mc_F_nearestTo 37 = .ok (.invokevirtual 57, 3) := by decide +kernel
theorem md_F_nearestTo_40 : decode mc_F_nearestTo 40 = .ok (.lreturn, 1) := by decide +kernel
theorem md_F_nearestTo_41 : decode mc_F_nearestTo 41 = .ok (.aload_n 0, 1) := by decide +kernel
theorem md_F_nearestTo_42 : decode mc_F_nearestTo 42 = .ok (.lload_n 2, 1) := by decide +kernel
theorem md_F_nearestTo_43 : decode mc_F_nearestTo 43 = .ok (.lconst 0, 1) := by decide +kernel
theorem md_F_nearestTo_44 : decode mc_F_nearestTo 44 = .ok (.lcmp, 1) := by decide +kernel
theorem md_F_nearestTo_45 : decode mc_F_nearestTo 45 = .ok (.ifCond .ge 7, 3) := by decide +kernel
theorem md_F_nearestTo_48 : decode mc_F_nearestTo 48 = .ok (.iconst 1, 1) := by decide +kernel
theorem md_F_nearestTo_49 : decode mc_F_nearestTo 49 = .ok (.goto 4, 3) := by decide +kernel
theorem md_F_nearestTo_52 : decode mc_F_nearestTo 52 = .ok (.iconst 0, 1) := by decide +kernel
theorem md_F_nearestTo_53 : decode mc_F_nearestTo 53 = .ok (.aload_n 1, 1) := by decide +kernel
theorem md_F_nearestTo_54 : decode mc_F_nearestTo 54 = .ok (.lload_n 2, 1) := by decide +kernel
theorem md_F_nearestTo_55 : decode mc_F_nearestTo 55 = .ok (.invokevirtual 96, 3) := by decide +kernel
theorem md_F_nearestTo_58 : decode mc_F_nearestTo 58 = .ok (.aload_n 1, 1) := by decide +kernel
theorem md_F_nearestTo_59 : decode mc_F_nearestTo 59 = .ok (.lload_n 2, 1) := by decide +kernel
theorem md_F_nearestTo_60 : decode mc_F_nearestTo 60 = .ok (.invokevirtual 93, 3) := by decide +kernel
theorem md_F_nearestTo_63 : decode mc_F_nearestTo 63 = .ok (.invokevirtual 103, 3) := by decide +kernel
theorem md_F_nearestTo_66 : decode mc_F_nearestTo 66 = .ok (.lreturn, 1) := by decide +kernel
abbrev mc_F_nearestToWhole : ByteArray := prog_2_method_28_code
def my_F_nearestToWhole : MethodName := ⟨"NumberProbe$Format", "nearestToWhole", "(J)J"⟩
abbrev mw_F_nearestToWhole : List Cond := Cond.code my_F_nearestToWhole mc_F_nearestToWhole 5 (some .long) :: gw_tbl
theorem md_F_nearestToWhole_0 : decode mc_F_nearestToWhole 0 = .ok (.lload_n 1, 1) := by decide +kernel
theorem md_F_nearestToWhole_1 : decode mc_F_nearestToWhole 1 = .ok (.lconst 0, 1) := by decide +kernel
theorem md_F_nearestToWhole_2 : decode mc_F_nearestToWhole 2 = .ok (.lcmp, 1) := by decide +kernel
theorem md_F_nearestToWhole_3 : decode mc_F_nearestToWhole 3 = .ok (.ifCond .ge 8, 3) := by decide +kernel
theorem md_F_nearestToWhole_6 : decode mc_F_nearestToWhole 6 = .ok (.lload_n 1, 1) := by decide +kernel
theorem md_F_nearestToWhole_7 : decode mc_F_nearestToWhole 7 = .ok (.lneg, 1) := by decide +kernel
theorem md_F_nearestToWhole_8 : decode mc_F_nearestToWhole 8 = .ok (.goto 4, 3) := by decide +kernel
theorem md_F_nearestToWhole_11 : decode mc_F_nearestToWhole 11 = .ok (.lload_n 1, 1) := by decide +kernel
theorem md_F_nearestToWhole_12 : decode mc_F_nearestToWhole 12 = .ok (.lstore_n 3, 1) := by decide +kernel
theorem md_F_nearestToWhole_13 : decode mc_F_nearestToWhole 13 = .ok (.lload_n 3, 1) := by decide +kernel
theorem md_F_nearestToWhole_14 : decode mc_F_nearestToWhole 14 = .ok (.lconst 0, 1) := by decide +kernel
theorem md_F_nearestToWhole_15 : decode mc_F_nearestToWhole 15 = .ok (.lcmp, 1) := by decide +kernel
theorem md_F_nearestToWhole_16 : decode mc_F_nearestToWhole 16 = .ok (.ifCond .ge 15, 3) := by decide +kernel
theorem md_F_nearestToWhole_19 : decode mc_F_nearestToWhole 19 = .ok (.aload_n 0, 1) := by decide +kernel
theorem md_F_nearestToWhole_20 : decode mc_F_nearestToWhole 20 = .ok (.iconst 1, 1) := by decide +kernel
theorem md_F_nearestToWhole_21 : decode mc_F_nearestToWhole 21 = .ok (.lload_n 3, 1) := by decide +kernel
theorem md_F_nearestToWhole_22 : decode mc_F_nearestToWhole 22 = .ok (.iconst 1, 1) := by decide +kernel
theorem md_F_nearestToWhole_23 : decode mc_F_nearestToWhole 23 = .ok (.lushr, 1) := by decide +kernel
theorem md_F_nearestToWhole_24 : decode mc_F_nearestToWhole 24 = .ok (.iconst 1, 1) := by decide +kernel
theorem md_F_nearestToWhole_25 : decode mc_F_nearestToWhole 25 = .ok (.invokevirtual 103, 3) := by decide +kernel
theorem md_F_nearestToWhole_28 : decode mc_F_nearestToWhole 28 = .ok (.goto 20, 3) := by decide +kernel
theorem md_F_nearestToWhole_31 : decode mc_F_nearestToWhole 31 = .ok (.aload_n 0, 1) := by decide +kernel
theorem md_F_nearestToWhole_32 : decode mc_F_nearestToWhole 32 = .ok (.lload_n 1, 1) := by decide +kernel
theorem md_F_nearestToWhole_33 : decode mc_F_nearestToWhole 33 = .ok (.lconst 0, 1) := by decide +kernel
theorem md_F_nearestToWhole_34 : decode mc_F_nearestToWhole 34 = .ok (.lcmp, 1) := by decide +kernel
theorem md_F_nearestToWhole_35 : decode mc_F_nearestToWhole 35 = .ok (.ifCond .ge 7, 3) := by decide +kernel
theorem md_F_nearestToWhole_38 : decode mc_F_nearestToWhole 38 = .ok (.iconst 1, 1) := by decide +kernel
theorem md_F_nearestToWhole_39 : decode mc_F_nearestToWhole 39 = .ok (.goto 4, 3) := by decide +kernel
theorem md_F_nearestToWhole_42 : decode mc_F_nearestToWhole 42 = .ok (.iconst 0, 1) := by decide +kernel
theorem md_F_nearestToWhole_43 : decode mc_F_nearestToWhole 43 = .ok (.lload_n 3, 1) := by decide +kernel
theorem md_F_nearestToWhole_44 : decode mc_F_nearestToWhole 44 = .ok (.iconst 0, 1) := by decide +kernel
theorem md_F_nearestToWhole_45 : decode mc_F_nearestToWhole 45 = .ok (.invokevirtual 103, 3) := by decide +kernel
theorem md_F_nearestToWhole_48 : decode mc_F_nearestToWhole 48 = .ok (.lreturn, 1) := by decide +kernel
abbrev mc_F_towardsZero : ByteArray := prog_2_method_29_code
def my_F_towardsZero : MethodName := ⟨"NumberProbe$Format", "towardsZero", "(J)J"⟩
abbrev mw_F_towardsZero : List Cond := Cond.code my_F_towardsZero mc_F_towardsZero 8 (some .long) :: gw_tbl
theorem md_F_towardsZero_0 : decode mc_F_towardsZero 0 = .ok (.aload_n 0, 1) := by decide +kernel
theorem md_F_towardsZero_1 : decode mc_F_towardsZero 1 = .ok (.lload_n 1, 1) := by decide +kernel
theorem md_F_towardsZero_2 : decode mc_F_towardsZero 2 = .ok (.invokevirtual 49, 3) := by decide +kernel
theorem md_F_towardsZero_5 : decode mc_F_towardsZero 5 = .ok (.ifCond .eq 5, 3) := by decide +kernel
theorem md_F_towardsZero_8 : decode mc_F_towardsZero 8 = .ok (.lconst 0, 1) := by decide +kernel
theorem md_F_towardsZero_9 : decode mc_F_towardsZero 9 = .ok (.lreturn, 1) := by decide +kernel
theorem md_F_towardsZero_10 : decode mc_F_towardsZero 10 = .ok (.aload_n 0, 1) := by decide +kernel
theorem md_F_towardsZero_11 : decode mc_F_towardsZero 11 = .ok (.lload_n 1, 1) := by decide +kernel
theorem md_F_towardsZero_12 : decode mc_F_towardsZero 12 = .ok (.invokevirtual 96, 3) := by decide +kernel
theorem md_F_towardsZero_15 : decode mc_F_towardsZero 15 = .ok (.lstore_n 3, 1) := by decide +kernel
theorem md_F_towardsZero_16 : decode mc_F_towardsZero 16 = .ok (.aload_n 0, 1) := by decide +kernel
theorem md_F_towardsZero_17 : decode mc_F_towardsZero 17 = .ok (.lload_n 1, 1) := by decide +kernel
theorem md_F_towardsZero_18 : decode mc_F_towardsZero 18 = .ok (.invokevirtual 93, 3) := by decide +kernel
theorem md_F_towardsZero_21 : decode mc_F_towardsZero 21 = .ok (.istore 5, 2) := by decide +kernel
theorem md_F_towardsZero_23 : decode mc_F_towardsZero 23 = .ok (.iload 5, 2) := by decide +kernel
theorem md_F_towardsZero_25 : decode mc_F_towardsZero 25 = .ok (.lload_n 3, 1) := by decide +kernel
theorem md_F_towardsZero_26 : decode mc_F_towardsZero 26 = .ok (.invokestatic 73, 3) := by decide +kernel
theorem md_F_towardsZero_29 : decode mc_F_towardsZero 29 = .ok (.if_icmp .lt 19, 3) := by decide +kernel
theorem md_F_towardsZero_32 : decode mc_F_towardsZero 32 = .ok (.lload_n 1, 1) := by decide +kernel
theorem md_F_towardsZero_33 : decode mc_F_towardsZero 33 = .ok (.lconst 0, 1) := by decide +kernel
theorem md_F_towardsZero_34 : decode mc_F_towardsZero 34 = .ok (.lcmp, 1) := by decide +kernel
theorem md_F_towardsZero_35 : decode mc_F_towardsZero 35 = .ok (.ifCond .ge 9, 3) := by decide +kernel
theorem md_F_towardsZero_38 : decode mc_F_towardsZero 38 = .ok (.ldc2_w 126, 3) := by decide +kernel
theorem md_F_towardsZero_41 : decode mc_F_towardsZero 41 = .ok (.goto 6, 3) := by decide +kernel
theorem md_F_towardsZero_44 : decode mc_F_towardsZero 44 = .ok (.ldc2_w 128, 3) := by decide +kernel
theorem md_F_towardsZero_47 : decode mc_F_towardsZero 47 = .ok (.lreturn, 1) := by decide +kernel
theorem md_F_towardsZero_48 : decode mc_F_towardsZero 48 = .ok (.iload 5, 2) := by decide +kernel
theorem md_F_towardsZero_50 : decode mc_F_towardsZero 50 = .ok (.ifCond .lt 12, 3) := by decide +kernel
theorem md_F_towardsZero_53 : decode mc_F_towardsZero 53 = .ok (.lload_n 3, 1) := by decide +kernel
theorem md_F_towardsZero_54 : decode mc_F_towardsZero 54 = .ok (.iload 5, 2) := by decide +kernel
theorem md_F_towardsZero_56 : decode mc_F_towardsZero 56 = .ok (.lshl, 1) := by decide +kernel
theorem md_F_towardsZero_57 : decode mc_F_towardsZero 57 = .ok (.lstore 6, 2) := by decide +kernel
theorem md_F_towardsZero_59 : decode mc_F_towardsZero 59 = .ok (.goto 21, 3) := by decide +kernel
theorem md_F_towardsZero_62 : decode mc_F_towardsZero 62 = .ok (.iload 5, 2) := by decide +kernel
theorem md_F_towardsZero_64 : decode mc_F_towardsZero 64 = .ok (.bipush (-64), 2) := by decide +kernel
theorem md_F_towardsZero_66 : decode mc_F_towardsZero 66 = .ok (.if_icmp .le 11, 3) := by decide +kernel
theorem md_F_towardsZero_69 : decode mc_F_towardsZero 69 = .ok (.lload_n 3, 1) := by decide +kernel
theorem md_F_towardsZero_70 : decode mc_F_towardsZero 70 = .ok (.iload 5, 2) := by decide +kernel
theorem md_F_towardsZero_72 : decode mc_F_towardsZero 72 = .ok (.ineg, 1) := by decide +kernel
theorem md_F_towardsZero_73 : decode mc_F_towardsZero 73 = .ok (.lushr, 1) := by decide +kernel
theorem md_F_towardsZero_74 : decode mc_F_towardsZero 74 = .ok (.goto 4, 3) := by decide +kernel
theorem md_F_towardsZero_77 : decode mc_F_towardsZero 77 = .ok (.lconst 0, 1) := by decide +kernel
theorem md_F_towardsZero_78 : decode mc_F_towardsZero 78 = .ok (.lstore 6, 2) := by decide +kernel
theorem md_F_towardsZero_80 : decode mc_F_towardsZero 80 = .ok (.lload_n 1, 1) := by decide +kernel
theorem md_F_towardsZero_81 : decode mc_F_towardsZero 81 = .ok (.lconst 0, 1) := by decide +kernel
theorem md_F_towardsZero_82 : decode mc_F_towardsZero 82 = .ok (.lcmp, 1) := by decide +kernel
theorem md_F_towardsZero_83 : decode mc_F_towardsZero 83 = .ok (.ifCond .ge 9, 3) := by decide +kernel
theorem md_F_towardsZero_86 : decode mc_F_towardsZero 86 = .ok (.lload 6, 2) := by decide +kernel
theorem md_F_towardsZero_88 : decode mc_F_towardsZero 88 = .ok (.lneg, 1) := by decide +kernel
theorem md_F_towardsZero_89 : decode mc_F_towardsZero 89 = .ok (.goto 5, 3) := by decide +kernel
theorem md_F_towardsZero_92 : decode mc_F_towardsZero 92 = .ok (.lload 6, 2) := by decide +kernel
theorem md_F_towardsZero_94 : decode mc_F_towardsZero 94 = .ok (.lreturn, 1) := by decide +kernel
abbrev mc_F_traits : ByteArray := prog_2_method_30_code
def my_F_traits : MethodName := ⟨"NumberProbe$Format", "traits", "(J)I"⟩
abbrev mw_F_traits : List Cond := Cond.code my_F_traits mc_F_traits 4 (some .int) :: gw_tbl
theorem md_F_traits_0 : decode mc_F_traits 0 = .ok (.aload_n 0, 1) := by decide +kernel
theorem md_F_traits_1 : decode mc_F_traits 1 = .ok (.lload_n 1, 1) := by decide +kernel
theorem md_F_traits_2 : decode mc_F_traits 2 = .ok (.invokevirtual 49, 3) := by decide +kernel
theorem md_F_traits_5 : decode mc_F_traits 5 = .ok (.ifCond .eq 5, 3) := by decide +kernel
theorem md_F_traits_8 : decode mc_F_traits 8 = .ok (.iconst 1, 1) := by decide +kernel
theorem md_F_traits_9 : decode mc_F_traits 9 = .ok (.ireturn, 1) := by decide +kernel
theorem md_F_traits_10 : decode mc_F_traits 10 = .ok (.lload_n 1, 1) := by decide +kernel
theorem md_F_traits_11 : decode mc_F_traits 11 = .ok (.lconst 0, 1) := by decide +kernel
theorem md_F_traits_12 : decode mc_F_traits 12 = .ok (.lcmp, 1) := by decide +kernel
theorem md_F_traits_13 : decode mc_F_traits 13 = .ok (.ifCond .ge 8, 3) := by decide +kernel
theorem md_F_traits_16 : decode mc_F_traits 16 = .ok (.bipush 32, 2) := by decide +kernel
theorem md_F_traits_18 : decode mc_F_traits 18 = .ok (.goto 4, 3) := by decide +kernel
theorem md_F_traits_21 : decode mc_F_traits 21 = .ok (.iconst 0, 1) := by decide +kernel
theorem md_F_traits_22 : decode mc_F_traits 22 = .ok (.istore_n 3, 1) := by decide +kernel
theorem md_F_traits_23 : decode mc_F_traits 23 = .ok (.aload_n 0, 1) := by decide +kernel
theorem md_F_traits_24 : decode mc_F_traits 24 = .ok (.lload_n 1, 1) := by decide +kernel
theorem md_F_traits_25 : decode mc_F_traits 25 = .ok (.invokevirtual 86, 3) := by decide +kernel
theorem md_F_traits_28 : decode mc_F_traits 28 = .ok (.ifCond .eq 7, 3) := by decide +kernel
theorem md_F_traits_31 : decode mc_F_traits 31 = .ok (.iload_n 3, 1) := by decide +kernel
theorem md_F_traits_32 : decode mc_F_traits 32 = .ok (.iconst 2, 1) := by decide +kernel
theorem md_F_traits_33 : decode mc_F_traits 33 = .ok (.ior, 1) := by decide +kernel
theorem md_F_traits_34 : decode mc_F_traits 34 = .ok (.ireturn, 1) := by decide +kernel
theorem md_F_traits_35 : decode mc_F_traits 35 = .ok (.aload_n 0, 1) := by decide +kernel
theorem md_F_traits_36 : decode mc_F_traits 36 = .ok (.lload_n 1, 1) := by decide +kernel
theorem md_F_traits_37 : decode mc_F_traits 37 = .ok (.invokevirtual 80, 3) := by decide +kernel
theorem md_F_traits_40 : decode mc_F_traits 40 = .ok (.ifCond .eq 13, 3) := by decide +kernel
theorem md_F_traits_43 : decode mc_F_traits 43 = .ok (.iload_n 3, 1) := by decide +kernel
theorem md_F_traits_44 : decode mc_F_traits 44 = .ok (.iconst 4, 1) := by decide +kernel
theorem md_F_traits_45 : decode mc_F_traits 45 = .ok (.ior, 1) := by decide +kernel
theorem md_F_traits_46 : decode mc_F_traits 46 = .ok (.bipush 8, 2) := by decide +kernel
theorem md_F_traits_48 : decode mc_F_traits 48 = .ok (.ior, 1) := by decide +kernel
theorem md_F_traits_49 : decode mc_F_traits 49 = .ok (.bipush 64, 2) := by decide +kernel
theorem md_F_traits_51 : decode mc_F_traits 51 = .ok (.ior, 1) := by decide +kernel
theorem md_F_traits_52 : decode mc_F_traits 52 = .ok (.ireturn, 1) := by decide +kernel
theorem md_F_traits_53 : decode mc_F_traits 53 = .ok (.iload_n 3, 1) := by decide +kernel
theorem md_F_traits_54 : decode mc_F_traits 54 = .ok (.iconst 4, 1) := by decide +kernel
theorem md_F_traits_55 : decode mc_F_traits 55 = .ok (.ior, 1) := by decide +kernel
theorem md_F_traits_56 : decode mc_F_traits 56 = .ok (.aload_n 0, 1) := by decide +kernel
theorem md_F_traits_57 : decode mc_F_traits 57 = .ok (.lload_n 1, 1) := by decide +kernel
theorem md_F_traits_58 : decode mc_F_traits 58 = .ok (.invokevirtual 63, 3) := by decide +kernel
theorem md_F_traits_61 : decode mc_F_traits 61 = .ok (.ifCond .ne 8, 3) := by decide +kernel
theorem md_F_traits_64 : decode mc_F_traits 64 = .ok (.bipush 16, 2) := by decide +kernel
theorem md_F_traits_66 : decode mc_F_traits 66 = .ok (.goto 4, 3) := by decide +kernel
theorem md_F_traits_69 : decode mc_F_traits 69 = .ok (.iconst 0, 1) := by decide +kernel
theorem md_F_traits_70 : decode mc_F_traits 70 = .ok (.ior, 1) := by decide +kernel
theorem md_F_traits_71 : decode mc_F_traits 71 = .ok (.aload_n 0, 1) := by decide +kernel
theorem md_F_traits_72 : decode mc_F_traits 72 = .ok (.lload_n 1, 1) := by decide +kernel
theorem md_F_traits_73 : decode mc_F_traits 73 = .ok (.invokevirtual 130, 3) := by decide +kernel
theorem md_F_traits_76 : decode mc_F_traits 76 = .ok (.ifCond .eq 8, 3) := by decide +kernel
theorem md_F_traits_79 : decode mc_F_traits 79 = .ok (.bipush 64, 2) := by decide +kernel
theorem md_F_traits_81 : decode mc_F_traits 81 = .ok (.goto 4, 3) := by decide +kernel
theorem md_F_traits_84 : decode mc_F_traits 84 = .ok (.iconst 0, 1) := by decide +kernel
theorem md_F_traits_85 : decode mc_F_traits 85 = .ok (.ior, 1) := by decide +kernel
theorem md_F_traits_86 : decode mc_F_traits 86 = .ok (.lload_n 1, 1) := by decide +kernel
theorem md_F_traits_87 : decode mc_F_traits 87 = .ok (.lconst 0, 1) := by decide +kernel
theorem md_F_traits_88 : decode mc_F_traits 88 = .ok (.lcmp, 1) := by decide +kernel
theorem md_F_traits_89 : decode mc_F_traits 89 = .ok (.ifCond .le 21, 3) := by decide +kernel
theorem md_F_traits_92 : decode mc_F_traits 92 = .ok (.aload_n 0, 1) := by decide +kernel
theorem md_F_traits_93 : decode mc_F_traits 93 = .ok (.lload_n 1, 1) := by decide +kernel
theorem md_F_traits_94 : decode mc_F_traits 94 = .ok (.invokevirtual 96, 3) := by decide +kernel
theorem md_F_traits_97 : decode mc_F_traits 97 = .ok (.invokestatic 133, 3) := by decide +kernel
theorem md_F_traits_100 : decode mc_F_traits 100 = .ok (.iconst 1, 1) := by decide +kernel
theorem md_F_traits_101 : decode mc_F_traits 101 = .ok (.if_icmp .ne 9, 3) := by decide +kernel
theorem md_F_traits_104 : decode mc_F_traits 104 = .ok (.sipush 128, 3) := by decide +kernel
theorem md_F_traits_107 : decode mc_F_traits 107 = .ok (.goto 4, 3) := by decide +kernel
theorem md_F_traits_110 : decode mc_F_traits 110 = .ok (.iconst 0, 1) := by decide +kernel
theorem md_F_traits_111 : decode mc_F_traits 111 = .ok (.ior, 1) := by decide +kernel
theorem md_F_traits_112 : decode mc_F_traits 112 = .ok (.ireturn, 1) := by decide +kernel
abbrev mc_F_isWhole : ByteArray := prog_2_method_31_code
def my_F_isWhole : MethodName := ⟨"NumberProbe$Format", "isWhole", "(J)Z"⟩
abbrev mw_F_isWhole : List Cond := Cond.code my_F_isWhole mc_F_isWhole 3 (some .boolean) :: gw_tbl
theorem md_F_isWhole_0 : decode mc_F_isWhole 0 = .ok (.aload_n 0, 1) := by decide +kernel
theorem md_F_isWhole_1 : decode mc_F_isWhole 1 = .ok (.lload_n 1, 1) := by decide +kernel
theorem md_F_isWhole_2 : decode mc_F_isWhole 2 = .ok (.invokevirtual 93, 3) := by decide +kernel
theorem md_F_isWhole_5 : decode mc_F_isWhole 5 = .ok (.aload_n 0, 1) := by decide +kernel
theorem md_F_isWhole_6 : decode mc_F_isWhole 6 = .ok (.lload_n 1, 1) := by decide +kernel
theorem md_F_isWhole_7 : decode mc_F_isWhole 7 = .ok (.invokevirtual 96, 3) := by decide +kernel
theorem md_F_isWhole_10 : decode mc_F_isWhole 10 = .ok (.invokestatic 136, 3) := by decide +kernel
theorem md_F_isWhole_13 : decode mc_F_isWhole 13 = .ok (.iadd, 1) := by decide +kernel
theorem md_F_isWhole_14 : decode mc_F_isWhole 14 = .ok (.ifCond .lt 7, 3) := by decide +kernel
theorem md_F_isWhole_17 : decode mc_F_isWhole 17 = .ok (.iconst 1, 1) := by decide +kernel
theorem md_F_isWhole_18 : decode mc_F_isWhole 18 = .ok (.goto 4, 3) := by decide +kernel
theorem md_F_isWhole_21 : decode mc_F_isWhole 21 = .ok (.iconst 0, 1) := by decide +kernel
theorem md_F_isWhole_22 : decode mc_F_isWhole 22 = .ok (.ireturn, 1) := by decide +kernel
abbrev mc_F_rounded : ByteArray := prog_2_method_32_code
def my_F_rounded : MethodName := ⟨"NumberProbe$Format", "rounded", "(ZJI)J"⟩
abbrev mw_F_rounded : List Cond := Cond.code my_F_rounded mc_F_rounded 11 (some .long) :: gw_tbl
theorem md_F_rounded_0 : decode mc_F_rounded 0 = .ok (.lload_n 2, 1) := by decide +kernel
theorem md_F_rounded_1 : decode mc_F_rounded 1 = .ok (.lconst 0, 1) := by decide +kernel
theorem md_F_rounded_2 : decode mc_F_rounded 2 = .ok (.lcmp, 1) := by decide +kernel
theorem md_F_rounded_3 : decode mc_F_rounded 3 = .ok (.ifCond .ne 10, 3) := by decide +kernel
theorem md_F_rounded_6 : decode mc_F_rounded 6 = .ok (.aload_n 0, 1) := by decide +kernel
theorem md_F_rounded_7 : decode mc_F_rounded 7 = .ok (.iload_n 1, 1) := by decide +kernel
theorem md_F_rounded_8 : decode mc_F_rounded 8 = .ok (.lconst 0, 1) := by decide +kernel
theorem md_F_rounded_9 : decode mc_F_rounded 9 = .ok (.invokevirtual 57, 3) := by decide +kernel
theorem md_F_rounded_12 : decode mc_F_rounded 12 = .ok (.lreturn, 1) := by decide +kernel
theorem md_F_rounded_13 : decode mc_F_rounded 13 = .ok (.lload_n 2, 1) := by decide +kernel
theorem md_F_rounded_14 : decode mc_F_rounded 14 = .ok (.invokestatic 73, 3) := by decide +kernel
theorem md_F_rounded_17 : decode mc_F_rounded 17 = .ok (.iconst 1, 1) := by decide +kernel
theorem md_F_rounded_18 : decode mc_F_rounded 18 = .ok (.isub, 1) := by decide +kernel
theorem md_F_rounded_19 : decode mc_F_rounded 19 = .ok (.istore 5, 2) := by decide +kernel
theorem md_F_rounded_21 : decode mc_F_rounded 21 = .ok (.bipush 62, 2) := by decide +kernel
theorem md_F_rounded_23 : decode mc_F_rounded 23 = .ok (.aload_n 0, 1) := by decide +kernel
theorem md_F_rounded_24 : decode mc_F_rounded 24 = .ok (.getfield 29, 3) := by decide +kernel
theorem md_F_rounded_27 : decode mc_F_rounded 27 = .ok (.isub, 1) := by decide +kernel
theorem md_F_rounded_28 : decode mc_F_rounded 28 = .ok (.istore 6, 2) := by decide +kernel
theorem md_F_rounded_30 : decode mc_F_rounded 30 = .ok (.iload 4, 2) := by decide +kernel
theorem md_F_rounded_32 : decode mc_F_rounded 32 = .ok (.iload 5, 2) := by decide +kernel
theorem md_F_rounded_34 : decode mc_F_rounded 34 = .ok (.isub, 1) := by decide +kernel
theorem md_F_rounded_35 : decode mc_F_rounded 35 = .ok (.iload 6, 2) := by decide +kernel
theorem md_F_rounded_37 : decode mc_F_rounded 37 = .ok (.iadd, 1) := by decide +kernel
theorem md_F_rounded_38 : decode mc_F_rounded 38 = .ok (.istore 7, 2) := by decide +kernel
theorem md_F_rounded_40 : decode mc_F_rounded 40 = .ok (.iload 7, 2) := by decide +kernel
theorem md_F_rounded_42 : decode mc_F_rounded 42 = .ok (.aload_n 0, 1) := by decide +kernel
theorem md_F_rounded_43 : decode mc_F_rounded 43 = .ok (.getfield 36, 3) := by decide +kernel
theorem md_F_rounded_46 : decode mc_F_rounded 46 = .ok (.if_icmp .ge 21, 3) := by decide +kernel
theorem md_F_rounded_49 : decode mc_F_rounded 49 = .ok (.iload 6, 2) := by decide +kernel
theorem md_F_rounded_51 : decode mc_F_rounded 51 = .ok (.aload_n 0, 1) := by decide +kernel
theorem md_F_rounded_52 : decode mc_F_rounded 52 = .ok (.getfield 36, 3) := by decide +kernel
theorem md_F_rounded_55 : decode mc_F_rounded 55 = .ok (.iload 7, 2) := by decide +kernel
theorem md_F_rounded_57 : decode mc_F_rounded 57 = .ok (.isub, 1) := by decide +kernel
theorem md_F_rounded_58 : decode mc_F_rounded 58 = .ok (.iadd, 1) := by decide +kernel
theorem md_F_rounded_59 : decode mc_F_rounded 59 = .ok (.istore 6, 2) := by decide +kernel
theorem md_F_rounded_61 : decode mc_F_rounded 61 = .ok (.aload_n 0, 1) := by decide +kernel
theorem md_F_rounded_62 : decode mc_F_rounded 62 = .ok (.getfield 36, 3) := by decide +kernel
theorem md_F_rounded_65 : decode mc_F_rounded 65 = .ok (.istore 7, 2) := by decide +kernel
theorem md_F_rounded_67 : decode mc_F_rounded 67 = .ok (.iload 7, 2) := by decide +kernel
theorem md_F_rounded_69 : decode mc_F_rounded 69 = .ok (.aload_n 0, 1) := by decide +kernel
theorem md_F_rounded_70 : decode mc_F_rounded 70 = .ok (.getfield 36, 3) := by decide +kernel
theorem md_F_rounded_73 : decode mc_F_rounded 73 = .ok (.isub, 1) := by decide +kernel
theorem md_F_rounded_74 : decode mc_F_rounded 74 = .ok (.istore 8, 2) := by decide +kernel
theorem md_F_rounded_76 : decode mc_F_rounded 76 = .ok (.iload 8, 2) := by decide +kernel
theorem md_F_rounded_78 : decode mc_F_rounded 78 = .ok (.aload_n 0, 1) := by decide +kernel
theorem md_F_rounded_79 : decode mc_F_rounded 79 = .ok (.getfield 33, 3) := by decide +kernel
theorem md_F_rounded_82 : decode mc_F_rounded 82 = .ok (.iconst 1, 1) := by decide +kernel
theorem md_F_rounded_83 : decode mc_F_rounded 83 = .ok (.isub, 1) := by decide +kernel
theorem md_F_rounded_84 : decode mc_F_rounded 84 = .ok (.if_icmp .lt 13, 3) := by decide +kernel
theorem md_F_rounded_87 : decode mc_F_rounded 87 = .ok (.aload_n 0, 1) := by decide +kernel
theorem md_F_rounded_88 : decode mc_F_rounded 88 = .ok (.iload_n 1, 1) := by decide +kernel
theorem md_F_rounded_89 : decode mc_F_rounded 89 = .ok (.aload_n 0, 1) := by decide +kernel
theorem md_F_rounded_90 : decode mc_F_rounded 90 = .ok (.getfield 43, 3) := by decide +kernel
theorem md_F_rounded_93 : decode mc_F_rounded 93 = .ok (.invokevirtual 57, 3) := by decide +kernel
theorem md_F_rounded_96 : decode mc_F_rounded 96 = .ok (.lreturn, 1) := by decide +kernel
theorem md_F_rounded_97 : decode mc_F_rounded 97 = .ok (.iload 8, 2) := by decide +kernel
theorem md_F_rounded_99 : decode mc_F_rounded 99 = .ok (.i2l, 1) := by decide +kernel
theorem md_F_rounded_100 : decode mc_F_rounded 100 = .ok (.aload_n 0, 1) := by decide +kernel
theorem md_F_rounded_101 : decode mc_F_rounded 101 = .ok (.getfield 29, 3) := by decide +kernel
theorem md_F_rounded_104 : decode mc_F_rounded 104 = .ok (.lshl, 1) := by decide +kernel
theorem md_F_rounded_105 : decode mc_F_rounded 105 = .ok (.lload_n 2, 1) := by decide +kernel
theorem md_F_rounded_106 : decode mc_F_rounded 106 = .ok (.iload 5, 2) := by decide +kernel
theorem md_F_rounded_108 : decode mc_F_rounded 108 = .ok (.lshl, 1) := by decide +kernel
theorem md_F_rounded_109 : decode mc_F_rounded 109 = .ok (.iload 6, 2) := by decide +kernel
theorem md_F_rounded_111 : decode mc_F_rounded 111 = .ok (.invokestatic 139, 3) := by decide +kernel
theorem md_F_rounded_114 : decode mc_F_rounded 114 = .ok (.ladd, 1) := by decide +kernel
theorem md_F_rounded_115 : decode mc_F_rounded 115 = .ok (.lstore 9, 2) := by decide +kernel
theorem md_F_rounded_117 : decode mc_F_rounded 117 = .ok (.aload_n 0, 1) := by decide +kernel
theorem md_F_rounded_118 : decode mc_F_rounded 118 = .ok (.iload_n 1, 1) := by decide +kernel
theorem md_F_rounded_119 : decode mc_F_rounded 119 = .ok (.lload 9, 2) := by decide +kernel
theorem md_F_rounded_121 : decode mc_F_rounded 121 = .ok (.invokevirtual 57, 3) := by decide +kernel
theorem md_F_rounded_124 : decode mc_F_rounded 124 = .ok (.lreturn, 1) := by decide +kernel
abbrev mc_F_cutToEven : ByteArray := prog_2_method_33_code
def my_F_cutToEven : MethodName := ⟨"NumberProbe$Format", "cutToEven", "(JI)J"⟩
abbrev mw_F_cutToEven : List Cond := Cond.code my_F_cutToEven mc_F_cutToEven 10 (some .long) :: gw_tbl
theorem md_F_cutToEven_0 : decode mc_F_cutToEven 0 = .ok (.iload_n 2, 1) := by decide +kernel
theorem md_F_cutToEven_1 : decode mc_F_cutToEven 1 = .ok (.bipush 64, 2) := by decide +kernel
theorem md_F_cutToEven_3 : decode mc_F_cutToEven 3 = .ok (.if_icmp .lt 5, 3) := by decide +kernel
theorem md_F_cutToEven_6 : decode mc_F_cutToEven 6 = .ok (.lconst 0, 1) := by decide +kernel
theorem md_F_cutToEven_7 : decode mc_F_cutToEven 7 = .ok (.lreturn, 1) := by decide +kernel
theorem md_F_cutToEven_8 : decode mc_F_cutToEven 8 = .ok (.lload_n 0, 1) := by decide +kernel
theorem md_F_cutToEven_9 : decode mc_F_cutToEven 9 = .ok (.iload_n 2, 1) := by decide +kernel
theorem md_F_cutToEven_10 : decode mc_F_cutToEven 10 = .ok (.lushr, 1) := by decide +kernel
theorem md_F_cutToEven_11 : decode mc_F_cutToEven 11 = .ok (.lstore_n 3, 1) := by decide +kernel
theorem md_F_cutToEven_12 : decode mc_F_cutToEven 12 = .ok (.lload_n 0, 1) := by decide +kernel
theorem md_F_cutToEven_13 : decode mc_F_cutToEven 13 = .ok (.lload_n 3, 1) := by decide +kernel
theorem md_F_cutToEven_14 : decode mc_F_cutToEven 14 = .ok (.iload_n 2, 1) := by decide +kernel
theorem md_F_cutToEven_15 : decode mc_F_cutToEven 15 = .ok (.lshl, 1) := by decide +kernel
theorem md_F_cutToEven_16 : decode mc_F_cutToEven 16 = .ok (.lsub, 1) := by decide +kernel
theorem md_F_cutToEven_17 : decode mc_F_cutToEven 17 = .ok (.lstore 5, 2) := by decide +kernel
theorem md_F_cutToEven_19 : decode mc_F_cutToEven 19 = .ok (.lconst 1, 1) := by decide +kernel
theorem md_F_cutToEven_20 : decode mc_F_cutToEven 20 = .ok (.iload_n 2, 1) := by decide +kernel
theorem md_F_cutToEven_21 : decode mc_F_cutToEven 21 = .ok (.iconst 1, 1) := by decide +kernel
theorem md_F_cutToEven_22 : decode mc_F_cutToEven 22 = .ok (.isub, 1) := by decide +kernel
theorem md_F_cutToEven_23 : decode mc_F_cutToEven 23 = .ok (.lshl, 1) := by decide +kernel
theorem md_F_cutToEven_24 : decode mc_F_cutToEven 24 = .ok (.lstore 7, 2) := by decide +kernel
theorem md_F_cutToEven_26 : decode mc_F_cutToEven 26 = .ok (.lload 5, 2) := by decide +kernel
theorem md_F_cutToEven_28 : decode mc_F_cutToEven 28 = .ok (.lload 7, 2) := by decide +kernel
theorem md_F_cutToEven_30 : decode mc_F_cutToEven 30 = .ok (.lcmp, 1) := by decide +kernel
theorem md_F_cutToEven_31 : decode mc_F_cutToEven 31 = .ok (.ifCond .gt 19, 3) := by decide +kernel
theorem md_F_cutToEven_34 : decode mc_F_cutToEven 34 = .ok (.lload 5, 2) := by decide +kernel
theorem md_F_cutToEven_36 : decode mc_F_cutToEven 36 = .ok (.lload 7, 2) := by decide +kernel
theorem md_F_cutToEven_38 : decode mc_F_cutToEven 38 = .ok (.lcmp, 1) := by decide +kernel
theorem md_F_cutToEven_39 : decode mc_F_cutToEven 39 = .ok (.ifCond .ne 15, 3) := by decide +kernel
theorem md_F_cutToEven_42 : decode mc_F_cutToEven 42 = .ok (.lload_n 3, 1) := by decide +kernel
theorem md_F_cutToEven_43 : decode mc_F_cutToEven 43 = .ok (.lconst 1, 1) := by decide +kernel
theorem md_F_cutToEven_44 : decode mc_F_cutToEven 44 = .ok (.land, 1) := by decide +kernel
theorem md_F_cutToEven_45 : decode mc_F_cutToEven 45 = .ok (.lconst 1, 1) := by decide +kernel
theorem md_F_cutToEven_46 : decode mc_F_cutToEven 46 = .ok (.lcmp, 1) := by decide +kernel
theorem md_F_cutToEven_47 : decode mc_F_cutToEven 47 = .ok (.ifCond .ne 7, 3) := by decide +kernel
theorem md_F_cutToEven_50 : decode mc_F_cutToEven 50 = .ok (.iconst 1, 1) := by decide +kernel
theorem md_F_cutToEven_51 : decode mc_F_cutToEven 51 = .ok (.goto 4, 3) := by decide +kernel
theorem md_F_cutToEven_54 : decode mc_F_cutToEven 54 = .ok (.iconst 0, 1) := by decide +kernel
theorem md_F_cutToEven_55 : decode mc_F_cutToEven 55 = .ok (.istore 9, 2) := by decide +kernel
theorem md_F_cutToEven_57 : decode mc_F_cutToEven 57 = .ok (.iload 9, 2) := by decide +kernel
theorem md_F_cutToEven_59 : decode mc_F_cutToEven 59 = .ok (.ifCond .eq 9, 3) := by decide +kernel
theorem md_F_cutToEven_62 : decode mc_F_cutToEven 62 = .ok (.lload_n 3, 1) := by decide +kernel
theorem md_F_cutToEven_63 : decode mc_F_cutToEven 63 = .ok (.lconst 1, 1) := by decide +kernel
theorem md_F_cutToEven_64 : decode mc_F_cutToEven 64 = .ok (.ladd, 1) := by decide +kernel
theorem md_F_cutToEven_65 : decode mc_F_cutToEven 65 = .ok (.goto 4, 3) := by decide +kernel
theorem md_F_cutToEven_68 : decode mc_F_cutToEven 68 = .ok (.lload_n 3, 1) := by decide +kernel
theorem md_F_cutToEven_69 : decode mc_F_cutToEven 69 = .ok (.lreturn, 1) := by decide +kernel
abbrev mc_F_shiftedRight : ByteArray := prog_2_method_34_code
def my_F_shiftedRight : MethodName := ⟨"NumberProbe$Format", "shiftedRight", "(JI)J"⟩
abbrev mw_F_shiftedRight : List Cond := Cond.code my_F_shiftedRight mc_F_shiftedRight 5 (some .long) :: gw_tbl
theorem md_F_shiftedRight_0 : decode mc_F_shiftedRight 0 = .ok (.iload_n 2, 1) := by decide +kernel
theorem md_F_shiftedRight_1 : decode mc_F_shiftedRight 1 = .ok (.bipush 64, 2) := by decide +kernel
theorem md_F_shiftedRight_3 : decode mc_F_shiftedRight 3 = .ok (.if_icmp .lt 9, 3) := by decide +kernel
theorem md_F_shiftedRight_6 : decode mc_F_shiftedRight 6 = .ok (.lconst 0, 1) := by decide +kernel
theorem md_F_shiftedRight_7 : decode mc_F_shiftedRight 7 = .ok (.lload_n 0, 1) := by decide +kernel
theorem md_F_shiftedRight_8 : decode mc_F_shiftedRight 8 = .ok (.invokestatic 117, 3) := by decide +kernel
theorem md_F_shiftedRight_11 : decode mc_F_shiftedRight 11 = .ok (.lreturn, 1) := by decide +kernel
theorem md_F_shiftedRight_12 : decode mc_F_shiftedRight 12 = .ok (.lload_n 0, 1) := by decide +kernel
theorem md_F_shiftedRight_13 : decode mc_F_shiftedRight 13 = .ok (.iload_n 2, 1) := by decide +kernel
theorem md_F_shiftedRight_14 : decode mc_F_shiftedRight 14 = .ok (.lushr, 1) := by decide +kernel
theorem md_F_shiftedRight_15 : decode mc_F_shiftedRight 15 = .ok (.lstore_n 3, 1) := by decide +kernel
theorem md_F_shiftedRight_16 : decode mc_F_shiftedRight 16 = .ok (.lload_n 3, 1) := by decide +kernel
theorem md_F_shiftedRight_17 : decode mc_F_shiftedRight 17 = .ok (.lload_n 0, 1) := by decide +kernel
theorem md_F_shiftedRight_18 : decode mc_F_shiftedRight 18 = .ok (.lload_n 3, 1) := by decide +kernel
theorem md_F_shiftedRight_19 : decode mc_F_shiftedRight 19 = .ok (.iload_n 2, 1) := by decide +kernel
theorem md_F_shiftedRight_20 : decode mc_F_shiftedRight 20 = .ok (.lshl, 1) := by decide +kernel
theorem md_F_shiftedRight_21 : decode mc_F_shiftedRight 21 = .ok (.lsub, 1) := by decide +kernel
theorem md_F_shiftedRight_22 : decode mc_F_shiftedRight 22 = .ok (.invokestatic 117, 3) := by decide +kernel
theorem md_F_shiftedRight_25 : decode mc_F_shiftedRight 25 = .ok (.lreturn, 1) := by decide +kernel
abbrev mc_F_withRest : ByteArray := prog_2_method_35_code
def my_F_withRest : MethodName := ⟨"NumberProbe$Format", "withRest", "(JJ)J"⟩
abbrev mw_F_withRest : List Cond := Cond.code my_F_withRest mc_F_withRest 4 (some .long) :: gw_tbl
theorem md_F_withRest_0 : decode mc_F_withRest 0 = .ok (.lload_n 2, 1) := by decide +kernel
theorem md_F_withRest_1 : decode mc_F_withRest 1 = .ok (.lconst 0, 1) := by decide +kernel
theorem md_F_withRest_2 : decode mc_F_withRest 2 = .ok (.lcmp, 1) := by decide +kernel
theorem md_F_withRest_3 : decode mc_F_withRest 3 = .ok (.ifCond .ne 7, 3) := by decide +kernel
theorem md_F_withRest_6 : decode mc_F_withRest 6 = .ok (.lload_n 0, 1) := by decide +kernel
theorem md_F_withRest_7 : decode mc_F_withRest 7 = .ok (.goto 6, 3) := by decide +kernel
theorem md_F_withRest_10 : decode mc_F_withRest 10 = .ok (.lload_n 0, 1) := by decide +kernel
theorem md_F_withRest_11 : decode mc_F_withRest 11 = .ok (.lconst 1, 1) := by decide +kernel
theorem md_F_withRest_12 : decode mc_F_withRest 12 = .ok (.lor, 1) := by decide +kernel
theorem md_F_withRest_13 : decode mc_F_withRest 13 = .ok (.lreturn, 1) := by decide +kernel
