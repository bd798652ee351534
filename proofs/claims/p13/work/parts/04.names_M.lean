abbrev mc_M_init : ByteArray := prog_4_method_1_code
def my_M_init : MethodName := ⟨"NumberProbeModel", "<init>", "()V"⟩
abbrev mw_M_init : List Cond := Cond.code my_M_init mc_M_init 1 none :: gw_tbl
theorem md_M_init_0 : decode mc_M_init 0 = .ok (.aload_n 0, 1) := by decide +kernel
theorem md_M_init_1 : decode mc_M_init 1 = .ok (.invokespecial 1, 3) := by decide +kernel
theorem md_M_init_4 : decode mc_M_init 4 = .ok (.aload_n 0, 1) := by decide +kernel
theorem md_M_init_5 : decode mc_M_init 5 = .ok (.bipush 24, 2) := by decide +kernel
theorem md_M_init_7 : decode mc_M_init 7 = .ok (.newarray .long, 2) := by decide +kernel
theorem md_M_init_9 : decode mc_M_init 9 = .ok (.putfield 7, 3) := by decide +kernel
theorem md_M_init_12 : decode mc_M_init 12 = .ok (.return_, 1) := by decide +kernel
abbrev mc_M_in : ByteArray := prog_4_method_2_code
def my_M_in : MethodName := ⟨"NumberProbeModel", "in", "(II)Z"⟩
abbrev mw_M_in : List Cond := Cond.code my_M_in mc_M_in 2 (some .boolean) :: gw_tbl
theorem md_M_in_0 : decode mc_M_in 0 = .ok (.iload_n 0, 1) := by decide +kernel
theorem md_M_in_1 : decode mc_M_in 1 = .ok (.ifCond .lt 12, 3) := by decide +kernel
theorem md_M_in_4 : decode mc_M_in 4 = .ok (.iload_n 0, 1) := by decide +kernel
theorem md_M_in_5 : decode mc_M_in 5 = .ok (.iload_n 1, 1) := by decide +kernel
theorem md_M_in_6 : decode mc_M_in 6 = .ok (.if_icmp .ge 7, 3) := by decide +kernel
theorem md_M_in_9 : decode mc_M_in 9 = .ok (.iconst 1, 1) := by decide +kernel
theorem md_M_in_10 : decode mc_M_in 10 = .ok (.goto 4, 3) := by decide +kernel
theorem md_M_in_13 : decode mc_M_in 13 = .ok (.iconst 0, 1) := by decide +kernel
theorem md_M_in_14 : decode mc_M_in 14 = .ok (.ireturn, 1) := by decide +kernel
abbrev mc_M_fraction : ByteArray := prog_4_method_3_code
def my_M_fraction : MethodName := ⟨"NumberProbeModel", "fraction", "(I)I"⟩
abbrev mw_M_fraction : List Cond := Cond.code my_M_fraction mc_M_fraction 1 (some .int) :: gw_tbl
theorem md_M_fraction_0 : decode mc_M_fraction 0 = .ok (.iload_n 0, 1) := by decide +kernel
theorem md_M_fraction_1 : decode mc_M_fraction 1 = .ok (.ifCond .ne 8, 3) := by decide +kernel
theorem md_M_fraction_4 : decode mc_M_fraction 4 = .ok (.bipush 23, 2) := by decide +kernel
theorem md_M_fraction_6 : decode mc_M_fraction 6 = .ok (.goto 5, 3) := by decide +kernel
theorem md_M_fraction_9 : decode mc_M_fraction 9 = .ok (.bipush 52, 2) := by decide +kernel
theorem md_M_fraction_11 : decode mc_M_fraction 11 = .ok (.ireturn, 1) := by decide +kernel
abbrev mc_M_least : ByteArray := prog_4_method_4_code
def my_M_least : MethodName := ⟨"NumberProbeModel", "least", "(I)I"⟩
abbrev mw_M_least : List Cond := Cond.code my_M_least mc_M_least 1 (some .int) :: gw_tbl
theorem md_M_least_0 : decode mc_M_least 0 = .ok (.iload_n 0, 1) := by decide +kernel
theorem md_M_least_1 : decode mc_M_least 1 = .ok (.ifCond .ne 9, 3) := by decide +kernel
theorem md_M_least_4 : decode mc_M_least 4 = .ok (.sipush (-149), 3) := by decide +kernel
theorem md_M_least_7 : decode mc_M_least 7 = .ok (.goto 6, 3) := by decide +kernel
theorem md_M_least_10 : decode mc_M_least 10 = .ok (.sipush (-1074), 3) := by decide +kernel
theorem md_M_least_13 : decode mc_M_least 13 = .ok (.ireturn, 1) := by decide +kernel
abbrev mc_M_signBit : ByteArray := prog_4_method_5_code
def my_M_signBit : MethodName := ⟨"NumberProbeModel", "signBit", "(I)J"⟩
abbrev mw_M_signBit : List Cond := Cond.code my_M_signBit mc_M_signBit 1 (some .long) :: gw_tbl
theorem md_M_signBit_0 : decode mc_M_signBit 0 = .ok (.iload_n 0, 1) := by decide +kernel
theorem md_M_signBit_1 : decode mc_M_signBit 1 = .ok (.ifCond .ne 9, 3) := by decide +kernel
theorem md_M_signBit_4 : decode mc_M_signBit 4 = .ok (.ldc2_w 13, 3) := by decide +kernel
theorem md_M_signBit_7 : decode mc_M_signBit 7 = .ok (.goto 6, 3) := by decide +kernel
theorem md_M_signBit_10 : decode mc_M_signBit 10 = .ok (.ldc2_w 15, 3) := by decide +kernel
theorem md_M_signBit_13 : decode mc_M_signBit 13 = .ok (.lreturn, 1) := by decide +kernel
abbrev mc_M_infinity : ByteArray := prog_4_method_6_code
def my_M_infinity : MethodName := ⟨"NumberProbeModel", "infinity", "(I)J"⟩
abbrev mw_M_infinity : List Cond := Cond.code my_M_infinity mc_M_infinity 1 (some .long) :: gw_tbl
theorem md_M_infinity_0 : decode mc_M_infinity 0 = .ok (.iload_n 0, 1) := by decide +kernel
theorem md_M_infinity_1 : decode mc_M_infinity 1 = .ok (.ifCond .ne 9, 3) := by decide +kernel
theorem md_M_infinity_4 : decode mc_M_infinity 4 = .ok (.ldc2_w 17, 3) := by decide +kernel
theorem md_M_infinity_7 : decode mc_M_infinity 7 = .ok (.goto 6, 3) := by decide +kernel
theorem md_M_infinity_10 : decode mc_M_infinity 10 = .ok (.ldc2_w 19, 3) := by decide +kernel
theorem md_M_infinity_13 : decode mc_M_infinity 13 = .ok (.lreturn, 1) := by decide +kernel
abbrev mc_M_nan : ByteArray := prog_4_method_7_code
def my_M_nan : MethodName := ⟨"NumberProbeModel", "nan", "(I)J"⟩
abbrev mw_M_nan : List Cond := Cond.code my_M_nan mc_M_nan 1 (some .long) :: gw_tbl
theorem md_M_nan_0 : decode mc_M_nan 0 = .ok (.iload_n 0, 1) := by decide +kernel
theorem md_M_nan_1 : decode mc_M_nan 1 = .ok (.ifCond .ne 9, 3) := by decide +kernel
theorem md_M_nan_4 : decode mc_M_nan 4 = .ok (.ldc2_w 21, 3) := by decide +kernel
theorem md_M_nan_7 : decode mc_M_nan 7 = .ok (.goto 6, 3) := by decide +kernel
theorem md_M_nan_10 : decode mc_M_nan 10 = .ok (.ldc2_w 23, 3) := by decide +kernel
theorem md_M_nan_13 : decode mc_M_nan 13 = .ok (.lreturn, 1) := by decide +kernel
abbrev mc_M_isSign : ByteArray := prog_4_method_8_code
def my_M_isSign : MethodName := ⟨"NumberProbeModel", "isSign", "(IJ)Z"⟩
abbrev mw_M_isSign : List Cond := Cond.code my_M_isSign mc_M_isSign 3 (some .boolean) :: gw_tbl
theorem md_M_isSign_0 : decode mc_M_isSign 0 = .ok (.lload_n 1, 1) := by decide +kernel
theorem md_M_isSign_1 : decode mc_M_isSign 1 = .ok (.iload_n 0, 1) := by decide +kernel
theorem md_M_isSign_2 : decode mc_M_isSign 2 = .ok (.invokestatic 25, 3) := by decide +kernel
theorem md_M_isSign_5 : decode mc_M_isSign 5 = .ok (.land, 1) := by decide +kernel
theorem md_M_isSign_6 : decode mc_M_isSign 6 = .ok (.lconst 0, 1) := by decide +kernel
theorem md_M_isSign_7 : decode mc_M_isSign 7 = .ok (.lcmp, 1) := by decide +kernel
theorem md_M_isSign_8 : decode mc_M_isSign 8 = .ok (.ifCond .eq 7, 3) := by decide +kernel
theorem md_M_isSign_11 : decode mc_M_isSign 11 = .ok (.iconst 1, 1) := by decide +kernel
theorem md_M_isSign_12 : decode mc_M_isSign 12 = .ok (.goto 4, 3) := by decide +kernel
theorem md_M_isSign_15 : decode mc_M_isSign 15 = .ok (.iconst 0, 1) := by decide +kernel
theorem md_M_isSign_16 : decode mc_M_isSign 16 = .ok (.ireturn, 1) := by decide +kernel
abbrev mc_M_size : ByteArray := prog_4_method_9_code
def my_M_size : MethodName := ⟨"NumberProbeModel", "size", "(IJ)J"⟩
abbrev mw_M_size : List Cond := Cond.code my_M_size mc_M_size 3 (some .long) :: gw_tbl
theorem md_M_size_0 : decode mc_M_size 0 = .ok (.lload_n 1, 1) := by decide +kernel
theorem md_M_size_1 : decode mc_M_size 1 = .ok (.iload_n 0, 1) := by decide +kernel
theorem md_M_size_2 : decode mc_M_size 2 = .ok (.invokestatic 25, 3) := by decide +kernel
theorem md_M_size_5 : decode mc_M_size 5 = .ok (.lconst 1, 1) := by decide +kernel
theorem md_M_size_6 : decode mc_M_size 6 = .ok (.lsub, 1) := by decide +kernel
theorem md_M_size_7 : decode mc_M_size 7 = .ok (.land, 1) := by decide +kernel
theorem md_M_size_8 : decode mc_M_size 8 = .ok (.lreturn, 1) := by decide +kernel
abbrev mc_M_isNan : ByteArray := prog_4_method_10_code
def my_M_isNan : MethodName := ⟨"NumberProbeModel", "isNan", "(IJ)Z"⟩
abbrev mw_M_isNan : List Cond := Cond.code my_M_isNan mc_M_isNan 3 (some .boolean) :: gw_tbl
theorem md_M_isNan_0 : decode mc_M_isNan 0 = .ok (.iload_n 0, 1) := by decide +kernel
theorem md_M_isNan_1 : decode mc_M_isNan 1 = .ok (.lload_n 1, 1) := by decide +kernel
theorem md_M_isNan_2 : decode mc_M_isNan 2 = .ok (.invokestatic 29, 3) := by decide +kernel
theorem md_M_isNan_5 : decode mc_M_isNan 5 = .ok (.iload_n 0, 1) := by decide +kernel
theorem md_M_isNan_6 : decode mc_M_isNan 6 = .ok (.invokestatic 33, 3) := by decide +kernel
theorem md_M_isNan_9 : decode mc_M_isNan 9 = .ok (.lcmp, 1) := by decide +kernel
theorem md_M_isNan_10 : decode mc_M_isNan 10 = .ok (.ifCond .le 7, 3) := by decide +kernel
theorem md_M_isNan_13 : decode mc_M_isNan 13 = .ok (.iconst 1, 1) := by decide +kernel
theorem md_M_isNan_14 : decode mc_M_isNan 14 = .ok (.goto 4, 3) := by decide +kernel
theorem md_M_isNan_17 : decode mc_M_isNan 17 = .ok (.iconst 0, 1) := by decide +kernel
theorem md_M_isNan_18 : decode mc_M_isNan 18 = .ok (.ireturn, 1) := by decide +kernel
abbrev mc_M_length : ByteArray := prog_4_method_11_code
def my_M_length : MethodName := ⟨"NumberProbeModel", "length", "(J)I"⟩
abbrev mw_M_length : List Cond := Cond.code my_M_length mc_M_length 4 (some .int) :: gw_tbl
theorem md_M_length_0 : decode mc_M_length 0 = .ok (.iconst 0, 1) := by decide +kernel
theorem md_M_length_1 : decode mc_M_length 1 = .ok (.istore_n 2, 1) := by decide +kernel
theorem md_M_length_2 : decode mc_M_length 2 = .ok (.bipush 32, 2) := by decide +kernel
theorem md_M_length_4 : decode mc_M_length 4 = .ok (.istore_n 3, 1) := by decide +kernel
theorem md_M_length_5 : decode mc_M_length 5 = .ok (.iload_n 3, 1) := by decide +kernel
theorem md_M_length_6 : decode mc_M_length 6 = .ok (.ifCond .le 24, 3) := by decide +kernel
theorem md_M_length_9 : decode mc_M_length 9 = .ok (.lload_n 0, 1) := by decide +kernel
theorem md_M_length_10 : decode mc_M_length 10 = .ok (.iload_n 2, 1) := by decide +kernel
theorem md_M_length_11 : decode mc_M_length 11 = .ok (.iload_n 3, 1) := by decide +kernel
theorem md_M_length_12 : decode mc_M_length 12 = .ok (.iadd, 1) := by decide +kernel
theorem md_M_length_13 : decode mc_M_length 13 = .ok (.lushr, 1) := by decide +kernel
theorem md_M_length_14 : decode mc_M_length 14 = .ok (.lconst 0, 1) := by decide +kernel
theorem md_M_length_15 : decode mc_M_length 15 = .ok (.lcmp, 1) := by decide +kernel
theorem md_M_length_16 : decode mc_M_length 16 = .ok (.ifCond .eq 7, 3) := by decide +kernel
theorem md_M_length_19 : decode mc_M_length 19 = .ok (.iload_n 2, 1) := by decide +kernel
theorem md_M_length_20 : decode mc_M_length 20 = .ok (.iload_n 3, 1) := by decide +kernel
theorem md_M_length_21 : decode mc_M_length 21 = .ok (.iadd, 1) := by decide +kernel
theorem md_M_length_22 : decode mc_M_length 22 = .ok (.istore_n 2, 1) := by decide +kernel
theorem md_M_length_23 : decode mc_M_length 23 = .ok (.iload_n 3, 1) := by decide +kernel
theorem md_M_length_24 : decode mc_M_length 24 = .ok (.iconst 2, 1) := by decide +kernel
theorem md_M_length_25 : decode mc_M_length 25 = .ok (.idiv, 1) := by decide +kernel
theorem md_M_length_26 : decode mc_M_length 26 = .ok (.istore_n 3, 1) := by decide +kernel
theorem md_M_length_27 : decode mc_M_length 27 = .ok (.goto (-22), 3) := by decide +kernel
theorem md_M_length_30 : decode mc_M_length 30 = .ok (.lload_n 0, 1) := by decide +kernel
theorem md_M_length_31 : decode mc_M_length 31 = .ok (.lconst 0, 1) := by decide +kernel
theorem md_M_length_32 : decode mc_M_length 32 = .ok (.lcmp, 1) := by decide +kernel
theorem md_M_length_33 : decode mc_M_length 33 = .ok (.ifCond .ne 7, 3) := by decide +kernel
theorem md_M_length_36 : decode mc_M_length 36 = .ok (.iconst 0, 1) := by decide +kernel
theorem md_M_length_37 : decode mc_M_length 37 = .ok (.goto 6, 3) := by decide +kernel
theorem md_M_length_40 : decode mc_M_length 40 = .ok (.iload_n 2, 1) := by decide +kernel
theorem md_M_length_41 : decode mc_M_length 41 = .ok (.iconst 1, 1) := by decide +kernel
theorem md_M_length_42 : decode mc_M_length 42 = .ok (.iadd, 1) := by decide +kernel
theorem md_M_length_43 : decode mc_M_length 43 = .ok (.ireturn, 1) := by decide +kernel
abbrev mc_M_signed : ByteArray := prog_4_method_12_code
def my_M_signed : MethodName := ⟨"NumberProbeModel", "signed", "(IZJ)J"⟩
abbrev mw_M_signed : List Cond := Cond.code my_M_signed mc_M_signed 4 (some .long) :: gw_tbl
theorem md_M_signed_0 : decode mc_M_signed 0 = .ok (.iload_n 1, 1) := by decide +kernel
theorem md_M_signed_1 : decode mc_M_signed 1 = .ok (.ifCond .eq 12, 3) := by decide +kernel
theorem md_M_signed_4 : decode mc_M_signed 4 = .ok (.lload_n 2, 1) := by decide +kernel
theorem md_M_signed_5 : decode mc_M_signed 5 = .ok (.iload_n 0, 1) := by decide +kernel
theorem md_M_signed_6 : decode mc_M_signed 6 = .ok (.invokestatic 25, 3) := by decide +kernel
theorem md_M_signed_9 : decode mc_M_signed 9 = .ok (.lor, 1) := by decide +kernel
theorem md_M_signed_10 : decode mc_M_signed 10 = .ok (.goto 4, 3) := by decide +kernel
theorem md_M_signed_13 : decode mc_M_signed 13 = .ok (.lload_n 2, 1) := by decide +kernel
theorem md_M_signed_14 : decode mc_M_signed 14 = .ok (.lreturn, 1) := by decide +kernel
abbrev mc_M_mantissa : ByteArray := prog_4_method_13_code
def my_M_mantissa : MethodName := ⟨"NumberProbeModel", "mantissa", "(IJ)J"⟩
abbrev mw_M_mantissa : List Cond := Cond.code my_M_mantissa mc_M_mantissa 7 (some .long) :: gw_tbl
theorem md_M_mantissa_0 : decode mc_M_mantissa 0 = .ok (.lconst 1, 1) := by decide +kernel
theorem md_M_mantissa_1 : decode mc_M_mantissa 1 = .ok (.iload_n 0, 1) := by decide +kernel
theorem md_M_mantissa_2 : decode mc_M_mantissa 2 = .ok (.invokestatic 36, 3) := by decide +kernel
theorem md_M_mantissa_5 : decode mc_M_mantissa 5 = .ok (.lshl, 1) := by decide +kernel
theorem md_M_mantissa_6 : decode mc_M_mantissa 6 = .ok (.lstore_n 3, 1) := by decide +kernel
theorem md_M_mantissa_7 : decode mc_M_mantissa 7 = .ok (.iload_n 0, 1) := by decide +kernel
theorem md_M_mantissa_8 : decode mc_M_mantissa 8 = .ok (.lload_n 1, 1) := by decide +kernel
theorem md_M_mantissa_9 : decode mc_M_mantissa 9 = .ok (.invokestatic 29, 3) := by decide +kernel
theorem md_M_mantissa_12 : decode mc_M_mantissa 12 = .ok (.lstore 5, 2) := by decide +kernel
theorem md_M_mantissa_14 : decode mc_M_mantissa 14 = .ok (.lload 5, 2) := by decide +kernel
theorem md_M_mantissa_16 : decode mc_M_mantissa 16 = .ok (.lload_n 3, 1) := by decide +kernel
theorem md_M_mantissa_17 : decode mc_M_mantissa 17 = .ok (.lcmp, 1) := by decide +kernel
theorem md_M_mantissa_18 : decode mc_M_mantissa 18 = .ok (.ifCond .ge 8, 3) := by decide +kernel
theorem md_M_mantissa_21 : decode mc_M_mantissa 21 = .ok (.lload 5, 2) := by decide +kernel
theorem md_M_mantissa_23 : decode mc_M_mantissa 23 = .ok (.goto 11, 3) := by decide +kernel
theorem md_M_mantissa_26 : decode mc_M_mantissa 26 = .ok (.lload 5, 2) := by decide +kernel
theorem md_M_mantissa_28 : decode mc_M_mantissa 28 = .ok (.lload_n 3, 1) := by decide +kernel
theorem md_M_mantissa_29 : decode mc_M_mantissa 29 = .ok (.lconst 1, 1) := by decide +kernel
theorem md_M_mantissa_30 : decode mc_M_mantissa 30 = .ok (.lsub, 1) := by decide +kernel
theorem md_M_mantissa_31 : decode mc_M_mantissa 31 = .ok (.land, 1) := by decide +kernel
theorem md_M_mantissa_32 : decode mc_M_mantissa 32 = .ok (.lload_n 3, 1) := by decide +kernel
theorem md_M_mantissa_33 : decode mc_M_mantissa 33 = .ok (.lor, 1) := by decide +kernel
theorem md_M_mantissa_34 : decode mc_M_mantissa 34 = .ok (.lreturn, 1) := by decide +kernel
abbrev mc_M_power : ByteArray := prog_4_method_14_code
def my_M_power : MethodName := ⟨"NumberProbeModel", "power", "(IJ)I"⟩
abbrev mw_M_power : List Cond := Cond.code my_M_power mc_M_power 4 (some .int) :: gw_tbl
theorem md_M_power_0 : decode mc_M_power 0 = .ok (.iload_n 0, 1) := by decide +kernel
theorem md_M_power_1 : decode mc_M_power 1 = .ok (.lload_n 1, 1) := by decide +kernel
theorem md_M_power_2 : decode mc_M_power 2 = .ok (.invokestatic 29, 3) := by decide +kernel
theorem md_M_power_5 : decode mc_M_power 5 = .ok (.iload_n 0, 1) := by decide +kernel
theorem md_M_power_6 : decode mc_M_power 6 = .ok (.invokestatic 36, 3) := by decide +kernel
theorem md_M_power_9 : decode mc_M_power 9 = .ok (.lushr, 1) := by decide +kernel
theorem md_M_power_10 : decode mc_M_power 10 = .ok (.l2i, 1) := by decide +kernel
theorem md_M_power_11 : decode mc_M_power 11 = .ok (.istore_n 3, 1) := by decide +kernel
theorem md_M_power_12 : decode mc_M_power 12 = .ok (.iload_n 0, 1) := by decide +kernel
theorem md_M_power_13 : decode mc_M_power 13 = .ok (.invokestatic 40, 3) := by decide +kernel
theorem md_M_power_16 : decode mc_M_power 16 = .ok (.iload_n 3, 1) := by decide +kernel
theorem md_M_power_17 : decode mc_M_power 17 = .ok (.ifCond .ne 7, 3) := by decide +kernel
theorem md_M_power_20 : decode mc_M_power 20 = .ok (.iconst 0, 1) := by decide +kernel
theorem md_M_power_21 : decode mc_M_power 21 = .ok (.goto 6, 3) := by decide +kernel
theorem md_M_power_24 : decode mc_M_power 24 = .ok (.iload_n 3, 1) := by decide +kernel
theorem md_M_power_25 : decode mc_M_power 25 = .ok (.iconst 1, 1) := by decide +kernel
theorem md_M_power_26 : decode mc_M_power 26 = .ok (.isub, 1) := by decide +kernel
theorem md_M_power_27 : decode mc_M_power 27 = .ok (.iadd, 1) := by decide +kernel
theorem md_M_power_28 : decode mc_M_power 28 = .ok (.ireturn, 1) := by decide +kernel
abbrev mc_M_takeX : ByteArray := prog_4_method_15_code
def my_M_takeX : MethodName := ⟨"NumberProbeModel", "takeX", "(IJ)V"⟩
abbrev mw_M_takeX : List Cond := Cond.code my_M_takeX mc_M_takeX 4 none :: gw_tbl
theorem md_M_takeX_0 : decode mc_M_takeX 0 = .ok (.aload_n 0, 1) := by decide +kernel
theorem md_M_takeX_1 : decode mc_M_takeX 1 = .ok (.iload_n 1, 1) := by decide +kernel
theorem md_M_takeX_2 : decode mc_M_takeX 2 = .ok (.lload_n 2, 1) := by decide +kernel
theorem md_M_takeX_3 : decode mc_M_takeX 3 = .ok (.invokestatic 43, 3) := by decide +kernel
theorem md_M_takeX_6 : decode mc_M_takeX 6 = .ok (.putfield 47, 3) := by decide +kernel
theorem md_M_takeX_9 : decode mc_M_takeX 9 = .ok (.aload_n 0, 1) := by decide +kernel
theorem md_M_takeX_10 : decode mc_M_takeX 10 = .ok (.iload_n 1, 1) := by decide +kernel
theorem md_M_takeX_11 : decode mc_M_takeX 11 = .ok (.lload_n 2, 1) := by decide +kernel
theorem md_M_takeX_12 : decode mc_M_takeX 12 = .ok (.invokestatic 51, 3) := by decide +kernel
theorem md_M_takeX_15 : decode mc_M_takeX 15 = .ok (.putfield 54, 3) := by decide +kernel
theorem md_M_takeX_18 : decode mc_M_takeX 18 = .ok (.aload_n 0, 1) := by decide +kernel
theorem md_M_takeX_19 : decode mc_M_takeX 19 = .ok (.iload_n 1, 1) := by decide +kernel
theorem md_M_takeX_20 : decode mc_M_takeX 20 = .ok (.lload_n 2, 1) := by decide +kernel
theorem md_M_takeX_21 : decode mc_M_takeX 21 = .ok (.invokestatic 29, 3) := by decide +kernel
theorem md_M_takeX_24 : decode mc_M_takeX 24 = .ok (.iload_n 1, 1) := by decide +kernel
theorem md_M_takeX_25 : decode mc_M_takeX 25 = .ok (.invokestatic 33, 3) := by decide +kernel
theorem md_M_takeX_28 : decode mc_M_takeX 28 = .ok (.lcmp, 1) := by decide +kernel
theorem md_M_takeX_29 : decode mc_M_takeX 29 = .ok (.ifCond .ne 7, 3) := by decide +kernel
theorem md_M_takeX_32 : decode mc_M_takeX 32 = .ok (.iconst 1, 1) := by decide +kernel
theorem md_M_takeX_33 : decode mc_M_takeX 33 = .ok (.goto 4, 3) := by decide +kernel
theorem md_M_takeX_36 : decode mc_M_takeX 36 = .ok (.iconst 0, 1) := by decide +kernel
theorem md_M_takeX_37 : decode mc_M_takeX 37 = .ok (.putfield 57, 3) := by decide +kernel
theorem md_M_takeX_40 : decode mc_M_takeX 40 = .ok (.aload_n 0, 1) := by decide +kernel
theorem md_M_takeX_41 : decode mc_M_takeX 41 = .ok (.iload_n 1, 1) := by decide +kernel
theorem md_M_takeX_42 : decode mc_M_takeX 42 = .ok (.lload_n 2, 1) := by decide +kernel
theorem md_M_takeX_43 : decode mc_M_takeX 43 = .ok (.invokestatic 60, 3) := by decide +kernel
theorem md_M_takeX_46 : decode mc_M_takeX 46 = .ok (.putfield 63, 3) := by decide +kernel
theorem md_M_takeX_49 : decode mc_M_takeX 49 = .ok (.aload_n 0, 1) := by decide +kernel
theorem md_M_takeX_50 : decode mc_M_takeX 50 = .ok (.iload_n 1, 1) := by decide +kernel
theorem md_M_takeX_51 : decode mc_M_takeX 51 = .ok (.lload_n 2, 1) := by decide +kernel
theorem md_M_takeX_52 : decode mc_M_takeX 52 = .ok (.invokestatic 67, 3) := by decide +kernel
theorem md_M_takeX_55 : decode mc_M_takeX 55 = .ok (.putfield 71, 3) := by decide +kernel
theorem md_M_takeX_58 : decode mc_M_takeX 58 = .ok (.return_, 1) := by decide +kernel
abbrev mc_M_takeY : ByteArray := prog_4_method_16_code
def my_M_takeY : MethodName := ⟨"NumberProbeModel", "takeY", "(IJ)V"⟩
abbrev mw_M_takeY : List Cond := Cond.code my_M_takeY mc_M_takeY 4 none :: gw_tbl
theorem md_M_takeY_0 : decode mc_M_takeY 0 = .ok (.aload_n 0, 1) := by decide +kernel
theorem md_M_takeY_1 : decode mc_M_takeY 1 = .ok (.iload_n 1, 1) := by decide +kernel
theorem md_M_takeY_2 : decode mc_M_takeY 2 = .ok (.lload_n 2, 1) := by decide +kernel
theorem md_M_takeY_3 : decode mc_M_takeY 3 = .ok (.invokestatic 43, 3) := by decide +kernel
theorem md_M_takeY_6 : decode mc_M_takeY 6 = .ok (.putfield 75, 3) := by decide +kernel
theorem md_M_takeY_9 : decode mc_M_takeY 9 = .ok (.aload_n 0, 1) := by decide +kernel
theorem md_M_takeY_10 : decode mc_M_takeY 10 = .ok (.iload_n 1, 1) := by decide +kernel
theorem md_M_takeY_11 : decode mc_M_takeY 11 = .ok (.lload_n 2, 1) := by decide +kernel
theorem md_M_takeY_12 : decode mc_M_takeY 12 = .ok (.invokestatic 51, 3) := by decide +kernel
theorem md_M_takeY_15 : decode mc_M_takeY 15 = .ok (.putfield 78, 3) := by decide +kernel
theorem md_M_takeY_18 : decode mc_M_takeY 18 = .ok (.aload_n 0, 1) := by decide +kernel
theorem md_M_takeY_19 : decode mc_M_takeY 19 = .ok (.iload_n 1, 1) := by decide +kernel
theorem md_M_takeY_20 : decode mc_M_takeY 20 = .ok (.lload_n 2, 1) := by decide +kernel
theorem md_M_takeY_21 : decode mc_M_takeY 21 = .ok (.invokestatic 29, 3) := by decide +kernel
theorem md_M_takeY_24 : decode mc_M_takeY 24 = .ok (.iload_n 1, 1) := by decide +kernel
theorem md_M_takeY_25 : decode mc_M_takeY 25 = .ok (.invokestatic 33, 3) := by decide +kernel
theorem md_M_takeY_28 : decode mc_M_takeY 28 = .ok (.lcmp, 1) := by decide +kernel
theorem md_M_takeY_29 : decode mc_M_takeY 29 = .ok (.ifCond .ne 7, 3) := by decide +kernel
theorem md_M_takeY_32 : decode mc_M_takeY 32 = .ok (.iconst 1, 1) := by decide +kernel
theorem md_M_takeY_33 : decode mc_M_takeY 33 = .ok (.goto 4, 3) := by decide +kernel
theorem md_M_takeY_36 : decode mc_M_takeY 36 = .ok (.iconst 0, 1) := by decide +kernel
theorem md_M_takeY_37 : decode mc_M_takeY 37 = .ok (.putfield 81, 3) := by decide +kernel
theorem md_M_takeY_40 : decode mc_M_takeY 40 = .ok (.aload_n 0, 1) := by decide +kernel
theorem md_M_takeY_41 : decode mc_M_takeY 41 = .ok (.iload_n 1, 1) := by decide +kernel
theorem md_M_takeY_42 : decode mc_M_takeY 42 = .ok (.lload_n 2, 1) := by decide +kernel
theorem md_M_takeY_43 : decode mc_M_takeY 43 = .ok (.invokestatic 60, 3) := by decide +kernel
theorem md_M_takeY_46 : decode mc_M_takeY 46 = .ok (.putfield 84, 3) := by decide +kernel
theorem md_M_takeY_49 : decode mc_M_takeY 49 = .ok (.aload_n 0, 1) := by decide +kernel
theorem md_M_takeY_50 : decode mc_M_takeY 50 = .ok (.iload_n 1, 1) := by decide +kernel
theorem md_M_takeY_51 : decode mc_M_takeY 51 = .ok (.lload_n 2, 1) := by decide +kernel
theorem md_M_takeY_52 : decode mc_M_takeY 52 = .ok (.invokestatic 67, 3) := by decide +kernel
theorem md_M_takeY_55 : decode mc_M_takeY 55 = .ok (.putfield 87, 3) := by decide +kernel
theorem md_M_takeY_58 : decode mc_M_takeY 58 = .ok (.return_, 1) := by decide +kernel
abbrev mc_M_round : ByteArray := prog_4_method_17_code
def my_M_round : MethodName := ⟨"NumberProbeModel", "round", "(IZJI)J"⟩
abbrev mw_M_round : List Cond := Cond.code my_M_round mc_M_round 13 (some .long) :: gw_tbl
theorem md_M_round_0 : decode mc_M_round 0 = .ok (.lload_n 2, 1) := by decide +kernel
theorem md_M_round_1 : decode mc_M_round 1 = .ok (.lconst 0, 1) := by decide +kernel
theorem md_M_round_2 : decode mc_M_round 2 = .ok (.lcmp, 1) := by decide +kernel
theorem md_M_round_3 : decode mc_M_round 3 = .ok (.ifCond .ne 10, 3) := by decide +kernel
theorem md_M_round_6 : decode mc_M_round 6 = .ok (.iload_n 0, 1) := by decide +kernel
theorem md_M_round_7 : decode mc_M_round 7 = .ok (.iload_n 1, 1) := by decide +kernel
theorem md_M_round_8 : decode mc_M_round 8 = .ok (.lconst 0, 1) := by decide +kernel
theorem md_M_round_9 : decode mc_M_round 9 = .ok (.invokestatic 90, 3) := by decide +kernel
theorem md_M_round_12 : decode mc_M_round 12 = .ok (.lreturn, 1) := by decide +kernel
theorem md_M_round_13 : decode mc_M_round 13 = .ok (.lload_n 2, 1) := by decide +kernel
theorem md_M_round_14 : decode mc_M_round 14 = .ok (.invokestatic 94, 3) := by decide +kernel
theorem md_M_round_17 : decode mc_M_round 17 = .ok (.iload_n 0, 1) := by decide +kernel
theorem md_M_round_18 : decode mc_M_round 18 = .ok (.invokestatic 36, 3) := by decide +kernel
theorem md_M_round_21 : decode mc_M_round 21 = .ok (.isub, 1) := by decide +kernel
theorem md_M_round_22 : decode mc_M_round 22 = .ok (.iconst 1, 1) := by decide +kernel
theorem md_M_round_23 : decode mc_M_round 23 = .ok (.isub, 1) := by decide +kernel
theorem md_M_round_24 : decode mc_M_round 24 = .ok (.istore 5, 2) := by decide +kernel
theorem md_M_round_26 : decode mc_M_round 26 = .ok (.iload 5, 2) := by decide +kernel
theorem md_M_round_28 : decode mc_M_round 28 = .ok (.iload_n 0, 1) := by decide +kernel
theorem md_M_round_29 : decode mc_M_round 29 = .ok (.invokestatic 40, 3) := by decide +kernel
theorem md_M_round_32 : decode mc_M_round 32 = .ok (.iload 4, 2) := by decide +kernel
theorem md_M_round_34 : decode mc_M_round 34 = .ok (.isub, 1) := by decide +kernel
theorem md_M_round_35 : decode mc_M_round 35 = .ok (.if_icmp .ge 12, 3) := by decide +kernel
theorem md_M_round_38 : decode mc_M_round 38 = .ok (.iload_n 0, 1) := by decide +kernel
theorem md_M_round_39 : decode mc_M_round 39 = .ok (.invokestatic 40, 3) := by decide +kernel
theorem md_M_round_42 : decode mc_M_round 42 = .ok (.iload 4, 2) := by decide +kernel
theorem md_M_round_44 : decode mc_M_round 44 = .ok (.isub, 1) := by decide +kernel
theorem md_M_round_45 : decode mc_M_round 45 = .ok (.istore 5, 2) := by decide +kernel
theorem md_M_round_47 : decode mc_M_round 47 = .ok (.iload 5, 2) := by decide +kernel
theorem md_M_round_49 : decode mc_M_round 49 = .ok (.bipush 63, 2) := by decide +kernel
theorem md_M_round_51 : decode mc_M_round 51 = .ok (.if_icmp .le 10, 3) := by decide +kernel
theorem md_M_round_54 : decode mc_M_round 54 = .ok (.iload_n 0, 1) := by decide +kernel
theorem md_M_round_55 : decode mc_M_round 55 = .ok (.iload_n 1, 1) := by decide +kernel
theorem md_M_round_56 : decode mc_M_round 56 = .ok (.lconst 0, 1) := by decide +kernel
theorem md_M_round_57 : decode mc_M_round 57 = .ok (.invokestatic 90, 3) := by decide +kernel
theorem md_M_round_60 : decode mc_M_round 60 = .ok (.lreturn, 1) := by decide +kernel
theorem md_M_round_61 : decode mc_M_round 61 = .ok (.lload_n 2, 1) := by decide +kernel
theorem md_M_round_62 : decode mc_M_round 62 = .ok (.lstore 6, 2) := by decide +kernel
theorem md_M_round_64 : decode mc_M_round 64 = .ok (.iload 5, 2) := by decide +kernel
theorem md_M_round_66 : decode mc_M_round 66 = .ok (.ifCond .gt 13, 3) := by decide +kernel
theorem md_M_round_69 : decode mc_M_round 69 = .ok (.lload_n 2, 1) := by decide +kernel
theorem md_M_round_70 : decode mc_M_round 70 = .ok (.iload 5, 2) := by decide +kernel
theorem md_M_round_72 : decode mc_M_round 72 = .ok (.ineg, 1) := by decide +kernel
theorem md_M_round_73 : decode mc_M_round 73 = .ok (.lshl, 1) := by decide +kernel
theorem md_M_round_74 : decode mc_M_round 74 = .ok (.lstore 6, 2) := by decide +kernel
theorem md_M_round_76 : decode mc_M_round 76 = .ok (.goto 57, 3) := by decide +kernel
theorem md_M_round_79 : decode mc_M_round 79 = .ok (.lload_n 2, 1) := by decide +kernel
theorem md_M_round_80 : decode mc_M_round 80 = .ok (.iload 5, 2) := by decide +kernel
theorem md_M_round_82 : decode mc_M_round 82 = .ok (.lushr, 1) := by decide +kernel
theorem md_M_round_83 : decode mc_M_round 83 = .ok (.lstore 6, 2) := by decide +kernel
theorem md_M_round_85 : decode mc_M_round 85 = .ok (.lload_n 2, 1) := by decide +kernel
theorem md_M_round_86 : decode mc_M_round 86 = .ok (.lload 6, 2) := by decide +kernel
theorem md_M_round_88 : decode mc_M_round 88 = .ok (.iload 5, 2) := by decide +kernel
theorem md_M_round_90 : decode mc_M_round 90 = .ok (.lshl, 1) := by decide +kernel
theorem md_M_round_91 : decode mc_M_round 91 = .ok (.lsub, 1) := by decide +kernel
theorem md_M_round_92 : decode mc_M_round 92 = .ok (.lstore 8, 2) := by decide +kernel
theorem md_M_round_94 : decode mc_M_round 94 = .ok (.lconst 1, 1) := by decide +kernel
theorem md_M_round_95 : decode mc_M_round 95 = .ok (.iload 5, 2) := by decide +kernel
theorem md_M_round_97 : decode mc_M_round 97 = .ok (.iconst 1, 1) := by decide +kernel
theorem md_M_round_98 : decode mc_M_round 98 = .ok (.isub, 1) := by decide +kernel
theorem md_M_round_99 : decode mc_M_round 99 = .ok (.lshl, 1) := by decide +kernel
theorem md_M_round_100 : decode mc_M_round 100 = .ok (.lstore 10, 2) := by decide +kernel
theorem md_M_round_102 : decode mc_M_round 102 = .ok (.lload 8, 2) := by decide +kernel
theorem md_M_round_104 : decode mc_M_round 104 = .ok (.lload 10, 2) := by decide +kernel
theorem md_M_round_106 : decode mc_M_round 106 = .ok (.lcmp, 1) := by decide +kernel
theorem md_M_round_107 : decode mc_M_round 107 = .ok (.ifCond .gt 20, 3) := by decide +kernel
theorem md_M_round_110 : decode mc_M_round 110 = .ok (.lload 8, 2) := by decide +kernel
theorem md_M_round_112 : decode mc_M_round 112 = .ok (.lload 10, 2) := by decide +kernel
theorem md_M_round_114 : decode mc_M_round 114 = .ok (.lcmp, 1) := by decide +kernel
theorem md_M_round_115 : decode mc_M_round 115 = .ok (.ifCond .ne 18, 3) := by decide +kernel
theorem md_M_round_118 : decode mc_M_round 118 = .ok (.lload 6, 2) := by decide +kernel
theorem md_M_round_120 : decode mc_M_round 120 = .ok (.lconst 1, 1) := by decide +kernel
theorem md_M_round_121 : decode mc_M_round 121 = .ok (.land, 1) := by decide +kernel
theorem md_M_round_122 : decode mc_M_round 122 = .ok (.lconst 0, 1) := by decide +kernel
theorem md_M_round_123 : decode mc_M_round 123 = .ok (.lcmp, 1) := by decide +kernel
theorem md_M_round_124 : decode mc_M_round 124 = .ok (.ifCond .eq 9, 3) := by decide +kernel
theorem md_M_round_127 : decode mc_M_round 127 = .ok (.lload 6, 2) := by decide +kernel
theorem md_M_round_129 : decode mc_M_round 129 = .ok (.lconst 1, 1) := by decide +kernel
theorem md_M_round_130 : decode mc_M_round 130 = .ok (.ladd, 1) := by decide +kernel
theorem md_M_round_131 : decode mc_M_round 131 = .ok (.lstore 6, 2) := by decide +kernel
theorem md_M_round_133 : decode mc_M_round 133 = .ok (.iload 4, 2) := by decide +kernel
theorem md_M_round_135 : decode mc_M_round 135 = .ok (.iload 5, 2) := by decide +kernel
theorem md_M_round_137 : decode mc_M_round 137 = .ok (.iadd, 1) := by decide +kernel
theorem md_M_round_138 : decode mc_M_round 138 = .ok (.iload_n 0, 1) := by decide +kernel
theorem md_M_round_139 : decode mc_M_round 139 = .ok (.invokestatic 40, 3) := by decide +kernel
theorem md_M_round_142 : decode mc_M_round 142 = .ok (.isub, 1) := by decide +kernel
theorem md_M_round_143 : decode mc_M_round 143 = .ok (.istore 8, 2) := by decide +kernel
theorem md_M_round_145 : decode mc_M_round 145 = .ok (.iload 8, 2) := by decide +kernel
theorem md_M_round_147 : decode mc_M_round 147 = .ok (.sipush 3000, 3) := by decide +kernel
theorem md_M_round_150 : decode mc_M_round 150 = .ok (.if_icmp .le 13, 3) := by decide +kernel
theorem md_M_round_153 : decode mc_M_round 153 = .ok (.iload_n 0, 1) := by decide +kernel
theorem md_M_round_154 : decode mc_M_round 154 = .ok (.iload_n 1, 1) := by decide +kernel
theorem md_M_round_155 : decode mc_M_round 155 = .ok (.iload_n 0, 1) := by decide +kernel
theorem md_M_round_156 : decode mc_M_round 156 = .ok (.invokestatic 33, 3) := by decide +kernel
theorem md_M_round_159 : decode mc_M_round 159 = .ok (.invokestatic 90, 3) := by decide +kernel
theorem md_M_round_162 : decode mc_M_round 162 = .ok (.lreturn, 1) := by decide +kernel
theorem md_M_round_163 : decode mc_M_round 163 = .ok (.iload_n 0, 1) := by decide +kernel
theorem md_M_round_164 : decode mc_M_round 164 = .ok (.invokestatic 33, 3) := by decide +kernel
theorem md_M_round_167 : decode mc_M_round 167 = .ok (.iload_n 0, 1) := by decide +kernel
theorem md_M_round_168 : decode mc_M_round 168 = .ok (.invokestatic 36, 3) := by decide +kernel
theorem md_M_round_171 : decode mc_M_round 171 = .ok (.lushr, 1) := by decide +kernel
theorem md_M_round_172 : decode mc_M_round 172 = .ok (.lstore 9, 2) := by decide +kernel
theorem md_M_round_174 : decode mc_M_round 174 = .ok (.iload 8, 2) := by decide +kernel
theorem md_M_round_176 : decode mc_M_round 176 = .ok (.i2l, 1) := by decide +kernel
theorem md_M_round_177 : decode mc_M_round 177 = .ok (.lload 9, 2) := by decide +kernel
theorem md_M_round_179 : decode mc_M_round 179 = .ok (.lcmp, 1) := by decide +kernel
theorem md_M_round_180 : decode mc_M_round 180 = .ok (.ifCond .lt 13, 3) := by decide +kernel
theorem md_M_round_183 : decode mc_M_round 183 = .ok (.iload_n 0, 1) := by decide +kernel
theorem md_M_round_184 : decode mc_M_round 184 = .ok (.iload_n 1, 1) := by decide +kernel
theorem md_M_round_185 : decode mc_M_round 185 = .ok (.iload_n 0, 1) := by decide +kernel
theorem md_M_round_186 : decode mc_M_round 186 = .ok (.invokestatic 33, 3) := by decide +kernel
theorem md_M_round_189 : decode mc_M_round 189 = .ok (.invokestatic 90, 3) := by decide +kernel
theorem md_M_round_192 : decode mc_M_round 192 = .ok (.lreturn, 1) := by decide +kernel
theorem md_M_round_193 : decode mc_M_round 193 = .ok (.iload 8, 2) := by decide +kernel
theorem md_M_round_195 : decode mc_M_round 195 = .ok (.i2l, 1) := by decide +kernel
theorem md_M_round_196 : decode mc_M_round 196 = .ok (.iload_n 0, 1) := by decide +kernel
theorem md_M_round_197 : decode mc_M_round 197 = .ok (.invokestatic 36, 3) := by decide +kernel
theorem md_M_round_200 : decode mc_M_round 200 = .ok (.lshl, 1) := by decide +kernel
theorem md_M_round_201 : decode mc_M_round 201 = .ok (.lload 6, 2) := by decide +kernel
theorem md_M_round_203 : decode mc_M_round 203 = .ok (.ladd, 1) := by decide +kernel
theorem md_M_round_204 : decode mc_M_round 204 = .ok (.lstore 11, 2) := by decide +kernel
theorem md_M_round_206 : decode mc_M_round 206 = .ok (.iload_n 0, 1) := by decide +kernel
theorem md_M_round_207 : decode mc_M_round 207 = .ok (.iload_n 1, 1) := by decide +kernel
theorem md_M_round_208 : decode mc_M_round 208 = .ok (.lload 11, 2) := by decide +kernel
theorem md_M_round_210 : decode mc_M_round 210 = .ok (.iload_n 0, 1) := by decide +kernel
theorem md_M_round_211 : decode mc_M_round 211 = .ok (.invokestatic 33, 3) := by decide +kernel
theorem md_M_round_214 : decode mc_M_round 214 = .ok (.lcmp, 1) := by decide +kernel
theorem md_M_round_215 : decode mc_M_round 215 = .ok (.ifCond .le 10, 3) := by decide +kernel
theorem md_M_round_218 : decode mc_M_round 218 = .ok (.iload_n 0, 1) := by decide +kernel
theorem md_M_round_219 : decode mc_M_round 219 = .ok (.invokestatic 33, 3) := by decide +kernel
theorem md_M_round_222 : decode mc_M_round 222 = .ok (.goto 5, 3) := by decide +kernel
theorem md_M_round_225 : decode mc_M_round 225 = .ok (.lload 11, 2) := by decide +kernel
theorem md_M_round_227 : decode mc_M_round 227 = .ok (.invokestatic 90, 3) := by decide +kernel
theorem md_M_round_230 : decode mc_M_round 230 = .ok (.lreturn, 1) := by decide +kernel
abbrev mc_M_shiftedDown : ByteArray := prog_4_method_18_code
def my_M_shiftedDown : MethodName := ⟨"NumberProbeModel", "shiftedDown", "(JI)J"⟩
abbrev mw_M_shiftedDown : List Cond := Cond.code my_M_shiftedDown mc_M_shiftedDown 5 (some .long) :: gw_tbl
theorem md_M_shiftedDown_0 : decode mc_M_shiftedDown 0 = .ok (.iload_n 2, 1) := by decide +kernel
theorem md_M_shiftedDown_1 : decode mc_M_shiftedDown 1 = .ok (.bipush 62, 2) := by decide +kernel
theorem md_M_shiftedDown_3 : decode mc_M_shiftedDown 3 = .ok (.if_icmp .le 15, 3) := by decide +kernel
theorem md_M_shiftedDown_6 : decode mc_M_shiftedDown 6 = .ok (.lload_n 0, 1) := by decide +kernel
theorem md_M_shiftedDown_7 : decode mc_M_shiftedDown 7 = .ok (.lconst 0, 1) := by decide +kernel
theorem md_M_shiftedDown_8 : decode mc_M_shiftedDown 8 = .ok (.lcmp, 1) := by decide +kernel
theorem md_M_shiftedDown_9 : decode mc_M_shiftedDown 9 = .ok (.ifCond .ne 7, 3) := by decide +kernel
theorem md_M_shiftedDown_12 : decode mc_M_shiftedDown 12 = .ok (.lconst 0, 1) := by decide +kernel
theorem md_M_shiftedDown_13 : decode mc_M_shiftedDown 13 = .ok (.goto 4, 3) := by decide +kernel
theorem md_M_shiftedDown_16 : decode mc_M_shiftedDown 16 = .ok (.lconst 1, 1) := by decide +kernel
theorem md_M_shiftedDown_17 : decode mc_M_shiftedDown 17 = .ok (.lreturn, 1) := by decide +kernel
theorem md_M_shiftedDown_18 : decode mc_M_shiftedDown 18 = .ok (.lload_n 0, 1) := by decide +kernel
theorem md_M_shiftedDown_19 : decode mc_M_shiftedDown 19 = .ok (.iload_n 2, 1) := by decide +kernel
theorem md_M_shiftedDown_20 : decode mc_M_shiftedDown 20 = .ok (.lushr, 1) := by decide +kernel
theorem md_M_shiftedDown_21 : decode mc_M_shiftedDown 21 = .ok (.lstore_n 3, 1) := by decide +kernel
theorem md_M_shiftedDown_22 : decode mc_M_shiftedDown 22 = .ok (.lload_n 3, 1) := by decide +kernel
theorem md_M_shiftedDown_23 : decode mc_M_shiftedDown 23 = .ok (.iload_n 2, 1) := by decide +kernel
theorem md_M_shiftedDown_24 : decode mc_M_shiftedDown 24 = .ok (.lshl, 1) := by decide +kernel
theorem md_M_shiftedDown_25 : decode mc_M_shiftedDown 25 = .ok (.lload_n 0, 1) := by decide +kernel
theorem md_M_shiftedDown_26 : decode mc_M_shiftedDown 26 = .ok (.lcmp, 1) := by decide +kernel
theorem md_M_shiftedDown_27 : decode mc_M_shiftedDown 27 = .ok (.ifCond .ne 7, 3) := by decide +kernel
theorem md_M_shiftedDown_30 : decode mc_M_shiftedDown 30 = .ok (.lload_n 3, 1) := by decide +kernel
theorem md_M_shiftedDown_31 : decode mc_M_shiftedDown 31 = .ok (.goto 6, 3) := by decide +kernel
theorem md_M_shiftedDown_34 : decode mc_M_shiftedDown 34 = .ok (.lload_n 3, 1) := by decide +kernel
theorem md_M_shiftedDown_35 : decode mc_M_shiftedDown 35 = .ok (.lconst 1, 1) := by decide +kernel
theorem md_M_shiftedDown_36 : decode mc_M_shiftedDown 36 = .ok (.lor, 1) := by decide +kernel
theorem md_M_shiftedDown_37 : decode mc_M_shiftedDown 37 = .ok (.lreturn, 1) := by decide +kernel
abbrev mc_M_add : ByteArray := prog_4_method_19_code
def my_M_add : MethodName := ⟨"NumberProbeModel", "add", "(IJJ)J"⟩
abbrev mw_M_add : List Cond := Cond.code my_M_add mc_M_add 13 (some .long) :: gw_tbl
theorem md_M_add_0 : decode mc_M_add 0 = .ok (.aload_n 0, 1) := by decide +kernel
theorem md_M_add_1 : decode mc_M_add 1 = .ok (.iload_n 1, 1) := by decide +kernel
theorem md_M_add_2 : decode mc_M_add 2 = .ok (.lload_n 2, 1) := by decide +kernel
theorem md_M_add_3 : decode mc_M_add 3 = .ok (.invokevirtual 98, 3) := by decide +kernel
theorem md_M_add_6 : decode mc_M_add 6 = .ok (.aload_n 0, 1) := by decide +kernel
theorem md_M_add_7 : decode mc_M_add 7 = .ok (.iload_n 1, 1) := by decide +kernel
theorem md_M_add_8 : decode mc_M_add 8 = .ok (.lload 4, 2) := by decide +kernel
theorem md_M_add_10 : decode mc_M_add 10 = .ok (.invokevirtual 102, 3) := by decide +kernel
theorem md_M_add_13 : decode mc_M_add 13 = .ok (.aload_n 0, 1) := by decide +kernel
theorem md_M_add_14 : decode mc_M_add 14 = .ok (.getfield 54, 3) := by decide +kernel
theorem md_M_add_17 : decode mc_M_add 17 = .ok (.ifCond .ne 35, 3) := by decide +kernel
theorem md_M_add_20 : decode mc_M_add 20 = .ok (.aload_n 0, 1) := by decide +kernel
theorem md_M_add_21 : decode mc_M_add 21 = .ok (.getfield 78, 3) := by decide +kernel
theorem md_M_add_24 : decode mc_M_add 24 = .ok (.ifCond .ne 28, 3) := by decide +kernel
theorem md_M_add_27 : decode mc_M_add 27 = .ok (.aload_n 0, 1) := by decide +kernel
theorem md_M_add_28 : decode mc_M_add 28 = .ok (.getfield 57, 3) := by decide +kernel
theorem md_M_add_31 : decode mc_M_add 31 = .ok (.ifCond .eq 26, 3) := by decide +kernel
theorem md_M_add_34 : decode mc_M_add 34 = .ok (.aload_n 0, 1) := by decide +kernel
theorem md_M_add_35 : decode mc_M_add 35 = .ok (.getfield 81, 3) := by decide +kernel
theorem md_M_add_38 : decode mc_M_add 38 = .ok (.ifCond .eq 19, 3) := by decide +kernel
theorem md_M_add_41 : decode mc_M_add 41 = .ok (.aload_n 0, 1) := by decide +kernel
theorem md_M_add_42 : decode mc_M_add 42 = .ok (.getfield 47, 3) := by decide +kernel
theorem md_M_add_45 : decode mc_M_add 45 = .ok (.aload_n 0, 1) := by decide +kernel
theorem md_M_add_46 : decode mc_M_add 46 = .ok (.getfield 75, 3) := by decide +kernel
theorem md_M_add_49 : decode mc_M_add 49 = .ok (.if_icmp .eq 8, 3) := by decide +kernel
theorem md_M_add_52 : decode mc_M_add 52 = .ok (.iload_n 1, 1) := by decide +kernel
theorem md_M_add_53 : decode mc_M_add 53 = .ok (.invokestatic 105, 3) := by decide +kernel
theorem md_M_add_56 : decode mc_M_add 56 = .ok (.lreturn, 1) := by decide +kernel
theorem md_M_add_57 : decode mc_M_add 57 = .ok (.aload_n 0, 1) := by decide +kernel
theorem md_M_add_58 : decode mc_M_add 58 = .ok (.getfield 57, 3) := by decide +kernel
theorem md_M_add_61 : decode mc_M_add 61 = .ok (.ifCond .eq 5, 3) := by decide +kernel
theorem md_M_add_64 : decode mc_M_add 64 = .ok (.lload_n 2, 1) := by decide +kernel
theorem md_M_add_65 : decode mc_M_add 65 = .ok (.lreturn, 1) := by decide +kernel
theorem md_M_add_66 : decode mc_M_add 66 = .ok (.aload_n 0, 1) := by decide +kernel
theorem md_M_add_67 : decode mc_M_add 67 = .ok (.getfield 81, 3) := by decide +kernel
theorem md_M_add_70 : decode mc_M_add 70 = .ok (.ifCond .eq 6, 3) := by decide +kernel
theorem md_M_add_73 : decode mc_M_add 73 = .ok (.lload 4, 2) := by decide +kernel
theorem md_M_add_75 : decode mc_M_add 75 = .ok (.lreturn, 1) := by decide +kernel
theorem md_M_add_76 : decode mc_M_add 76 = .ok (.aload_n 0, 1) := by decide +kernel
theorem md_M_add_77 : decode mc_M_add 77 = .ok (.getfield 63, 3) := by decide +kernel
theorem md_M_add_80 : decode mc_M_add 80 = .ok (.lconst 0, 1) := by decide +kernel
theorem md_M_add_81 : decode mc_M_add 81 = .ok (.lcmp, 1) := by decide +kernel
theorem md_M_add_82 : decode mc_M_add 82 = .ok (.ifCond .ne 32, 3) := by decide +kernel
theorem md_M_add_85 : decode mc_M_add 85 = .ok (.aload_n 0, 1) := by decide +kernel
theorem md_M_add_86 : decode mc_M_add 86 = .ok (.getfield 84, 3) := by decide +kernel
theorem md_M_add_89 : decode mc_M_add 89 = .ok (.lconst 0, 1) := by decide +kernel
theorem md_M_add_90 : decode mc_M_add 90 = .ok (.lcmp, 1) := by decide +kernel
theorem md_M_add_91 : decode mc_M_add 91 = .ok (.ifCond .ne 23, 3) := by decide +kernel
theorem md_M_add_94 : decode mc_M_add 94 = .ok (.aload_n 0, 1) := by decide +kernel
theorem md_M_add_95 : decode mc_M_add 95 = .ok (.getfield 47, 3) := by decide +kernel
theorem md_M_add_98 : decode mc_M_add 98 = .ok (.ifCond .eq 14, 3) := by decide +kernel
theorem md_M_add_101 : decode mc_M_add 101 = .ok (.aload_n 0, 1) := by decide +kernel
theorem md_M_add_102 : decode mc_M_add 102 = .ok (.getfield 75, 3) := by decide +kernel
theorem md_M_add_105 : decode mc_M_add 105 = .ok (.ifCond .eq 7, 3) := by decide +kernel
theorem md_M_add_108 : decode mc_M_add 108 = .ok (.lload_n 2, 1) := by decide +kernel
theorem md_M_add_109 : decode mc_M_add 109 = .ok (.goto 4, 3) := by decide +kernel
theorem md_M_add_112 : decode mc_M_add 112 = .ok (.lconst 0, 1) := by decide +kernel
theorem md_M_add_113 : decode mc_M_add 113 = .ok (.lreturn, 1) := by decide +kernel
theorem md_M_add_114 : decode mc_M_add 114 = .ok (.aload_n 0, 1) := by decide +kernel
theorem md_M_add_115 : decode mc_M_add 115 = .ok (.getfield 71, 3) := by decide +kernel
theorem md_M_add_118 : decode mc_M_add 118 = .ok (.aload_n 0, 1) := by decide +kernel
theorem md_M_add_119 : decode mc_M_add 119 = .ok (.getfield 87, 3) := by decide +kernel
theorem md_M_add_122 : decode mc_M_add 122 = .ok (.if_icmp .le 10, 3) := by decide +kernel
theorem md_M_add_125 : decode mc_M_add 125 = .ok (.aload_n 0, 1) := by decide +kernel
theorem md_M_add_126 : decode mc_M_add 126 = .ok (.getfield 71, 3) := by decide +kernel
theorem md_M_add_129 : decode mc_M_add 129 = .ok (.goto 7, 3) := by decide +kernel
theorem md_M_add_132 : decode mc_M_add 132 = .ok (.aload_n 0, 1) := by decide +kernel
theorem md_M_add_133 : decode mc_M_add 133 = .ok (.getfield 87, 3) := by decide +kernel
theorem md_M_add_136 : decode mc_M_add 136 = .ok (.istore 6, 2) := by decide +kernel
theorem md_M_add_138 : decode mc_M_add 138 = .ok (.aload_n 0, 1) := by decide +kernel
theorem md_M_add_139 : decode mc_M_add 139 = .ok (.getfield 63, 3) := by decide +kernel
theorem md_M_add_142 : decode mc_M_add 142 = .ok (.bipush 8, 2) := by decide +kernel
theorem md_M_add_144 : decode mc_M_add 144 = .ok (.lshl, 1) := by decide +kernel
theorem md_M_add_145 : decode mc_M_add 145 = .ok (.iload 6, 2) := by decide +kernel
theorem md_M_add_147 : decode mc_M_add 147 = .ok (.aload_n 0, 1) := by decide +kernel
theorem md_M_add_148 : decode mc_M_add 148 = .ok (.getfield 71, 3) := by decide +kernel
theorem md_M_add_151 : decode mc_M_add 151 = .ok (.isub, 1) := by decide +kernel
theorem md_M_add_152 : decode mc_M_add 152 = .ok (.invokestatic 108, 3) := by decide +kernel
theorem md_M_add_155 : decode mc_M_add 155 = .ok (.lstore 7, 2) := by decide +kernel
theorem md_M_add_157 : decode mc_M_add 157 = .ok (.aload_n 0, 1) := by decide +kernel
theorem md_M_add_158 : decode mc_M_add 158 = .ok (.getfield 84, 3) := by decide +kernel
theorem md_M_add_161 : decode mc_M_add 161 = .ok (.bipush 8, 2) := by decide +kernel
theorem md_M_add_163 : decode mc_M_add 163 = .ok (.lshl, 1) := by decide +kernel
theorem md_M_add_164 : decode mc_M_add 164 = .ok (.iload 6, 2) := by decide +kernel
theorem md_M_add_166 : decode mc_M_add 166 = .ok (.aload_n 0, 1) := by decide +kernel
theorem md_M_add_167 : decode mc_M_add 167 = .ok (.getfield 87, 3) := by decide +kernel
theorem md_M_add_170 : decode mc_M_add 170 = .ok (.isub, 1) := by decide +kernel
theorem md_M_add_171 : decode mc_M_add 171 = .ok (.invokestatic 108, 3) := by decide +kernel
theorem md_M_add_174 : decode mc_M_add 174 = .ok (.lstore 9, 2) := by decide +kernel
theorem md_M_add_176 : decode mc_M_add 176 = .ok (.aload_n 0, 1) := by decide +kernel
theorem md_M_add_177 : decode mc_M_add 177 = .ok (.getfield 47, 3) := by decide +kernel
theorem md_M_add_180 : decode mc_M_add 180 = .ok (.ifCond .eq 9, 3) := by decide +kernel
theorem md_M_add_183 : decode mc_M_add 183 = .ok (.lload 7, 2) := by decide +kernel
theorem md_M_add_185 : decode mc_M_add 185 = .ok (.lneg, 1) := by decide +kernel
theorem md_M_add_186 : decode mc_M_add 186 = .ok (.goto 5, 3) := by decide +kernel
theorem md_M_add_189 : decode mc_M_add 189 = .ok (.lload 7, 2) := by decide +kernel
theorem md_M_add_191 : decode mc_M_add 191 = .ok (.aload_n 0, 1) := by decide +kernel
theorem md_M_add_192 : decode mc_M_add 192 = .ok (.getfield 75, 3) := by decide +kernel
theorem md_M_add_195 : decode mc_M_add 195 = .ok (.ifCond .eq 9, 3) := by decide +kernel
theorem md_M_add_198 : decode mc_M_add 198 = .ok (.lload 9, 2) := by decide +kernel
theorem md_M_add_200 : decode mc_M_add 200 = .ok (.lneg, 1) := by decide +kernel
theorem md_M_add_201 : decode mc_M_add 201 = .ok (.goto 5, 3) := by decide +kernel
theorem md_M_add_204 : decode mc_M_add 204 = .ok (.lload 9, 2) := by decide +kernel
theorem md_M_add_206 : decode mc_M_add 206 = .ok (.ladd, 1) := by decide +kernel
theorem md_M_add_207 : decode mc_M_add 207 = .ok (.lstore 11, 2) := by decide +kernel
theorem md_M_add_209 : decode mc_M_add 209 = .ok (.lload 11, 2) := by decide +kernel
theorem md_M_add_211 : decode mc_M_add 211 = .ok (.lconst 0, 1) := by decide +kernel
theorem md_M_add_212 : decode mc_M_add 212 = .ok (.lcmp, 1) := by decide +kernel
theorem md_M_add_213 : decode mc_M_add 213 = .ok (.ifCond .ne 5, 3) := by decide +kernel
theorem md_M_add_216 : decode mc_M_add 216 = .ok (.lconst 0, 1) := by decide +kernel
theorem md_M_add_217 : decode mc_M_add 217 = .ok (.lreturn, 1) := by decide +kernel
theorem md_M_add_218 : decode mc_M_add 218 = .ok (.iload_n 1, 1) := by decide +kernel
theorem md_M_add_219 : decode mc_M_add 219 = .ok (.lload 11, 2) := by decide +kernel
theorem md_M_add_221 : decode mc_M_add 221 = .ok (.lconst 0, 1) := by decide +kernel
theorem md_M_add_222 : decode mc_M_add 222 = .ok (.lcmp, 1) := by decide +kernel
theorem md_M_add_223 : decode mc_M_add 223 = .ok (.ifCond .ge 7, 3) := by decide +kernel
theorem md_M_add_226 : decode mc_M_add 226 = .ok (.iconst 1, 1) := by decide +kernel
theorem md_M_add_227 : decode mc_M_add 227 = .ok (.goto 4, 3) := by decide +kernel
theorem md_M_add_230 : decode mc_M_add 230 = .ok (.iconst 0, 1) := by decide +kernel
theorem md_M_add_231 : decode mc_M_add 231 = .ok (.lload 11, 2) := by decide +kernel
theorem md_M_add_233 : decode mc_M_add 233 = .ok (.lconst 0, 1) := by decide +kernel
theorem md_M_add_234 : decode mc_M_add 234 = .ok (.lcmp, 1) := by decide +kernel
theorem md_M_add_235 : decode mc_M_add 235 = .ok (.ifCond .ge 9, 3) := by decide +kernel
theorem md_M_add_238 : decode mc_M_add 238 = .ok (.lload 11, 2) := by decide +kernel
theorem md_M_add_240 : decode mc_M_add 240 = .ok (.lneg, 1) := by decide +kernel
theorem md_M_add_241 : decode mc_M_add 241 = .ok (.goto 5, 3) := by decide +kernel
theorem md_M_add_244 : decode mc_M_add 244 = .ok (.lload 11, 2) := by decide +kernel
theorem md_M_add_246 : decode mc_M_add 246 = .ok (.iload 6, 2) := by decide +kernel
theorem md_M_add_248 : decode mc_M_add 248 = .ok (.bipush 8, 2) := by decide +kernel
theorem md_M_add_250 : decode mc_M_add 250 = .ok (.isub, 1) := by decide +kernel
theorem md_M_add_251 : decode mc_M_add 251 = .ok (.invokestatic 112, 3) := by decide +kernel
theorem md_M_add_254 : decode mc_M_add 254 = .ok (.lreturn, 1) := by decide +kernel
abbrev mc_M_flipped : ByteArray := prog_4_method_20_code
def my_M_flipped : MethodName := ⟨"NumberProbeModel", "flipped", "(IJ)J"⟩
abbrev mw_M_flipped : List Cond := Cond.code my_M_flipped mc_M_flipped 4 (some .long) :: gw_tbl
theorem md_M_flipped_0 : decode mc_M_flipped 0 = .ok (.iload_n 1, 1) := by decide +kernel
theorem md_M_flipped_1 : decode mc_M_flipped 1 = .ok (.lload_n 2, 1) := by decide +kernel
theorem md_M_flipped_2 : decode mc_M_flipped 2 = .ok (.invokestatic 51, 3) := by decide +kernel
theorem md_M_flipped_5 : decode mc_M_flipped 5 = .ok (.ifCond .eq 7, 3) := by decide +kernel
theorem md_M_flipped_8 : decode mc_M_flipped 8 = .ok (.lload_n 2, 1) := by decide +kernel
theorem md_M_flipped_9 : decode mc_M_flipped 9 = .ok (.goto 9, 3) := by decide +kernel
theorem md_M_flipped_12 : decode mc_M_flipped 12 = .ok (.lload_n 2, 1) := by decide +kernel
theorem md_M_flipped_13 : decode mc_M_flipped 13 = .ok (.iload_n 1, 1) := by decide +kernel
theorem md_M_flipped_14 : decode mc_M_flipped 14 = .ok (.invokestatic 25, 3) := by decide +kernel
theorem md_M_flipped_17 : decode mc_M_flipped 17 = .ok (.lxor, 1) := by decide +kernel
theorem md_M_flipped_18 : decode mc_M_flipped 18 = .ok (.lreturn, 1) := by decide +kernel
abbrev mc_M_product : ByteArray := prog_4_method_21_code
def my_M_product : MethodName := ⟨"NumberProbeModel", "product", "(JJ)J"⟩
abbrev mw_M_product : List Cond := Cond.code my_M_product mc_M_product 19 (some .long) :: gw_tbl
theorem md_M_product_0 : decode mc_M_product 0 = .ok (.lload_n 1, 1) := by decide +kernel
theorem md_M_product_1 : decode mc_M_product 1 = .ok (.bipush 32, 2) := by decide +kernel
theorem md_M_product_3 : decode mc_M_product 3 = .ok (.lushr, 1) := by decide +kernel
theorem md_M_product_4 : decode mc_M_product 4 = .ok (.lstore 5, 2) := by decide +kernel
theorem md_M_product_6 : decode mc_M_product 6 = .ok (.lload_n 1, 1) := by decide +kernel
theorem md_M_product_7 : decode mc_M_product 7 = .ok (.ldc2_w 116, 3) := by decide +kernel
theorem md_M_product_10 : decode mc_M_product 10 = .ok (.land, 1) := by decide +kernel
theorem md_M_product_11 : decode mc_M_product 11 = .ok (.lstore 7, 2) := by decide +kernel
theorem md_M_product_13 : decode mc_M_product 13 = .ok (.lload_n 3, 1) := by decide +kernel
theorem md_M_product_14 : decode mc_M_product 14 = .ok (.bipush 32, 2) := by decide +kernel
theorem md_M_product_16 : decode mc_M_product 16 = .ok (.lushr, 1) := by decide +kernel
theorem md_M_product_17 : decode mc_M_product 17 = .ok (.lstore 9, 2) := by decide +kernel
theorem md_M_product_19 : decode mc_M_product 19 = .ok (.lload_n 3, 1) := by decide +kernel
theorem md_M_product_20 : decode mc_M_product 20 = .ok (.ldc2_w 116, 3) := by decide +kernel
theorem md_M_product_23 : decode mc_M_product 23 = .ok (.land, 1) := by decide +kernel
theorem md_M_product_24 : decode mc_M_product 24 = .ok (.lstore 11, 2) := by decide +kernel
theorem md_M_product_26 : decode mc_M_product 26 = .ok (.lload 7, 2) := by decide +kernel
theorem md_M_product_28 : decode mc_M_product 28 = .ok (.lload 11, 2) := by decide +kernel
theorem md_M_product_30 : decode mc_M_product 30 = .ok (.lmul, 1) := by decide +kernel
theorem md_M_product_31 : decode mc_M_product 31 = .ok (.lstore 13, 2) := by decide +kernel
theorem md_M_product_33 : decode mc_M_product 33 = .ok (.lload 5, 2) := by decide +kernel
theorem md_M_product_35 : decode mc_M_product 35 = .ok (.lload 11, 2) := by decide +kernel
theorem md_M_product_37 : decode mc_M_product 37 = .ok (.lmul, 1) := by decide +kernel
theorem md_M_product_38 : decode mc_M_product 38 = .ok (.lload 13, 2) := by decide +kernel
theorem md_M_product_40 : decode mc_M_product 40 = .ok (.bipush 32, 2) := by decide +kernel
theorem md_M_product_42 : decode mc_M_product 42 = .ok (.lushr, 1) := by decide +kernel
theorem md_M_product_43 : decode mc_M_product 43 = .ok (.ladd, 1) := by decide +kernel
theorem md_M_product_44 : decode mc_M_product 44 = .ok (.lstore 15, 2) := by decide +kernel
theorem md_M_product_46 : decode mc_M_product 46 = .ok (.lload 7, 2) := by decide +kernel
theorem md_M_product_48 : decode mc_M_product 48 = .ok (.lload 9, 2) := by decide +kernel
theorem md_M_product_50 : decode mc_M_product 50 = .ok (.lmul, 1) := by decide +kernel
theorem md_M_product_51 : decode mc_M_product 51 = .ok (.lload 15, 2) := by decide +kernel
theorem md_M_product_53 : decode mc_M_product 53 = .ok (.ldc2_w 116, 3) := by decide +kernel
theorem md_M_product_56 : decode mc_M_product 56 = .ok (.land, 1) := by decide +kernel
theorem md_M_product_57 : decode mc_M_product 57 = .ok (.ladd, 1) := by decide +kernel
theorem md_M_product_58 : decode mc_M_product 58 = .ok (.lstore 17, 2) := by decide +kernel
theorem md_M_product_60 : decode mc_M_product 60 = .ok (.aload_n 0, 1) := by decide +kernel
theorem md_M_product_61 : decode mc_M_product 61 = .ok (.lload 5, 2) := by decide +kernel
theorem md_M_product_63 : decode mc_M_product 63 = .ok (.lload 9, 2) := by decide +kernel
theorem md_M_product_65 : decode mc_M_product 65 = .ok (.lmul, 1) := by decide +kernel
theorem md_M_product_66 : decode mc_M_product 66 = .ok (.lload 15, 2) := by decide +kernel
theorem md_M_product_68 : decode mc_M_product 68 = .ok (.bipush 32, 2) := by decide +kernel
theorem md_M_product_70 : decode mc_M_product 70 = .ok (.lushr, 1) := by decide +kernel
theorem md_M_product_71 : decode mc_M_product 71 = .ok (.ladd, 1) := by decide +kernel
theorem md_M_product_72 : decode mc_M_product 72 = .ok (.lload 17, 2) := by decide +kernel
theorem md_M_product_74 : decode mc_M_product 74 = .ok (.bipush 32, 2) := by decide +kernel
theorem md_M_product_76 : decode mc_M_product 76 = .ok (.lushr, 1) := by decide +kernel
theorem md_M_product_77 : decode mc_M_product 77 = .ok (.ladd, 1) := by decide +kernel
theorem md_M_product_78 : decode mc_M_product 78 = .ok (.putfield 118, 3) := by decide +kernel
theorem md_M_product_81 : decode mc_M_product 81 = .ok (.lload 17, 2) := by decide +kernel
theorem md_M_product_83 : decode mc_M_product 83 = .ok (.bipush 32, 2) := by decide +kernel
theorem md_M_product_85 : decode mc_M_product 85 = .ok (.lshl, 1) := by decide +kernel
theorem md_M_product_86 : decode mc_M_product 86 = .ok (.lload 13, 2) := by decide +kernel
theorem md_M_product_88 : decode mc_M_product 88 = .ok (.ldc2_w 116, 3) := by decide +kernel
theorem md_M_product_91 : decode mc_M_product 91 = .ok (.land, 1) := by decide +kernel
theorem md_M_product_92 : decode mc_M_product 92 = .ok (.lor, 1) := by decide +kernel
theorem md_M_product_93 : decode mc_M_product 93 = .ok (.lreturn, 1) := by decide +kernel
abbrev mc_M_multiply : ByteArray := prog_4_method_22_code
def my_M_multiply : MethodName := ⟨"NumberProbeModel", "multiply", "(IJJ)J"⟩
abbrev mw_M_multiply : List Cond := Cond.code my_M_multiply mc_M_multiply 12 (some .long) :: gw_tbl
theorem md_M_multiply_0 : decode mc_M_multiply 0 = .ok (.aload_n 0, 1) := by decide +kernel
theorem md_M_multiply_1 : decode mc_M_multiply 1 = .ok (.iload_n 1, 1) := by decide +kernel
theorem md_M_multiply_2 : decode mc_M_multiply 2 = .ok (.lload_n 2, 1) := by decide +kernel
theorem md_M_multiply_3 : decode mc_M_multiply 3 = .ok (.invokevirtual 98, 3) := by decide +kernel
theorem md_M_multiply_6 : decode mc_M_multiply 6 = .ok (.aload_n 0, 1) := by decide +kernel
theorem md_M_multiply_7 : decode mc_M_multiply 7 = .ok (.iload_n 1, 1) := by decide +kernel
theorem md_M_multiply_8 : decode mc_M_multiply 8 = .ok (.lload 4, 2) := by decide +kernel
theorem md_M_multiply_10 : decode mc_M_multiply 10 = .ok (.invokevirtual 102, 3) := by decide +kernel
theorem md_M_multiply_13 : decode mc_M_multiply 13 = .ok (.aload_n 0, 1) := by decide +kernel
theorem md_M_multiply_14 : decode mc_M_multiply 14 = .ok (.getfield 47, 3) := by decide +kernel
theorem md_M_multiply_17 : decode mc_M_multiply 17 = .ok (.aload_n 0, 1) := by decide +kernel
theorem md_M_multiply_18 : decode mc_M_multiply 18 = .ok (.getfield 75, 3) := by decide +kernel
theorem md_M_multiply_21 : decode mc_M_multiply 21 = .ok (.if_icmp .eq 7, 3) := by decide +kernel
theorem md_M_multiply_24 : decode mc_M_multiply 24 = .ok (.iconst 1, 1) := by decide +kernel
theorem md_M_multiply_25 : decode mc_M_multiply 25 = .ok (.goto 4, 3) := by decide +kernel
theorem md_M_multiply_28 : decode mc_M_multiply 28 = .ok (.iconst 0, 1) := by decide +kernel
theorem md_M_multiply_29 : decode mc_M_multiply 29 = .ok (.istore 6, 2) := by decide +kernel
theorem md_M_multiply_31 : decode mc_M_multiply 31 = .ok (.aload_n 0, 1) := by decide +kernel
theorem md_M_multiply_32 : decode mc_M_multiply 32 = .ok (.getfield 54, 3) := by decide +kernel
theorem md_M_multiply_35 : decode mc_M_multiply 35 = .ok (.ifCond .ne 42, 3) := by decide +kernel
theorem md_M_multiply_38 : decode mc_M_multiply 38 = .ok (.aload_n 0, 1) := by decide +kernel
theorem md_M_multiply_39 : decode mc_M_multiply 39 = .ok (.getfield 78, 3) := by decide +kernel
theorem md_M_multiply_42 : decode mc_M_multiply 42 = .ok (.ifCond .ne 35, 3) := by decide +kernel
theorem md_M_multiply_45 : decode mc_M_multiply 45 = .ok (.aload_n 0, 1) := by decide +kernel
theorem md_M_multiply_46 : decode mc_M_multiply 46 = .ok (.getfield 57, 3) := by decide +kernel
theorem md_M_multiply_49 : decode mc_M_multiply 49 = .ok (.ifCond .eq 12, 3) := by decide +kernel
theorem md_M_multiply_52 : decode mc_M_multiply 52 = .ok (.aload_n 0, 1) := by decide +kernel
theorem md_M_multiply_53 : decode mc_M_multiply 53 = .ok (.getfield 84, 3) := by decide +kernel
theorem md_M_multiply_56 : decode mc_M_multiply 56 = .ok (.lconst 0, 1) := by decide +kernel
theorem md_M_multiply_57 : decode mc_M_multiply 57 = .ok (.lcmp, 1) := by decide +kernel
theorem md_M_multiply_58 : decode mc_M_multiply 58 = .ok (.ifCond .eq 19, 3) := by decide +kernel
theorem md_M_multiply_61 : decode mc_M_multiply 61 = .ok (.aload_n 0, 1) := by decide +kernel
theorem md_M_multiply_62 : decode mc_M_multiply 62 = .ok (.getfield 81, 3) := by decide +kernel
theorem md_M_multiply_65 : decode mc_M_multiply 65 = .ok (.ifCond .eq 17, 3) := by decide +kernel
theorem md_M_multiply_68 : decode mc_M_multiply 68 = .ok (.aload_n 0, 1) := by decide +kernel
theorem md_M_multiply_69 : decode mc_M_multiply 69 = .ok (.getfield 63, 3) := by decide +kernel
theorem md_M_multiply_72 : decode mc_M_multiply 72 = .ok (.lconst 0, 1) := by decide +kernel
theorem md_M_multiply_73 : decode mc_M_multiply 73 = .ok (.lcmp, 1) := by decide +kernel
theorem md_M_multiply_74 : decode mc_M_multiply 74 = .ok (.ifCond .ne 8, 3) := by decide +kernel
theorem md_M_multiply_77 : decode mc_M_multiply 77 = .ok (.iload_n 1, 1) := by decide +kernel
theorem md_M_multiply_78 : decode mc_M_multiply 78 = .ok (.invokestatic 105, 3) := by decide +kernel
theorem md_M_multiply_81 : decode mc_M_multiply 81 = .ok (.lreturn, 1) := by decide +kernel
theorem md_M_multiply_82 : decode mc_M_multiply 82 = .ok (.aload_n 0, 1) := by decide +kernel
theorem md_M_multiply_83 : decode mc_M_multiply 83 = .ok (.getfield 57, 3) := by decide +kernel
theorem md_M_multiply_86 : decode mc_M_multiply 86 = .ok (.ifCond .ne 10, 3) := by decide +kernel
theorem md_M_multiply_89 : decode mc_M_multiply 89 = .ok (.aload_n 0, 1) := by decide +kernel
theorem md_M_multiply_90 : decode mc_M_multiply 90 = .ok (.getfield 81, 3) := by decide +kernel
theorem md_M_multiply_93 : decode mc_M_multiply 93 = .ok (.ifCond .eq 14, 3) := by decide +kernel
theorem md_M_multiply_96 : decode mc_M_multiply 96 = .ok (.iload_n 1, 1) := by decide +kernel
theorem md_M_multiply_97 : decode mc_M_multiply 97 = .ok (.iload 6, 2) := by decide +kernel
theorem md_M_multiply_99 : decode mc_M_multiply 99 = .ok (.iload_n 1, 1) := by decide +kernel
theorem md_M_multiply_100 : decode mc_M_multiply 100 = .ok (.invokestatic 33, 3) := by decide +kernel
theorem md_M_multiply_103 : decode mc_M_multiply 103 = .ok (.invokestatic 90, 3) := by decide +kernel
theorem md_M_multiply_106 : decode mc_M_multiply 106 = .ok (.lreturn, 1) := by decide +kernel
theorem md_M_multiply_107 : decode mc_M_multiply 107 = .ok (.aload_n 0, 1) := by decide +kernel
theorem md_M_multiply_108 : decode mc_M_multiply 108 = .ok (.aload_n 0, 1) := by decide +kernel
theorem md_M_multiply_109 : decode mc_M_multiply 109 = .ok (.getfield 63, 3) := by decide +kernel
theorem md_M_multiply_112 : decode mc_M_multiply 112 = .ok (.aload_n 0, 1) := by decide +kernel
theorem md_M_multiply_113 : decode mc_M_multiply 113 = .ok (.getfield 84, 3) := by decide +kernel
theorem md_M_multiply_116 : decode mc_M_multiply 116 = .ok (.invokevirtual 121, 3) := by decide +kernel
theorem md_M_multiply_119 : decode mc_M_multiply 119 = .ok (.lstore 7, 2) := by decide +kernel
theorem md_M_multiply_121 : decode mc_M_multiply 121 = .ok (.aload_n 0, 1) := by decide +kernel
theorem md_M_multiply_122 : decode mc_M_multiply 122 = .ok (.getfield 118, 3) := by decide +kernel
theorem md_M_multiply_125 : decode mc_M_multiply 125 = .ok (.lconst 0, 1) := by decide +kernel
theorem md_M_multiply_126 : decode mc_M_multiply 126 = .ok (.lcmp, 1) := by decide +kernel
theorem md_M_multiply_127 : decode mc_M_multiply 127 = .ok (.ifCond .ne 31, 3) := by decide +kernel
theorem md_M_multiply_130 : decode mc_M_multiply 130 = .ok (.lload 7, 2) := by decide +kernel
theorem md_M_multiply_132 : decode mc_M_multiply 132 = .ok (.bipush 62, 2) := by decide +kernel
theorem md_M_multiply_134 : decode mc_M_multiply 134 = .ok (.lushr, 1) := by decide +kernel
theorem md_M_multiply_135 : decode mc_M_multiply 135 = .ok (.lconst 0, 1) := by decide +kernel
theorem md_M_multiply_136 : decode mc_M_multiply 136 = .ok (.lcmp, 1) := by decide +kernel
theorem md_M_multiply_137 : decode mc_M_multiply 137 = .ok (.ifCond .ne 21, 3) := by decide +kernel
theorem md_M_multiply_140 : decode mc_M_multiply 140 = .ok (.iload_n 1, 1) := by decide +kernel
theorem md_M_multiply_141 : decode mc_M_multiply 141 = .ok (.iload 6, 2) := by decide +kernel
theorem md_M_multiply_143 : decode mc_M_multiply 143 = .ok (.lload 7, 2) := by decide +kernel
theorem md_M_multiply_145 : decode mc_M_multiply 145 = .ok (.aload_n 0, 1) := by decide +kernel
theorem md_M_multiply_146 : decode mc_M_multiply 146 = .ok (.getfield 71, 3) := by decide +kernel
theorem md_M_multiply_149 : decode mc_M_multiply 149 = .ok (.aload_n 0, 1) := by decide +kernel
theorem md_M_multiply_150 : decode mc_M_multiply 150 = .ok (.getfield 87, 3) := by decide +kernel
theorem md_M_multiply_153 : decode mc_M_multiply 153 = .ok (.iadd, 1) := by decide +kernel
theorem md_M_multiply_154 : decode mc_M_multiply 154 = .ok (.invokestatic 112, 3) := by decide +kernel
theorem md_M_multiply_157 : decode mc_M_multiply 157 = .ok (.lreturn, 1) := by decide +kernel
theorem md_M_multiply_158 : decode mc_M_multiply 158 = .ok (.aload_n 0, 1) := by decide +kernel
theorem md_M_multiply_159 : decode mc_M_multiply 159 = .ok (.getfield 118, 3) := by decide +kernel
theorem md_M_multiply_162 : decode mc_M_multiply 162 = .ok (.invokestatic 94, 3) := by decide +kernel
theorem md_M_multiply_165 : decode mc_M_multiply 165 = .ok (.iconst 2, 1) := by decide +kernel
theorem md_M_multiply_166 : decode mc_M_multiply 166 = .ok (.iadd, 1) := by decide +kernel
theorem md_M_multiply_167 : decode mc_M_multiply 167 = .ok (.istore 9, 2) := by decide +kernel
theorem md_M_multiply_169 : decode mc_M_multiply 169 = .ok (.lload 7, 2) := by decide +kernel
theorem md_M_multiply_171 : decode mc_M_multiply 171 = .ok (.iconst 1, 1) := by decide +kernel
theorem md_M_multiply_172 : decode mc_M_multiply 172 = .ok (.lushr, 1) := by decide +kernel
theorem md_M_multiply_173 : decode mc_M_multiply 173 = .ok (.iload 9, 2) := by decide +kernel
theorem md_M_multiply_175 : decode mc_M_multiply 175 = .ok (.iconst 1, 1) := by decide +kernel
theorem md_M_multiply_176 : decode mc_M_multiply 176 = .ok (.isub, 1) := by decide +kernel
theorem md_M_multiply_177 : decode mc_M_multiply 177 = .ok (.invokestatic 108, 3) := by decide +kernel
theorem md_M_multiply_180 : decode mc_M_multiply 180 = .ok (.aload_n 0, 1) := by decide +kernel
theorem md_M_multiply_181 : decode mc_M_multiply 181 = .ok (.getfield 118, 3) := by decide +kernel
theorem md_M_multiply_184 : decode mc_M_multiply 184 = .ok (.bipush 64, 2) := by decide +kernel
theorem md_M_multiply_186 : decode mc_M_multiply 186 = .ok (.iload 9, 2) := by decide +kernel
theorem md_M_multiply_188 : decode mc_M_multiply 188 = .ok (.isub, 1) := by decide +kernel
theorem md_M_multiply_189 : decode mc_M_multiply 189 = .ok (.lshl, 1) := by decide +kernel
theorem md_M_multiply_190 : decode mc_M_multiply 190 = .ok (.lor, 1) := by decide +kernel
theorem md_M_multiply_191 : decode mc_M_multiply 191 = .ok (.lstore 10, 2) := by decide +kernel
theorem md_M_multiply_193 : decode mc_M_multiply 193 = .ok (.lload 7, 2) := by decide +kernel
theorem md_M_multiply_195 : decode mc_M_multiply 195 = .ok (.lconst 1, 1) := by decide +kernel
theorem md_M_multiply_196 : decode mc_M_multiply 196 = .ok (.land, 1) := by decide +kernel
theorem md_M_multiply_197 : decode mc_M_multiply 197 = .ok (.lconst 0, 1) := by decide +kernel
theorem md_M_multiply_198 : decode mc_M_multiply 198 = .ok (.lcmp, 1) := by decide +kernel
theorem md_M_multiply_199 : decode mc_M_multiply 199 = .ok (.ifCond .eq 9, 3) := by decide +kernel
theorem md_M_multiply_202 : decode mc_M_multiply 202 = .ok (.lload 10, 2) := by decide +kernel
theorem md_M_multiply_204 : decode mc_M_multiply 204 = .ok (.lconst 1, 1) := by decide +kernel
theorem md_M_multiply_205 : decode mc_M_multiply 205 = .ok (.lor, 1) := by decide +kernel
theorem md_M_multiply_206 : decode mc_M_multiply 206 = .ok (.lstore 10, 2) := by decide +kernel
theorem md_M_multiply_208 : decode mc_M_multiply 208 = .ok (.iload_n 1, 1) := by decide +kernel
theorem md_M_multiply_209 : decode mc_M_multiply 209 = .ok (.iload 6, 2) := by decide +kernel
theorem md_M_multiply_211 : decode mc_M_multiply 211 = .ok (.lload 10, 2) := by decide +kernel
theorem md_M_multiply_213 : decode mc_M_multiply 213 = .ok (.aload_n 0, 1) := by decide +kernel
theorem md_M_multiply_214 : decode mc_M_multiply 214 = .ok (.getfield 71, 3) := by decide +kernel
theorem md_M_multiply_217 : decode mc_M_multiply 217 = .ok (.aload_n 0, 1) := by decide +kernel
theorem md_M_multiply_218 : decode mc_M_multiply 218 = .ok (.getfield 87, 3) := by decide +kernel
theorem md_M_multiply_221 : decode mc_M_multiply 221 = .ok (.iadd, 1) := by decide +kernel
theorem md_M_multiply_222 : decode mc_M_multiply 222 = .ok (.iload 9, 2) := by decide +kernel
theorem md_M_multiply_224 : decode mc_M_multiply 224 = .ok (.iadd, 1) := by decide +kernel
theorem md_M_multiply_225 : decode mc_M_multiply 225 = .ok (.invokestatic 112, 3) := by decide +kernel
theorem md_M_multiply_228 : decode mc_M_multiply 228 = .ok (.lreturn, 1) := by decide +kernel
abbrev mc_M_divide : ByteArray := prog_4_method_23_code
def my_M_divide : MethodName := ⟨"NumberProbeModel", "divide", "(IJJ)J"⟩
abbrev mw_M_divide : List Cond := Cond.code my_M_divide mc_M_divide 17 (some .long) :: gw_tbl
theorem md_M_divide_0 : decode mc_M_divide 0 = .ok (.aload_n 0, 1) := by decide +kernel
theorem md_M_divide_1 : decode mc_M_divide 1 = .ok (.iload_n 1, 1) := by decide +kernel
theorem md_M_divide_2 : decode mc_M_divide 2 = .ok (.lload_n 2, 1) := by decide +kernel
theorem md_M_divide_3 : decode mc_M_divide 3 = .ok (.invokevirtual 98, 3) := by decide +kernel
theorem md_M_divide_6 : decode mc_M_divide 6 = .ok (.aload_n 0, 1) := by decide +kernel
theorem md_M_divide_7 : decode mc_M_divide 7 = .ok (.iload_n 1, 1) := by decide +kernel
theorem md_M_divide_8 : decode mc_M_divide 8 = .ok (.lload 4, 2) := by decide +kernel
theorem md_M_divide_10 : decode mc_M_divide 10 = .ok (.invokevirtual 102, 3) := by decide +kernel
theorem md_M_divide_13 : decode mc_M_divide 13 = .ok (.aload_n 0, 1) := by decide +kernel
theorem md_M_divide_14 : decode mc_M_divide 14 = .ok (.getfield 47, 3) := by decide +kernel
theorem md_M_divide_17 : decode mc_M_divide 17 = .ok (.aload_n 0, 1) := by decide +kernel
theorem md_M_divide_18 : decode mc_M_divide 18 = .ok (.getfield 75, 3) := by decide +kernel
theorem md_M_divide_21 : decode mc_M_divide 21 = .ok (.if_icmp .eq 7, 3) := by decide +kernel
theorem md_M_divide_24 : decode mc_M_divide 24 = .ok (.iconst 1, 1) := by decide +kernel
theorem md_M_divide_25 : decode mc_M_divide 25 = .ok (.goto 4, 3) := by decide +kernel
theorem md_M_divide_28 : decode mc_M_divide 28 = .ok (.iconst 0, 1) := by decide +kernel
theorem md_M_divide_29 : decode mc_M_divide 29 = .ok (.istore 6, 2) := by decide +kernel
theorem md_M_divide_31 : decode mc_M_divide 31 = .ok (.aload_n 0, 1) := by decide +kernel
theorem md_M_divide_32 : decode mc_M_divide 32 = .ok (.getfield 84, 3) := by decide +kernel
theorem md_M_divide_35 : decode mc_M_divide 35 = .ok (.lconst 0, 1) := by decide +kernel
theorem md_M_divide_36 : decode mc_M_divide 36 = .ok (.lcmp, 1) := by decide +kernel
theorem md_M_divide_37 : decode mc_M_divide 37 = .ok (.ifCond .ne 14, 3) := by decide +kernel
theorem md_M_divide_40 : decode mc_M_divide 40 = .ok (.aload_n 0, 1) := by decide +kernel
theorem md_M_divide_41 : decode mc_M_divide 41 = .ok (.getfield 81, 3) := by decide +kernel
theorem md_M_divide_44 : decode mc_M_divide 44 = .ok (.ifCond .ne 7, 3) := by decide +kernel
theorem md_M_divide_47 : decode mc_M_divide 47 = .ok (.iconst 1, 1) := by decide +kernel
theorem md_M_divide_48 : decode mc_M_divide 48 = .ok (.goto 4, 3) := by decide +kernel
theorem md_M_divide_51 : decode mc_M_divide 51 = .ok (.iconst 0, 1) := by decide +kernel
theorem md_M_divide_52 : decode mc_M_divide 52 = .ok (.istore 7, 2) := by decide +kernel
theorem md_M_divide_54 : decode mc_M_divide 54 = .ok (.aload_n 0, 1) := by decide +kernel
theorem md_M_divide_55 : decode mc_M_divide 55 = .ok (.getfield 54, 3) := by decide +kernel
theorem md_M_divide_58 : decode mc_M_divide 58 = .ok (.ifCond .ne 38, 3) := by decide +kernel
theorem md_M_divide_61 : decode mc_M_divide 61 = .ok (.aload_n 0, 1) := by decide +kernel
theorem md_M_divide_62 : decode mc_M_divide 62 = .ok (.getfield 78, 3) := by decide +kernel
theorem md_M_divide_65 : decode mc_M_divide 65 = .ok (.ifCond .ne 31, 3) := by decide +kernel
theorem md_M_divide_68 : decode mc_M_divide 68 = .ok (.aload_n 0, 1) := by decide +kernel
theorem md_M_divide_69 : decode mc_M_divide 69 = .ok (.getfield 57, 3) := by decide +kernel
theorem md_M_divide_72 : decode mc_M_divide 72 = .ok (.ifCond .eq 10, 3) := by decide +kernel
theorem md_M_divide_75 : decode mc_M_divide 75 = .ok (.aload_n 0, 1) := by decide +kernel
theorem md_M_divide_76 : decode mc_M_divide 76 = .ok (.getfield 81, 3) := by decide +kernel
theorem md_M_divide_79 : decode mc_M_divide 79 = .ok (.ifCond .ne 17, 3) := by decide +kernel
theorem md_M_divide_82 : decode mc_M_divide 82 = .ok (.iload 7, 2) := by decide +kernel
theorem md_M_divide_84 : decode mc_M_divide 84 = .ok (.ifCond .eq 17, 3) := by decide +kernel
theorem md_M_divide_87 : decode mc_M_divide 87 = .ok (.aload_n 0, 1) := by decide +kernel
theorem md_M_divide_88 : decode mc_M_divide 88 = .ok (.getfield 63, 3) := by decide +kernel
theorem md_M_divide_91 : decode mc_M_divide 91 = .ok (.lconst 0, 1) := by decide +kernel
theorem md_M_divide_92 : decode mc_M_divide 92 = .ok (.lcmp, 1) := by decide +kernel
theorem md_M_divide_93 : decode mc_M_divide 93 = .ok (.ifCond .ne 8, 3) := by decide +kernel
theorem md_M_divide_96 : decode mc_M_divide 96 = .ok (.iload_n 1, 1) := by decide +kernel
theorem md_M_divide_97 : decode mc_M_divide 97 = .ok (.invokestatic 105, 3) := by decide +kernel
theorem md_M_divide_100 : decode mc_M_divide 100 = .ok (.lreturn, 1) := by decide +kernel
theorem md_M_divide_101 : decode mc_M_divide 101 = .ok (.aload_n 0, 1) := by decide +kernel
theorem md_M_divide_102 : decode mc_M_divide 102 = .ok (.getfield 57, 3) := by decide +kernel
theorem md_M_divide_105 : decode mc_M_divide 105 = .ok (.ifCond .ne 8, 3) := by decide +kernel
theorem md_M_divide_108 : decode mc_M_divide 108 = .ok (.iload 7, 2) := by decide +kernel
theorem md_M_divide_110 : decode mc_M_divide 110 = .ok (.ifCond .eq 14, 3) := by decide +kernel
theorem md_M_divide_113 : decode mc_M_divide 113 = .ok (.iload_n 1, 1) := by decide +kernel
theorem md_M_divide_114 : decode mc_M_divide 114 = .ok (.iload 6, 2) := by decide +kernel
theorem md_M_divide_116 : decode mc_M_divide 116 = .ok (.iload_n 1, 1) := by decide +kernel
theorem md_M_divide_117 : decode mc_M_divide 117 = .ok (.invokestatic 33, 3) := by decide +kernel
theorem md_M_divide_120 : decode mc_M_divide 120 = .ok (.invokestatic 90, 3) := by decide +kernel
theorem md_M_divide_123 : decode mc_M_divide 123 = .ok (.lreturn, 1) := by decide +kernel
theorem md_M_divide_124 : decode mc_M_divide 124 = .ok (.aload_n 0, 1) := by decide +kernel
theorem md_M_divide_125 : decode mc_M_divide 125 = .ok (.getfield 81, 3) := by decide +kernel
theorem md_M_divide_128 : decode mc_M_divide 128 = .ok (.ifCond .ne 12, 3) := by decide +kernel
theorem md_M_divide_131 : decode mc_M_divide 131 = .ok (.aload_n 0, 1) := by decide +kernel
theorem md_M_divide_132 : decode mc_M_divide 132 = .ok (.getfield 63, 3) := by decide +kernel
theorem md_M_divide_135 : decode mc_M_divide 135 = .ok (.lconst 0, 1) := by decide +kernel
theorem md_M_divide_136 : decode mc_M_divide 136 = .ok (.lcmp, 1) := by decide +kernel
theorem md_M_divide_137 : decode mc_M_divide 137 = .ok (.ifCond .ne 11, 3) := by decide +kernel
theorem md_M_divide_140 : decode mc_M_divide 140 = .ok (.iload_n 1, 1) := by decide +kernel
theorem md_M_divide_141 : decode mc_M_divide 141 = .ok (.iload 6, 2) := by decide +kernel
theorem md_M_divide_143 : decode mc_M_divide 143 = .ok (.lconst 0, 1) := by decide +kernel
theorem md_M_divide_144 : decode mc_M_divide 144 = .ok (.invokestatic 90, 3) := by decide +kernel
theorem md_M_divide_147 : decode mc_M_divide 147 = .ok (.lreturn, 1) := by decide +kernel
theorem md_M_divide_148 : decode mc_M_divide 148 = .ok (.bipush 53, 2) := by decide +kernel
theorem md_M_divide_150 : decode mc_M_divide 150 = .ok (.aload_n 0, 1) := by decide +kernel
theorem md_M_divide_151 : decode mc_M_divide 151 = .ok (.getfield 63, 3) := by decide +kernel
theorem md_M_divide_154 : decode mc_M_divide 154 = .ok (.invokestatic 94, 3) := by decide +kernel
theorem md_M_divide_157 : decode mc_M_divide 157 = .ok (.isub, 1) := by decide +kernel
theorem md_M_divide_158 : decode mc_M_divide 158 = .ok (.istore 8, 2) := by decide +kernel
theorem md_M_divide_160 : decode mc_M_divide 160 = .ok (.bipush 53, 2) := by decide +kernel
theorem md_M_divide_162 : decode mc_M_divide 162 = .ok (.aload_n 0, 1) := by decide +kernel
theorem md_M_divide_163 : decode mc_M_divide 163 = .ok (.getfield 84, 3) := by decide +kernel
theorem md_M_divide_166 : decode mc_M_divide 166 = .ok (.invokestatic 94, 3) := by decide +kernel
theorem md_M_divide_169 : decode mc_M_divide 169 = .ok (.isub, 1) := by decide +kernel
theorem md_M_divide_170 : decode mc_M_divide 170 = .ok (.istore 9, 2) := by decide +kernel
theorem md_M_divide_172 : decode mc_M_divide 172 = .ok (.aload_n 0, 1) := by decide +kernel
theorem md_M_divide_173 : decode mc_M_divide 173 = .ok (.getfield 63, 3) := by decide +kernel
theorem md_M_divide_176 : decode mc_M_divide 176 = .ok (.iload 8, 2) := by decide +kernel
theorem md_M_divide_178 : decode mc_M_divide 178 = .ok (.lshl, 1) := by decide +kernel
theorem md_M_divide_179 : decode mc_M_divide 179 = .ok (.lstore 10, 2) := by decide +kernel
theorem md_M_divide_181 : decode mc_M_divide 181 = .ok (.aload_n 0, 1) := by decide +kernel
theorem md_M_divide_182 : decode mc_M_divide 182 = .ok (.getfield 84, 3) := by decide +kernel
theorem md_M_divide_185 : decode mc_M_divide 185 = .ok (.iload 9, 2) := by decide +kernel
theorem md_M_divide_187 : decode mc_M_divide 187 = .ok (.lshl, 1) := by decide +kernel
theorem md_M_divide_188 : decode mc_M_divide 188 = .ok (.lstore 12, 2) := by decide +kernel
theorem md_M_divide_190 : decode mc_M_divide 190 = .ok (.lconst 0, 1) := by decide +kernel
theorem md_M_divide_191 : decode mc_M_divide 191 = .ok (.lstore 14, 2) := by decide +kernel
theorem md_M_divide_193 : decode mc_M_divide 193 = .ok (.iconst 0, 1) := by decide +kernel
theorem md_M_divide_194 : decode mc_M_divide 194 = .ok (.istore 16, 2) := by decide +kernel
theorem md_M_divide_196 : decode mc_M_divide 196 = .ok (.iload 16, 2) := by decide +kernel
theorem md_M_divide_198 : decode mc_M_divide 198 = .ok (.bipush 58, 2) := by decide +kernel
theorem md_M_divide_200 : decode mc_M_divide 200 = .ok (.if_icmp .ge 42, 3) := by decide +kernel
theorem md_M_divide_203 : decode mc_M_divide 203 = .ok (.lload 14, 2) := by decide +kernel
theorem md_M_divide_205 : decode mc_M_divide 205 = .ok (.iconst 1, 1) := by decide +kernel
theorem md_M_divide_206 : decode mc_M_divide 206 = .ok (.lshl, 1) := by decide +kernel
theorem md_M_divide_207 : decode mc_M_divide 207 = .ok (.lstore 14, 2) := by decide +kernel
theorem md_M_divide_209 : decode mc_M_divide 209 = .ok (.lload 10, 2) := by decide +kernel
theorem md_M_divide_211 : decode mc_M_divide 211 = .ok (.lload 12, 2) := by decide +kernel
theorem md_M_divide_213 : decode mc_M_divide 213 = .ok (.lcmp, 1) := by decide +kernel
theorem md_M_divide_214 : decode mc_M_divide 214 = .ok (.ifCond .lt 16, 3) := by decide +kernel
theorem md_M_divide_217 : decode mc_M_divide 217 = .ok (.lload 10, 2) := by decide +kernel
theorem md_M_divide_219 : decode mc_M_divide 219 = .ok (.lload 12, 2) := by decide +kernel
theorem md_M_divide_221 : decode mc_M_divide 221 = .ok (.lsub, 1) := by decide +kernel
theorem md_M_divide_222 : decode mc_M_divide 222 = .ok (.lstore 10, 2) := by decide +kernel
theorem md_M_divide_224 : decode mc_M_divide 224 = .ok (.lload 14, 2) := by decide +kernel
theorem md_M_divide_226 : decode mc_M_divide 226 = .ok (.lconst 1, 1) := by decide +kernel
theorem md_M_divide_227 : decode mc_M_divide 227 = .ok (.ladd, 1) := by decide +kernel
theorem md_M_divide_228 : decode mc_M_divide 228 = .ok (.lstore 14, 2) := by decide +kernel
theorem md_M_divide_230 : decode mc_M_divide 230 = .ok (.lload 10, 2) := by decide +kernel
theorem md_M_divide_232 : decode mc_M_divide 232 = .ok (.iconst 1, 1) := by decide +kernel
theorem md_M_divide_233 : decode mc_M_divide 233 = .ok (.lshl, 1) := by decide +kernel
theorem md_M_divide_234 : decode mc_M_divide 234 = .ok (.lstore 10, 2) := by decide +kernel
theorem md_M_divide_236 : decode mc_M_divide 236 = .ok (.iinc 16 1, 3) := by decide +kernel
theorem md_M_divide_239 : decode mc_M_divide 239 = .ok (.goto (-43), 3) := by decide +kernel
theorem md_M_divide_242 : decode mc_M_divide 242 = .ok (.lload 10, 2) := by decide +kernel
theorem md_M_divide_244 : decode mc_M_divide 244 = .ok (.lconst 0, 1) := by decide +kernel
theorem md_M_divide_245 : decode mc_M_divide 245 = .ok (.lcmp, 1) := by decide +kernel
theorem md_M_divide_246 : decode mc_M_divide 246 = .ok (.ifCond .eq 9, 3) := by decide +kernel
theorem md_M_divide_249 : decode mc_M_divide 249 = .ok (.lload 14, 2) := by decide +kernel
theorem md_M_divide_251 : decode mc_M_divide 251 = .ok (.lconst 1, 1) := by decide +kernel
theorem md_M_divide_252 : decode mc_M_divide 252 = .ok (.lor, 1) := by decide +kernel
theorem md_M_divide_253 : decode mc_M_divide 253 = .ok (.lstore 14, 2) := by decide +kernel
theorem md_M_divide_255 : decode mc_M_divide 255 = .ok (.iload_n 1, 1) := by decide +kernel
theorem md_M_divide_256 : decode mc_M_divide 256 = .ok (.iload 6, 2) := by decide +kernel
theorem md_M_divide_258 : decode mc_M_divide 258 = .ok (.lload 14, 2) := by decide +kernel
theorem md_M_divide_260 : decode mc_M_divide 260 = .ok (.aload_n 0, 1) := by decide +kernel
theorem md_M_divide_261 : decode mc_M_divide 261 = .ok (.getfield 71, 3) := by decide +kernel
theorem md_M_divide_264 : decode mc_M_divide 264 = .ok (.iload 8, 2) := by decide +kernel
theorem md_M_divide_266 : decode mc_M_divide 266 = .ok (.isub, 1) := by decide +kernel
theorem md_M_divide_267 : decode mc_M_divide 267 = .ok (.aload_n 0, 1) := by decide +kernel
theorem md_M_divide_268 : decode mc_M_divide 268 = .ok (.getfield 87, 3) := by decide +kernel
theorem md_M_divide_271 : decode mc_M_divide 271 = .ok (.isub, 1) := by decide +kernel
theorem md_M_divide_272 : decode mc_M_divide 272 = .ok (.iload 9, 2) := by decide +kernel
theorem md_M_divide_274 : decode mc_M_divide 274 = .ok (.iadd, 1) := by decide +kernel
theorem md_M_divide_275 : decode mc_M_divide 275 = .ok (.bipush 57, 2) := by decide +kernel
theorem md_M_divide_277 : decode mc_M_divide 277 = .ok (.isub, 1) := by decide +kernel
theorem md_M_divide_278 : decode mc_M_divide 278 = .ok (.invokestatic 112, 3) := by decide +kernel
theorem md_M_divide_281 : decode mc_M_divide 281 = .ok (.lreturn, 1) := by decide +kernel
abbrev mc_M_remainder : ByteArray := prog_4_method_24_code
def my_M_remainder : MethodName := ⟨"NumberProbeModel", "remainder", "(IJJ)J"⟩
abbrev mw_M_remainder : List Cond := Cond.code my_M_remainder mc_M_remainder 10 (some .long) :: gw_tbl
theorem md_M_remainder_0 : decode mc_M_remainder 0 = .ok (.aload_n 0, 1) := by decide +kernel
theorem md_M_remainder_1 : decode mc_M_remainder 1 = .ok (.iload_n 1, 1) := by decide +kernel
theorem md_M_remainder_2 : decode mc_M_remainder 2 = .ok (.lload_n 2, 1) := by decide +kernel
theorem md_M_remainder_3 : decode mc_M_remainder 3 = .ok (.invokevirtual 98, 3) := by decide +kernel
theorem md_M_remainder_6 : decode mc_M_remainder 6 = .ok (.aload_n 0, 1) := by decide +kernel
theorem md_M_remainder_7 : decode mc_M_remainder 7 = .ok (.iload_n 1, 1) := by decide +kernel
theorem md_M_remainder_8 : decode mc_M_remainder 8 = .ok (.lload 4, 2) := by decide +kernel
theorem md_M_remainder_10 : decode mc_M_remainder 10 = .ok (.invokevirtual 102, 3) := by decide +kernel
theorem md_M_remainder_13 : decode mc_M_remainder 13 = .ok (.aload_n 0, 1) := by decide +kernel
theorem md_M_remainder_14 : decode mc_M_remainder 14 = .ok (.getfield 54, 3) := by decide +kernel
theorem md_M_remainder_17 : decode mc_M_remainder 17 = .ok (.ifCond .ne 26, 3) := by decide +kernel
theorem md_M_remainder_20 : decode mc_M_remainder 20 = .ok (.aload_n 0, 1) := by decide +kernel
theorem md_M_remainder_21 : decode mc_M_remainder 21 = .ok (.getfield 78, 3) := by decide +kernel
theorem md_M_remainder_24 : decode mc_M_remainder 24 = .ok (.ifCond .ne 19, 3) := by decide +kernel
theorem md_M_remainder_27 : decode mc_M_remainder 27 = .ok (.aload_n 0, 1) := by decide +kernel
theorem md_M_remainder_28 : decode mc_M_remainder 28 = .ok (.getfield 57, 3) := by decide +kernel
theorem md_M_remainder_31 : decode mc_M_remainder 31 = .ok (.ifCond .ne 12, 3) := by decide +kernel
theorem md_M_remainder_34 : decode mc_M_remainder 34 = .ok (.aload_n 0, 1) := by decide +kernel
theorem md_M_remainder_35 : decode mc_M_remainder 35 = .ok (.getfield 84, 3) := by decide +kernel
theorem md_M_remainder_38 : decode mc_M_remainder 38 = .ok (.lconst 0, 1) := by decide +kernel
theorem md_M_remainder_39 : decode mc_M_remainder 39 = .ok (.lcmp, 1) := by decide +kernel
theorem md_M_remainder_40 : decode mc_M_remainder 40 = .ok (.ifCond .ne 8, 3) := by decide +kernel
theorem md_M_remainder_43 : decode mc_M_remainder 43 = .ok (.iload_n 1, 1) := by decide +kernel
theorem md_M_remainder_44 : decode mc_M_remainder 44 = .ok (.invokestatic 105, 3) := by decide +kernel
theorem md_M_remainder_47 : decode mc_M_remainder 47 = .ok (.lreturn, 1) := by decide +kernel
theorem md_M_remainder_48 : decode mc_M_remainder 48 = .ok (.aload_n 0, 1) := by decide +kernel
theorem md_M_remainder_49 : decode mc_M_remainder 49 = .ok (.getfield 81, 3) := by decide +kernel
theorem md_M_remainder_52 : decode mc_M_remainder 52 = .ok (.ifCond .ne 12, 3) := by decide +kernel
theorem md_M_remainder_55 : decode mc_M_remainder 55 = .ok (.aload_n 0, 1) := by decide +kernel
theorem md_M_remainder_56 : decode mc_M_remainder 56 = .ok (.getfield 63, 3) := by decide +kernel
theorem md_M_remainder_59 : decode mc_M_remainder 59 = .ok (.lconst 0, 1) := by decide +kernel
theorem md_M_remainder_60 : decode mc_M_remainder 60 = .ok (.lcmp, 1) := by decide +kernel
theorem md_M_remainder_61 : decode mc_M_remainder 61 = .ok (.ifCond .ne 5, 3) := by decide +kernel
theorem md_M_remainder_64 : decode mc_M_remainder 64 = .ok (.lload_n 2, 1) := by decide +kernel
theorem md_M_remainder_65 : decode mc_M_remainder 65 = .ok (.lreturn, 1) := by decide +kernel
theorem md_M_remainder_66 : decode mc_M_remainder 66 = .ok (.aload_n 0, 1) := by decide +kernel
theorem md_M_remainder_67 : decode mc_M_remainder 67 = .ok (.getfield 87, 3) := by decide +kernel
theorem md_M_remainder_70 : decode mc_M_remainder 70 = .ok (.aload_n 0, 1) := by decide +kernel
theorem md_M_remainder_71 : decode mc_M_remainder 71 = .ok (.getfield 71, 3) := by decide +kernel
theorem md_M_remainder_74 : decode mc_M_remainder 74 = .ok (.isub, 1) := by decide +kernel
theorem md_M_remainder_75 : decode mc_M_remainder 75 = .ok (.istore 6, 2) := by decide +kernel
theorem md_M_remainder_77 : decode mc_M_remainder 77 = .ok (.iload 6, 2) := by decide +kernel
theorem md_M_remainder_79 : decode mc_M_remainder 79 = .ok (.bipush 10, 2) := by decide +kernel
theorem md_M_remainder_81 : decode mc_M_remainder 81 = .ok (.if_icmp .le 5, 3) := by decide +kernel
theorem md_M_remainder_84 : decode mc_M_remainder 84 = .ok (.lload_n 2, 1) := by decide +kernel
theorem md_M_remainder_85 : decode mc_M_remainder 85 = .ok (.lreturn, 1) := by decide +kernel
theorem md_M_remainder_86 : decode mc_M_remainder 86 = .ok (.iload 6, 2) := by decide +kernel
theorem md_M_remainder_88 : decode mc_M_remainder 88 = .ok (.ifCond .lt 28, 3) := by decide +kernel
theorem md_M_remainder_91 : decode mc_M_remainder 91 = .ok (.iload_n 1, 1) := by decide +kernel
theorem md_M_remainder_92 : decode mc_M_remainder 92 = .ok (.aload_n 0, 1) := by decide +kernel
theorem md_M_remainder_93 : decode mc_M_remainder 93 = .ok (.getfield 47, 3) := by decide +kernel
theorem md_M_remainder_96 : decode mc_M_remainder 96 = .ok (.aload_n 0, 1) := by decide +kernel
theorem md_M_remainder_97 : decode mc_M_remainder 97 = .ok (.getfield 63, 3) := by decide +kernel
theorem md_M_remainder_100 : decode mc_M_remainder 100 = .ok (.aload_n 0, 1) := by decide +kernel
theorem md_M_remainder_101 : decode mc_M_remainder 101 = .ok (.getfield 84, 3) := by decide +kernel
theorem md_M_remainder_104 : decode mc_M_remainder 104 = .ok (.iload 6, 2) := by decide +kernel
theorem md_M_remainder_106 : decode mc_M_remainder 106 = .ok (.lshl, 1) := by decide +kernel
theorem md_M_remainder_107 : decode mc_M_remainder 107 = .ok (.lrem, 1) := by decide +kernel
theorem md_M_remainder_108 : decode mc_M_remainder 108 = .ok (.aload_n 0, 1) := by decide +kernel
theorem md_M_remainder_109 : decode mc_M_remainder 109 = .ok (.getfield 71, 3) := by decide +kernel
theorem md_M_remainder_112 : decode mc_M_remainder 112 = .ok (.invokestatic 112, 3) := by decide +kernel
theorem md_M_remainder_115 : decode mc_M_remainder 115 = .ok (.lreturn, 1) := by decide +kernel
theorem md_M_remainder_116 : decode mc_M_remainder 116 = .ok (.aload_n 0, 1) := by decide +kernel
theorem md_M_remainder_117 : decode mc_M_remainder 117 = .ok (.getfield 63, 3) := by decide +kernel
theorem md_M_remainder_120 : decode mc_M_remainder 120 = .ok (.aload_n 0, 1) := by decide +kernel
theorem md_M_remainder_121 : decode mc_M_remainder 121 = .ok (.getfield 84, 3) := by decide +kernel
theorem md_M_remainder_124 : decode mc_M_remainder 124 = .ok (.lrem, 1) := by decide +kernel
theorem md_M_remainder_125 : decode mc_M_remainder 125 = .ok (.lstore 7, 2) := by decide +kernel
theorem md_M_remainder_127 : decode mc_M_remainder 127 = .ok (.iconst 0, 1) := by decide +kernel
theorem md_M_remainder_128 : decode mc_M_remainder 128 = .ok (.istore 9, 2) := by decide +kernel
theorem md_M_remainder_130 : decode mc_M_remainder 130 = .ok (.iload 9, 2) := by decide +kernel
theorem md_M_remainder_132 : decode mc_M_remainder 132 = .ok (.iload 6, 2) := by decide +kernel
theorem md_M_remainder_134 : decode mc_M_remainder 134 = .ok (.ineg, 1) := by decide +kernel
theorem md_M_remainder_135 : decode mc_M_remainder 135 = .ok (.if_icmp .ge 20, 3) := by decide +kernel
theorem md_M_remainder_138 : decode mc_M_remainder 138 = .ok (.lload 7, 2) := by decide +kernel
theorem md_M_remainder_140 : decode mc_M_remainder 140 = .ok (.iconst 1, 1) := by decide +kernel
theorem md_M_remainder_141 : decode mc_M_remainder 141 = .ok (.lshl, 1) := by decide +kernel
theorem md_M_remainder_142 : decode mc_M_remainder 142 = .ok (.aload_n 0, 1) := by decide +kernel
theorem md_M_remainder_143 : decode mc_M_remainder 143 = .ok (.getfield 84, 3) := by decide +kernel
theorem md_M_remainder_146 : decode mc_M_remainder 146 = .ok (.lrem, 1) := by decide +kernel
theorem md_M_remainder_147 : decode mc_M_remainder 147 = .ok (.lstore 7, 2) := by decide +kernel
theorem md_M_remainder_149 : decode mc_M_remainder 149 = .ok (.iinc 9 1, 3) := by decide +kernel
theorem md_M_remainder_152 : decode mc_M_remainder 152 = .ok (.goto (-22), 3) := by decide +kernel
theorem md_M_remainder_155 : decode mc_M_remainder 155 = .ok (.iload_n 1, 1) := by decide +kernel
theorem md_M_remainder_156 : decode mc_M_remainder 156 = .ok (.aload_n 0, 1) := by decide +kernel
theorem md_M_remainder_157 : decode mc_M_remainder 157 = .ok (.getfield 47, 3) := by decide +kernel
theorem md_M_remainder_160 : decode mc_M_remainder 160 = .ok (.lload 7, 2) := by decide +kernel
theorem md_M_remainder_162 : decode mc_M_remainder 162 = .ok (.aload_n 0, 1) := by decide +kernel
theorem md_M_remainder_163 : decode mc_M_remainder 163 = .ok (.getfield 87, 3) := by decide +kernel
theorem md_M_remainder_166 : decode mc_M_remainder 166 = .ok (.invokestatic 112, 3) := by decide +kernel
theorem md_M_remainder_169 : decode mc_M_remainder 169 = .ok (.lreturn, 1) := by decide +kernel
abbrev mc_M_place : ByteArray := prog_4_method_25_code
def my_M_place : MethodName := ⟨"NumberProbeModel", "place", "(IJ)J"⟩
abbrev mw_M_place : List Cond := Cond.code my_M_place mc_M_place 3 (some .long) :: gw_tbl
theorem md_M_place_0 : decode mc_M_place 0 = .ok (.iload_n 0, 1) := by decide +kernel
theorem md_M_place_1 : decode mc_M_place 1 = .ok (.lload_n 1, 1) := by decide +kernel
theorem md_M_place_2 : decode mc_M_place 2 = .ok (.invokestatic 51, 3) := by decide +kernel
theorem md_M_place_5 : decode mc_M_place 5 = .ok (.ifCond .eq 8, 3) := by decide +kernel
theorem md_M_place_8 : decode mc_M_place 8 = .ok (.iconst 1, 1) := by decide +kernel
theorem md_M_place_9 : decode mc_M_place 9 = .ok (.invokestatic 105, 3) := by decide +kernel
theorem md_M_place_12 : decode mc_M_place 12 = .ok (.lreturn, 1) := by decide +kernel
theorem md_M_place_13 : decode mc_M_place 13 = .ok (.iload_n 0, 1) := by decide +kernel
theorem md_M_place_14 : decode mc_M_place 14 = .ok (.lload_n 1, 1) := by decide +kernel
theorem md_M_place_15 : decode mc_M_place 15 = .ok (.invokestatic 43, 3) := by decide +kernel
theorem md_M_place_18 : decode mc_M_place 18 = .ok (.ifCond .eq 15, 3) := by decide +kernel
theorem md_M_place_21 : decode mc_M_place 21 = .ok (.ldc2_w 125, 3) := by decide +kernel
theorem md_M_place_24 : decode mc_M_place 24 = .ok (.iload_n 0, 1) := by decide +kernel
theorem md_M_place_25 : decode mc_M_place 25 = .ok (.lload_n 1, 1) := by decide +kernel
theorem md_M_place_26 : decode mc_M_place 26 = .ok (.invokestatic 29, 3) := by decide +kernel
theorem md_M_place_29 : decode mc_M_place 29 = .ok (.lsub, 1) := by decide +kernel
theorem md_M_place_30 : decode mc_M_place 30 = .ok (.goto 8, 3) := by decide +kernel
theorem md_M_place_33 : decode mc_M_place 33 = .ok (.iload_n 0, 1) := by decide +kernel
theorem md_M_place_34 : decode mc_M_place 34 = .ok (.lload_n 1, 1) := by decide +kernel
theorem md_M_place_35 : decode mc_M_place 35 = .ok (.invokestatic 29, 3) := by decide +kernel
theorem md_M_place_38 : decode mc_M_place 38 = .ok (.lreturn, 1) := by decide +kernel
abbrev mc_M_operateReal : ByteArray := prog_4_method_26_code
def my_M_operateReal : MethodName := ⟨"NumberProbeModel", "operateReal", "(IIJJ)J"⟩
abbrev mw_M_operateReal : List Cond := Cond.code my_M_operateReal mc_M_operateReal 8 (some .long) :: gw_tbl
theorem md_M_operateReal_0 : decode mc_M_operateReal 0 = .ok (.iload_n 1, 1) := by decide +kernel
theorem md_M_operateReal_1 : decode mc_M_operateReal 1 = .ok (.lload_n 3, 1) := by decide +kernel
theorem md_M_operateReal_2 : decode mc_M_operateReal 2 = .ok (.invokestatic 51, 3) := by decide +kernel
theorem md_M_operateReal_5 : decode mc_M_operateReal 5 = .ok (.ifCond .ne 12, 3) := by decide +kernel
theorem md_M_operateReal_8 : decode mc_M_operateReal 8 = .ok (.iload_n 1, 1) := by decide +kernel
theorem md_M_operateReal_9 : decode mc_M_operateReal 9 = .ok (.lload 5, 2) := by decide +kernel
theorem md_M_operateReal_11 : decode mc_M_operateReal 11 = .ok (.invokestatic 51, 3) := by decide +kernel
theorem md_M_operateReal_14 : decode mc_M_operateReal 14 = .ok (.ifCond .eq 7, 3) := by decide +kernel
theorem md_M_operateReal_17 : decode mc_M_operateReal 17 = .ok (.iconst 1, 1) := by decide +kernel
theorem md_M_operateReal_18 : decode mc_M_operateReal 18 = .ok (.goto 4, 3) := by decide +kernel
theorem md_M_operateReal_21 : decode mc_M_operateReal 21 = .ok (.iconst 0, 1) := by decide +kernel
theorem md_M_operateReal_22 : decode mc_M_operateReal 22 = .ok (.istore 7, 2) := by decide +kernel
theorem md_M_operateReal_24 : decode mc_M_operateReal 24 = .ok (.iload_n 2, 1) := by decide +kernel
theorem md_M_operateReal_25 : decode mc_M_operateReal 25 = .ok (.tableswitch 172 0 7 #[47, 56, 70, 79, 88, 97, 131, 165], 47) := by decide +kernel
theorem md_M_operateReal_72 : decode mc_M_operateReal 72 = .ok (.aload_n 0, 1) := by decide +kernel
theorem md_M_operateReal_73 : decode mc_M_operateReal 73 = .ok (.iload_n 1, 1) := by decide +kernel
theorem md_M_operateReal_74 : decode mc_M_operateReal 74 = .ok (.lload_n 3, 1) := by decide +kernel
theorem md_M_operateReal_75 : decode mc_M_operateReal 75 = .ok (.lload 5, 2) := by decide +kernel
theorem md_M_operateReal_77 : decode mc_M_operateReal 77 = .ok (.invokevirtual 127, 3) := by decide +kernel
theorem md_M_operateReal_80 : decode mc_M_operateReal 80 = .ok (.lreturn, 1) := by decide +kernel
theorem md_M_operateReal_81 : decode mc_M_operateReal 81 = .ok (.aload_n 0, 1) := by decide +kernel
theorem md_M_operateReal_82 : decode mc_M_operateReal 82 = .ok (.iload_n 1, 1) := by decide +kernel
theorem md_M_operateReal_83 : decode mc_M_operateReal 83 = .ok (.lload_n 3, 1) := by decide +kernel
theorem md_M_operateReal_84 : decode mc_M_operateReal 84 = .ok (.aload_n 0, 1) := by decide +kernel
theorem md_M_operateReal_85 : decode mc_M_operateReal 85 = .ok (.iload_n 1, 1) := by decide +kernel
theorem md_M_operateReal_86 : decode mc_M_operateReal 86 = .ok (.lload 5, 2) := by decide +kernel
theorem md_M_operateReal_88 : decode mc_M_operateReal 88 = .ok (.invokevirtual 131, 3) := by decide +kernel
theorem md_M_operateReal_91 : decode mc_M_operateReal 91 = .ok (.invokevirtual 127, 3) := by decide +kernel
theorem md_M_operateReal_94 : decode mc_M_operateReal 94 = .ok (.lreturn, 1) := by decide +kernel
theorem md_M_operateReal_95 : decode mc_M_operateReal 95 = .ok (.aload_n 0, 1) := by decide +kernel
theorem md_M_operateReal_96 : decode mc_M_operateReal 96 = .ok (.iload_n 1, 1) := by decide +kernel
theorem md_M_operateReal_97 : decode mc_M_operateReal 97 = .ok (.lload_n 3, 1) := by decide +kernel
theorem md_M_operateReal_98 : decode mc_M_operateReal 98 = .ok (.lload 5, 2) := by decide +kernel
theorem md_M_operateReal_100 : decode mc_M_operateReal 100 = .ok (.invokevirtual 134, 3) := by decide +kernel
theorem md_M_operateReal_103 : decode mc_M_operateReal 103 = .ok (.lreturn, 1) := by decide +kernel
theorem md_M_operateReal_104 : decode mc_M_operateReal 104 = .ok (.aload_n 0, 1) := by decide +kernel
theorem md_M_operateReal_105 : decode mc_M_operateReal 105 = .ok (.iload_n 1, 1) := by decide +kernel
theorem md_M_operateReal_106 : decode mc_M_operateReal 106 = .ok (.lload_n 3, 1) := by decide +kernel
theorem md_M_operateReal_107 : decode mc_M_operateReal 107 = .ok (.lload 5, 2) := by decide +kernel
theorem md_M_operateReal_109 : decode mc_M_operateReal 109 = .ok (.invokevirtual 137, 3) := by decide +kernel
theorem md_M_operateReal_112 : decode mc_M_operateReal 112 = .ok (.lreturn, 1) := by decide +kernel
theorem md_M_operateReal_113 : decode mc_M_operateReal 113 = .ok (.aload_n 0, 1) := by decide +kernel
theorem md_M_operateReal_114 : decode mc_M_operateReal 114 = .ok (.iload_n 1, 1) := by decide +kernel
theorem md_M_operateReal_115 : decode mc_M_operateReal 115 = .ok (.lload_n 3, 1) := by decide +kernel
theorem md_M_operateReal_116 : decode mc_M_operateReal 116 = .ok (.lload 5, 2) := by decide +kernel
theorem md_M_operateReal_118 : decode mc_M_operateReal 118 = .ok (.invokevirtual 140, 3) := by decide +kernel
theorem md_M_operateReal_121 : decode mc_M_operateReal 121 = .ok (.lreturn, 1) := by decide +kernel
theorem md_M_operateReal_122 : decode mc_M_operateReal 122 = .ok (.iload 7, 2) := by decide +kernel
theorem md_M_operateReal_124 : decode mc_M_operateReal 124 = .ok (.ifCond .eq 10, 3) := by decide +kernel
theorem md_M_operateReal_127 : decode mc_M_operateReal 127 = .ok (.iload_n 1, 1) := by decide +kernel
theorem md_M_operateReal_128 : decode mc_M_operateReal 128 = .ok (.invokestatic 105, 3) := by decide +kernel
theorem md_M_operateReal_131 : decode mc_M_operateReal 131 = .ok (.goto 24, 3) := by decide +kernel
theorem md_M_operateReal_134 : decode mc_M_operateReal 134 = .ok (.iload_n 1, 1) := by decide +kernel
theorem md_M_operateReal_135 : decode mc_M_operateReal 135 = .ok (.lload_n 3, 1) := by decide +kernel
theorem md_M_operateReal_136 : decode mc_M_operateReal 136 = .ok (.invokestatic 143, 3) := by decide +kernel
theorem md_M_operateReal_139 : decode mc_M_operateReal 139 = .ok (.iload_n 1, 1) := by decide +kernel
theorem md_M_operateReal_140 : decode mc_M_operateReal 140 = .ok (.lload 5, 2) := by decide +kernel
theorem md_M_operateReal_142 : decode mc_M_operateReal 142 = .ok (.invokestatic 143, 3) := by decide +kernel
theorem md_M_operateReal_145 : decode mc_M_operateReal 145 = .ok (.lcmp, 1) := by decide +kernel
theorem md_M_operateReal_146 : decode mc_M_operateReal 146 = .ok (.ifCond .gt 7, 3) := by decide +kernel
theorem md_M_operateReal_149 : decode mc_M_operateReal 149 = .ok (.lload_n 3, 1) := by decide +kernel
theorem md_M_operateReal_150 : decode mc_M_operateReal 150 = .ok (.goto 5, 3) := by decide +kernel
theorem md_M_operateReal_153 : decode mc_M_operateReal 153 = .ok (.lload 5, 2) := by decide +kernel
theorem md_M_operateReal_155 : decode mc_M_operateReal 155 = .ok (.lreturn, 1) := by decide +kernel
theorem md_M_operateReal_156 : decode mc_M_operateReal 156 = .ok (.iload 7, 2) := by decide +kernel
theorem md_M_operateReal_158 : decode mc_M_operateReal 158 = .ok (.ifCond .eq 10, 3) := by decide +kernel
theorem md_M_operateReal_161 : decode mc_M_operateReal 161 = .ok (.iload_n 1, 1) := by decide +kernel
theorem md_M_operateReal_162 : decode mc_M_operateReal 162 = .ok (.invokestatic 105, 3) := by decide +kernel
theorem md_M_operateReal_165 : decode mc_M_operateReal 165 = .ok (.goto 24, 3) := by decide +kernel
theorem md_M_operateReal_168 : decode mc_M_operateReal 168 = .ok (.iload_n 1, 1) := by decide +kernel
theorem md_M_operateReal_169 : decode mc_M_operateReal 169 = .ok (.lload_n 3, 1) := by decide +kernel
theorem md_M_operateReal_170 : decode mc_M_operateReal 170 = .ok (.invokestatic 143, 3) := by decide +kernel
theorem md_M_operateReal_173 : decode mc_M_operateReal 173 = .ok (.iload_n 1, 1) := by decide +kernel
theorem md_M_operateReal_174 : decode mc_M_operateReal 174 = .ok (.lload 5, 2) := by decide +kernel
theorem md_M_operateReal_176 : decode mc_M_operateReal 176 = .ok (.invokestatic 143, 3) := by decide +kernel
theorem md_M_operateReal_179 : decode mc_M_operateReal 179 = .ok (.lcmp, 1) := by decide +kernel
theorem md_M_operateReal_180 : decode mc_M_operateReal 180 = .ok (.ifCond .lt 7, 3) := by decide +kernel
theorem md_M_operateReal_183 : decode mc_M_operateReal 183 = .ok (.lload_n 3, 1) := by decide +kernel
theorem md_M_operateReal_184 : decode mc_M_operateReal 184 = .ok (.goto 5, 3) := by decide +kernel
theorem md_M_operateReal_187 : decode mc_M_operateReal 187 = .ok (.lload 5, 2) := by decide +kernel
theorem md_M_operateReal_189 : decode mc_M_operateReal 189 = .ok (.lreturn, 1) := by decide +kernel
theorem md_M_operateReal_190 : decode mc_M_operateReal 190 = .ok (.aload_n 0, 1) := by decide +kernel
theorem md_M_operateReal_191 : decode mc_M_operateReal 191 = .ok (.iload_n 1, 1) := by decide +kernel
theorem md_M_operateReal_192 : decode mc_M_operateReal 192 = .ok (.lload_n 3, 1) := by decide +kernel
theorem md_M_operateReal_193 : decode mc_M_operateReal 193 = .ok (.invokevirtual 131, 3) := by decide +kernel
theorem md_M_operateReal_196 : decode mc_M_operateReal 196 = .ok (.lreturn, 1) := by decide +kernel
theorem md_M_operateReal_197 : decode mc_M_operateReal 197 = .ok (.iload_n 1, 1) := by decide +kernel
theorem md_M_operateReal_198 : decode mc_M_operateReal 198 = .ok (.lload_n 3, 1) := by decide +kernel
theorem md_M_operateReal_199 : decode mc_M_operateReal 199 = .ok (.invokestatic 51, 3) := by decide +kernel
theorem md_M_operateReal_202 : decode mc_M_operateReal 202 = .ok (.ifCond .eq 7, 3) := by decide +kernel
theorem md_M_operateReal_205 : decode mc_M_operateReal 205 = .ok (.lload_n 3, 1) := by decide +kernel
theorem md_M_operateReal_206 : decode mc_M_operateReal 206 = .ok (.goto 8, 3) := by decide +kernel
theorem md_M_operateReal_209 : decode mc_M_operateReal 209 = .ok (.iload_n 1, 1) := by decide +kernel
theorem md_M_operateReal_210 : decode mc_M_operateReal 210 = .ok (.lload_n 3, 1) := by decide +kernel
theorem md_M_operateReal_211 : decode mc_M_operateReal 211 = .ok (.invokestatic 29, 3) := by decide +kernel
theorem md_M_operateReal_214 : decode mc_M_operateReal 214 = .ok (.lreturn, 1) := by decide +kernel
abbrev mc_M_operateWhole : ByteArray := prog_4_method_27_code
def my_M_operateWhole : MethodName := ⟨"NumberProbeModel", "operateWhole", "(IIJJ)J"⟩
abbrev mw_M_operateWhole : List Cond := Cond.code my_M_operateWhole mc_M_operateWhole 8 (some .long) :: gw_tbl
theorem md_M_operateWhole_0 : decode mc_M_operateWhole 0 = .ok (.iload_n 0, 1) := by decide +kernel
theorem md_M_operateWhole_1 : decode mc_M_operateWhole 1 = .ok (.iconst 3, 1) := by decide +kernel
theorem md_M_operateWhole_2 : decode mc_M_operateWhole 2 = .ok (.if_icmp .ne 7, 3) := by decide +kernel
theorem md_M_operateWhole_5 : decode mc_M_operateWhole 5 = .ok (.iconst 1, 1) := by decide +kernel
theorem md_M_operateWhole_6 : decode mc_M_operateWhole 6 = .ok (.goto 4, 3) := by decide +kernel
theorem md_M_operateWhole_9 : decode mc_M_operateWhole 9 = .ok (.iconst 0, 1) := by decide +kernel
theorem md_M_operateWhole_10 : decode mc_M_operateWhole 10 = .ok (.istore 6, 2) := by decide +kernel
theorem md_M_operateWhole_12 : decode mc_M_operateWhole 12 = .ok (.lload 4, 2) := by decide +kernel
theorem md_M_operateWhole_14 : decode mc_M_operateWhole 14 = .ok (.l2i, 1) := by decide +kernel
theorem md_M_operateWhole_15 : decode mc_M_operateWhole 15 = .ok (.iload 6, 2) := by decide +kernel
theorem md_M_operateWhole_17 : decode mc_M_operateWhole 17 = .ok (.ifCond .eq 8, 3) := by decide +kernel
theorem md_M_operateWhole_20 : decode mc_M_operateWhole 20 = .ok (.bipush 63, 2) := by decide +kernel
theorem md_M_operateWhole_22 : decode mc_M_operateWhole 22 = .ok (.goto 5, 3) := by decide +kernel
theorem md_M_operateWhole_25 : decode mc_M_operateWhole 25 = .ok (.bipush 31, 2) := by decide +kernel
theorem md_M_operateWhole_27 : decode mc_M_operateWhole 27 = .ok (.iand, 1) := by decide +kernel
theorem md_M_operateWhole_28 : decode mc_M_operateWhole 28 = .ok (.istore 7, 2) := by decide +kernel
theorem md_M_operateWhole_30 : decode mc_M_operateWhole 30 = .ok (.iload_n 1, 1) := by decide +kernel
theorem md_M_operateWhole_31 : decode mc_M_operateWhole 31 = .ok (.tableswitch 179 0 13 #[69, 74, 79, 84, 89, 94, 108, 122, 125, 138, 143, 148, 169, 174], 69) := by decide +kernel
theorem md_M_operateWhole_100 : decode mc_M_operateWhole 100 = .ok (.lload_n 2, 1) := by decide +kernel
theorem md_M_operateWhole_101 : decode mc_M_operateWhole 101 = .ok (.lload 4, 2) := by decide +kernel
theorem md_M_operateWhole_103 : decode mc_M_operateWhole 103 = .ok (.ladd, 1) := by decide +kernel
theorem md_M_operateWhole_104 : decode mc_M_operateWhole 104 = .ok (.lreturn, 1) := by decide +kernel
theorem md_M_operateWhole_105 : decode mc_M_operateWhole 105 = .ok (.lload_n 2, 1) := by decide +kernel
theorem md_M_operateWhole_106 : decode mc_M_operateWhole 106 = .ok (.lload 4, 2) := by decide +kernel
theorem md_M_operateWhole_108 : decode mc_M_operateWhole 108 = .ok (.lsub, 1) := by decide +kernel
theorem md_M_operateWhole_109 : decode mc_M_operateWhole 109 = .ok (.lreturn, 1) := by decide +kernel
theorem md_M_operateWhole_110 : decode mc_M_operateWhole 110 = .ok (.lload_n 2, 1) := by decide +kernel
theorem md_M_operateWhole_111 : decode mc_M_operateWhole 111 = .ok (.lload 4, 2) := by decide +kernel
theorem md_M_operateWhole_113 : decode mc_M_operateWhole 113 = .ok (.lmul, 1) := by decide +kernel
theorem md_M_operateWhole_114 : decode mc_M_operateWhole 114 = .ok (.lreturn, 1) := by decide +kernel
theorem md_M_operateWhole_115 : decode mc_M_operateWhole 115 = .ok (.lload_n 2, 1) := by decide +kernel
theorem md_M_operateWhole_116 : decode mc_M_operateWhole 116 = .ok (.lload 4, 2) := by decide +kernel
theorem md_M_operateWhole_118 : decode mc_M_operateWhole 118 = .ok (.ldiv, 1) := by decide +kernel
theorem md_M_operateWhole_119 : decode mc_M_operateWhole 119 = .ok (.lreturn, 1) := by decide +kernel
theorem md_M_operateWhole_120 : decode mc_M_operateWhole 120 = .ok (.lload_n 2, 1) := by decide +kernel
theorem md_M_operateWhole_121 : decode mc_M_operateWhole 121 = .ok (.lload 4, 2) := by decide +kernel
theorem md_M_operateWhole_123 : decode mc_M_operateWhole 123 = .ok (.lrem, 1) := by decide +kernel
theorem md_M_operateWhole_124 : decode mc_M_operateWhole 124 = .ok (.lreturn, 1) := by decide +kernel
theorem md_M_operateWhole_125 : decode mc_M_operateWhole 125 = .ok (.lload_n 2, 1) := by decide +kernel
theorem md_M_operateWhole_126 : decode mc_M_operateWhole 126 = .ok (.lload 4, 2) := by decide +kernel
theorem md_M_operateWhole_128 : decode mc_M_operateWhole 128 = .ok (.lcmp, 1) := by decide +kernel
theorem md_M_operateWhole_129 : decode mc_M_operateWhole 129 = .ok (.ifCond .ge 7, 3) := by decide +kernel
theorem md_M_operateWhole_132 : decode mc_M_operateWhole 132 = .ok (.lload_n 2, 1) := by decide +kernel
theorem md_M_operateWhole_133 : decode mc_M_operateWhole 133 = .ok (.goto 5, 3) := by decide +kernel
theorem md_M_operateWhole_136 : decode mc_M_operateWhole 136 = .ok (.lload 4, 2) := by decide +kernel
theorem md_M_operateWhole_138 : decode mc_M_operateWhole 138 = .ok (.lreturn, 1) := by decide +kernel
theorem md_M_operateWhole_139 : decode mc_M_operateWhole 139 = .ok (.lload_n 2, 1) := by decide +kernel
theorem md_M_operateWhole_140 : decode mc_M_operateWhole 140 = .ok (.lload 4, 2) := by decide +kernel
theorem md_M_operateWhole_142 : decode mc_M_operateWhole 142 = .ok (.lcmp, 1) := by decide +kernel
theorem md_M_operateWhole_143 : decode mc_M_operateWhole 143 = .ok (.ifCond .le 7, 3) := by decide +kernel
theorem md_M_operateWhole_146 : decode mc_M_operateWhole 146 = .ok (.lload_n 2, 1) := by decide +kernel
theorem md_M_operateWhole_147 : decode mc_M_operateWhole 147 = .ok (.goto 5, 3) := by decide +kernel
theorem md_M_operateWhole_150 : decode mc_M_operateWhole 150 = .ok (.lload 4, 2) := by decide +kernel
theorem md_M_operateWhole_152 : decode mc_M_operateWhole 152 = .ok (.lreturn, 1) := by decide +kernel
theorem md_M_operateWhole_153 : decode mc_M_operateWhole 153 = .ok (.lload_n 2, 1) := by decide +kernel
theorem md_M_operateWhole_154 : decode mc_M_operateWhole 154 = .ok (.lneg, 1) := by decide +kernel
theorem md_M_operateWhole_155 : decode mc_M_operateWhole 155 = .ok (.lreturn, 1) := by decide +kernel
theorem md_M_operateWhole_156 : decode mc_M_operateWhole 156 = .ok (.lload_n 2, 1) := by decide +kernel
theorem md_M_operateWhole_157 : decode mc_M_operateWhole 157 = .ok (.lconst 0, 1) := by decide +kernel
theorem md_M_operateWhole_158 : decode mc_M_operateWhole 158 = .ok (.lcmp, 1) := by decide +kernel
theorem md_M_operateWhole_159 : decode mc_M_operateWhole 159 = .ok (.ifCond .ge 8, 3) := by decide +kernel
theorem md_M_operateWhole_162 : decode mc_M_operateWhole 162 = .ok (.lload_n 2, 1) := by decide +kernel
theorem md_M_operateWhole_163 : decode mc_M_operateWhole 163 = .ok (.lneg, 1) := by decide +kernel
theorem md_M_operateWhole_164 : decode mc_M_operateWhole 164 = .ok (.goto 4, 3) := by decide +kernel
theorem md_M_operateWhole_167 : decode mc_M_operateWhole 167 = .ok (.lload_n 2, 1) := by decide +kernel
theorem md_M_operateWhole_168 : decode mc_M_operateWhole 168 = .ok (.lreturn, 1) := by decide +kernel
theorem md_M_operateWhole_169 : decode mc_M_operateWhole 169 = .ok (.lload_n 2, 1) := by decide +kernel
theorem md_M_operateWhole_170 : decode mc_M_operateWhole 170 = .ok (.iload 7, 2) := by decide +kernel
theorem md_M_operateWhole_172 : decode mc_M_operateWhole 172 = .ok (.lshl, 1) := by decide +kernel
theorem md_M_operateWhole_173 : decode mc_M_operateWhole 173 = .ok (.lreturn, 1) := by decide +kernel
theorem md_M_operateWhole_174 : decode mc_M_operateWhole 174 = .ok (.lload_n 2, 1) := by decide +kernel
theorem md_M_operateWhole_175 : decode mc_M_operateWhole 175 = .ok (.iload 7, 2) := by decide +kernel
theorem md_M_operateWhole_177 : decode mc_M_operateWhole 177 = .ok (.lshr, 1) := by decide +kernel
theorem md_M_operateWhole_178 : decode mc_M_operateWhole 178 = .ok (.lreturn, 1) := by decide +kernel
theorem md_M_operateWhole_179 : decode mc_M_operateWhole 179 = .ok (.iload 6, 2) := by decide +kernel
theorem md_M_operateWhole_181 : decode mc_M_operateWhole 181 = .ok (.ifCond .eq 10, 3) := by decide +kernel
theorem md_M_operateWhole_184 : decode mc_M_operateWhole 184 = .ok (.lload_n 2, 1) := by decide +kernel
theorem md_M_operateWhole_185 : decode mc_M_operateWhole 185 = .ok (.iload 7, 2) := by decide +kernel
theorem md_M_operateWhole_187 : decode mc_M_operateWhole 187 = .ok (.lushr, 1) := by decide +kernel
theorem md_M_operateWhole_188 : decode mc_M_operateWhole 188 = .ok (.goto 11, 3) := by decide +kernel
theorem md_M_operateWhole_191 : decode mc_M_operateWhole 191 = .ok (.lload_n 2, 1) := by decide +kernel
theorem md_M_operateWhole_192 : decode mc_M_operateWhole 192 = .ok (.ldc2_w 116, 3) := by decide +kernel
theorem md_M_operateWhole_195 : decode mc_M_operateWhole 195 = .ok (.land, 1) := by decide +kernel
theorem md_M_operateWhole_196 : decode mc_M_operateWhole 196 = .ok (.iload 7, 2) := by decide +kernel
theorem md_M_operateWhole_198 : decode mc_M_operateWhole 198 = .ok (.lushr, 1) := by decide +kernel
theorem md_M_operateWhole_199 : decode mc_M_operateWhole 199 = .ok (.lreturn, 1) := by decide +kernel
theorem md_M_operateWhole_200 : decode mc_M_operateWhole 200 = .ok (.lload_n 2, 1) := by decide +kernel
theorem md_M_operateWhole_201 : decode mc_M_operateWhole 201 = .ok (.lload 4, 2) := by decide +kernel
theorem md_M_operateWhole_203 : decode mc_M_operateWhole 203 = .ok (.land, 1) := by decide +kernel
theorem md_M_operateWhole_204 : decode mc_M_operateWhole 204 = .ok (.lreturn, 1) := by decide +kernel
theorem md_M_operateWhole_205 : decode mc_M_operateWhole 205 = .ok (.lload_n 2, 1) := by decide +kernel
theorem md_M_operateWhole_206 : decode mc_M_operateWhole 206 = .ok (.lload 4, 2) := by decide +kernel
theorem md_M_operateWhole_208 : decode mc_M_operateWhole 208 = .ok (.lor, 1) := by decide +kernel
theorem md_M_operateWhole_209 : decode mc_M_operateWhole 209 = .ok (.lreturn, 1) := by decide +kernel
theorem md_M_operateWhole_210 : decode mc_M_operateWhole 210 = .ok (.lload_n 2, 1) := by decide +kernel
theorem md_M_operateWhole_211 : decode mc_M_operateWhole 211 = .ok (.lload 4, 2) := by decide +kernel
theorem md_M_operateWhole_213 : decode mc_M_operateWhole 213 = .ok (.lxor, 1) := by decide +kernel
theorem md_M_operateWhole_214 : decode mc_M_operateWhole 214 = .ok (.lreturn, 1) := by decide +kernel
abbrev mc_M_normal : ByteArray := prog_4_method_28_code
def my_M_normal : MethodName := ⟨"NumberProbeModel", "normal", "(IJ)J"⟩
abbrev mw_M_normal : List Cond := Cond.code my_M_normal mc_M_normal 5 (some .long) :: gw_tbl
theorem md_M_normal_0 : decode mc_M_normal 0 = .ok (.iload_n 0, 1) := by decide +kernel
theorem md_M_normal_1 : decode mc_M_normal 1 = .ok (.iconst 3, 1) := by decide +kernel
theorem md_M_normal_2 : decode mc_M_normal 2 = .ok (.if_icmp .ne 5, 3) := by decide +kernel
theorem md_M_normal_5 : decode mc_M_normal 5 = .ok (.lload_n 1, 1) := by decide +kernel
theorem md_M_normal_6 : decode mc_M_normal 6 = .ok (.lreturn, 1) := by decide +kernel
theorem md_M_normal_7 : decode mc_M_normal 7 = .ok (.iload_n 0, 1) := by decide +kernel
theorem md_M_normal_8 : decode mc_M_normal 8 = .ok (.iconst 2, 1) := by decide +kernel
theorem md_M_normal_9 : decode mc_M_normal 9 = .ok (.if_icmp .ne 7, 3) := by decide +kernel
theorem md_M_normal_12 : decode mc_M_normal 12 = .ok (.lload_n 1, 1) := by decide +kernel
theorem md_M_normal_13 : decode mc_M_normal 13 = .ok (.l2i, 1) := by decide +kernel
theorem md_M_normal_14 : decode mc_M_normal 14 = .ok (.i2l, 1) := by decide +kernel
theorem md_M_normal_15 : decode mc_M_normal 15 = .ok (.lreturn, 1) := by decide +kernel
theorem md_M_normal_16 : decode mc_M_normal 16 = .ok (.iload_n 0, 1) := by decide +kernel
theorem md_M_normal_17 : decode mc_M_normal 17 = .ok (.ifCond .ne 11, 3) := by decide +kernel
theorem md_M_normal_20 : decode mc_M_normal 20 = .ok (.lload_n 1, 1) := by decide +kernel
theorem md_M_normal_21 : decode mc_M_normal 21 = .ok (.ldc2_w 116, 3) := by decide +kernel
theorem md_M_normal_24 : decode mc_M_normal 24 = .ok (.land, 1) := by decide +kernel
theorem md_M_normal_25 : decode mc_M_normal 25 = .ok (.goto 4, 3) := by decide +kernel
theorem md_M_normal_28 : decode mc_M_normal 28 = .ok (.lload_n 1, 1) := by decide +kernel
theorem md_M_normal_29 : decode mc_M_normal 29 = .ok (.lstore_n 3, 1) := by decide +kernel
theorem md_M_normal_30 : decode mc_M_normal 30 = .ok (.iload_n 0, 1) := by decide +kernel
theorem md_M_normal_31 : decode mc_M_normal 31 = .ok (.lload_n 3, 1) := by decide +kernel
theorem md_M_normal_32 : decode mc_M_normal 32 = .ok (.invokestatic 51, 3) := by decide +kernel
theorem md_M_normal_35 : decode mc_M_normal 35 = .ok (.ifCond .eq 10, 3) := by decide +kernel
theorem md_M_normal_38 : decode mc_M_normal 38 = .ok (.iload_n 0, 1) := by decide +kernel
theorem md_M_normal_39 : decode mc_M_normal 39 = .ok (.invokestatic 105, 3) := by decide +kernel
theorem md_M_normal_42 : decode mc_M_normal 42 = .ok (.goto 4, 3) := by decide +kernel
theorem md_M_normal_45 : decode mc_M_normal 45 = .ok (.lload_n 3, 1) := by decide +kernel
theorem md_M_normal_46 : decode mc_M_normal 46 = .ok (.lreturn, 1) := by decide +kernel
abbrev mc_M_ofWhole : ByteArray := prog_4_method_29_code
def my_M_ofWhole : MethodName := ⟨"NumberProbeModel", "ofWhole", "(IJ)J"⟩
abbrev mw_M_ofWhole : List Cond := Cond.code my_M_ofWhole mc_M_ofWhole 3 (some .long) :: gw_tbl
theorem md_M_ofWhole_0 : decode mc_M_ofWhole 0 = .ok (.lload_n 1, 1) := by decide +kernel
theorem md_M_ofWhole_1 : decode mc_M_ofWhole 1 = .ok (.ldc2_w 15, 3) := by decide +kernel
theorem md_M_ofWhole_4 : decode mc_M_ofWhole 4 = .ok (.lcmp, 1) := by decide +kernel
theorem md_M_ofWhole_5 : decode mc_M_ofWhole 5 = .ok (.ifCond .ne 13, 3) := by decide +kernel
theorem md_M_ofWhole_8 : decode mc_M_ofWhole 8 = .ok (.iload_n 0, 1) := by decide +kernel
theorem md_M_ofWhole_9 : decode mc_M_ofWhole 9 = .ok (.iconst 1, 1) := by decide +kernel
theorem md_M_ofWhole_10 : decode mc_M_ofWhole 10 = .ok (.ldc2_w 146, 3) := by decide +kernel
theorem md_M_ofWhole_13 : decode mc_M_ofWhole 13 = .ok (.iconst 1, 1) := by decide +kernel
theorem md_M_ofWhole_14 : decode mc_M_ofWhole 14 = .ok (.invokestatic 112, 3) := by decide +kernel
theorem md_M_ofWhole_17 : decode mc_M_ofWhole 17 = .ok (.lreturn, 1) := by decide +kernel
theorem md_M_ofWhole_18 : decode mc_M_ofWhole 18 = .ok (.iload_n 0, 1) := by decide +kernel
theorem md_M_ofWhole_19 : decode mc_M_ofWhole 19 = .ok (.lload_n 1, 1) := by decide +kernel
theorem md_M_ofWhole_20 : decode mc_M_ofWhole 20 = .ok (.lconst 0, 1) := by decide +kernel
theorem md_M_ofWhole_21 : decode mc_M_ofWhole 21 = .ok (.lcmp, 1) := by decide +kernel
theorem md_M_ofWhole_22 : decode mc_M_ofWhole 22 = .ok (.ifCond .ge 7, 3) := by decide +kernel
theorem md_M_ofWhole_25 : decode mc_M_ofWhole 25 = .ok (.iconst 1, 1) := by decide +kernel
theorem md_M_ofWhole_26 : decode mc_M_ofWhole 26 = .ok (.goto 4, 3) := by decide +kernel
theorem md_M_ofWhole_29 : decode mc_M_ofWhole 29 = .ok (.iconst 0, 1) := by decide +kernel
theorem md_M_ofWhole_30 : decode mc_M_ofWhole 30 = .ok (.lload_n 1, 1) := by decide +kernel
theorem md_M_ofWhole_31 : decode mc_M_ofWhole 31 = .ok (.lconst 0, 1) := by decide +kernel
theorem md_M_ofWhole_32 : decode mc_M_ofWhole 32 = .ok (.lcmp, 1) := by decide +kernel
theorem md_M_ofWhole_33 : decode mc_M_ofWhole 33 = .ok (.ifCond .ge 8, 3) := by decide +kernel
theorem md_M_ofWhole_36 : decode mc_M_ofWhole 36 = .ok (.lload_n 1, 1) := by decide +kernel
theorem md_M_ofWhole_37 : decode mc_M_ofWhole 37 = .ok (.lneg, 1) := by decide +kernel
theorem md_M_ofWhole_38 : decode mc_M_ofWhole 38 = .ok (.goto 4, 3) := by decide +kernel
theorem md_M_ofWhole_41 : decode mc_M_ofWhole 41 = .ok (.lload_n 1, 1) := by decide +kernel
theorem md_M_ofWhole_42 : decode mc_M_ofWhole 42 = .ok (.iconst 0, 1) := by decide +kernel
theorem md_M_ofWhole_43 : decode mc_M_ofWhole 43 = .ok (.invokestatic 112, 3) := by decide +kernel
theorem md_M_ofWhole_46 : decode mc_M_ofWhole 46 = .ok (.lreturn, 1) := by decide +kernel
abbrev mc_M_toWhole : ByteArray := prog_4_method_30_code
def my_M_toWhole : MethodName := ⟨"NumberProbeModel", "toWhole", "(IJ)J"⟩
abbrev mw_M_toWhole : List Cond := Cond.code my_M_toWhole mc_M_toWhole 6 (some .long) :: gw_tbl
theorem md_M_toWhole_0 : decode mc_M_toWhole 0 = .ok (.aload_n 0, 1) := by decide +kernel
theorem md_M_toWhole_1 : decode mc_M_toWhole 1 = .ok (.iload_n 1, 1) := by decide +kernel
theorem md_M_toWhole_2 : decode mc_M_toWhole 2 = .ok (.lload_n 2, 1) := by decide +kernel
theorem md_M_toWhole_3 : decode mc_M_toWhole 3 = .ok (.invokevirtual 98, 3) := by decide +kernel
theorem md_M_toWhole_6 : decode mc_M_toWhole 6 = .ok (.aload_n 0, 1) := by decide +kernel
theorem md_M_toWhole_7 : decode mc_M_toWhole 7 = .ok (.getfield 54, 3) := by decide +kernel
theorem md_M_toWhole_10 : decode mc_M_toWhole 10 = .ok (.ifCond .eq 5, 3) := by decide +kernel
theorem md_M_toWhole_13 : decode mc_M_toWhole 13 = .ok (.lconst 0, 1) := by decide +kernel
theorem md_M_toWhole_14 : decode mc_M_toWhole 14 = .ok (.lreturn, 1) := by decide +kernel
theorem md_M_toWhole_15 : decode mc_M_toWhole 15 = .ok (.aload_n 0, 1) := by decide +kernel
theorem md_M_toWhole_16 : decode mc_M_toWhole 16 = .ok (.getfield 57, 3) := by decide +kernel
theorem md_M_toWhole_19 : decode mc_M_toWhole 19 = .ok (.ifCond .ne 20, 3) := by decide +kernel
theorem md_M_toWhole_22 : decode mc_M_toWhole 22 = .ok (.aload_n 0, 1) := by decide +kernel
theorem md_M_toWhole_23 : decode mc_M_toWhole 23 = .ok (.getfield 71, 3) := by decide +kernel
theorem md_M_toWhole_26 : decode mc_M_toWhole 26 = .ok (.aload_n 0, 1) := by decide +kernel
theorem md_M_toWhole_27 : decode mc_M_toWhole 27 = .ok (.getfield 63, 3) := by decide +kernel
theorem md_M_toWhole_30 : decode mc_M_toWhole 30 = .ok (.invokestatic 94, 3) := by decide +kernel
theorem md_M_toWhole_33 : decode mc_M_toWhole 33 = .ok (.iadd, 1) := by decide +kernel
theorem md_M_toWhole_34 : decode mc_M_toWhole 34 = .ok (.bipush 63, 2) := by decide +kernel
theorem md_M_toWhole_36 : decode mc_M_toWhole 36 = .ok (.if_icmp .le 20, 3) := by decide +kernel
theorem md_M_toWhole_39 : decode mc_M_toWhole 39 = .ok (.aload_n 0, 1) := by decide +kernel
theorem md_M_toWhole_40 : decode mc_M_toWhole 40 = .ok (.getfield 47, 3) := by decide +kernel
theorem md_M_toWhole_43 : decode mc_M_toWhole 43 = .ok (.ifCond .eq 9, 3) := by decide +kernel
theorem md_M_toWhole_46 : decode mc_M_toWhole 46 = .ok (.ldc2_w 15, 3) := by decide +kernel
theorem md_M_toWhole_49 : decode mc_M_toWhole 49 = .ok (.goto 6, 3) := by decide +kernel
theorem md_M_toWhole_52 : decode mc_M_toWhole 52 = .ok (.ldc2_w 148, 3) := by decide +kernel
theorem md_M_toWhole_55 : decode mc_M_toWhole 55 = .ok (.lreturn, 1) := by decide +kernel
theorem md_M_toWhole_56 : decode mc_M_toWhole 56 = .ok (.aload_n 0, 1) := by decide +kernel
theorem md_M_toWhole_57 : decode mc_M_toWhole 57 = .ok (.getfield 71, 3) := by decide +kernel
theorem md_M_toWhole_60 : decode mc_M_toWhole 60 = .ok (.ifCond .lt 15, 3) := by decide +kernel
theorem md_M_toWhole_63 : decode mc_M_toWhole 63 = .ok (.aload_n 0, 1) := by decide +kernel
theorem md_M_toWhole_64 : decode mc_M_toWhole 64 = .ok (.getfield 63, 3) := by decide +kernel
theorem md_M_toWhole_67 : decode mc_M_toWhole 67 = .ok (.aload_n 0, 1) := by decide +kernel
theorem md_M_toWhole_68 : decode mc_M_toWhole 68 = .ok (.getfield 71, 3) := by decide +kernel
theorem md_M_toWhole_71 : decode mc_M_toWhole 71 = .ok (.lshl, 1) := by decide +kernel
theorem md_M_toWhole_72 : decode mc_M_toWhole 72 = .ok (.goto 26, 3) := by decide +kernel
theorem md_M_toWhole_75 : decode mc_M_toWhole 75 = .ok (.aload_n 0, 1) := by decide +kernel
theorem md_M_toWhole_76 : decode mc_M_toWhole 76 = .ok (.getfield 71, 3) := by decide +kernel
theorem md_M_toWhole_79 : decode mc_M_toWhole 79 = .ok (.bipush (-62), 2) := by decide +kernel
theorem md_M_toWhole_81 : decode mc_M_toWhole 81 = .ok (.if_icmp .ge 7, 3) := by decide +kernel
theorem md_M_toWhole_84 : decode mc_M_toWhole 84 = .ok (.lconst 0, 1) := by decide +kernel
theorem md_M_toWhole_85 : decode mc_M_toWhole 85 = .ok (.goto 13, 3) := by decide +kernel
theorem md_M_toWhole_88 : decode mc_M_toWhole 88 = .ok (.aload_n 0, 1) := by decide +kernel
theorem md_M_toWhole_89 : decode mc_M_toWhole 89 = .ok (.getfield 63, 3) := by decide +kernel
theorem md_M_toWhole_92 : decode mc_M_toWhole 92 = .ok (.aload_n 0, 1) := by decide +kernel
theorem md_M_toWhole_93 : decode mc_M_toWhole 93 = .ok (.getfield 71, 3) := by decide +kernel
theorem md_M_toWhole_96 : decode mc_M_toWhole 96 = .ok (.ineg, 1) := by decide +kernel
theorem md_M_toWhole_97 : decode mc_M_toWhole 97 = .ok (.lushr, 1) := by decide +kernel
theorem md_M_toWhole_98 : decode mc_M_toWhole 98 = .ok (.lstore 4, 2) := by decide +kernel
theorem md_M_toWhole_100 : decode mc_M_toWhole 100 = .ok (.aload_n 0, 1) := by decide +kernel
theorem md_M_toWhole_101 : decode mc_M_toWhole 101 = .ok (.getfield 47, 3) := by decide +kernel
theorem md_M_toWhole_104 : decode mc_M_toWhole 104 = .ok (.ifCond .eq 9, 3) := by decide +kernel
theorem md_M_toWhole_107 : decode mc_M_toWhole 107 = .ok (.lload 4, 2) := by decide +kernel
theorem md_M_toWhole_109 : decode mc_M_toWhole 109 = .ok (.lneg, 1) := by decide +kernel
theorem md_M_toWhole_110 : decode mc_M_toWhole 110 = .ok (.goto 5, 3) := by decide +kernel
theorem md_M_toWhole_113 : decode mc_M_toWhole 113 = .ok (.lload 4, 2) := by decide +kernel
theorem md_M_toWhole_115 : decode mc_M_toWhole 115 = .ok (.lreturn, 1) := by decide +kernel
abbrev mc_M_bounded : ByteArray := prog_4_method_31_code
def my_M_bounded : MethodName := ⟨"NumberProbeModel", "bounded", "(J)J"⟩
abbrev mw_M_bounded : List Cond := Cond.code my_M_bounded mc_M_bounded 2 (some .long) :: gw_tbl
theorem md_M_bounded_0 : decode mc_M_bounded 0 = .ok (.lload_n 0, 1) := by decide +kernel
theorem md_M_bounded_1 : decode mc_M_bounded 1 = .ok (.ldc2_w 150, 3) := by decide +kernel
theorem md_M_bounded_4 : decode mc_M_bounded 4 = .ok (.lcmp, 1) := by decide +kernel
theorem md_M_bounded_5 : decode mc_M_bounded 5 = .ok (.ifCond .le 9, 3) := by decide +kernel
theorem md_M_bounded_8 : decode mc_M_bounded 8 = .ok (.ldc2_w 150, 3) := by decide +kernel
theorem md_M_bounded_11 : decode mc_M_bounded 11 = .ok (.goto 18, 3) := by decide +kernel
theorem md_M_bounded_14 : decode mc_M_bounded 14 = .ok (.lload_n 0, 1) := by decide +kernel
theorem md_M_bounded_15 : decode mc_M_bounded 15 = .ok (.ldc2_w 152, 3) := by decide +kernel
theorem md_M_bounded_18 : decode mc_M_bounded 18 = .ok (.lcmp, 1) := by decide +kernel
theorem md_M_bounded_19 : decode mc_M_bounded 19 = .ok (.ifCond .ge 9, 3) := by decide +kernel
theorem md_M_bounded_22 : decode mc_M_bounded 22 = .ok (.ldc2_w 152, 3) := by decide +kernel
theorem md_M_bounded_25 : decode mc_M_bounded 25 = .ok (.goto 4, 3) := by decide +kernel
theorem md_M_bounded_28 : decode mc_M_bounded 28 = .ok (.lload_n 0, 1) := by decide +kernel
theorem md_M_bounded_29 : decode mc_M_bounded 29 = .ok (.lreturn, 1) := by decide +kernel
abbrev mc_M_converted : ByteArray := prog_4_method_32_code
def my_M_converted : MethodName := ⟨"NumberProbeModel", "converted", "(IJI)J"⟩
abbrev mw_M_converted : List Cond := Cond.code my_M_converted mc_M_converted 5 (some .long) :: gw_tbl
theorem md_M_converted_0 : decode mc_M_converted 0 = .ok (.iload_n 1, 1) := by decide +kernel
theorem md_M_converted_1 : decode mc_M_converted 1 = .ok (.iload 4, 2) := by decide +kernel
theorem md_M_converted_3 : decode mc_M_converted 3 = .ok (.if_icmp .ne 5, 3) := by decide +kernel
theorem md_M_converted_6 : decode mc_M_converted 6 = .ok (.lload_n 2, 1) := by decide +kernel
theorem md_M_converted_7 : decode mc_M_converted 7 = .ok (.lreturn, 1) := by decide +kernel
theorem md_M_converted_8 : decode mc_M_converted 8 = .ok (.iload_n 1, 1) := by decide +kernel
theorem md_M_converted_9 : decode mc_M_converted 9 = .ok (.iconst 1, 1) := by decide +kernel
theorem md_M_converted_10 : decode mc_M_converted 10 = .ok (.if_icmp .le 25, 3) := by decide +kernel
theorem md_M_converted_13 : decode mc_M_converted 13 = .ok (.iload 4, 2) := by decide +kernel
theorem md_M_converted_15 : decode mc_M_converted 15 = .ok (.iconst 1, 1) := by decide +kernel
theorem md_M_converted_16 : decode mc_M_converted 16 = .ok (.if_icmp .le 12, 3) := by decide +kernel
theorem md_M_converted_19 : decode mc_M_converted 19 = .ok (.iload 4, 2) := by decide +kernel
theorem md_M_converted_21 : decode mc_M_converted 21 = .ok (.lload_n 2, 1) := by decide +kernel
theorem md_M_converted_22 : decode mc_M_converted 22 = .ok (.invokestatic 154, 3) := by decide +kernel
theorem md_M_converted_25 : decode mc_M_converted 25 = .ok (.goto 9, 3) := by decide +kernel
theorem md_M_converted_28 : decode mc_M_converted 28 = .ok (.iload 4, 2) := by decide +kernel
theorem md_M_converted_30 : decode mc_M_converted 30 = .ok (.lload_n 2, 1) := by decide +kernel
theorem md_M_converted_31 : decode mc_M_converted 31 = .ok (.invokestatic 157, 3) := by decide +kernel
theorem md_M_converted_34 : decode mc_M_converted 34 = .ok (.lreturn, 1) := by decide +kernel
theorem md_M_converted_35 : decode mc_M_converted 35 = .ok (.iload 4, 2) := by decide +kernel
theorem md_M_converted_37 : decode mc_M_converted 37 = .ok (.iconst 3, 1) := by decide +kernel
theorem md_M_converted_38 : decode mc_M_converted 38 = .ok (.if_icmp .ne 10, 3) := by decide +kernel
theorem md_M_converted_41 : decode mc_M_converted 41 = .ok (.aload_n 0, 1) := by decide +kernel
theorem md_M_converted_42 : decode mc_M_converted 42 = .ok (.iload_n 1, 1) := by decide +kernel
theorem md_M_converted_43 : decode mc_M_converted 43 = .ok (.lload_n 2, 1) := by decide +kernel
theorem md_M_converted_44 : decode mc_M_converted 44 = .ok (.invokevirtual 160, 3) := by decide +kernel
theorem md_M_converted_47 : decode mc_M_converted 47 = .ok (.lreturn, 1) := by decide +kernel
theorem md_M_converted_48 : decode mc_M_converted 48 = .ok (.iload 4, 2) := by decide +kernel
theorem md_M_converted_50 : decode mc_M_converted 50 = .ok (.iconst 2, 1) := by decide +kernel
theorem md_M_converted_51 : decode mc_M_converted 51 = .ok (.if_icmp .ne 13, 3) := by decide +kernel
theorem md_M_converted_54 : decode mc_M_converted 54 = .ok (.aload_n 0, 1) := by decide +kernel
theorem md_M_converted_55 : decode mc_M_converted 55 = .ok (.iload_n 1, 1) := by decide +kernel
theorem md_M_converted_56 : decode mc_M_converted 56 = .ok (.lload_n 2, 1) := by decide +kernel
theorem md_M_converted_57 : decode mc_M_converted 57 = .ok (.invokevirtual 160, 3) := by decide +kernel
theorem md_M_converted_60 : decode mc_M_converted 60 = .ok (.invokestatic 163, 3) := by decide +kernel
theorem md_M_converted_63 : decode mc_M_converted 63 = .ok (.lreturn, 1) := by decide +kernel
theorem md_M_converted_64 : decode mc_M_converted 64 = .ok (.iload_n 1, 1) := by decide +kernel
theorem md_M_converted_65 : decode mc_M_converted 65 = .ok (.lload_n 2, 1) := by decide +kernel
theorem md_M_converted_66 : decode mc_M_converted 66 = .ok (.invokestatic 51, 3) := by decide +kernel
theorem md_M_converted_69 : decode mc_M_converted 69 = .ok (.ifCond .eq 9, 3) := by decide +kernel
theorem md_M_converted_72 : decode mc_M_converted 72 = .ok (.iload 4, 2) := by decide +kernel
theorem md_M_converted_74 : decode mc_M_converted 74 = .ok (.invokestatic 105, 3) := by decide +kernel
theorem md_M_converted_77 : decode mc_M_converted 77 = .ok (.lreturn, 1) := by decide +kernel
theorem md_M_converted_78 : decode mc_M_converted 78 = .ok (.iload_n 1, 1) := by decide +kernel
theorem md_M_converted_79 : decode mc_M_converted 79 = .ok (.lload_n 2, 1) := by decide +kernel
theorem md_M_converted_80 : decode mc_M_converted 80 = .ok (.invokestatic 29, 3) := by decide +kernel
theorem md_M_converted_83 : decode mc_M_converted 83 = .ok (.iload_n 1, 1) := by decide +kernel
theorem md_M_converted_84 : decode mc_M_converted 84 = .ok (.invokestatic 33, 3) := by decide +kernel
theorem md_M_converted_87 : decode mc_M_converted 87 = .ok (.lcmp, 1) := by decide +kernel
theorem md_M_converted_88 : decode mc_M_converted 88 = .ok (.ifCond .ne 19, 3) := by decide +kernel
theorem md_M_converted_91 : decode mc_M_converted 91 = .ok (.iload 4, 2) := by decide +kernel
theorem md_M_converted_93 : decode mc_M_converted 93 = .ok (.iload_n 1, 1) := by decide +kernel
theorem md_M_converted_94 : decode mc_M_converted 94 = .ok (.lload_n 2, 1) := by decide +kernel
theorem md_M_converted_95 : decode mc_M_converted 95 = .ok (.invokestatic 43, 3) := by decide +kernel
theorem md_M_converted_98 : decode mc_M_converted 98 = .ok (.iload 4, 2) := by decide +kernel
theorem md_M_converted_100 : decode mc_M_converted 100 = .ok (.invokestatic 33, 3) := by decide +kernel
theorem md_M_converted_103 : decode mc_M_converted 103 = .ok (.invokestatic 90, 3) := by decide +kernel
theorem md_M_converted_106 : decode mc_M_converted 106 = .ok (.lreturn, 1) := by decide +kernel
theorem md_M_converted_107 : decode mc_M_converted 107 = .ok (.iload 4, 2) := by decide +kernel
theorem md_M_converted_109 : decode mc_M_converted 109 = .ok (.iload_n 1, 1) := by decide +kernel
theorem md_M_converted_110 : decode mc_M_converted 110 = .ok (.lload_n 2, 1) := by decide +kernel
theorem md_M_converted_111 : decode mc_M_converted 111 = .ok (.invokestatic 43, 3) := by decide +kernel
theorem md_M_converted_114 : decode mc_M_converted 114 = .ok (.iload_n 1, 1) := by decide +kernel
theorem md_M_converted_115 : decode mc_M_converted 115 = .ok (.lload_n 2, 1) := by decide +kernel
theorem md_M_converted_116 : decode mc_M_converted 116 = .ok (.invokestatic 60, 3) := by decide +kernel
theorem md_M_converted_119 : decode mc_M_converted 119 = .ok (.iload_n 1, 1) := by decide +kernel
theorem md_M_converted_120 : decode mc_M_converted 120 = .ok (.lload_n 2, 1) := by decide +kernel
theorem md_M_converted_121 : decode mc_M_converted 121 = .ok (.invokestatic 67, 3) := by decide +kernel
theorem md_M_converted_124 : decode mc_M_converted 124 = .ok (.invokestatic 112, 3) := by decide +kernel
theorem md_M_converted_127 : decode mc_M_converted 127 = .ok (.lreturn, 1) := by decide +kernel
abbrev mc_M_put : ByteArray := prog_4_method_33_code
def my_M_put : MethodName := ⟨"NumberProbeModel", "put", "(IIJ)I"⟩
abbrev mw_M_put : List Cond := Cond.code my_M_put mc_M_put 5 (some .int) :: gw_tbl
theorem md_M_put_0 : decode mc_M_put 0 = .ok (.iload_n 1, 1) := by decide +kernel
theorem md_M_put_1 : decode mc_M_put 1 = .ok (.iconst 4, 1) := by decide +kernel
theorem md_M_put_2 : decode mc_M_put 2 = .ok (.invokestatic 167, 3) := by decide +kernel
theorem md_M_put_5 : decode mc_M_put 5 = .ok (.ifCond .eq 12, 3) := by decide +kernel
theorem md_M_put_8 : decode mc_M_put 8 = .ok (.iload_n 2, 1) := by decide +kernel
theorem md_M_put_9 : decode mc_M_put 9 = .ok (.bipush 6, 2) := by decide +kernel
theorem md_M_put_11 : decode mc_M_put 11 = .ok (.invokestatic 167, 3) := by decide +kernel
theorem md_M_put_14 : decode mc_M_put 14 = .ok (.ifCond .ne 5, 3) := by decide +kernel
theorem md_M_put_17 : decode mc_M_put 17 = .ok (.iconst (-1), 1) := by decide +kernel
theorem md_M_put_18 : decode mc_M_put 18 = .ok (.ireturn, 1) := by decide +kernel
theorem md_M_put_19 : decode mc_M_put 19 = .ok (.aload_n 0, 1) := by decide +kernel
theorem md_M_put_20 : decode mc_M_put 20 = .ok (.getfield 7, 3) := by decide +kernel
theorem md_M_put_23 : decode mc_M_put 23 = .ok (.iload_n 1, 1) := by decide +kernel
theorem md_M_put_24 : decode mc_M_put 24 = .ok (.bipush 6, 2) := by decide +kernel
theorem md_M_put_26 : decode mc_M_put 26 = .ok (.imul, 1) := by decide +kernel
theorem md_M_put_27 : decode mc_M_put 27 = .ok (.iload_n 2, 1) := by decide +kernel
theorem md_M_put_28 : decode mc_M_put 28 = .ok (.iadd, 1) := by decide +kernel
theorem md_M_put_29 : decode mc_M_put 29 = .ok (.iload_n 1, 1) := by decide +kernel
theorem md_M_put_30 : decode mc_M_put 30 = .ok (.lload_n 3, 1) := by decide +kernel
theorem md_M_put_31 : decode mc_M_put 31 = .ok (.invokestatic 154, 3) := by decide +kernel
theorem md_M_put_34 : decode mc_M_put 34 = .ok (.lastore, 1) := by decide +kernel
theorem md_M_put_35 : decode mc_M_put 35 = .ok (.iconst 0, 1) := by decide +kernel
theorem md_M_put_36 : decode mc_M_put 36 = .ok (.ireturn, 1) := by decide +kernel
abbrev mc_M_realBoundary : ByteArray := prog_4_method_34_code
def my_M_realBoundary : MethodName := ⟨"NumberProbeModel", "realBoundary", "(II)J"⟩
abbrev mw_M_realBoundary : List Cond := Cond.code my_M_realBoundary mc_M_realBoundary 4 (some .long) :: gw_tbl
theorem md_M_realBoundary_0 : decode mc_M_realBoundary 0 = .ok (.iload_n 0, 1) := by decide +kernel
theorem md_M_realBoundary_1 : decode mc_M_realBoundary 1 = .ok (.lconst 1, 1) := by decide +kernel
theorem md_M_realBoundary_2 : decode mc_M_realBoundary 2 = .ok (.invokestatic 157, 3) := by decide +kernel
theorem md_M_realBoundary_5 : decode mc_M_realBoundary 5 = .ok (.lstore_n 2, 1) := by decide +kernel
theorem md_M_realBoundary_6 : decode mc_M_realBoundary 6 = .ok (.iload_n 1, 1) := by decide +kernel
theorem md_M_realBoundary_7 : decode mc_M_realBoundary 7 = .ok (.tableswitch 222 0 19 #[93, 95, 100, 102, 109, 111, 120, 127, 134, 139, 149, 154, 158, 162, 170, 178, 186, 194, 204, 214], 93) := by decide +kernel
theorem md_M_realBoundary_100 : decode mc_M_realBoundary 100 = .ok (.lconst 0, 1) := by decide +kernel
theorem md_M_realBoundary_101 : decode mc_M_realBoundary 101 = .ok (.lreturn, 1) := by decide +kernel
theorem md_M_realBoundary_102 : decode mc_M_realBoundary 102 = .ok (.iload_n 0, 1) := by decide +kernel
theorem md_M_realBoundary_103 : decode mc_M_realBoundary 103 = .ok (.invokestatic 25, 3) := by decide +kernel
theorem md_M_realBoundary_106 : decode mc_M_realBoundary 106 = .ok (.lreturn, 1) := by decide +kernel
theorem md_M_realBoundary_107 : decode mc_M_realBoundary 107 = .ok (.lload_n 2, 1) := by decide +kernel
theorem md_M_realBoundary_108 : decode mc_M_realBoundary 108 = .ok (.lreturn, 1) := by decide +kernel
theorem md_M_realBoundary_109 : decode mc_M_realBoundary 109 = .ok (.lload_n 2, 1) := by decide +kernel
theorem md_M_realBoundary_110 : decode mc_M_realBoundary 110 = .ok (.iload_n 0, 1) := by decide +kernel
theorem md_M_realBoundary_111 : decode mc_M_realBoundary 111 = .ok (.invokestatic 25, 3) := by decide +kernel
theorem md_M_realBoundary_114 : decode mc_M_realBoundary 114 = .ok (.lor, 1) := by decide +kernel
theorem md_M_realBoundary_115 : decode mc_M_realBoundary 115 = .ok (.lreturn, 1) := by decide +kernel
theorem md_M_realBoundary_116 : decode mc_M_realBoundary 116 = .ok (.lconst 1, 1) := by decide +kernel
theorem md_M_realBoundary_117 : decode mc_M_realBoundary 117 = .ok (.lreturn, 1) := by decide +kernel
theorem md_M_realBoundary_118 : decode mc_M_realBoundary 118 = .ok (.lconst 1, 1) := by decide +kernel
theorem md_M_realBoundary_119 : decode mc_M_realBoundary 119 = .ok (.iload_n 0, 1) := by decide +kernel
theorem md_M_realBoundary_120 : decode mc_M_realBoundary 120 = .ok (.invokestatic 36, 3) := by decide +kernel
theorem md_M_realBoundary_123 : decode mc_M_realBoundary 123 = .ok (.lshl, 1) := by decide +kernel
theorem md_M_realBoundary_124 : decode mc_M_realBoundary 124 = .ok (.lconst 1, 1) := by decide +kernel
theorem md_M_realBoundary_125 : decode mc_M_realBoundary 125 = .ok (.lsub, 1) := by decide +kernel
theorem md_M_realBoundary_126 : decode mc_M_realBoundary 126 = .ok (.lreturn, 1) := by decide +kernel
theorem md_M_realBoundary_127 : decode mc_M_realBoundary 127 = .ok (.lconst 1, 1) := by decide +kernel
theorem md_M_realBoundary_128 : decode mc_M_realBoundary 128 = .ok (.iload_n 0, 1) := by decide +kernel
theorem md_M_realBoundary_129 : decode mc_M_realBoundary 129 = .ok (.invokestatic 36, 3) := by decide +kernel
theorem md_M_realBoundary_132 : decode mc_M_realBoundary 132 = .ok (.lshl, 1) := by decide +kernel
theorem md_M_realBoundary_133 : decode mc_M_realBoundary 133 = .ok (.lreturn, 1) := by decide +kernel
theorem md_M_realBoundary_134 : decode mc_M_realBoundary 134 = .ok (.iload_n 0, 1) := by decide +kernel
theorem md_M_realBoundary_135 : decode mc_M_realBoundary 135 = .ok (.invokestatic 33, 3) := by decide +kernel
theorem md_M_realBoundary_138 : decode mc_M_realBoundary 138 = .ok (.lconst 1, 1) := by decide +kernel
theorem md_M_realBoundary_139 : decode mc_M_realBoundary 139 = .ok (.lsub, 1) := by decide +kernel
theorem md_M_realBoundary_140 : decode mc_M_realBoundary 140 = .ok (.lreturn, 1) := by decide +kernel
theorem md_M_realBoundary_141 : decode mc_M_realBoundary 141 = .ok (.iload_n 0, 1) := by decide +kernel
theorem md_M_realBoundary_142 : decode mc_M_realBoundary 142 = .ok (.invokestatic 33, 3) := by decide +kernel
theorem md_M_realBoundary_145 : decode mc_M_realBoundary 145 = .ok (.lreturn, 1) := by decide +kernel
theorem md_M_realBoundary_146 : decode mc_M_realBoundary 146 = .ok (.iload_n 0, 1) := by decide +kernel
theorem md_M_realBoundary_147 : decode mc_M_realBoundary 147 = .ok (.invokestatic 33, 3) := by decide +kernel
theorem md_M_realBoundary_150 : decode mc_M_realBoundary 150 = .ok (.iload_n 0, 1) := by decide +kernel
theorem md_M_realBoundary_151 : decode mc_M_realBoundary 151 = .ok (.invokestatic 25, 3) := by decide +kernel
theorem md_M_realBoundary_154 : decode mc_M_realBoundary 154 = .ok (.lor, 1) := by decide +kernel
theorem md_M_realBoundary_155 : decode mc_M_realBoundary 155 = .ok (.lreturn, 1) := by decide +kernel
theorem md_M_realBoundary_156 : decode mc_M_realBoundary 156 = .ok (.iload_n 0, 1) := by decide +kernel
theorem md_M_realBoundary_157 : decode mc_M_realBoundary 157 = .ok (.invokestatic 105, 3) := by decide +kernel
theorem md_M_realBoundary_160 : decode mc_M_realBoundary 160 = .ok (.lreturn, 1) := by decide +kernel
theorem md_M_realBoundary_161 : decode mc_M_realBoundary 161 = .ok (.lload_n 2, 1) := by decide +kernel
theorem md_M_realBoundary_162 : decode mc_M_realBoundary 162 = .ok (.lconst 1, 1) := by decide +kernel
theorem md_M_realBoundary_163 : decode mc_M_realBoundary 163 = .ok (.ladd, 1) := by decide +kernel
theorem md_M_realBoundary_164 : decode mc_M_realBoundary 164 = .ok (.lreturn, 1) := by decide +kernel
theorem md_M_realBoundary_165 : decode mc_M_realBoundary 165 = .ok (.lload_n 2, 1) := by decide +kernel
theorem md_M_realBoundary_166 : decode mc_M_realBoundary 166 = .ok (.lconst 1, 1) := by decide +kernel
theorem md_M_realBoundary_167 : decode mc_M_realBoundary 167 = .ok (.lsub, 1) := by decide +kernel
theorem md_M_realBoundary_168 : decode mc_M_realBoundary 168 = .ok (.lreturn, 1) := by decide +kernel
theorem md_M_realBoundary_169 : decode mc_M_realBoundary 169 = .ok (.iload_n 0, 1) := by decide +kernel
theorem md_M_realBoundary_170 : decode mc_M_realBoundary 170 = .ok (.ldc2_w 171, 3) := by decide +kernel
theorem md_M_realBoundary_173 : decode mc_M_realBoundary 173 = .ok (.invokestatic 157, 3) := by decide +kernel
theorem md_M_realBoundary_176 : decode mc_M_realBoundary 176 = .ok (.lreturn, 1) := by decide +kernel
theorem md_M_realBoundary_177 : decode mc_M_realBoundary 177 = .ok (.iload_n 0, 1) := by decide +kernel
theorem md_M_realBoundary_178 : decode mc_M_realBoundary 178 = .ok (.ldc2_w 173, 3) := by decide +kernel
theorem md_M_realBoundary_181 : decode mc_M_realBoundary 181 = .ok (.invokestatic 157, 3) := by decide +kernel
theorem md_M_realBoundary_184 : decode mc_M_realBoundary 184 = .ok (.lreturn, 1) := by decide +kernel
theorem md_M_realBoundary_185 : decode mc_M_realBoundary 185 = .ok (.iload_n 0, 1) := by decide +kernel
theorem md_M_realBoundary_186 : decode mc_M_realBoundary 186 = .ok (.ldc2_w 13, 3) := by decide +kernel
theorem md_M_realBoundary_189 : decode mc_M_realBoundary 189 = .ok (.invokestatic 157, 3) := by decide +kernel
theorem md_M_realBoundary_192 : decode mc_M_realBoundary 192 = .ok (.lreturn, 1) := by decide +kernel
theorem md_M_realBoundary_193 : decode mc_M_realBoundary 193 = .ok (.iload_n 0, 1) := by decide +kernel
theorem md_M_realBoundary_194 : decode mc_M_realBoundary 194 = .ok (.ldc2_w 152, 3) := by decide +kernel
theorem md_M_realBoundary_197 : decode mc_M_realBoundary 197 = .ok (.invokestatic 157, 3) := by decide +kernel
theorem md_M_realBoundary_200 : decode mc_M_realBoundary 200 = .ok (.lreturn, 1) := by decide +kernel
theorem md_M_realBoundary_201 : decode mc_M_realBoundary 201 = .ok (.iload_n 0, 1) := by decide +kernel
theorem md_M_realBoundary_202 : decode mc_M_realBoundary 202 = .ok (.iconst 0, 1) := by decide +kernel
theorem md_M_realBoundary_203 : decode mc_M_realBoundary 203 = .ok (.ldc2_w 146, 3) := by decide +kernel
theorem md_M_realBoundary_206 : decode mc_M_realBoundary 206 = .ok (.iconst 1, 1) := by decide +kernel
theorem md_M_realBoundary_207 : decode mc_M_realBoundary 207 = .ok (.invokestatic 112, 3) := by decide +kernel
theorem md_M_realBoundary_210 : decode mc_M_realBoundary 210 = .ok (.lreturn, 1) := by decide +kernel
theorem md_M_realBoundary_211 : decode mc_M_realBoundary 211 = .ok (.iload_n 0, 1) := by decide +kernel
theorem md_M_realBoundary_212 : decode mc_M_realBoundary 212 = .ok (.iconst 1, 1) := by decide +kernel
theorem md_M_realBoundary_213 : decode mc_M_realBoundary 213 = .ok (.ldc2_w 146, 3) := by decide +kernel
theorem md_M_realBoundary_216 : decode mc_M_realBoundary 216 = .ok (.iconst 1, 1) := by decide +kernel
theorem md_M_realBoundary_217 : decode mc_M_realBoundary 217 = .ok (.invokestatic 112, 3) := by decide +kernel
theorem md_M_realBoundary_220 : decode mc_M_realBoundary 220 = .ok (.lreturn, 1) := by decide +kernel
theorem md_M_realBoundary_221 : decode mc_M_realBoundary 221 = .ok (.iload_n 0, 1) := by decide +kernel
theorem md_M_realBoundary_222 : decode mc_M_realBoundary 222 = .ok (.ldc2_w 150, 3) := by decide +kernel
theorem md_M_realBoundary_225 : decode mc_M_realBoundary 225 = .ok (.invokestatic 157, 3) := by decide +kernel
theorem md_M_realBoundary_228 : decode mc_M_realBoundary 228 = .ok (.lreturn, 1) := by decide +kernel
theorem md_M_realBoundary_229 : decode mc_M_realBoundary 229 = .ok (.iload_n 0, 1) := by decide +kernel
theorem md_M_realBoundary_230 : decode mc_M_realBoundary 230 = .ok (.ldc2_w 148, 3) := by decide +kernel
theorem md_M_realBoundary_233 : decode mc_M_realBoundary 233 = .ok (.invokestatic 157, 3) := by decide +kernel
theorem md_M_realBoundary_236 : decode mc_M_realBoundary 236 = .ok (.lreturn, 1) := by decide +kernel
abbrev mc_M_wholeBoundary : ByteArray := prog_4_method_35_code
def my_M_wholeBoundary : MethodName := ⟨"NumberProbeModel", "wholeBoundary", "(II)J"⟩
abbrev mw_M_wholeBoundary : List Cond := Cond.code my_M_wholeBoundary mc_M_wholeBoundary 2 (some .long) :: gw_tbl
theorem md_M_wholeBoundary_0 : decode mc_M_wholeBoundary 0 = .ok (.iload_n 1, 1) := by decide +kernel
theorem md_M_wholeBoundary_1 : decode mc_M_wholeBoundary 1 = .ok (.tableswitch 193 0 19 #[95, 97, 101, 103, 118, 133, 137, 141, 145, 149, 153, 157, 161, 165, 169, 173, 177, 181, 185, 189], 95) := by decide +kernel
theorem md_M_wholeBoundary_96 : decode mc_M_wholeBoundary 96 = .ok (.lconst 0, 1) := by decide +kernel
theorem md_M_wholeBoundary_97 : decode mc_M_wholeBoundary 97 = .ok (.lreturn, 1) := by decide +kernel
theorem md_M_wholeBoundary_98 : decode mc_M_wholeBoundary 98 = .ok (.ldc2_w 125, 3) := by decide +kernel
theorem md_M_wholeBoundary_101 : decode mc_M_wholeBoundary 101 = .ok (.lreturn, 1) := by decide +kernel
theorem md_M_wholeBoundary_102 : decode mc_M_wholeBoundary 102 = .ok (.lconst 1, 1) := by decide +kernel
theorem md_M_wholeBoundary_103 : decode mc_M_wholeBoundary 103 = .ok (.lreturn, 1) := by decide +kernel
theorem md_M_wholeBoundary_104 : decode mc_M_wholeBoundary 104 = .ok (.iload_n 0, 1) := by decide +kernel
theorem md_M_wholeBoundary_105 : decode mc_M_wholeBoundary 105 = .ok (.iconst 2, 1) := by decide +kernel
theorem md_M_wholeBoundary_106 : decode mc_M_wholeBoundary 106 = .ok (.if_icmp .ne 9, 3) := by decide +kernel
theorem md_M_wholeBoundary_109 : decode mc_M_wholeBoundary 109 = .ok (.ldc2_w 152, 3) := by decide +kernel
theorem md_M_wholeBoundary_112 : decode mc_M_wholeBoundary 112 = .ok (.goto 6, 3) := by decide +kernel
theorem md_M_wholeBoundary_115 : decode mc_M_wholeBoundary 115 = .ok (.ldc2_w 15, 3) := by decide +kernel
theorem md_M_wholeBoundary_118 : decode mc_M_wholeBoundary 118 = .ok (.lreturn, 1) := by decide +kernel
theorem md_M_wholeBoundary_119 : decode mc_M_wholeBoundary 119 = .ok (.iload_n 0, 1) := by decide +kernel
theorem md_M_wholeBoundary_120 : decode mc_M_wholeBoundary 120 = .ok (.iconst 2, 1) := by decide +kernel
theorem md_M_wholeBoundary_121 : decode mc_M_wholeBoundary 121 = .ok (.if_icmp .ne 9, 3) := by decide +kernel
theorem md_M_wholeBoundary_124 : decode mc_M_wholeBoundary 124 = .ok (.ldc2_w 150, 3) := by decide +kernel
theorem md_M_wholeBoundary_127 : decode mc_M_wholeBoundary 127 = .ok (.goto 6, 3) := by decide +kernel
theorem md_M_wholeBoundary_130 : decode mc_M_wholeBoundary 130 = .ok (.ldc2_w 148, 3) := by decide +kernel
theorem md_M_wholeBoundary_133 : decode mc_M_wholeBoundary 133 = .ok (.lreturn, 1) := by decide +kernel
theorem md_M_wholeBoundary_134 : decode mc_M_wholeBoundary 134 = .ok (.ldc2_w 175, 3) := by decide +kernel
theorem md_M_wholeBoundary_137 : decode mc_M_wholeBoundary 137 = .ok (.lreturn, 1) := by decide +kernel
theorem md_M_wholeBoundary_138 : decode mc_M_wholeBoundary 138 = .ok (.ldc2_w 177, 3) := by decide +kernel
theorem md_M_wholeBoundary_141 : decode mc_M_wholeBoundary 141 = .ok (.lreturn, 1) := by decide +kernel
theorem md_M_wholeBoundary_142 : decode mc_M_wholeBoundary 142 = .ok (.ldc2_w 179, 3) := by decide +kernel
theorem md_M_wholeBoundary_145 : decode mc_M_wholeBoundary 145 = .ok (.lreturn, 1) := by decide +kernel
theorem md_M_wholeBoundary_146 : decode mc_M_wholeBoundary 146 = .ok (.ldc2_w 181, 3) := by decide +kernel
theorem md_M_wholeBoundary_149 : decode mc_M_wholeBoundary 149 = .ok (.lreturn, 1) := by decide +kernel
theorem md_M_wholeBoundary_150 : decode mc_M_wholeBoundary 150 = .ok (.ldc2_w 183, 3) := by decide +kernel
theorem md_M_wholeBoundary_153 : decode mc_M_wholeBoundary 153 = .ok (.lreturn, 1) := by decide +kernel
theorem md_M_wholeBoundary_154 : decode mc_M_wholeBoundary 154 = .ok (.ldc2_w 185, 3) := by decide +kernel
theorem md_M_wholeBoundary_157 : decode mc_M_wholeBoundary 157 = .ok (.lreturn, 1) := by decide +kernel
theorem md_M_wholeBoundary_158 : decode mc_M_wholeBoundary 158 = .ok (.ldc2_w 187, 3) := by decide +kernel
theorem md_M_wholeBoundary_161 : decode mc_M_wholeBoundary 161 = .ok (.lreturn, 1) := by decide +kernel
theorem md_M_wholeBoundary_162 : decode mc_M_wholeBoundary 162 = .ok (.ldc2_w 189, 3) := by decide +kernel
theorem md_M_wholeBoundary_165 : decode mc_M_wholeBoundary 165 = .ok (.lreturn, 1) := by decide +kernel
theorem md_M_wholeBoundary_166 : decode mc_M_wholeBoundary 166 = .ok (.ldc2_w 191, 3) := by decide +kernel
theorem md_M_wholeBoundary_169 : decode mc_M_wholeBoundary 169 = .ok (.lreturn, 1) := by decide +kernel
theorem md_M_wholeBoundary_170 : decode mc_M_wholeBoundary 170 = .ok (.ldc2_w 171, 3) := by decide +kernel
theorem md_M_wholeBoundary_173 : decode mc_M_wholeBoundary 173 = .ok (.lreturn, 1) := by decide +kernel
theorem md_M_wholeBoundary_174 : decode mc_M_wholeBoundary 174 = .ok (.ldc2_w 13, 3) := by decide +kernel
theorem md_M_wholeBoundary_177 : decode mc_M_wholeBoundary 177 = .ok (.lreturn, 1) := by decide +kernel
theorem md_M_wholeBoundary_178 : decode mc_M_wholeBoundary 178 = .ok (.ldc2_w 193, 3) := by decide +kernel
theorem md_M_wholeBoundary_181 : decode mc_M_wholeBoundary 181 = .ok (.lreturn, 1) := by decide +kernel
theorem md_M_wholeBoundary_182 : decode mc_M_wholeBoundary 182 = .ok (.ldc2_w 195, 3) := by decide +kernel
theorem md_M_wholeBoundary_185 : decode mc_M_wholeBoundary 185 = .ok (.lreturn, 1) := by decide +kernel
theorem md_M_wholeBoundary_186 : decode mc_M_wholeBoundary 186 = .ok (.ldc2_w 173, 3) := by decide +kernel
theorem md_M_wholeBoundary_189 : decode mc_M_wholeBoundary 189 = .ok (.lreturn, 1) := by decide +kernel
theorem md_M_wholeBoundary_190 : decode mc_M_wholeBoundary 190 = .ok (.ldc2_w 197, 3) := by decide +kernel
theorem md_M_wholeBoundary_193 : decode mc_M_wholeBoundary 193 = .ok (.lreturn, 1) := by decide +kernel
theorem md_M_wholeBoundary_194 : decode mc_M_wholeBoundary 194 = .ok (.ldc2_w 199, 3) := by decide +kernel
theorem md_M_wholeBoundary_197 : decode mc_M_wholeBoundary 197 = .ok (.lreturn, 1) := by decide +kernel
abbrev mc_M_boundary : ByteArray := prog_4_method_36_code
def my_M_boundary : MethodName := ⟨"NumberProbeModel", "boundary", "(III)I"⟩
abbrev mw_M_boundary : List Cond := Cond.code my_M_boundary mc_M_boundary 4 (some .int) :: gw_tbl
theorem md_M_boundary_0 : decode mc_M_boundary 0 = .ok (.iload_n 1, 1) := by decide +kernel
theorem md_M_boundary_1 : decode mc_M_boundary 1 = .ok (.iconst 4, 1) := by decide +kernel
theorem md_M_boundary_2 : decode mc_M_boundary 2 = .ok (.invokestatic 167, 3) := by decide +kernel
theorem md_M_boundary_5 : decode mc_M_boundary 5 = .ok (.ifCond .eq 31, 3) := by decide +kernel
theorem md_M_boundary_8 : decode mc_M_boundary 8 = .ok (.iload_n 2, 1) := by decide +kernel
theorem md_M_boundary_9 : decode mc_M_boundary 9 = .ok (.bipush 6, 2) := by decide +kernel
theorem md_M_boundary_11 : decode mc_M_boundary 11 = .ok (.invokestatic 167, 3) := by decide +kernel
theorem md_M_boundary_14 : decode mc_M_boundary 14 = .ok (.ifCond .eq 22, 3) := by decide +kernel
theorem md_M_boundary_17 : decode mc_M_boundary 17 = .ok (.iload_n 3, 1) := by decide +kernel
theorem md_M_boundary_18 : decode mc_M_boundary 18 = .ok (.iload_n 1, 1) := by decide +kernel
theorem md_M_boundary_19 : decode mc_M_boundary 19 = .ok (.iconst 2, 1) := by decide +kernel
theorem md_M_boundary_20 : decode mc_M_boundary 20 = .ok (.if_icmp .ne 8, 3) := by decide +kernel
theorem md_M_boundary_23 : decode mc_M_boundary 23 = .ok (.bipush 15, 2) := by decide +kernel
theorem md_M_boundary_25 : decode mc_M_boundary 25 = .ok (.goto 5, 3) := by decide +kernel
theorem md_M_boundary_28 : decode mc_M_boundary 28 = .ok (.bipush 21, 2) := by decide +kernel
theorem md_M_boundary_30 : decode mc_M_boundary 30 = .ok (.invokestatic 167, 3) := by decide +kernel
theorem md_M_boundary_33 : decode mc_M_boundary 33 = .ok (.ifCond .ne 5, 3) := by decide +kernel
theorem md_M_boundary_36 : decode mc_M_boundary 36 = .ok (.iconst (-1), 1) := by decide +kernel
theorem md_M_boundary_37 : decode mc_M_boundary 37 = .ok (.ireturn, 1) := by decide +kernel
theorem md_M_boundary_38 : decode mc_M_boundary 38 = .ok (.aload_n 0, 1) := by decide +kernel
theorem md_M_boundary_39 : decode mc_M_boundary 39 = .ok (.getfield 7, 3) := by decide +kernel
theorem md_M_boundary_42 : decode mc_M_boundary 42 = .ok (.iload_n 1, 1) := by decide +kernel
theorem md_M_boundary_43 : decode mc_M_boundary 43 = .ok (.bipush 6, 2) := by decide +kernel
theorem md_M_boundary_45 : decode mc_M_boundary 45 = .ok (.imul, 1) := by decide +kernel
theorem md_M_boundary_46 : decode mc_M_boundary 46 = .ok (.iload_n 2, 1) := by decide +kernel
theorem md_M_boundary_47 : decode mc_M_boundary 47 = .ok (.iadd, 1) := by decide +kernel
theorem md_M_boundary_48 : decode mc_M_boundary 48 = .ok (.iload_n 1, 1) := by decide +kernel
theorem md_M_boundary_49 : decode mc_M_boundary 49 = .ok (.iconst 2, 1) := by decide +kernel
theorem md_M_boundary_50 : decode mc_M_boundary 50 = .ok (.if_icmp .ge 11, 3) := by decide +kernel
theorem md_M_boundary_53 : decode mc_M_boundary 53 = .ok (.iload_n 1, 1) := by decide +kernel
theorem md_M_boundary_54 : decode mc_M_boundary 54 = .ok (.iload_n 3, 1) := by decide +kernel
theorem md_M_boundary_55 : decode mc_M_boundary 55 = .ok (.invokestatic 201, 3) := by decide +kernel
theorem md_M_boundary_58 : decode mc_M_boundary 58 = .ok (.goto 8, 3) := by decide +kernel
theorem md_M_boundary_61 : decode mc_M_boundary 61 = .ok (.iload_n 1, 1) := by decide +kernel
theorem md_M_boundary_62 : decode mc_M_boundary 62 = .ok (.iload_n 3, 1) := by decide +kernel
theorem md_M_boundary_63 : decode mc_M_boundary 63 = .ok (.invokestatic 205, 3) := by decide +kernel
theorem md_M_boundary_66 : decode mc_M_boundary 66 = .ok (.lastore, 1) := by decide +kernel
theorem md_M_boundary_67 : decode mc_M_boundary 67 = .ok (.iconst 0, 1) := by decide +kernel
theorem md_M_boundary_68 : decode mc_M_boundary 68 = .ok (.ireturn, 1) := by decide +kernel
abbrev mc_M_bits : ByteArray := prog_4_method_37_code
def my_M_bits : MethodName := ⟨"NumberProbeModel", "bits", "(II)J"⟩
abbrev mw_M_bits : List Cond := Cond.code my_M_bits mc_M_bits 3 (some .long) :: gw_tbl
theorem md_M_bits_0 : decode mc_M_bits 0 = .ok (.iload_n 1, 1) := by decide +kernel
theorem md_M_bits_1 : decode mc_M_bits 1 = .ok (.iconst 4, 1) := by decide +kernel
theorem md_M_bits_2 : decode mc_M_bits 2 = .ok (.invokestatic 167, 3) := by decide +kernel
theorem md_M_bits_5 : decode mc_M_bits 5 = .ok (.ifCond .eq 12, 3) := by decide +kernel
theorem md_M_bits_8 : decode mc_M_bits 8 = .ok (.iload_n 2, 1) := by decide +kernel
theorem md_M_bits_9 : decode mc_M_bits 9 = .ok (.bipush 6, 2) := by decide +kernel
theorem md_M_bits_11 : decode mc_M_bits 11 = .ok (.invokestatic 167, 3) := by decide +kernel
theorem md_M_bits_14 : decode mc_M_bits 14 = .ok (.ifCond .ne 5, 3) := by decide +kernel
theorem md_M_bits_17 : decode mc_M_bits 17 = .ok (.lconst 0, 1) := by decide +kernel
theorem md_M_bits_18 : decode mc_M_bits 18 = .ok (.lreturn, 1) := by decide +kernel
theorem md_M_bits_19 : decode mc_M_bits 19 = .ok (.iload_n 1, 1) := by decide +kernel
theorem md_M_bits_20 : decode mc_M_bits 20 = .ok (.ifCond .ne 14, 3) := by decide +kernel
theorem md_M_bits_23 : decode mc_M_bits 23 = .ok (.aload_n 0, 1) := by decide +kernel
theorem md_M_bits_24 : decode mc_M_bits 24 = .ok (.getfield 7, 3) := by decide +kernel
theorem md_M_bits_27 : decode mc_M_bits 27 = .ok (.iload_n 2, 1) := by decide +kernel
theorem md_M_bits_28 : decode mc_M_bits 28 = .ok (.laload, 1) := by decide +kernel
theorem md_M_bits_29 : decode mc_M_bits 29 = .ok (.l2i, 1) := by decide +kernel
theorem md_M_bits_30 : decode mc_M_bits 30 = .ok (.i2l, 1) := by decide +kernel
theorem md_M_bits_31 : decode mc_M_bits 31 = .ok (.goto 14, 3) := by decide +kernel
theorem md_M_bits_34 : decode mc_M_bits 34 = .ok (.aload_n 0, 1) := by decide +kernel
theorem md_M_bits_35 : decode mc_M_bits 35 = .ok (.getfield 7, 3) := by decide +kernel
theorem md_M_bits_38 : decode mc_M_bits 38 = .ok (.iload_n 1, 1) := by decide +kernel
theorem md_M_bits_39 : decode mc_M_bits 39 = .ok (.bipush 6, 2) := by decide +kernel
theorem md_M_bits_41 : decode mc_M_bits 41 = .ok (.imul, 1) := by decide +kernel
theorem md_M_bits_42 : decode mc_M_bits 42 = .ok (.iload_n 2, 1) := by decide +kernel
theorem md_M_bits_43 : decode mc_M_bits 43 = .ok (.iadd, 1) := by decide +kernel
theorem md_M_bits_44 : decode mc_M_bits 44 = .ok (.laload, 1) := by decide +kernel
theorem md_M_bits_45 : decode mc_M_bits 45 = .ok (.lreturn, 1) := by decide +kernel
abbrev mc_M_operate : ByteArray := prog_4_method_38_code
def my_M_operate : MethodName := ⟨"NumberProbeModel", "operate", "(IIIII)I"⟩
abbrev mw_M_operate : List Cond := Cond.code my_M_operate mc_M_operate 10 (some .int) :: gw_tbl
theorem md_M_operate_0 : decode mc_M_operate 0 = .ok (.iload_n 1, 1) := by decide +kernel
theorem md_M_operate_1 : decode mc_M_operate 1 = .ok (.iconst 4, 1) := by decide +kernel
theorem md_M_operate_2 : decode mc_M_operate 2 = .ok (.invokestatic 167, 3) := by decide +kernel
theorem md_M_operate_5 : decode mc_M_operate 5 = .ok (.ifCond .eq 51, 3) := by decide +kernel
theorem md_M_operate_8 : decode mc_M_operate 8 = .ok (.iload_n 2, 1) := by decide +kernel
theorem md_M_operate_9 : decode mc_M_operate 9 = .ok (.iload_n 1, 1) := by decide +kernel
theorem md_M_operate_10 : decode mc_M_operate 10 = .ok (.iconst 2, 1) := by decide +kernel
theorem md_M_operate_11 : decode mc_M_operate 11 = .ok (.if_icmp .ge 8, 3) := by decide +kernel
theorem md_M_operate_14 : decode mc_M_operate 14 = .ok (.bipush 9, 2) := by decide +kernel
theorem md_M_operate_16 : decode mc_M_operate 16 = .ok (.goto 5, 3) := by decide +kernel
theorem md_M_operate_19 : decode mc_M_operate 19 = .ok (.bipush 15, 2) := by decide +kernel
theorem md_M_operate_21 : decode mc_M_operate 21 = .ok (.invokestatic 167, 3) := by decide +kernel
theorem md_M_operate_24 : decode mc_M_operate 24 = .ok (.ifCond .eq 32, 3) := by decide +kernel
theorem md_M_operate_27 : decode mc_M_operate 27 = .ok (.iload_n 3, 1) := by decide +kernel
theorem md_M_operate_28 : decode mc_M_operate 28 = .ok (.bipush 6, 2) := by decide +kernel
theorem md_M_operate_30 : decode mc_M_operate 30 = .ok (.invokestatic 167, 3) := by decide +kernel
theorem md_M_operate_33 : decode mc_M_operate 33 = .ok (.ifCond .eq 23, 3) := by decide +kernel
theorem md_M_operate_36 : decode mc_M_operate 36 = .ok (.iload 4, 2) := by decide +kernel
theorem md_M_operate_38 : decode mc_M_operate 38 = .ok (.bipush 6, 2) := by decide +kernel
theorem md_M_operate_40 : decode mc_M_operate 40 = .ok (.invokestatic 167, 3) := by decide +kernel
theorem md_M_operate_43 : decode mc_M_operate 43 = .ok (.ifCond .eq 13, 3) := by decide +kernel
theorem md_M_operate_46 : decode mc_M_operate 46 = .ok (.iload 5, 2) := by decide +kernel
theorem md_M_operate_48 : decode mc_M_operate 48 = .ok (.bipush 6, 2) := by decide +kernel
theorem md_M_operate_50 : decode mc_M_operate 50 = .ok (.invokestatic 167, 3) := by decide +kernel
theorem md_M_operate_53 : decode mc_M_operate 53 = .ok (.ifCond .ne 5, 3) := by decide +kernel
theorem md_M_operate_56 : decode mc_M_operate 56 = .ok (.iconst (-1), 1) := by decide +kernel
theorem md_M_operate_57 : decode mc_M_operate 57 = .ok (.ireturn, 1) := by decide +kernel
theorem md_M_operate_58 : decode mc_M_operate 58 = .ok (.aload_n 0, 1) := by decide +kernel
theorem md_M_operate_59 : decode mc_M_operate 59 = .ok (.getfield 7, 3) := by decide +kernel
theorem md_M_operate_62 : decode mc_M_operate 62 = .ok (.iload_n 1, 1) := by decide +kernel
theorem md_M_operate_63 : decode mc_M_operate 63 = .ok (.bipush 6, 2) := by decide +kernel
theorem md_M_operate_65 : decode mc_M_operate 65 = .ok (.imul, 1) := by decide +kernel
theorem md_M_operate_66 : decode mc_M_operate 66 = .ok (.iload_n 3, 1) := by decide +kernel
theorem md_M_operate_67 : decode mc_M_operate 67 = .ok (.iadd, 1) := by decide +kernel
theorem md_M_operate_68 : decode mc_M_operate 68 = .ok (.laload, 1) := by decide +kernel
theorem md_M_operate_69 : decode mc_M_operate 69 = .ok (.lstore 6, 2) := by decide +kernel
theorem md_M_operate_71 : decode mc_M_operate 71 = .ok (.aload_n 0, 1) := by decide +kernel
theorem md_M_operate_72 : decode mc_M_operate 72 = .ok (.getfield 7, 3) := by decide +kernel
theorem md_M_operate_75 : decode mc_M_operate 75 = .ok (.iload_n 1, 1) := by decide +kernel
theorem md_M_operate_76 : decode mc_M_operate 76 = .ok (.bipush 6, 2) := by decide +kernel
theorem md_M_operate_78 : decode mc_M_operate 78 = .ok (.imul, 1) := by decide +kernel
theorem md_M_operate_79 : decode mc_M_operate 79 = .ok (.iload 4, 2) := by decide +kernel
theorem md_M_operate_81 : decode mc_M_operate 81 = .ok (.iadd, 1) := by decide +kernel
theorem md_M_operate_82 : decode mc_M_operate 82 = .ok (.laload, 1) := by decide +kernel
theorem md_M_operate_83 : decode mc_M_operate 83 = .ok (.lstore 8, 2) := by decide +kernel
theorem md_M_operate_85 : decode mc_M_operate 85 = .ok (.iload_n 1, 1) := by decide +kernel
theorem md_M_operate_86 : decode mc_M_operate 86 = .ok (.iconst 1, 1) := by decide +kernel
theorem md_M_operate_87 : decode mc_M_operate 87 = .ok (.if_icmp .le 23, 3) := by decide +kernel
theorem md_M_operate_90 : decode mc_M_operate 90 = .ok (.iload_n 2, 1) := by decide +kernel
theorem md_M_operate_91 : decode mc_M_operate 91 = .ok (.iconst 3, 1) := by decide +kernel
theorem md_M_operate_92 : decode mc_M_operate 92 = .ok (.if_icmp .eq 8, 3) := by decide +kernel
theorem md_M_operate_95 : decode mc_M_operate 95 = .ok (.iload_n 2, 1) := by decide +kernel
theorem md_M_operate_96 : decode mc_M_operate 96 = .ok (.iconst 4, 1) := by decide +kernel
theorem md_M_operate_97 : decode mc_M_operate 97 = .ok (.if_icmp .ne 13, 3) := by decide +kernel
theorem md_M_operate_100 : decode mc_M_operate 100 = .ok (.lload 8, 2) := by decide +kernel
theorem md_M_operate_102 : decode mc_M_operate 102 = .ok (.lconst 0, 1) := by decide +kernel
theorem md_M_operate_103 : decode mc_M_operate 103 = .ok (.lcmp, 1) := by decide +kernel
theorem md_M_operate_104 : decode mc_M_operate 104 = .ok (.ifCond .ne 6, 3) := by decide +kernel
theorem md_M_operate_107 : decode mc_M_operate 107 = .ok (.bipush (-2), 2) := by decide +kernel
theorem md_M_operate_109 : decode mc_M_operate 109 = .ok (.ireturn, 1) := by decide +kernel
theorem md_M_operate_110 : decode mc_M_operate 110 = .ok (.aload_n 0, 1) := by decide +kernel
theorem md_M_operate_111 : decode mc_M_operate 111 = .ok (.getfield 7, 3) := by decide +kernel
theorem md_M_operate_114 : decode mc_M_operate 114 = .ok (.iload_n 1, 1) := by decide +kernel
theorem md_M_operate_115 : decode mc_M_operate 115 = .ok (.bipush 6, 2) := by decide +kernel
theorem md_M_operate_117 : decode mc_M_operate 117 = .ok (.imul, 1) := by decide +kernel
theorem md_M_operate_118 : decode mc_M_operate 118 = .ok (.iload 5, 2) := by decide +kernel
theorem md_M_operate_120 : decode mc_M_operate 120 = .ok (.iadd, 1) := by decide +kernel
theorem md_M_operate_121 : decode mc_M_operate 121 = .ok (.iload_n 1, 1) := by decide +kernel
theorem md_M_operate_122 : decode mc_M_operate 122 = .ok (.iconst 2, 1) := by decide +kernel
theorem md_M_operate_123 : decode mc_M_operate 123 = .ok (.if_icmp .ge 16, 3) := by decide +kernel
theorem md_M_operate_126 : decode mc_M_operate 126 = .ok (.aload_n 0, 1) := by decide +kernel
theorem md_M_operate_127 : decode mc_M_operate 127 = .ok (.iload_n 1, 1) := by decide +kernel
theorem md_M_operate_128 : decode mc_M_operate 128 = .ok (.iload_n 2, 1) := by decide +kernel
theorem md_M_operate_129 : decode mc_M_operate 129 = .ok (.lload 6, 2) := by decide +kernel
theorem md_M_operate_131 : decode mc_M_operate 131 = .ok (.lload 8, 2) := by decide +kernel
theorem md_M_operate_133 : decode mc_M_operate 133 = .ok (.invokevirtual 208, 3) := by decide +kernel
theorem md_M_operate_136 : decode mc_M_operate 136 = .ok (.goto 16, 3) := by decide +kernel
theorem md_M_operate_139 : decode mc_M_operate 139 = .ok (.iload_n 1, 1) := by decide +kernel
theorem md_M_operate_140 : decode mc_M_operate 140 = .ok (.iload_n 1, 1) := by decide +kernel
theorem md_M_operate_141 : decode mc_M_operate 141 = .ok (.iload_n 2, 1) := by decide +kernel
theorem md_M_operate_142 : decode mc_M_operate 142 = .ok (.lload 6, 2) := by decide +kernel
theorem md_M_operate_144 : decode mc_M_operate 144 = .ok (.lload 8, 2) := by decide +kernel
theorem md_M_operate_146 : decode mc_M_operate 146 = .ok (.invokestatic 212, 3) := by decide +kernel
theorem md_M_operate_149 : decode mc_M_operate 149 = .ok (.invokestatic 154, 3) := by decide +kernel
theorem md_M_operate_152 : decode mc_M_operate 152 = .ok (.lastore, 1) := by decide +kernel
theorem md_M_operate_153 : decode mc_M_operate 153 = .ok (.iconst 0, 1) := by decide +kernel
theorem md_M_operate_154 : decode mc_M_operate 154 = .ok (.ireturn, 1) := by decide +kernel
abbrev mc_M_rank : ByteArray := prog_4_method_39_code
def my_M_rank : MethodName := ⟨"NumberProbeModel", "rank", "(I)I"⟩
abbrev mw_M_rank : List Cond := Cond.code my_M_rank mc_M_rank 1 (some .int) :: gw_tbl
theorem md_M_rank_0 : decode mc_M_rank 0 = .ok (.iload_n 0, 1) := by decide +kernel
theorem md_M_rank_1 : decode mc_M_rank 1 = .ok (.iconst 2, 1) := by decide +kernel
theorem md_M_rank_2 : decode mc_M_rank 2 = .ok (.iadd, 1) := by decide +kernel
theorem md_M_rank_3 : decode mc_M_rank 3 = .ok (.iconst 4, 1) := by decide +kernel
theorem md_M_rank_4 : decode mc_M_rank 4 = .ok (.irem, 1) := by decide +kernel
theorem md_M_rank_5 : decode mc_M_rank 5 = .ok (.ireturn, 1) := by decide +kernel
abbrev mc_M_assign : ByteArray := prog_4_method_40_code
def my_M_assign : MethodName := ⟨"NumberProbeModel", "assign", "(IIIII)I"⟩
abbrev mw_M_assign : List Cond := Cond.code my_M_assign mc_M_assign 13 (some .int) :: gw_tbl
theorem md_M_assign_0 : decode mc_M_assign 0 = .ok (.iload_n 1, 1) := by decide +kernel
theorem md_M_assign_1 : decode mc_M_assign 1 = .ok (.iconst 4, 1) := by decide +kernel
theorem md_M_assign_2 : decode mc_M_assign 2 = .ok (.invokestatic 167, 3) := by decide +kernel
theorem md_M_assign_5 : decode mc_M_assign 5 = .ok (.ifCond .eq 39, 3) := by decide +kernel
theorem md_M_assign_8 : decode mc_M_assign 8 = .ok (.iload_n 2, 1) := by decide +kernel
theorem md_M_assign_9 : decode mc_M_assign 9 = .ok (.bipush 6, 2) := by decide +kernel
theorem md_M_assign_11 : decode mc_M_assign 11 = .ok (.invokestatic 167, 3) := by decide +kernel
theorem md_M_assign_14 : decode mc_M_assign 14 = .ok (.ifCond .eq 30, 3) := by decide +kernel
theorem md_M_assign_17 : decode mc_M_assign 17 = .ok (.iload_n 3, 1) := by decide +kernel
theorem md_M_assign_18 : decode mc_M_assign 18 = .ok (.iconst 4, 1) := by decide +kernel
theorem md_M_assign_19 : decode mc_M_assign 19 = .ok (.invokestatic 167, 3) := by decide +kernel
theorem md_M_assign_22 : decode mc_M_assign 22 = .ok (.ifCond .eq 22, 3) := by decide +kernel
theorem md_M_assign_25 : decode mc_M_assign 25 = .ok (.iload 4, 2) := by decide +kernel
theorem md_M_assign_27 : decode mc_M_assign 27 = .ok (.iconst 4, 1) := by decide +kernel
theorem md_M_assign_28 : decode mc_M_assign 28 = .ok (.invokestatic 167, 3) := by decide +kernel
theorem md_M_assign_31 : decode mc_M_assign 31 = .ok (.ifCond .eq 13, 3) := by decide +kernel
theorem md_M_assign_34 : decode mc_M_assign 34 = .ok (.iload 5, 2) := by decide +kernel
theorem md_M_assign_36 : decode mc_M_assign 36 = .ok (.bipush 6, 2) := by decide +kernel
theorem md_M_assign_38 : decode mc_M_assign 38 = .ok (.invokestatic 167, 3) := by decide +kernel
theorem md_M_assign_41 : decode mc_M_assign 41 = .ok (.ifCond .ne 5, 3) := by decide +kernel
theorem md_M_assign_44 : decode mc_M_assign 44 = .ok (.iconst (-1), 1) := by decide +kernel
theorem md_M_assign_45 : decode mc_M_assign 45 = .ok (.ireturn, 1) := by decide +kernel
theorem md_M_assign_46 : decode mc_M_assign 46 = .ok (.iload_n 1, 1) := by decide +kernel
theorem md_M_assign_47 : decode mc_M_assign 47 = .ok (.invokestatic 215, 3) := by decide +kernel
theorem md_M_assign_50 : decode mc_M_assign 50 = .ok (.iload 4, 2) := by decide +kernel
theorem md_M_assign_52 : decode mc_M_assign 52 = .ok (.invokestatic 215, 3) := by decide +kernel
theorem md_M_assign_55 : decode mc_M_assign 55 = .ok (.if_icmp .le 7, 3) := by decide +kernel
theorem md_M_assign_58 : decode mc_M_assign 58 = .ok (.iload_n 1, 1) := by decide +kernel
theorem md_M_assign_59 : decode mc_M_assign 59 = .ok (.goto 5, 3) := by decide +kernel
theorem md_M_assign_62 : decode mc_M_assign 62 = .ok (.iload 4, 2) := by decide +kernel
theorem md_M_assign_64 : decode mc_M_assign 64 = .ok (.istore 6, 2) := by decide +kernel
theorem md_M_assign_66 : decode mc_M_assign 66 = .ok (.aload_n 0, 1) := by decide +kernel
theorem md_M_assign_67 : decode mc_M_assign 67 = .ok (.iload_n 1, 1) := by decide +kernel
theorem md_M_assign_68 : decode mc_M_assign 68 = .ok (.aload_n 0, 1) := by decide +kernel
theorem md_M_assign_69 : decode mc_M_assign 69 = .ok (.getfield 7, 3) := by decide +kernel
theorem md_M_assign_72 : decode mc_M_assign 72 = .ok (.iload_n 1, 1) := by decide +kernel
theorem md_M_assign_73 : decode mc_M_assign 73 = .ok (.bipush 6, 2) := by decide +kernel
theorem md_M_assign_75 : decode mc_M_assign 75 = .ok (.imul, 1) := by decide +kernel
theorem md_M_assign_76 : decode mc_M_assign 76 = .ok (.iload_n 2, 1) := by decide +kernel
theorem md_M_assign_77 : decode mc_M_assign 77 = .ok (.iadd, 1) := by decide +kernel
theorem md_M_assign_78 : decode mc_M_assign 78 = .ok (.laload, 1) := by decide +kernel
theorem md_M_assign_79 : decode mc_M_assign 79 = .ok (.iload 6, 2) := by decide +kernel
theorem md_M_assign_81 : decode mc_M_assign 81 = .ok (.invokevirtual 218, 3) := by decide +kernel
theorem md_M_assign_84 : decode mc_M_assign 84 = .ok (.lstore 7, 2) := by decide +kernel
theorem md_M_assign_86 : decode mc_M_assign 86 = .ok (.aload_n 0, 1) := by decide +kernel
theorem md_M_assign_87 : decode mc_M_assign 87 = .ok (.iload 4, 2) := by decide +kernel
theorem md_M_assign_89 : decode mc_M_assign 89 = .ok (.aload_n 0, 1) := by decide +kernel
theorem md_M_assign_90 : decode mc_M_assign 90 = .ok (.getfield 7, 3) := by decide +kernel
theorem md_M_assign_93 : decode mc_M_assign 93 = .ok (.iload 4, 2) := by decide +kernel
theorem md_M_assign_95 : decode mc_M_assign 95 = .ok (.bipush 6, 2) := by decide +kernel
theorem md_M_assign_97 : decode mc_M_assign 97 = .ok (.imul, 1) := by decide +kernel
theorem md_M_assign_98 : decode mc_M_assign 98 = .ok (.iload 5, 2) := by decide +kernel
theorem md_M_assign_100 : decode mc_M_assign 100 = .ok (.iadd, 1) := by decide +kernel
theorem md_M_assign_101 : decode mc_M_assign 101 = .ok (.laload, 1) := by decide +kernel
theorem md_M_assign_102 : decode mc_M_assign 102 = .ok (.iload 6, 2) := by decide +kernel
theorem md_M_assign_104 : decode mc_M_assign 104 = .ok (.invokevirtual 218, 3) := by decide +kernel
theorem md_M_assign_107 : decode mc_M_assign 107 = .ok (.lstore 9, 2) := by decide +kernel
theorem md_M_assign_109 : decode mc_M_assign 109 = .ok (.iload 6, 2) := by decide +kernel
theorem md_M_assign_111 : decode mc_M_assign 111 = .ok (.iconst 1, 1) := by decide +kernel
theorem md_M_assign_112 : decode mc_M_assign 112 = .ok (.if_icmp .le 18, 3) := by decide +kernel
theorem md_M_assign_115 : decode mc_M_assign 115 = .ok (.iload_n 3, 1) := by decide +kernel
theorem md_M_assign_116 : decode mc_M_assign 116 = .ok (.iconst 3, 1) := by decide +kernel
theorem md_M_assign_117 : decode mc_M_assign 117 = .ok (.if_icmp .ne 13, 3) := by decide +kernel
theorem md_M_assign_120 : decode mc_M_assign 120 = .ok (.lload 9, 2) := by decide +kernel
theorem md_M_assign_122 : decode mc_M_assign 122 = .ok (.lconst 0, 1) := by decide +kernel
theorem md_M_assign_123 : decode mc_M_assign 123 = .ok (.lcmp, 1) := by decide +kernel
theorem md_M_assign_124 : decode mc_M_assign 124 = .ok (.ifCond .ne 6, 3) := by decide +kernel
theorem md_M_assign_127 : decode mc_M_assign 127 = .ok (.bipush (-2), 2) := by decide +kernel
theorem md_M_assign_129 : decode mc_M_assign 129 = .ok (.ireturn, 1) := by decide +kernel
theorem md_M_assign_130 : decode mc_M_assign 130 = .ok (.iload 6, 2) := by decide +kernel
theorem md_M_assign_132 : decode mc_M_assign 132 = .ok (.iconst 2, 1) := by decide +kernel
theorem md_M_assign_133 : decode mc_M_assign 133 = .ok (.if_icmp .ge 17, 3) := by decide +kernel
theorem md_M_assign_136 : decode mc_M_assign 136 = .ok (.aload_n 0, 1) := by decide +kernel
theorem md_M_assign_137 : decode mc_M_assign 137 = .ok (.iload 6, 2) := by decide +kernel
theorem md_M_assign_139 : decode mc_M_assign 139 = .ok (.iload_n 3, 1) := by decide +kernel
theorem md_M_assign_140 : decode mc_M_assign 140 = .ok (.lload 7, 2) := by decide +kernel
theorem md_M_assign_142 : decode mc_M_assign 142 = .ok (.lload 9, 2) := by decide +kernel
theorem md_M_assign_144 : decode mc_M_assign 144 = .ok (.invokevirtual 208, 3) := by decide +kernel
theorem md_M_assign_147 : decode mc_M_assign 147 = .ok (.goto 18, 3) := by decide +kernel
theorem md_M_assign_150 : decode mc_M_assign 150 = .ok (.iload 6, 2) := by decide +kernel
theorem md_M_assign_152 : decode mc_M_assign 152 = .ok (.iload 6, 2) := by decide +kernel
theorem md_M_assign_154 : decode mc_M_assign 154 = .ok (.iload_n 3, 1) := by decide +kernel
theorem md_M_assign_155 : decode mc_M_assign 155 = .ok (.lload 7, 2) := by decide +kernel
theorem md_M_assign_157 : decode mc_M_assign 157 = .ok (.lload 9, 2) := by decide +kernel
theorem md_M_assign_159 : decode mc_M_assign 159 = .ok (.invokestatic 212, 3) := by decide +kernel
theorem md_M_assign_162 : decode mc_M_assign 162 = .ok (.invokestatic 154, 3) := by decide +kernel
theorem md_M_assign_165 : decode mc_M_assign 165 = .ok (.lstore 11, 2) := by decide +kernel
theorem md_M_assign_167 : decode mc_M_assign 167 = .ok (.aload_n 0, 1) := by decide +kernel
theorem md_M_assign_168 : decode mc_M_assign 168 = .ok (.getfield 7, 3) := by decide +kernel
theorem md_M_assign_171 : decode mc_M_assign 171 = .ok (.iload_n 1, 1) := by decide +kernel
theorem md_M_assign_172 : decode mc_M_assign 172 = .ok (.bipush 6, 2) := by decide +kernel
theorem md_M_assign_174 : decode mc_M_assign 174 = .ok (.imul, 1) := by decide +kernel
theorem md_M_assign_175 : decode mc_M_assign 175 = .ok (.iload_n 2, 1) := by decide +kernel
theorem md_M_assign_176 : decode mc_M_assign 176 = .ok (.iadd, 1) := by decide +kernel
theorem md_M_assign_177 : decode mc_M_assign 177 = .ok (.aload_n 0, 1) := by decide +kernel
theorem md_M_assign_178 : decode mc_M_assign 178 = .ok (.iload 6, 2) := by decide +kernel
theorem md_M_assign_180 : decode mc_M_assign 180 = .ok (.lload 11, 2) := by decide +kernel
theorem md_M_assign_182 : decode mc_M_assign 182 = .ok (.iload_n 1, 1) := by decide +kernel
theorem md_M_assign_183 : decode mc_M_assign 183 = .ok (.invokevirtual 218, 3) := by decide +kernel
theorem md_M_assign_186 : decode mc_M_assign 186 = .ok (.lastore, 1) := by decide +kernel
theorem md_M_assign_187 : decode mc_M_assign 187 = .ok (.iconst 0, 1) := by decide +kernel
theorem md_M_assign_188 : decode mc_M_assign 188 = .ok (.ireturn, 1) := by decide +kernel
abbrev mc_M_convert : ByteArray := prog_4_method_41_code
def my_M_convert : MethodName := ⟨"NumberProbeModel", "convert", "(IIII)I"⟩
abbrev mw_M_convert : List Cond := Cond.code my_M_convert mc_M_convert 5 (some .int) :: gw_tbl
theorem md_M_convert_0 : decode mc_M_convert 0 = .ok (.iload_n 1, 1) := by decide +kernel
theorem md_M_convert_1 : decode mc_M_convert 1 = .ok (.iconst 4, 1) := by decide +kernel
theorem md_M_convert_2 : decode mc_M_convert 2 = .ok (.invokestatic 167, 3) := by decide +kernel
theorem md_M_convert_5 : decode mc_M_convert 5 = .ok (.ifCond .eq 30, 3) := by decide +kernel
theorem md_M_convert_8 : decode mc_M_convert 8 = .ok (.iload_n 2, 1) := by decide +kernel
theorem md_M_convert_9 : decode mc_M_convert 9 = .ok (.bipush 6, 2) := by decide +kernel
theorem md_M_convert_11 : decode mc_M_convert 11 = .ok (.invokestatic 167, 3) := by decide +kernel
theorem md_M_convert_14 : decode mc_M_convert 14 = .ok (.ifCond .eq 21, 3) := by decide +kernel
theorem md_M_convert_17 : decode mc_M_convert 17 = .ok (.iload_n 3, 1) := by decide +kernel
theorem md_M_convert_18 : decode mc_M_convert 18 = .ok (.iconst 4, 1) := by decide +kernel
theorem md_M_convert_19 : decode mc_M_convert 19 = .ok (.invokestatic 167, 3) := by decide +kernel
theorem md_M_convert_22 : decode mc_M_convert 22 = .ok (.ifCond .eq 13, 3) := by decide +kernel
theorem md_M_convert_25 : decode mc_M_convert 25 = .ok (.iload 4, 2) := by decide +kernel
theorem md_M_convert_27 : decode mc_M_convert 27 = .ok (.bipush 6, 2) := by decide +kernel
theorem md_M_convert_29 : decode mc_M_convert 29 = .ok (.invokestatic 167, 3) := by decide +kernel
theorem md_M_convert_32 : decode mc_M_convert 32 = .ok (.ifCond .ne 5, 3) := by decide +kernel
theorem md_M_convert_35 : decode mc_M_convert 35 = .ok (.iconst (-1), 1) := by decide +kernel
theorem md_M_convert_36 : decode mc_M_convert 36 = .ok (.ireturn, 1) := by decide +kernel
theorem md_M_convert_37 : decode mc_M_convert 37 = .ok (.aload_n 0, 1) := by decide +kernel
theorem md_M_convert_38 : decode mc_M_convert 38 = .ok (.getfield 7, 3) := by decide +kernel
theorem md_M_convert_41 : decode mc_M_convert 41 = .ok (.iload_n 3, 1) := by decide +kernel
theorem md_M_convert_42 : decode mc_M_convert 42 = .ok (.bipush 6, 2) := by decide +kernel
theorem md_M_convert_44 : decode mc_M_convert 44 = .ok (.imul, 1) := by decide +kernel
theorem md_M_convert_45 : decode mc_M_convert 45 = .ok (.iload 4, 2) := by decide +kernel
theorem md_M_convert_47 : decode mc_M_convert 47 = .ok (.iadd, 1) := by decide +kernel
theorem md_M_convert_48 : decode mc_M_convert 48 = .ok (.aload_n 0, 1) := by decide +kernel
theorem md_M_convert_49 : decode mc_M_convert 49 = .ok (.iload_n 1, 1) := by decide +kernel
theorem md_M_convert_50 : decode mc_M_convert 50 = .ok (.aload_n 0, 1) := by decide +kernel
theorem md_M_convert_51 : decode mc_M_convert 51 = .ok (.getfield 7, 3) := by decide +kernel
theorem md_M_convert_54 : decode mc_M_convert 54 = .ok (.iload_n 1, 1) := by decide +kernel
theorem md_M_convert_55 : decode mc_M_convert 55 = .ok (.bipush 6, 2) := by decide +kernel
theorem md_M_convert_57 : decode mc_M_convert 57 = .ok (.imul, 1) := by decide +kernel
theorem md_M_convert_58 : decode mc_M_convert 58 = .ok (.iload_n 2, 1) := by decide +kernel
theorem md_M_convert_59 : decode mc_M_convert 59 = .ok (.iadd, 1) := by decide +kernel
theorem md_M_convert_60 : decode mc_M_convert 60 = .ok (.laload, 1) := by decide +kernel
theorem md_M_convert_61 : decode mc_M_convert 61 = .ok (.iload_n 3, 1) := by decide +kernel
theorem md_M_convert_62 : decode mc_M_convert 62 = .ok (.invokevirtual 218, 3) := by decide +kernel
theorem md_M_convert_65 : decode mc_M_convert 65 = .ok (.lastore, 1) := by decide +kernel
theorem md_M_convert_66 : decode mc_M_convert 66 = .ok (.iconst 0, 1) := by decide +kernel
theorem md_M_convert_67 : decode mc_M_convert 67 = .ok (.ireturn, 1) := by decide +kernel
abbrev mc_M_narrow : ByteArray := prog_4_method_42_code
def my_M_narrow : MethodName := ⟨"NumberProbeModel", "narrow", "(III)I"⟩
abbrev mw_M_narrow : List Cond := Cond.code my_M_narrow mc_M_narrow 5 (some .int) :: gw_tbl
theorem md_M_narrow_0 : decode mc_M_narrow 0 = .ok (.iload_n 1, 1) := by decide +kernel
theorem md_M_narrow_1 : decode mc_M_narrow 1 = .ok (.iconst 4, 1) := by decide +kernel
theorem md_M_narrow_2 : decode mc_M_narrow 2 = .ok (.invokestatic 167, 3) := by decide +kernel
theorem md_M_narrow_5 : decode mc_M_narrow 5 = .ok (.ifCond .eq 20, 3) := by decide +kernel
theorem md_M_narrow_8 : decode mc_M_narrow 8 = .ok (.iload_n 2, 1) := by decide +kernel
theorem md_M_narrow_9 : decode mc_M_narrow 9 = .ok (.bipush 6, 2) := by decide +kernel
theorem md_M_narrow_11 : decode mc_M_narrow 11 = .ok (.invokestatic 167, 3) := by decide +kernel
theorem md_M_narrow_14 : decode mc_M_narrow 14 = .ok (.ifCond .eq 11, 3) := by decide +kernel
theorem md_M_narrow_17 : decode mc_M_narrow 17 = .ok (.iload_n 3, 1) := by decide +kernel
theorem md_M_narrow_18 : decode mc_M_narrow 18 = .ok (.iconst 4, 1) := by decide +kernel
theorem md_M_narrow_19 : decode mc_M_narrow 19 = .ok (.invokestatic 167, 3) := by decide +kernel
theorem md_M_narrow_22 : decode mc_M_narrow 22 = .ok (.ifCond .ne 5, 3) := by decide +kernel
theorem md_M_narrow_25 : decode mc_M_narrow 25 = .ok (.iconst 0, 1) := by decide +kernel
theorem md_M_narrow_26 : decode mc_M_narrow 26 = .ok (.ireturn, 1) := by decide +kernel
theorem md_M_narrow_27 : decode mc_M_narrow 27 = .ok (.aload_n 0, 1) := by decide +kernel
theorem md_M_narrow_28 : decode mc_M_narrow 28 = .ok (.iload_n 1, 1) := by decide +kernel
theorem md_M_narrow_29 : decode mc_M_narrow 29 = .ok (.aload_n 0, 1) := by decide +kernel
theorem md_M_narrow_30 : decode mc_M_narrow 30 = .ok (.getfield 7, 3) := by decide +kernel
theorem md_M_narrow_33 : decode mc_M_narrow 33 = .ok (.iload_n 1, 1) := by decide +kernel
theorem md_M_narrow_34 : decode mc_M_narrow 34 = .ok (.bipush 6, 2) := by decide +kernel
theorem md_M_narrow_36 : decode mc_M_narrow 36 = .ok (.imul, 1) := by decide +kernel
theorem md_M_narrow_37 : decode mc_M_narrow 37 = .ok (.iload_n 2, 1) := by decide +kernel
theorem md_M_narrow_38 : decode mc_M_narrow 38 = .ok (.iadd, 1) := by decide +kernel
theorem md_M_narrow_39 : decode mc_M_narrow 39 = .ok (.laload, 1) := by decide +kernel
theorem md_M_narrow_40 : decode mc_M_narrow 40 = .ok (.iconst 2, 1) := by decide +kernel
theorem md_M_narrow_41 : decode mc_M_narrow 41 = .ok (.invokevirtual 218, 3) := by decide +kernel
theorem md_M_narrow_44 : decode mc_M_narrow 44 = .ok (.l2i, 1) := by decide +kernel
theorem md_M_narrow_45 : decode mc_M_narrow 45 = .ok (.istore 4, 2) := by decide +kernel
theorem md_M_narrow_47 : decode mc_M_narrow 47 = .ok (.iload_n 3, 1) := by decide +kernel
theorem md_M_narrow_48 : decode mc_M_narrow 48 = .ok (.ifCond .ne 9, 3) := by decide +kernel
theorem md_M_narrow_51 : decode mc_M_narrow 51 = .ok (.iload 4, 2) := by decide +kernel
theorem md_M_narrow_53 : decode mc_M_narrow 53 = .ok (.i2b, 1) := by decide +kernel
theorem md_M_narrow_54 : decode mc_M_narrow 54 = .ok (.goto 27, 3) := by decide +kernel
theorem md_M_narrow_57 : decode mc_M_narrow 57 = .ok (.iload_n 3, 1) := by decide +kernel
theorem md_M_narrow_58 : decode mc_M_narrow 58 = .ok (.iconst 1, 1) := by decide +kernel
theorem md_M_narrow_59 : decode mc_M_narrow 59 = .ok (.if_icmp .ne 9, 3) := by decide +kernel
theorem md_M_narrow_62 : decode mc_M_narrow 62 = .ok (.iload 4, 2) := by decide +kernel
theorem md_M_narrow_64 : decode mc_M_narrow 64 = .ok (.i2c, 1) := by decide +kernel
theorem md_M_narrow_65 : decode mc_M_narrow 65 = .ok (.goto 16, 3) := by decide +kernel
theorem md_M_narrow_68 : decode mc_M_narrow 68 = .ok (.iload_n 3, 1) := by decide +kernel
theorem md_M_narrow_69 : decode mc_M_narrow 69 = .ok (.iconst 2, 1) := by decide +kernel
theorem md_M_narrow_70 : decode mc_M_narrow 70 = .ok (.if_icmp .ne 9, 3) := by decide +kernel
theorem md_M_narrow_73 : decode mc_M_narrow 73 = .ok (.iload 4, 2) := by decide +kernel
theorem md_M_narrow_75 : decode mc_M_narrow 75 = .ok (.i2s, 1) := by decide +kernel
theorem md_M_narrow_76 : decode mc_M_narrow 76 = .ok (.goto 5, 3) := by decide +kernel
theorem md_M_narrow_79 : decode mc_M_narrow 79 = .ok (.iload 4, 2) := by decide +kernel
theorem md_M_narrow_81 : decode mc_M_narrow 81 = .ok (.ireturn, 1) := by decide +kernel
abbrev mc_M_placeOf : ByteArray := prog_4_method_43_code
def my_M_placeOf : MethodName := ⟨"NumberProbeModel", "placeOf", "(II)J"⟩
abbrev mw_M_placeOf : List Cond := Cond.code my_M_placeOf mc_M_placeOf 3 (some .long) :: gw_tbl
theorem md_M_placeOf_0 : decode mc_M_placeOf 0 = .ok (.iload_n 1, 1) := by decide +kernel
theorem md_M_placeOf_1 : decode mc_M_placeOf 1 = .ok (.iconst 2, 1) := by decide +kernel
theorem md_M_placeOf_2 : decode mc_M_placeOf 2 = .ok (.if_icmp .ge 21, 3) := by decide +kernel
theorem md_M_placeOf_5 : decode mc_M_placeOf 5 = .ok (.iload_n 1, 1) := by decide +kernel
theorem md_M_placeOf_6 : decode mc_M_placeOf 6 = .ok (.aload_n 0, 1) := by decide +kernel
theorem md_M_placeOf_7 : decode mc_M_placeOf 7 = .ok (.getfield 7, 3) := by decide +kernel
theorem md_M_placeOf_10 : decode mc_M_placeOf 10 = .ok (.iload_n 1, 1) := by decide +kernel
theorem md_M_placeOf_11 : decode mc_M_placeOf 11 = .ok (.bipush 6, 2) := by decide +kernel
theorem md_M_placeOf_13 : decode mc_M_placeOf 13 = .ok (.imul, 1) := by decide +kernel
theorem md_M_placeOf_14 : decode mc_M_placeOf 14 = .ok (.iload_n 2, 1) := by decide +kernel
theorem md_M_placeOf_15 : decode mc_M_placeOf 15 = .ok (.iadd, 1) := by decide +kernel
theorem md_M_placeOf_16 : decode mc_M_placeOf 16 = .ok (.laload, 1) := by decide +kernel
theorem md_M_placeOf_17 : decode mc_M_placeOf 17 = .ok (.invokestatic 143, 3) := by decide +kernel
theorem md_M_placeOf_20 : decode mc_M_placeOf 20 = .ok (.goto 14, 3) := by decide +kernel
theorem md_M_placeOf_23 : decode mc_M_placeOf 23 = .ok (.aload_n 0, 1) := by decide +kernel
theorem md_M_placeOf_24 : decode mc_M_placeOf 24 = .ok (.getfield 7, 3) := by decide +kernel
theorem md_M_placeOf_27 : decode mc_M_placeOf 27 = .ok (.iload_n 1, 1) := by decide +kernel
theorem md_M_placeOf_28 : decode mc_M_placeOf 28 = .ok (.bipush 6, 2) := by decide +kernel
theorem md_M_placeOf_30 : decode mc_M_placeOf 30 = .ok (.imul, 1) := by decide +kernel
theorem md_M_placeOf_31 : decode mc_M_placeOf 31 = .ok (.iload_n 2, 1) := by decide +kernel
theorem md_M_placeOf_32 : decode mc_M_placeOf 32 = .ok (.iadd, 1) := by decide +kernel
theorem md_M_placeOf_33 : decode mc_M_placeOf 33 = .ok (.laload, 1) := by decide +kernel
theorem md_M_placeOf_34 : decode mc_M_placeOf 34 = .ok (.lreturn, 1) := by decide +kernel
abbrev mc_M_compare : ByteArray := prog_4_method_44_code
def my_M_compare : MethodName := ⟨"NumberProbeModel", "compare", "(III)I"⟩
abbrev mw_M_compare : List Cond := Cond.code my_M_compare mc_M_compare 8 (some .int) :: gw_tbl
theorem md_M_compare_0 : decode mc_M_compare 0 = .ok (.iload_n 1, 1) := by decide +kernel
theorem md_M_compare_1 : decode mc_M_compare 1 = .ok (.iconst 4, 1) := by decide +kernel
theorem md_M_compare_2 : decode mc_M_compare 2 = .ok (.invokestatic 167, 3) := by decide +kernel
theorem md_M_compare_5 : decode mc_M_compare 5 = .ok (.ifCond .eq 21, 3) := by decide +kernel
theorem md_M_compare_8 : decode mc_M_compare 8 = .ok (.iload_n 2, 1) := by decide +kernel
theorem md_M_compare_9 : decode mc_M_compare 9 = .ok (.bipush 6, 2) := by decide +kernel
theorem md_M_compare_11 : decode mc_M_compare 11 = .ok (.invokestatic 167, 3) := by decide +kernel
theorem md_M_compare_14 : decode mc_M_compare 14 = .ok (.ifCond .eq 12, 3) := by decide +kernel
theorem md_M_compare_17 : decode mc_M_compare 17 = .ok (.iload_n 3, 1) := by decide +kernel
theorem md_M_compare_18 : decode mc_M_compare 18 = .ok (.bipush 6, 2) := by decide +kernel
theorem md_M_compare_20 : decode mc_M_compare 20 = .ok (.invokestatic 167, 3) := by decide +kernel
theorem md_M_compare_23 : decode mc_M_compare 23 = .ok (.ifCond .ne 5, 3) := by decide +kernel
theorem md_M_compare_26 : decode mc_M_compare 26 = .ok (.iconst (-1), 1) := by decide +kernel
theorem md_M_compare_27 : decode mc_M_compare 27 = .ok (.ireturn, 1) := by decide +kernel
theorem md_M_compare_28 : decode mc_M_compare 28 = .ok (.aload_n 0, 1) := by decide +kernel
theorem md_M_compare_29 : decode mc_M_compare 29 = .ok (.iload_n 1, 1) := by decide +kernel
theorem md_M_compare_30 : decode mc_M_compare 30 = .ok (.iload_n 2, 1) := by decide +kernel
theorem md_M_compare_31 : decode mc_M_compare 31 = .ok (.invokevirtual 222, 3) := by decide +kernel
theorem md_M_compare_34 : decode mc_M_compare 34 = .ok (.lstore 4, 2) := by decide +kernel
theorem md_M_compare_36 : decode mc_M_compare 36 = .ok (.aload_n 0, 1) := by decide +kernel
theorem md_M_compare_37 : decode mc_M_compare 37 = .ok (.iload_n 1, 1) := by decide +kernel
theorem md_M_compare_38 : decode mc_M_compare 38 = .ok (.iload_n 3, 1) := by decide +kernel
theorem md_M_compare_39 : decode mc_M_compare 39 = .ok (.invokevirtual 222, 3) := by decide +kernel
theorem md_M_compare_42 : decode mc_M_compare 42 = .ok (.lstore 6, 2) := by decide +kernel
theorem md_M_compare_44 : decode mc_M_compare 44 = .ok (.iload_n 1, 1) := by decide +kernel
theorem md_M_compare_45 : decode mc_M_compare 45 = .ok (.iconst 2, 1) := by decide +kernel
theorem md_M_compare_46 : decode mc_M_compare 46 = .ok (.if_icmp .ge 43, 3) := by decide +kernel
theorem md_M_compare_49 : decode mc_M_compare 49 = .ok (.iload_n 1, 1) := by decide +kernel
theorem md_M_compare_50 : decode mc_M_compare 50 = .ok (.aload_n 0, 1) := by decide +kernel
theorem md_M_compare_51 : decode mc_M_compare 51 = .ok (.getfield 7, 3) := by decide +kernel
theorem md_M_compare_54 : decode mc_M_compare 54 = .ok (.iload_n 1, 1) := by decide +kernel
theorem md_M_compare_55 : decode mc_M_compare 55 = .ok (.bipush 6, 2) := by decide +kernel
theorem md_M_compare_57 : decode mc_M_compare 57 = .ok (.imul, 1) := by decide +kernel
theorem md_M_compare_58 : decode mc_M_compare 58 = .ok (.iload_n 2, 1) := by decide +kernel
theorem md_M_compare_59 : decode mc_M_compare 59 = .ok (.iadd, 1) := by decide +kernel
theorem md_M_compare_60 : decode mc_M_compare 60 = .ok (.laload, 1) := by decide +kernel
theorem md_M_compare_61 : decode mc_M_compare 61 = .ok (.invokestatic 51, 3) := by decide +kernel
theorem md_M_compare_64 : decode mc_M_compare 64 = .ok (.ifCond .ne 21, 3) := by decide +kernel
theorem md_M_compare_67 : decode mc_M_compare 67 = .ok (.iload_n 1, 1) := by decide +kernel
theorem md_M_compare_68 : decode mc_M_compare 68 = .ok (.aload_n 0, 1) := by decide +kernel
theorem md_M_compare_69 : decode mc_M_compare 69 = .ok (.getfield 7, 3) := by decide +kernel
theorem md_M_compare_72 : decode mc_M_compare 72 = .ok (.iload_n 1, 1) := by decide +kernel
theorem md_M_compare_73 : decode mc_M_compare 73 = .ok (.bipush 6, 2) := by decide +kernel
theorem md_M_compare_75 : decode mc_M_compare 75 = .ok (.imul, 1) := by decide +kernel
theorem md_M_compare_76 : decode mc_M_compare 76 = .ok (.iload_n 3, 1) := by decide +kernel
theorem md_M_compare_77 : decode mc_M_compare 77 = .ok (.iadd, 1) := by decide +kernel
theorem md_M_compare_78 : decode mc_M_compare 78 = .ok (.laload, 1) := by decide +kernel
theorem md_M_compare_79 : decode mc_M_compare 79 = .ok (.invokestatic 51, 3) := by decide +kernel
theorem md_M_compare_82 : decode mc_M_compare 82 = .ok (.ifCond .eq 7, 3) := by decide +kernel
theorem md_M_compare_85 : decode mc_M_compare 85 = .ok (.sipush 224, 3) := by decide +kernel
theorem md_M_compare_88 : decode mc_M_compare 88 = .ok (.ireturn, 1) := by decide +kernel
theorem md_M_compare_89 : decode mc_M_compare 89 = .ok (.iload_n 1, 1) := by decide +kernel
theorem md_M_compare_90 : decode mc_M_compare 90 = .ok (.iconst 2, 1) := by decide +kernel
theorem md_M_compare_91 : decode mc_M_compare 91 = .ok (.if_icmp .ge 15, 3) := by decide +kernel
theorem md_M_compare_94 : decode mc_M_compare 94 = .ok (.lload 4, 2) := by decide +kernel
theorem md_M_compare_96 : decode mc_M_compare 96 = .ok (.ldc2_w 125, 3) := by decide +kernel
theorem md_M_compare_99 : decode mc_M_compare 99 = .ok (.lcmp, 1) := by decide +kernel
theorem md_M_compare_100 : decode mc_M_compare 100 = .ok (.ifCond .ne 6, 3) := by decide +kernel
theorem md_M_compare_103 : decode mc_M_compare 103 = .ok (.lconst 0, 1) := by decide +kernel
theorem md_M_compare_104 : decode mc_M_compare 104 = .ok (.lstore 4, 2) := by decide +kernel
theorem md_M_compare_106 : decode mc_M_compare 106 = .ok (.iload_n 1, 1) := by decide +kernel
theorem md_M_compare_107 : decode mc_M_compare 107 = .ok (.iconst 2, 1) := by decide +kernel
theorem md_M_compare_108 : decode mc_M_compare 108 = .ok (.if_icmp .ge 15, 3) := by decide +kernel
theorem md_M_compare_111 : decode mc_M_compare 111 = .ok (.lload 6, 2) := by decide +kernel
theorem md_M_compare_113 : decode mc_M_compare 113 = .ok (.ldc2_w 125, 3) := by decide +kernel
theorem md_M_compare_116 : decode mc_M_compare 116 = .ok (.lcmp, 1) := by decide +kernel
theorem md_M_compare_117 : decode mc_M_compare 117 = .ok (.ifCond .ne 6, 3) := by decide +kernel
theorem md_M_compare_120 : decode mc_M_compare 120 = .ok (.lconst 0, 1) := by decide +kernel
theorem md_M_compare_121 : decode mc_M_compare 121 = .ok (.lstore 6, 2) := by decide +kernel
theorem md_M_compare_123 : decode mc_M_compare 123 = .ok (.lload 4, 2) := by decide +kernel
theorem md_M_compare_125 : decode mc_M_compare 125 = .ok (.lload 6, 2) := by decide +kernel
theorem md_M_compare_127 : decode mc_M_compare 127 = .ok (.lcmp, 1) := by decide +kernel
theorem md_M_compare_128 : decode mc_M_compare 128 = .ok (.ifCond .ge 9, 3) := by decide +kernel
theorem md_M_compare_131 : decode mc_M_compare 131 = .ok (.sipush 163, 3) := by decide +kernel
theorem md_M_compare_134 : decode mc_M_compare 134 = .ok (.goto 18, 3) := by decide +kernel
theorem md_M_compare_137 : decode mc_M_compare 137 = .ok (.lload 4, 2) := by decide +kernel
theorem md_M_compare_139 : decode mc_M_compare 139 = .ok (.lload 6, 2) := by decide +kernel
theorem md_M_compare_141 : decode mc_M_compare 141 = .ok (.lcmp, 1) := by decide +kernel
theorem md_M_compare_142 : decode mc_M_compare 142 = .ok (.ifCond .le 8, 3) := by decide +kernel
theorem md_M_compare_145 : decode mc_M_compare 145 = .ok (.bipush 108, 2) := by decide +kernel
theorem md_M_compare_147 : decode mc_M_compare 147 = .ok (.goto 5, 3) := by decide +kernel
theorem md_M_compare_150 : decode mc_M_compare 150 = .ok (.bipush 90, 2) := by decide +kernel
theorem md_M_compare_152 : decode mc_M_compare 152 = .ok (.ireturn, 1) := by decide +kernel
abbrev mc_M_order : ByteArray := prog_4_method_45_code
def my_M_order : MethodName := ⟨"NumberProbeModel", "order", "(III)I"⟩
abbrev mw_M_order : List Cond := Cond.code my_M_order mc_M_order 8 (some .int) :: gw_tbl
theorem md_M_order_0 : decode mc_M_order 0 = .ok (.iload_n 1, 1) := by decide +kernel
theorem md_M_order_1 : decode mc_M_order 1 = .ok (.iconst 4, 1) := by decide +kernel
theorem md_M_order_2 : decode mc_M_order 2 = .ok (.invokestatic 167, 3) := by decide +kernel
theorem md_M_order_5 : decode mc_M_order 5 = .ok (.ifCond .eq 21, 3) := by decide +kernel
theorem md_M_order_8 : decode mc_M_order 8 = .ok (.iload_n 2, 1) := by decide +kernel
theorem md_M_order_9 : decode mc_M_order 9 = .ok (.bipush 6, 2) := by decide +kernel
theorem md_M_order_11 : decode mc_M_order 11 = .ok (.invokestatic 167, 3) := by decide +kernel
theorem md_M_order_14 : decode mc_M_order 14 = .ok (.ifCond .eq 12, 3) := by decide +kernel
theorem md_M_order_17 : decode mc_M_order 17 = .ok (.iload_n 3, 1) := by decide +kernel
theorem md_M_order_18 : decode mc_M_order 18 = .ok (.bipush 6, 2) := by decide +kernel
theorem md_M_order_20 : decode mc_M_order 20 = .ok (.invokestatic 167, 3) := by decide +kernel
theorem md_M_order_23 : decode mc_M_order 23 = .ok (.ifCond .ne 5, 3) := by decide +kernel
theorem md_M_order_26 : decode mc_M_order 26 = .ok (.iconst (-1), 1) := by decide +kernel
theorem md_M_order_27 : decode mc_M_order 27 = .ok (.ireturn, 1) := by decide +kernel
theorem md_M_order_28 : decode mc_M_order 28 = .ok (.aload_n 0, 1) := by decide +kernel
theorem md_M_order_29 : decode mc_M_order 29 = .ok (.iload_n 1, 1) := by decide +kernel
theorem md_M_order_30 : decode mc_M_order 30 = .ok (.iload_n 2, 1) := by decide +kernel
theorem md_M_order_31 : decode mc_M_order 31 = .ok (.invokevirtual 222, 3) := by decide +kernel
theorem md_M_order_34 : decode mc_M_order 34 = .ok (.lstore 4, 2) := by decide +kernel
theorem md_M_order_36 : decode mc_M_order 36 = .ok (.aload_n 0, 1) := by decide +kernel
theorem md_M_order_37 : decode mc_M_order 37 = .ok (.iload_n 1, 1) := by decide +kernel
theorem md_M_order_38 : decode mc_M_order 38 = .ok (.iload_n 3, 1) := by decide +kernel
theorem md_M_order_39 : decode mc_M_order 39 = .ok (.invokevirtual 222, 3) := by decide +kernel
theorem md_M_order_42 : decode mc_M_order 42 = .ok (.lstore 6, 2) := by decide +kernel
theorem md_M_order_44 : decode mc_M_order 44 = .ok (.lload 4, 2) := by decide +kernel
theorem md_M_order_46 : decode mc_M_order 46 = .ok (.lload 6, 2) := by decide +kernel
theorem md_M_order_48 : decode mc_M_order 48 = .ok (.lcmp, 1) := by decide +kernel
theorem md_M_order_49 : decode mc_M_order 49 = .ok (.ifCond .ge 7, 3) := by decide +kernel
theorem md_M_order_52 : decode mc_M_order 52 = .ok (.iconst (-1), 1) := by decide +kernel
theorem md_M_order_53 : decode mc_M_order 53 = .ok (.goto 16, 3) := by decide +kernel
theorem md_M_order_56 : decode mc_M_order 56 = .ok (.lload 4, 2) := by decide +kernel
theorem md_M_order_58 : decode mc_M_order 58 = .ok (.lload 6, 2) := by decide +kernel
theorem md_M_order_60 : decode mc_M_order 60 = .ok (.lcmp, 1) := by decide +kernel
theorem md_M_order_61 : decode mc_M_order 61 = .ok (.ifCond .le 7, 3) := by decide +kernel
theorem md_M_order_64 : decode mc_M_order 64 = .ok (.iconst 1, 1) := by decide +kernel
theorem md_M_order_65 : decode mc_M_order 65 = .ok (.goto 4, 3) := by decide +kernel
theorem md_M_order_68 : decode mc_M_order 68 = .ok (.iconst 0, 1) := by decide +kernel
theorem md_M_order_69 : decode mc_M_order 69 = .ok (.ireturn, 1) := by decide +kernel
abbrev mc_M_sort : ByteArray := prog_4_method_46_code
def my_M_sort : MethodName := ⟨"NumberProbeModel", "sort", "(II)I"⟩
abbrev mw_M_sort : List Cond := Cond.code my_M_sort mc_M_sort 5 (some .int) :: gw_tbl
theorem md_M_sort_0 : decode mc_M_sort 0 = .ok (.iload_n 1, 1) := by decide +kernel
theorem md_M_sort_1 : decode mc_M_sort 1 = .ok (.iconst 4, 1) := by decide +kernel
theorem md_M_sort_2 : decode mc_M_sort 2 = .ok (.invokestatic 167, 3) := by decide +kernel
theorem md_M_sort_5 : decode mc_M_sort 5 = .ok (.ifCond .eq 12, 3) := by decide +kernel
theorem md_M_sort_8 : decode mc_M_sort 8 = .ok (.iload_n 2, 1) := by decide +kernel
theorem md_M_sort_9 : decode mc_M_sort 9 = .ok (.bipush 6, 2) := by decide +kernel
theorem md_M_sort_11 : decode mc_M_sort 11 = .ok (.invokestatic 167, 3) := by decide +kernel
theorem md_M_sort_14 : decode mc_M_sort 14 = .ok (.ifCond .ne 5, 3) := by decide +kernel
theorem md_M_sort_17 : decode mc_M_sort 17 = .ok (.iconst (-1), 1) := by decide +kernel
theorem md_M_sort_18 : decode mc_M_sort 18 = .ok (.ireturn, 1) := by decide +kernel
theorem md_M_sort_19 : decode mc_M_sort 19 = .ok (.iload_n 1, 1) := by decide +kernel
theorem md_M_sort_20 : decode mc_M_sort 20 = .ok (.iconst 1, 1) := by decide +kernel
theorem md_M_sort_21 : decode mc_M_sort 21 = .ok (.if_icmp .le 5, 3) := by decide +kernel
theorem md_M_sort_24 : decode mc_M_sort 24 = .ok (.iconst 0, 1) := by decide +kernel
theorem md_M_sort_25 : decode mc_M_sort 25 = .ok (.ireturn, 1) := by decide +kernel
theorem md_M_sort_26 : decode mc_M_sort 26 = .ok (.aload_n 0, 1) := by decide +kernel
theorem md_M_sort_27 : decode mc_M_sort 27 = .ok (.iload_n 1, 1) := by decide +kernel
theorem md_M_sort_28 : decode mc_M_sort 28 = .ok (.aload_n 0, 1) := by decide +kernel
theorem md_M_sort_29 : decode mc_M_sort 29 = .ok (.getfield 7, 3) := by decide +kernel
theorem md_M_sort_32 : decode mc_M_sort 32 = .ok (.iload_n 1, 1) := by decide +kernel
theorem md_M_sort_33 : decode mc_M_sort 33 = .ok (.bipush 6, 2) := by decide +kernel
theorem md_M_sort_35 : decode mc_M_sort 35 = .ok (.imul, 1) := by decide +kernel
theorem md_M_sort_36 : decode mc_M_sort 36 = .ok (.iload_n 2, 1) := by decide +kernel
theorem md_M_sort_37 : decode mc_M_sort 37 = .ok (.iadd, 1) := by decide +kernel
theorem md_M_sort_38 : decode mc_M_sort 38 = .ok (.laload, 1) := by decide +kernel
theorem md_M_sort_39 : decode mc_M_sort 39 = .ok (.invokevirtual 98, 3) := by decide +kernel
theorem md_M_sort_42 : decode mc_M_sort 42 = .ok (.aload_n 0, 1) := by decide +kernel
theorem md_M_sort_43 : decode mc_M_sort 43 = .ok (.getfield 54, 3) := by decide +kernel
theorem md_M_sort_46 : decode mc_M_sort 46 = .ok (.ifCond .eq 5, 3) := by decide +kernel
theorem md_M_sort_49 : decode mc_M_sort 49 = .ok (.iconst 1, 1) := by decide +kernel
theorem md_M_sort_50 : decode mc_M_sort 50 = .ok (.ireturn, 1) := by decide +kernel
theorem md_M_sort_51 : decode mc_M_sort 51 = .ok (.aload_n 0, 1) := by decide +kernel
theorem md_M_sort_52 : decode mc_M_sort 52 = .ok (.getfield 57, 3) := by decide +kernel
theorem md_M_sort_55 : decode mc_M_sort 55 = .ok (.ifCond .eq 7, 3) := by decide +kernel
theorem md_M_sort_58 : decode mc_M_sort 58 = .ok (.iconst 2, 1) := by decide +kernel
theorem md_M_sort_59 : decode mc_M_sort 59 = .ok (.goto 4, 3) := by decide +kernel
theorem md_M_sort_62 : decode mc_M_sort 62 = .ok (.iconst 4, 1) := by decide +kernel
theorem md_M_sort_63 : decode mc_M_sort 63 = .ok (.istore_n 3, 1) := by decide +kernel
theorem md_M_sort_64 : decode mc_M_sort 64 = .ok (.aload_n 0, 1) := by decide +kernel
theorem md_M_sort_65 : decode mc_M_sort 65 = .ok (.getfield 47, 3) := by decide +kernel
theorem md_M_sort_68 : decode mc_M_sort 68 = .ok (.ifCond .eq 6, 3) := by decide +kernel
theorem md_M_sort_71 : decode mc_M_sort 71 = .ok (.iinc 3 32, 3) := by decide +kernel
theorem md_M_sort_74 : decode mc_M_sort 74 = .ok (.aload_n 0, 1) := by decide +kernel
theorem md_M_sort_75 : decode mc_M_sort 75 = .ok (.getfield 57, 3) := by decide +kernel
theorem md_M_sort_78 : decode mc_M_sort 78 = .ok (.ifCond .eq 5, 3) := by decide +kernel
theorem md_M_sort_81 : decode mc_M_sort 81 = .ok (.iload_n 3, 1) := by decide +kernel
theorem md_M_sort_82 : decode mc_M_sort 82 = .ok (.ireturn, 1) := by decide +kernel
theorem md_M_sort_83 : decode mc_M_sort 83 = .ok (.aload_n 0, 1) := by decide +kernel
theorem md_M_sort_84 : decode mc_M_sort 84 = .ok (.getfield 63, 3) := by decide +kernel
theorem md_M_sort_87 : decode mc_M_sort 87 = .ok (.lconst 0, 1) := by decide +kernel
theorem md_M_sort_88 : decode mc_M_sort 88 = .ok (.lcmp, 1) := by decide +kernel
theorem md_M_sort_89 : decode mc_M_sort 89 = .ok (.ifCond .ne 11, 3) := by decide +kernel
theorem md_M_sort_92 : decode mc_M_sort 92 = .ok (.iload_n 3, 1) := by decide +kernel
theorem md_M_sort_93 : decode mc_M_sort 93 = .ok (.bipush 8, 2) := by decide +kernel
theorem md_M_sort_95 : decode mc_M_sort 95 = .ok (.iadd, 1) := by decide +kernel
theorem md_M_sort_96 : decode mc_M_sort 96 = .ok (.bipush 64, 2) := by decide +kernel
theorem md_M_sort_98 : decode mc_M_sort 98 = .ok (.iadd, 1) := by decide +kernel
theorem md_M_sort_99 : decode mc_M_sort 99 = .ok (.ireturn, 1) := by decide +kernel
theorem md_M_sort_100 : decode mc_M_sort 100 = .ok (.aload_n 0, 1) := by decide +kernel
theorem md_M_sort_101 : decode mc_M_sort 101 = .ok (.getfield 63, 3) := by decide +kernel
theorem md_M_sort_104 : decode mc_M_sort 104 = .ok (.lconst 1, 1) := by decide +kernel
theorem md_M_sort_105 : decode mc_M_sort 105 = .ok (.iload_n 1, 1) := by decide +kernel
theorem md_M_sort_106 : decode mc_M_sort 106 = .ok (.invokestatic 36, 3) := by decide +kernel
theorem md_M_sort_109 : decode mc_M_sort 109 = .ok (.lshl, 1) := by decide +kernel
theorem md_M_sort_110 : decode mc_M_sort 110 = .ok (.lcmp, 1) := by decide +kernel
theorem md_M_sort_111 : decode mc_M_sort 111 = .ok (.ifCond .ge 6, 3) := by decide +kernel
theorem md_M_sort_114 : decode mc_M_sort 114 = .ok (.iinc 3 16, 3) := by decide +kernel
theorem md_M_sort_117 : decode mc_M_sort 117 = .ok (.iconst 0, 1) := by decide +kernel
theorem md_M_sort_118 : decode mc_M_sort 118 = .ok (.istore 4, 2) := by decide +kernel
theorem md_M_sort_120 : decode mc_M_sort 120 = .ok (.aload_n 0, 1) := by decide +kernel
theorem md_M_sort_121 : decode mc_M_sort 121 = .ok (.getfield 63, 3) := by decide +kernel
theorem md_M_sort_124 : decode mc_M_sort 124 = .ok (.iload 4, 2) := by decide +kernel
theorem md_M_sort_126 : decode mc_M_sort 126 = .ok (.lushr, 1) := by decide +kernel
theorem md_M_sort_127 : decode mc_M_sort 127 = .ok (.lconst 1, 1) := by decide +kernel
theorem md_M_sort_128 : decode mc_M_sort 128 = .ok (.land, 1) := by decide +kernel
theorem md_M_sort_129 : decode mc_M_sort 129 = .ok (.lconst 0, 1) := by decide +kernel
theorem md_M_sort_130 : decode mc_M_sort 130 = .ok (.lcmp, 1) := by decide +kernel
theorem md_M_sort_131 : decode mc_M_sort 131 = .ok (.ifCond .ne 9, 3) := by decide +kernel
theorem md_M_sort_134 : decode mc_M_sort 134 = .ok (.iinc 4 1, 3) := by decide +kernel
theorem md_M_sort_137 : decode mc_M_sort 137 = .ok (.goto (-17), 3) := by decide +kernel
theorem md_M_sort_140 : decode mc_M_sort 140 = .ok (.aload_n 0, 1) := by decide +kernel
theorem md_M_sort_141 : decode mc_M_sort 141 = .ok (.getfield 71, 3) := by decide +kernel
theorem md_M_sort_144 : decode mc_M_sort 144 = .ok (.iload 4, 2) := by decide +kernel
theorem md_M_sort_146 : decode mc_M_sort 146 = .ok (.iadd, 1) := by decide +kernel
theorem md_M_sort_147 : decode mc_M_sort 147 = .ok (.ifCond .lt 6, 3) := by decide +kernel
theorem md_M_sort_150 : decode mc_M_sort 150 = .ok (.iinc 3 64, 3) := by decide +kernel
theorem md_M_sort_153 : decode mc_M_sort 153 = .ok (.iload_n 3, 1) := by decide +kernel
theorem md_M_sort_154 : decode mc_M_sort 154 = .ok (.aload_n 0, 1) := by decide +kernel
theorem md_M_sort_155 : decode mc_M_sort 155 = .ok (.getfield 63, 3) := by decide +kernel
theorem md_M_sort_158 : decode mc_M_sort 158 = .ok (.iload 4, 2) := by decide +kernel
theorem md_M_sort_160 : decode mc_M_sort 160 = .ok (.lushr, 1) := by decide +kernel
theorem md_M_sort_161 : decode mc_M_sort 161 = .ok (.lconst 1, 1) := by decide +kernel
theorem md_M_sort_162 : decode mc_M_sort 162 = .ok (.lcmp, 1) := by decide +kernel
theorem md_M_sort_163 : decode mc_M_sort 163 = .ok (.ifCond .ne 16, 3) := by decide +kernel
theorem md_M_sort_166 : decode mc_M_sort 166 = .ok (.aload_n 0, 1) := by decide +kernel
theorem md_M_sort_167 : decode mc_M_sort 167 = .ok (.getfield 47, 3) := by decide +kernel
theorem md_M_sort_170 : decode mc_M_sort 170 = .ok (.ifCond .ne 9, 3) := by decide +kernel
theorem md_M_sort_173 : decode mc_M_sort 173 = .ok (.sipush 128, 3) := by decide +kernel
theorem md_M_sort_176 : decode mc_M_sort 176 = .ok (.goto 4, 3) := by decide +kernel
theorem md_M_sort_179 : decode mc_M_sort 179 = .ok (.iconst 0, 1) := by decide +kernel
theorem md_M_sort_180 : decode mc_M_sort 180 = .ok (.iadd, 1) := by decide +kernel
theorem md_M_sort_181 : decode mc_M_sort 181 = .ok (.ireturn, 1) := by decide +kernel
abbrev mc_M_series : ByteArray := prog_4_method_47_code
def my_M_series : MethodName := ⟨"NumberProbeModel", "series", "(IIII)I"⟩
abbrev mw_M_series : List Cond := Cond.code my_M_series mc_M_series 10 (some .int) :: gw_tbl
theorem md_M_series_0 : decode mc_M_series 0 = .ok (.iload_n 1, 1) := by decide +kernel
theorem md_M_series_1 : decode mc_M_series 1 = .ok (.bipush 6, 2) := by decide +kernel
theorem md_M_series_3 : decode mc_M_series 3 = .ok (.invokestatic 167, 3) := by decide +kernel
theorem md_M_series_6 : decode mc_M_series 6 = .ok (.ifCond .eq 31, 3) := by decide +kernel
theorem md_M_series_9 : decode mc_M_series 9 = .ok (.iload_n 2, 1) := by decide +kernel
theorem md_M_series_10 : decode mc_M_series 10 = .ok (.bipush 6, 2) := by decide +kernel
theorem md_M_series_12 : decode mc_M_series 12 = .ok (.invokestatic 167, 3) := by decide +kernel
theorem md_M_series_15 : decode mc_M_series 15 = .ok (.ifCond .eq 22, 3) := by decide +kernel
theorem md_M_series_18 : decode mc_M_series 18 = .ok (.iload_n 3, 1) := by decide +kernel
theorem md_M_series_19 : decode mc_M_series 19 = .ok (.bipush 41, 2) := by decide +kernel
theorem md_M_series_21 : decode mc_M_series 21 = .ok (.invokestatic 167, 3) := by decide +kernel
theorem md_M_series_24 : decode mc_M_series 24 = .ok (.ifCond .eq 13, 3) := by decide +kernel
theorem md_M_series_27 : decode mc_M_series 27 = .ok (.iload 4, 2) := by decide +kernel
theorem md_M_series_29 : decode mc_M_series 29 = .ok (.bipush 6, 2) := by decide +kernel
theorem md_M_series_31 : decode mc_M_series 31 = .ok (.invokestatic 167, 3) := by decide +kernel
theorem md_M_series_34 : decode mc_M_series 34 = .ok (.ifCond .ne 5, 3) := by decide +kernel
theorem md_M_series_37 : decode mc_M_series 37 = .ok (.iconst (-1), 1) := by decide +kernel
theorem md_M_series_38 : decode mc_M_series 38 = .ok (.ireturn, 1) := by decide +kernel
theorem md_M_series_39 : decode mc_M_series 39 = .ok (.aload_n 0, 1) := by decide +kernel
theorem md_M_series_40 : decode mc_M_series 40 = .ok (.getfield 7, 3) := by decide +kernel
theorem md_M_series_43 : decode mc_M_series 43 = .ok (.bipush 6, 2) := by decide +kernel
theorem md_M_series_45 : decode mc_M_series 45 = .ok (.iload_n 1, 1) := by decide +kernel
theorem md_M_series_46 : decode mc_M_series 46 = .ok (.iadd, 1) := by decide +kernel
theorem md_M_series_47 : decode mc_M_series 47 = .ok (.laload, 1) := by decide +kernel
theorem md_M_series_48 : decode mc_M_series 48 = .ok (.lstore 5, 2) := by decide +kernel
theorem md_M_series_50 : decode mc_M_series 50 = .ok (.lconst 0, 1) := by decide +kernel
theorem md_M_series_51 : decode mc_M_series 51 = .ok (.lstore 7, 2) := by decide +kernel
theorem md_M_series_53 : decode mc_M_series 53 = .ok (.iconst 0, 1) := by decide +kernel
theorem md_M_series_54 : decode mc_M_series 54 = .ok (.istore 9, 2) := by decide +kernel
theorem md_M_series_56 : decode mc_M_series 56 = .ok (.iload 9, 2) := by decide +kernel
theorem md_M_series_58 : decode mc_M_series 58 = .ok (.iload_n 3, 1) := by decide +kernel
theorem md_M_series_59 : decode mc_M_series 59 = .ok (.if_icmp .ge 48, 3) := by decide +kernel
theorem md_M_series_62 : decode mc_M_series 62 = .ok (.iload 9, 2) := by decide +kernel
theorem md_M_series_64 : decode mc_M_series 64 = .ok (.ifCond .ne 8, 3) := by decide +kernel
theorem md_M_series_67 : decode mc_M_series 67 = .ok (.lload 5, 2) := by decide +kernel
theorem md_M_series_69 : decode mc_M_series 69 = .ok (.goto 12, 3) := by decide +kernel
theorem md_M_series_72 : decode mc_M_series 72 = .ok (.aload_n 0, 1) := by decide +kernel
theorem md_M_series_73 : decode mc_M_series 73 = .ok (.iconst 1, 1) := by decide +kernel
theorem md_M_series_74 : decode mc_M_series 74 = .ok (.lload 7, 2) := by decide +kernel
theorem md_M_series_76 : decode mc_M_series 76 = .ok (.lload 5, 2) := by decide +kernel
theorem md_M_series_78 : decode mc_M_series 78 = .ok (.invokevirtual 127, 3) := by decide +kernel
theorem md_M_series_81 : decode mc_M_series 81 = .ok (.lstore 7, 2) := by decide +kernel
theorem md_M_series_83 : decode mc_M_series 83 = .ok (.aload_n 0, 1) := by decide +kernel
theorem md_M_series_84 : decode mc_M_series 84 = .ok (.iconst 1, 1) := by decide +kernel
theorem md_M_series_85 : decode mc_M_series 85 = .ok (.lload 5, 2) := by decide +kernel
theorem md_M_series_87 : decode mc_M_series 87 = .ok (.aload_n 0, 1) := by decide +kernel
theorem md_M_series_88 : decode mc_M_series 88 = .ok (.getfield 7, 3) := by decide +kernel
theorem md_M_series_91 : decode mc_M_series 91 = .ok (.bipush 6, 2) := by decide +kernel
theorem md_M_series_93 : decode mc_M_series 93 = .ok (.iload_n 2, 1) := by decide +kernel
theorem md_M_series_94 : decode mc_M_series 94 = .ok (.iadd, 1) := by decide +kernel
theorem md_M_series_95 : decode mc_M_series 95 = .ok (.laload, 1) := by decide +kernel
theorem md_M_series_96 : decode mc_M_series 96 = .ok (.invokevirtual 127, 3) := by decide +kernel
theorem md_M_series_99 : decode mc_M_series 99 = .ok (.lstore 5, 2) := by decide +kernel
theorem md_M_series_101 : decode mc_M_series 101 = .ok (.iinc 9 1, 3) := by decide +kernel
theorem md_M_series_104 : decode mc_M_series 104 = .ok (.goto (-48), 3) := by decide +kernel
theorem md_M_series_107 : decode mc_M_series 107 = .ok (.aload_n 0, 1) := by decide +kernel
theorem md_M_series_108 : decode mc_M_series 108 = .ok (.getfield 7, 3) := by decide +kernel
theorem md_M_series_111 : decode mc_M_series 111 = .ok (.bipush 6, 2) := by decide +kernel
theorem md_M_series_113 : decode mc_M_series 113 = .ok (.iload 4, 2) := by decide +kernel
theorem md_M_series_115 : decode mc_M_series 115 = .ok (.iadd, 1) := by decide +kernel
theorem md_M_series_116 : decode mc_M_series 116 = .ok (.lload 7, 2) := by decide +kernel
theorem md_M_series_118 : decode mc_M_series 118 = .ok (.lastore, 1) := by decide +kernel
theorem md_M_series_119 : decode mc_M_series 119 = .ok (.iconst 0, 1) := by decide +kernel
theorem md_M_series_120 : decode mc_M_series 120 = .ok (.ireturn, 1) := by decide +kernel
abbrev mc_M_polynomial : ByteArray := prog_4_method_48_code
def my_M_polynomial : MethodName := ⟨"NumberProbeModel", "polynomial", "(II)I"⟩
abbrev mw_M_polynomial : List Cond := Cond.code my_M_polynomial mc_M_polynomial 8 (some .int) :: gw_tbl
theorem md_M_polynomial_0 : decode mc_M_polynomial 0 = .ok (.iload_n 1, 1) := by decide +kernel
theorem md_M_polynomial_1 : decode mc_M_polynomial 1 = .ok (.bipush 6, 2) := by decide +kernel
theorem md_M_polynomial_3 : decode mc_M_polynomial 3 = .ok (.invokestatic 167, 3) := by decide +kernel
theorem md_M_polynomial_6 : decode mc_M_polynomial 6 = .ok (.ifCond .eq 12, 3) := by decide +kernel
theorem md_M_polynomial_9 : decode mc_M_polynomial 9 = .ok (.iload_n 2, 1) := by decide +kernel
theorem md_M_polynomial_10 : decode mc_M_polynomial 10 = .ok (.bipush 6, 2) := by decide +kernel
theorem md_M_polynomial_12 : decode mc_M_polynomial 12 = .ok (.invokestatic 167, 3) := by decide +kernel
theorem md_M_polynomial_15 : decode mc_M_polynomial 15 = .ok (.ifCond .ne 5, 3) := by decide +kernel
theorem md_M_polynomial_18 : decode mc_M_polynomial 18 = .ok (.iconst (-1), 1) := by decide +kernel
theorem md_M_polynomial_19 : decode mc_M_polynomial 19 = .ok (.ireturn, 1) := by decide +kernel
theorem md_M_polynomial_20 : decode mc_M_polynomial 20 = .ok (.aload_n 0, 1) := by decide +kernel
theorem md_M_polynomial_21 : decode mc_M_polynomial 21 = .ok (.getfield 7, 3) := by decide +kernel
theorem md_M_polynomial_24 : decode mc_M_polynomial 24 = .ok (.iload_n 1, 1) := by decide +kernel
theorem md_M_polynomial_25 : decode mc_M_polynomial 25 = .ok (.laload, 1) := by decide +kernel
theorem md_M_polynomial_26 : decode mc_M_polynomial 26 = .ok (.lstore_n 3, 1) := by decide +kernel
theorem md_M_polynomial_27 : decode mc_M_polynomial 27 = .ok (.aload_n 0, 1) := by decide +kernel
theorem md_M_polynomial_28 : decode mc_M_polynomial 28 = .ok (.getfield 7, 3) := by decide +kernel
theorem md_M_polynomial_31 : decode mc_M_polynomial 31 = .ok (.iconst 5, 1) := by decide +kernel
theorem md_M_polynomial_32 : decode mc_M_polynomial 32 = .ok (.laload, 1) := by decide +kernel
theorem md_M_polynomial_33 : decode mc_M_polynomial 33 = .ok (.lstore 5, 2) := by decide +kernel
theorem md_M_polynomial_35 : decode mc_M_polynomial 35 = .ok (.iconst 4, 1) := by decide +kernel
theorem md_M_polynomial_36 : decode mc_M_polynomial 36 = .ok (.istore 7, 2) := by decide +kernel
theorem md_M_polynomial_38 : decode mc_M_polynomial 38 = .ok (.iload 7, 2) := by decide +kernel
theorem md_M_polynomial_40 : decode mc_M_polynomial 40 = .ok (.ifCond .lt 31, 3) := by decide +kernel
theorem md_M_polynomial_43 : decode mc_M_polynomial 43 = .ok (.aload_n 0, 1) := by decide +kernel
theorem md_M_polynomial_44 : decode mc_M_polynomial 44 = .ok (.iconst 0, 1) := by decide +kernel
theorem md_M_polynomial_45 : decode mc_M_polynomial 45 = .ok (.aload_n 0, 1) := by decide +kernel
theorem md_M_polynomial_46 : decode mc_M_polynomial 46 = .ok (.iconst 0, 1) := by decide +kernel
theorem md_M_polynomial_47 : decode mc_M_polynomial 47 = .ok (.lload 5, 2) := by decide +kernel
theorem md_M_polynomial_49 : decode mc_M_polynomial 49 = .ok (.lload_n 3, 1) := by decide +kernel
theorem md_M_polynomial_50 : decode mc_M_polynomial 50 = .ok (.invokevirtual 134, 3) := by decide +kernel
theorem md_M_polynomial_53 : decode mc_M_polynomial 53 = .ok (.aload_n 0, 1) := by decide +kernel
theorem md_M_polynomial_54 : decode mc_M_polynomial 54 = .ok (.getfield 7, 3) := by decide +kernel
theorem md_M_polynomial_57 : decode mc_M_polynomial 57 = .ok (.iload 7, 2) := by decide +kernel
theorem md_M_polynomial_59 : decode mc_M_polynomial 59 = .ok (.laload, 1) := by decide +kernel
theorem md_M_polynomial_60 : decode mc_M_polynomial 60 = .ok (.invokevirtual 127, 3) := by decide +kernel
theorem md_M_polynomial_63 : decode mc_M_polynomial 63 = .ok (.lstore 5, 2) := by decide +kernel
theorem md_M_polynomial_65 : decode mc_M_polynomial 65 = .ok (.iinc 7 (-1), 3) := by decide +kernel
theorem md_M_polynomial_68 : decode mc_M_polynomial 68 = .ok (.goto (-30), 3) := by decide +kernel
theorem md_M_polynomial_71 : decode mc_M_polynomial 71 = .ok (.aload_n 0, 1) := by decide +kernel
theorem md_M_polynomial_72 : decode mc_M_polynomial 72 = .ok (.getfield 7, 3) := by decide +kernel
theorem md_M_polynomial_75 : decode mc_M_polynomial 75 = .ok (.iload_n 2, 1) := by decide +kernel
theorem md_M_polynomial_76 : decode mc_M_polynomial 76 = .ok (.lload 5, 2) := by decide +kernel
theorem md_M_polynomial_78 : decode mc_M_polynomial 78 = .ok (.lastore, 1) := by decide +kernel
theorem md_M_polynomial_79 : decode mc_M_polynomial 79 = .ok (.iconst 0, 1) := by decide +kernel
theorem md_M_polynomial_80 : decode mc_M_polynomial 80 = .ok (.ireturn, 1) := by decide +kernel
