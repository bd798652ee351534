abbrev mc_N_init : ByteArray := prog_1_method_1_code
def my_N_init : MethodName := ⟨"NumberProbe", "<init>", "()V"⟩
abbrev mw_N_init : List Cond := Cond.code my_N_init mc_N_init 1 none :: gw_tbl
theorem md_N_init_0 : decode mc_N_init 0 = .ok (.aload_n 0, 1) := by decide +kernel
theorem md_N_init_1 : decode mc_N_init 1 = .ok (.invokespecial 1, 3) := by decide +kernel
theorem md_N_init_4 : decode mc_N_init 4 = .ok (.aload_n 0, 1) := by decide +kernel
theorem md_N_init_5 : decode mc_N_init 5 = .ok (.iconst 4, 1) := by decide +kernel
theorem md_N_init_6 : decode mc_N_init 6 = .ok (.bipush 6, 2) := by decide +kernel
theorem md_N_init_8 : decode mc_N_init 8 = .ok (.multianewarray 9 2, 4) := by decide +kernel
theorem md_N_init_12 : decode mc_N_init 12 = .ok (.putfield 11, 3) := by decide +kernel
theorem md_N_init_15 : decode mc_N_init 15 = .ok (.return_, 1) := by decide +kernel
abbrev mc_N_put : ByteArray := prog_1_method_2_code
def my_N_put : MethodName := ⟨"NumberProbe", "put", "(IIJ)I"⟩
abbrev mw_N_put : List Cond := Cond.code my_N_put mc_N_put 5 (some .int) :: gw_tbl
theorem md_N_put_0 : decode mc_N_put 0 = .ok (.iload_n 1, 1) := by decide +kernel
theorem md_N_put_1 : decode mc_N_put 1 = .ok (.iload_n 2, 1) := by decide +kernel
theorem md_N_put_2 : decode mc_N_put 2 = .ok (.invokestatic 14, 3) := by decide +kernel
theorem md_N_put_5 : decode mc_N_put 5 = .ok (.ifCond .ne 5, 3) := by decide +kernel
theorem md_N_put_8 : decode mc_N_put 8 = .ok (.iconst (-1), 1) := by decide +kernel
theorem md_N_put_9 : decode mc_N_put 9 = .ok (.ireturn, 1) := by decide +kernel
theorem md_N_put_10 : decode mc_N_put 10 = .ok (.aload_n 0, 1) := by decide +kernel
theorem md_N_put_11 : decode mc_N_put 11 = .ok (.getfield 11, 3) := by decide +kernel
theorem md_N_put_14 : decode mc_N_put 14 = .ok (.iload_n 1, 1) := by decide +kernel
theorem md_N_put_15 : decode mc_N_put 15 = .ok (.aaload, 1) := by decide +kernel
theorem md_N_put_16 : decode mc_N_put 16 = .ok (.iload_n 2, 1) := by decide +kernel
theorem md_N_put_17 : decode mc_N_put 17 = .ok (.iload_n 1, 1) := by decide +kernel
theorem md_N_put_18 : decode mc_N_put 18 = .ok (.invokestatic 18, 3) := by decide +kernel
theorem md_N_put_21 : decode mc_N_put 21 = .ok (.ifCond .eq 14, 3) := by decide +kernel
theorem md_N_put_24 : decode mc_N_put 24 = .ok (.iload_n 1, 1) := by decide +kernel
theorem md_N_put_25 : decode mc_N_put 25 = .ok (.invokestatic 22, 3) := by decide +kernel
theorem md_N_put_28 : decode mc_N_put 28 = .ok (.lload_n 3, 1) := by decide +kernel
theorem md_N_put_29 : decode mc_N_put 29 = .ok (.invokevirtual 26, 3) := by decide +kernel
theorem md_N_put_32 : decode mc_N_put 32 = .ok (.goto 8, 3) := by decide +kernel
theorem md_N_put_35 : decode mc_N_put 35 = .ok (.iload_n 1, 1) := by decide +kernel
theorem md_N_put_36 : decode mc_N_put 36 = .ok (.lload_n 3, 1) := by decide +kernel
theorem md_N_put_37 : decode mc_N_put 37 = .ok (.invokestatic 32, 3) := by decide +kernel
theorem md_N_put_40 : decode mc_N_put 40 = .ok (.lastore, 1) := by decide +kernel
theorem md_N_put_41 : decode mc_N_put 41 = .ok (.iconst 0, 1) := by decide +kernel
theorem md_N_put_42 : decode mc_N_put 42 = .ok (.ireturn, 1) := by decide +kernel
abbrev mc_N_boundary : ByteArray := prog_1_method_3_code
def my_N_boundary : MethodName := ⟨"NumberProbe", "boundary", "(III)I"⟩
abbrev mw_N_boundary : List Cond := Cond.code my_N_boundary mc_N_boundary 5 (some .int) :: gw_tbl
theorem md_N_boundary_0 : decode mc_N_boundary 0 = .ok (.iload_n 1, 1) := by decide +kernel
theorem md_N_boundary_1 : decode mc_N_boundary 1 = .ok (.iload_n 2, 1) := by decide +kernel
theorem md_N_boundary_2 : decode mc_N_boundary 2 = .ok (.invokestatic 14, 3) := by decide +kernel
theorem md_N_boundary_5 : decode mc_N_boundary 5 = .ok (.ifCond .ne 5, 3) := by decide +kernel
theorem md_N_boundary_8 : decode mc_N_boundary 8 = .ok (.iconst (-1), 1) := by decide +kernel
theorem md_N_boundary_9 : decode mc_N_boundary 9 = .ok (.ireturn, 1) := by decide +kernel
theorem md_N_boundary_10 : decode mc_N_boundary 10 = .ok (.iload_n 1, 1) := by decide +kernel
theorem md_N_boundary_11 : decode mc_N_boundary 11 = .ok (.invokestatic 36, 3) := by decide +kernel
theorem md_N_boundary_14 : decode mc_N_boundary 14 = .ok (.astore 4, 2) := by decide +kernel
theorem md_N_boundary_16 : decode mc_N_boundary 16 = .ok (.iload_n 3, 1) := by decide +kernel
theorem md_N_boundary_17 : decode mc_N_boundary 17 = .ok (.ifCond .lt 10, 3) := by decide +kernel
theorem md_N_boundary_20 : decode mc_N_boundary 20 = .ok (.iload_n 3, 1) := by decide +kernel
theorem md_N_boundary_21 : decode mc_N_boundary 21 = .ok (.aload 4, 2) := by decide +kernel
theorem md_N_boundary_23 : decode mc_N_boundary 23 = .ok (.arraylength, 1) := by decide +kernel
theorem md_N_boundary_24 : decode mc_N_boundary 24 = .ok (.if_icmp .lt 5, 3) := by decide +kernel
theorem md_N_boundary_27 : decode mc_N_boundary 27 = .ok (.iconst (-1), 1) := by decide +kernel
theorem md_N_boundary_28 : decode mc_N_boundary 28 = .ok (.ireturn, 1) := by decide +kernel
theorem md_N_boundary_29 : decode mc_N_boundary 29 = .ok (.aload_n 0, 1) := by decide +kernel
theorem md_N_boundary_30 : decode mc_N_boundary 30 = .ok (.getfield 11, 3) := by decide +kernel
theorem md_N_boundary_33 : decode mc_N_boundary 33 = .ok (.iload_n 1, 1) := by decide +kernel
theorem md_N_boundary_34 : decode mc_N_boundary 34 = .ok (.aaload, 1) := by decide +kernel
theorem md_N_boundary_35 : decode mc_N_boundary 35 = .ok (.iload_n 2, 1) := by decide +kernel
theorem md_N_boundary_36 : decode mc_N_boundary 36 = .ok (.aload 4, 2) := by decide +kernel
theorem md_N_boundary_38 : decode mc_N_boundary 38 = .ok (.iload_n 3, 1) := by decide +kernel
theorem md_N_boundary_39 : decode mc_N_boundary 39 = .ok (.laload, 1) := by decide +kernel
theorem md_N_boundary_40 : decode mc_N_boundary 40 = .ok (.lastore, 1) := by decide +kernel
theorem md_N_boundary_41 : decode mc_N_boundary 41 = .ok (.iconst 0, 1) := by decide +kernel
theorem md_N_boundary_42 : decode mc_N_boundary 42 = .ok (.ireturn, 1) := by decide +kernel
abbrev mc_N_bits : ByteArray := prog_1_method_4_code
def my_N_bits : MethodName := ⟨"NumberProbe", "bits", "(II)J"⟩
abbrev mw_N_bits : List Cond := Cond.code my_N_bits mc_N_bits 3 (some .long) :: gw_tbl
theorem md_N_bits_0 : decode mc_N_bits 0 = .ok (.iload_n 1, 1) := by decide +kernel
theorem md_N_bits_1 : decode mc_N_bits 1 = .ok (.iload_n 2, 1) := by decide +kernel
theorem md_N_bits_2 : decode mc_N_bits 2 = .ok (.invokestatic 14, 3) := by decide +kernel
theorem md_N_bits_5 : decode mc_N_bits 5 = .ok (.ifCond .eq 14, 3) := by decide +kernel
theorem md_N_bits_8 : decode mc_N_bits 8 = .ok (.aload_n 0, 1) := by decide +kernel
theorem md_N_bits_9 : decode mc_N_bits 9 = .ok (.getfield 11, 3) := by decide +kernel
theorem md_N_bits_12 : decode mc_N_bits 12 = .ok (.iload_n 1, 1) := by decide +kernel
theorem md_N_bits_13 : decode mc_N_bits 13 = .ok (.aaload, 1) := by decide +kernel
theorem md_N_bits_14 : decode mc_N_bits 14 = .ok (.iload_n 2, 1) := by decide +kernel
theorem md_N_bits_15 : decode mc_N_bits 15 = .ok (.laload, 1) := by decide +kernel
theorem md_N_bits_16 : decode mc_N_bits 16 = .ok (.goto 4, 3) := by decide +kernel
theorem md_N_bits_19 : decode mc_N_bits 19 = .ok (.lconst 0, 1) := by decide +kernel
theorem md_N_bits_20 : decode mc_N_bits 20 = .ok (.lreturn, 1) := by decide +kernel
abbrev mc_N_operate : ByteArray := prog_1_method_5_code
def my_N_operate : MethodName := ⟨"NumberProbe", "operate", "(IIIII)I"⟩
abbrev mw_N_operate : List Cond := Cond.code my_N_operate mc_N_operate 8 (some .int) :: gw_tbl
theorem md_N_operate_0 : decode mc_N_operate 0 = .ok (.iload_n 1, 1) := by decide +kernel
theorem md_N_operate_1 : decode mc_N_operate 1 = .ok (.iload_n 3, 1) := by decide +kernel
theorem md_N_operate_2 : decode mc_N_operate 2 = .ok (.invokestatic 14, 3) := by decide +kernel
theorem md_N_operate_5 : decode mc_N_operate 5 = .ok (.ifCond .eq 29, 3) := by decide +kernel
theorem md_N_operate_8 : decode mc_N_operate 8 = .ok (.iload_n 1, 1) := by decide +kernel
theorem md_N_operate_9 : decode mc_N_operate 9 = .ok (.iload 4, 2) := by decide +kernel
theorem md_N_operate_11 : decode mc_N_operate 11 = .ok (.invokestatic 14, 3) := by decide +kernel
theorem md_N_operate_14 : decode mc_N_operate 14 = .ok (.ifCond .eq 20, 3) := by decide +kernel
theorem md_N_operate_17 : decode mc_N_operate 17 = .ok (.iload_n 1, 1) := by decide +kernel
theorem md_N_operate_18 : decode mc_N_operate 18 = .ok (.iload 5, 2) := by decide +kernel
theorem md_N_operate_20 : decode mc_N_operate 20 = .ok (.invokestatic 14, 3) := by decide +kernel
theorem md_N_operate_23 : decode mc_N_operate 23 = .ok (.ifCond .eq 11, 3) := by decide +kernel
theorem md_N_operate_26 : decode mc_N_operate 26 = .ok (.iload_n 1, 1) := by decide +kernel
theorem md_N_operate_27 : decode mc_N_operate 27 = .ok (.iload_n 2, 1) := by decide +kernel
theorem md_N_operate_28 : decode mc_N_operate 28 = .ok (.invokestatic 40, 3) := by decide +kernel
theorem md_N_operate_31 : decode mc_N_operate 31 = .ok (.ifCond .ne 5, 3) := by decide +kernel
theorem md_N_operate_34 : decode mc_N_operate 34 = .ok (.iconst (-1), 1) := by decide +kernel
theorem md_N_operate_35 : decode mc_N_operate 35 = .ok (.ireturn, 1) := by decide +kernel
theorem md_N_operate_36 : decode mc_N_operate 36 = .ok (.aload_n 0, 1) := by decide +kernel
theorem md_N_operate_37 : decode mc_N_operate 37 = .ok (.getfield 11, 3) := by decide +kernel
theorem md_N_operate_40 : decode mc_N_operate 40 = .ok (.iload_n 1, 1) := by decide +kernel
theorem md_N_operate_41 : decode mc_N_operate 41 = .ok (.aaload, 1) := by decide +kernel
theorem md_N_operate_42 : decode mc_N_operate 42 = .ok (.iload 4, 2) := by decide +kernel
theorem md_N_operate_44 : decode mc_N_operate 44 = .ok (.laload, 1) := by decide +kernel
theorem md_N_operate_45 : decode mc_N_operate 45 = .ok (.lstore 6, 2) := by decide +kernel
theorem md_N_operate_47 : decode mc_N_operate 47 = .ok (.iload_n 1, 1) := by decide +kernel
theorem md_N_operate_48 : decode mc_N_operate 48 = .ok (.iload_n 2, 1) := by decide +kernel
theorem md_N_operate_49 : decode mc_N_operate 49 = .ok (.lload 6, 2) := by decide +kernel
theorem md_N_operate_51 : decode mc_N_operate 51 = .ok (.invokestatic 43, 3) := by decide +kernel
theorem md_N_operate_54 : decode mc_N_operate 54 = .ok (.ifCond .eq 6, 3) := by decide +kernel
theorem md_N_operate_57 : decode mc_N_operate 57 = .ok (.bipush (-2), 2) := by decide +kernel
theorem md_N_operate_59 : decode mc_N_operate 59 = .ok (.ireturn, 1) := by decide +kernel
theorem md_N_operate_60 : decode mc_N_operate 60 = .ok (.aload_n 0, 1) := by decide +kernel
theorem md_N_operate_61 : decode mc_N_operate 61 = .ok (.getfield 11, 3) := by decide +kernel
theorem md_N_operate_64 : decode mc_N_operate 64 = .ok (.iload_n 1, 1) := by decide +kernel
theorem md_N_operate_65 : decode mc_N_operate 65 = .ok (.aaload, 1) := by decide +kernel
theorem md_N_operate_66 : decode mc_N_operate 66 = .ok (.iload 5, 2) := by decide +kernel
theorem md_N_operate_68 : decode mc_N_operate 68 = .ok (.iload_n 1, 1) := by decide +kernel
theorem md_N_operate_69 : decode mc_N_operate 69 = .ok (.iload_n 2, 1) := by decide +kernel
theorem md_N_operate_70 : decode mc_N_operate 70 = .ok (.aload_n 0, 1) := by decide +kernel
theorem md_N_operate_71 : decode mc_N_operate 71 = .ok (.getfield 11, 3) := by decide +kernel
theorem md_N_operate_74 : decode mc_N_operate 74 = .ok (.iload_n 1, 1) := by decide +kernel
theorem md_N_operate_75 : decode mc_N_operate 75 = .ok (.aaload, 1) := by decide +kernel
theorem md_N_operate_76 : decode mc_N_operate 76 = .ok (.iload_n 3, 1) := by decide +kernel
theorem md_N_operate_77 : decode mc_N_operate 77 = .ok (.laload, 1) := by decide +kernel
theorem md_N_operate_78 : decode mc_N_operate 78 = .ok (.lload 6, 2) := by decide +kernel
theorem md_N_operate_80 : decode mc_N_operate 80 = .ok (.invokestatic 47, 3) := by decide +kernel
theorem md_N_operate_83 : decode mc_N_operate 83 = .ok (.lastore, 1) := by decide +kernel
theorem md_N_operate_84 : decode mc_N_operate 84 = .ok (.iconst 0, 1) := by decide +kernel
theorem md_N_operate_85 : decode mc_N_operate 85 = .ok (.ireturn, 1) := by decide +kernel
abbrev mc_N_assign : ByteArray := prog_1_method_6_code
def my_N_assign : MethodName := ⟨"NumberProbe", "assign", "(IIIII)I"⟩
abbrev mw_N_assign : List Cond := Cond.code my_N_assign mc_N_assign 11 (some .int) :: gw_tbl
theorem md_N_assign_0 : decode mc_N_assign 0 = .ok (.iload_n 1, 1) := by decide +kernel
theorem md_N_assign_1 : decode mc_N_assign 1 = .ok (.iload_n 2, 1) := by decide +kernel
theorem md_N_assign_2 : decode mc_N_assign 2 = .ok (.invokestatic 14, 3) := by decide +kernel
theorem md_N_assign_5 : decode mc_N_assign 5 = .ok (.ifCond .eq 22, 3) := by decide +kernel
theorem md_N_assign_8 : decode mc_N_assign 8 = .ok (.iload 4, 2) := by decide +kernel
theorem md_N_assign_10 : decode mc_N_assign 10 = .ok (.iload 5, 2) := by decide +kernel
theorem md_N_assign_12 : decode mc_N_assign 12 = .ok (.invokestatic 14, 3) := by decide +kernel
theorem md_N_assign_15 : decode mc_N_assign 15 = .ok (.ifCond .eq 12, 3) := by decide +kernel
theorem md_N_assign_18 : decode mc_N_assign 18 = .ok (.iload_n 3, 1) := by decide +kernel
theorem md_N_assign_19 : decode mc_N_assign 19 = .ok (.ifCond .lt 8, 3) := by decide +kernel
theorem md_N_assign_22 : decode mc_N_assign 22 = .ok (.iload_n 3, 1) := by decide +kernel
theorem md_N_assign_23 : decode mc_N_assign 23 = .ok (.iconst 3, 1) := by decide +kernel
theorem md_N_assign_24 : decode mc_N_assign 24 = .ok (.if_icmp .le 5, 3) := by decide +kernel
theorem md_N_assign_27 : decode mc_N_assign 27 = .ok (.iconst (-1), 1) := by decide +kernel
theorem md_N_assign_28 : decode mc_N_assign 28 = .ok (.ireturn, 1) := by decide +kernel
theorem md_N_assign_29 : decode mc_N_assign 29 = .ok (.iload_n 1, 1) := by decide +kernel
theorem md_N_assign_30 : decode mc_N_assign 30 = .ok (.invokestatic 51, 3) := by decide +kernel
theorem md_N_assign_33 : decode mc_N_assign 33 = .ok (.iload 4, 2) := by decide +kernel
theorem md_N_assign_35 : decode mc_N_assign 35 = .ok (.invokestatic 51, 3) := by decide +kernel
theorem md_N_assign_38 : decode mc_N_assign 38 = .ok (.if_icmp .lt 7, 3) := by decide +kernel
theorem md_N_assign_41 : decode mc_N_assign 41 = .ok (.iload_n 1, 1) := by decide +kernel
theorem md_N_assign_42 : decode mc_N_assign 42 = .ok (.goto 5, 3) := by decide +kernel
theorem md_N_assign_45 : decode mc_N_assign 45 = .ok (.iload 4, 2) := by decide +kernel
theorem md_N_assign_47 : decode mc_N_assign 47 = .ok (.istore 6, 2) := by decide +kernel
theorem md_N_assign_49 : decode mc_N_assign 49 = .ok (.iload_n 1, 1) := by decide +kernel
theorem md_N_assign_50 : decode mc_N_assign 50 = .ok (.aload_n 0, 1) := by decide +kernel
theorem md_N_assign_51 : decode mc_N_assign 51 = .ok (.getfield 11, 3) := by decide +kernel
theorem md_N_assign_54 : decode mc_N_assign 54 = .ok (.iload_n 1, 1) := by decide +kernel
theorem md_N_assign_55 : decode mc_N_assign 55 = .ok (.aaload, 1) := by decide +kernel
theorem md_N_assign_56 : decode mc_N_assign 56 = .ok (.iload_n 2, 1) := by decide +kernel
theorem md_N_assign_57 : decode mc_N_assign 57 = .ok (.laload, 1) := by decide +kernel
theorem md_N_assign_58 : decode mc_N_assign 58 = .ok (.iload 6, 2) := by decide +kernel
theorem md_N_assign_60 : decode mc_N_assign 60 = .ok (.invokestatic 55, 3) := by decide +kernel
theorem md_N_assign_63 : decode mc_N_assign 63 = .ok (.lstore 7, 2) := by decide +kernel
theorem md_N_assign_65 : decode mc_N_assign 65 = .ok (.iload 4, 2) := by decide +kernel
theorem md_N_assign_67 : decode mc_N_assign 67 = .ok (.aload_n 0, 1) := by decide +kernel
theorem md_N_assign_68 : decode mc_N_assign 68 = .ok (.getfield 11, 3) := by decide +kernel
theorem md_N_assign_71 : decode mc_N_assign 71 = .ok (.iload 4, 2) := by decide +kernel
theorem md_N_assign_73 : decode mc_N_assign 73 = .ok (.aaload, 1) := by decide +kernel
theorem md_N_assign_74 : decode mc_N_assign 74 = .ok (.iload 5, 2) := by decide +kernel
theorem md_N_assign_76 : decode mc_N_assign 76 = .ok (.laload, 1) := by decide +kernel
theorem md_N_assign_77 : decode mc_N_assign 77 = .ok (.iload 6, 2) := by decide +kernel
theorem md_N_assign_79 : decode mc_N_assign 79 = .ok (.invokestatic 55, 3) := by decide +kernel
theorem md_N_assign_82 : decode mc_N_assign 82 = .ok (.lstore 9, 2) := by decide +kernel
theorem md_N_assign_84 : decode mc_N_assign 84 = .ok (.iload 6, 2) := by decide +kernel
theorem md_N_assign_86 : decode mc_N_assign 86 = .ok (.iload_n 3, 1) := by decide +kernel
theorem md_N_assign_87 : decode mc_N_assign 87 = .ok (.lload 9, 2) := by decide +kernel
theorem md_N_assign_89 : decode mc_N_assign 89 = .ok (.invokestatic 43, 3) := by decide +kernel
theorem md_N_assign_92 : decode mc_N_assign 92 = .ok (.ifCond .eq 6, 3) := by decide +kernel
theorem md_N_assign_95 : decode mc_N_assign 95 = .ok (.bipush (-2), 2) := by decide +kernel
theorem md_N_assign_97 : decode mc_N_assign 97 = .ok (.ireturn, 1) := by decide +kernel
theorem md_N_assign_98 : decode mc_N_assign 98 = .ok (.aload_n 0, 1) := by decide +kernel
theorem md_N_assign_99 : decode mc_N_assign 99 = .ok (.getfield 11, 3) := by decide +kernel
theorem md_N_assign_102 : decode mc_N_assign 102 = .ok (.iload_n 1, 1) := by decide +kernel
theorem md_N_assign_103 : decode mc_N_assign 103 = .ok (.aaload, 1) := by decide +kernel
theorem md_N_assign_104 : decode mc_N_assign 104 = .ok (.iload_n 2, 1) := by decide +kernel
theorem md_N_assign_105 : decode mc_N_assign 105 = .ok (.iload 6, 2) := by decide +kernel
theorem md_N_assign_107 : decode mc_N_assign 107 = .ok (.iload 6, 2) := by decide +kernel
theorem md_N_assign_109 : decode mc_N_assign 109 = .ok (.iload_n 3, 1) := by decide +kernel
theorem md_N_assign_110 : decode mc_N_assign 110 = .ok (.lload 7, 2) := by decide +kernel
theorem md_N_assign_112 : decode mc_N_assign 112 = .ok (.lload 9, 2) := by decide +kernel
theorem md_N_assign_114 : decode mc_N_assign 114 = .ok (.invokestatic 47, 3) := by decide +kernel
theorem md_N_assign_117 : decode mc_N_assign 117 = .ok (.iload_n 1, 1) := by decide +kernel
theorem md_N_assign_118 : decode mc_N_assign 118 = .ok (.invokestatic 55, 3) := by decide +kernel
theorem md_N_assign_121 : decode mc_N_assign 121 = .ok (.lastore, 1) := by decide +kernel
theorem md_N_assign_122 : decode mc_N_assign 122 = .ok (.iconst 0, 1) := by decide +kernel
theorem md_N_assign_123 : decode mc_N_assign 123 = .ok (.ireturn, 1) := by decide +kernel
abbrev mc_N_convert : ByteArray := prog_1_method_7_code
def my_N_convert : MethodName := ⟨"NumberProbe", "convert", "(IIII)I"⟩
abbrev mw_N_convert : List Cond := Cond.code my_N_convert mc_N_convert 5 (some .int) :: gw_tbl
theorem md_N_convert_0 : decode mc_N_convert 0 = .ok (.iload_n 1, 1) := by decide +kernel
theorem md_N_convert_1 : decode mc_N_convert 1 = .ok (.iload_n 2, 1) := by decide +kernel
theorem md_N_convert_2 : decode mc_N_convert 2 = .ok (.invokestatic 14, 3) := by decide +kernel
theorem md_N_convert_5 : decode mc_N_convert 5 = .ok (.ifCond .eq 12, 3) := by decide +kernel
theorem md_N_convert_8 : decode mc_N_convert 8 = .ok (.iload_n 3, 1) := by decide +kernel
theorem md_N_convert_9 : decode mc_N_convert 9 = .ok (.iload 4, 2) := by decide +kernel
theorem md_N_convert_11 : decode mc_N_convert 11 = .ok (.invokestatic 14, 3) := by decide +kernel
theorem md_N_convert_14 : decode mc_N_convert 14 = .ok (.ifCond .ne 5, 3) := by decide +kernel
theorem md_N_convert_17 : decode mc_N_convert 17 = .ok (.iconst (-1), 1) := by decide +kernel
theorem md_N_convert_18 : decode mc_N_convert 18 = .ok (.ireturn, 1) := by decide +kernel
theorem md_N_convert_19 : decode mc_N_convert 19 = .ok (.aload_n 0, 1) := by decide +kernel
theorem md_N_convert_20 : decode mc_N_convert 20 = .ok (.getfield 11, 3) := by decide +kernel
theorem md_N_convert_23 : decode mc_N_convert 23 = .ok (.iload_n 3, 1) := by decide +kernel
theorem md_N_convert_24 : decode mc_N_convert 24 = .ok (.aaload, 1) := by decide +kernel
theorem md_N_convert_25 : decode mc_N_convert 25 = .ok (.iload 4, 2) := by decide +kernel
theorem md_N_convert_27 : decode mc_N_convert 27 = .ok (.iload_n 1, 1) := by decide +kernel
theorem md_N_convert_28 : decode mc_N_convert 28 = .ok (.aload_n 0, 1) := by decide +kernel
theorem md_N_convert_29 : decode mc_N_convert 29 = .ok (.getfield 11, 3) := by decide +kernel
theorem md_N_convert_32 : decode mc_N_convert 32 = .ok (.iload_n 1, 1) := by decide +kernel
theorem md_N_convert_33 : decode mc_N_convert 33 = .ok (.aaload, 1) := by decide +kernel
theorem md_N_convert_34 : decode mc_N_convert 34 = .ok (.iload_n 2, 1) := by decide +kernel
theorem md_N_convert_35 : decode mc_N_convert 35 = .ok (.laload, 1) := by decide +kernel
theorem md_N_convert_36 : decode mc_N_convert 36 = .ok (.iload_n 3, 1) := by decide +kernel
theorem md_N_convert_37 : decode mc_N_convert 37 = .ok (.invokestatic 55, 3) := by decide +kernel
theorem md_N_convert_40 : decode mc_N_convert 40 = .ok (.lastore, 1) := by decide +kernel
theorem md_N_convert_41 : decode mc_N_convert 41 = .ok (.iconst 0, 1) := by decide +kernel
theorem md_N_convert_42 : decode mc_N_convert 42 = .ok (.ireturn, 1) := by decide +kernel
abbrev mc_N_narrow : ByteArray := prog_1_method_8_code
def my_N_narrow : MethodName := ⟨"NumberProbe", "narrow", "(III)I"⟩
abbrev mw_N_narrow : List Cond := Cond.code my_N_narrow mc_N_narrow 5 (some .int) :: gw_tbl
theorem md_N_narrow_0 : decode mc_N_narrow 0 = .ok (.iload_n 1, 1) := by decide +kernel
theorem md_N_narrow_1 : decode mc_N_narrow 1 = .ok (.iload_n 2, 1) := by decide +kernel
theorem md_N_narrow_2 : decode mc_N_narrow 2 = .ok (.invokestatic 14, 3) := by decide +kernel
theorem md_N_narrow_5 : decode mc_N_narrow 5 = .ok (.ifCond .ne 5, 3) := by decide +kernel
theorem md_N_narrow_8 : decode mc_N_narrow 8 = .ok (.iconst 0, 1) := by decide +kernel
theorem md_N_narrow_9 : decode mc_N_narrow 9 = .ok (.ireturn, 1) := by decide +kernel
theorem md_N_narrow_10 : decode mc_N_narrow 10 = .ok (.iload_n 1, 1) := by decide +kernel
theorem md_N_narrow_11 : decode mc_N_narrow 11 = .ok (.aload_n 0, 1) := by decide +kernel
theorem md_N_narrow_12 : decode mc_N_narrow 12 = .ok (.getfield 11, 3) := by decide +kernel
theorem md_N_narrow_15 : decode mc_N_narrow 15 = .ok (.iload_n 1, 1) := by decide +kernel
theorem md_N_narrow_16 : decode mc_N_narrow 16 = .ok (.aaload, 1) := by decide +kernel
theorem md_N_narrow_17 : decode mc_N_narrow 17 = .ok (.iload_n 2, 1) := by decide +kernel
theorem md_N_narrow_18 : decode mc_N_narrow 18 = .ok (.laload, 1) := by decide +kernel
theorem md_N_narrow_19 : decode mc_N_narrow 19 = .ok (.iconst 2, 1) := by decide +kernel
theorem md_N_narrow_20 : decode mc_N_narrow 20 = .ok (.invokestatic 55, 3) := by decide +kernel
theorem md_N_narrow_23 : decode mc_N_narrow 23 = .ok (.l2i, 1) := by decide +kernel
theorem md_N_narrow_24 : decode mc_N_narrow 24 = .ok (.istore 4, 2) := by decide +kernel
theorem md_N_narrow_26 : decode mc_N_narrow 26 = .ok (.iload_n 3, 1) := by decide +kernel
theorem md_N_narrow_27 : decode mc_N_narrow 27 = .ok (.tableswitch 44 0 3 #[29, 33, 37, 41], 29) := by decide +kernel
theorem md_N_narrow_56 : decode mc_N_narrow 56 = .ok (.iload 4, 2) := by decide +kernel
theorem md_N_narrow_58 : decode mc_N_narrow 58 = .ok (.i2b, 1) := by decide +kernel
theorem md_N_narrow_59 : decode mc_N_narrow 59 = .ok (.ireturn, 1) := by decide +kernel
theorem md_N_narrow_60 : decode mc_N_narrow 60 = .ok (.iload 4, 2) := by decide +kernel
theorem md_N_narrow_62 : decode mc_N_narrow 62 = .ok (.i2c, 1) := by decide +kernel
theorem md_N_narrow_63 : decode mc_N_narrow 63 = .ok (.ireturn, 1) := by decide +kernel
theorem md_N_narrow_64 : decode mc_N_narrow 64 = .ok (.iload 4, 2) := by decide +kernel
theorem md_N_narrow_66 : decode mc_N_narrow 66 = .ok (.i2s, 1) := by decide +kernel
theorem md_N_narrow_67 : decode mc_N_narrow 67 = .ok (.ireturn, 1) := by decide +kernel
theorem md_N_narrow_68 : decode mc_N_narrow 68 = .ok (.iload 4, 2) := by decide +kernel
theorem md_N_narrow_70 : decode mc_N_narrow 70 = .ok (.ireturn, 1) := by decide +kernel
theorem md_N_narrow_71 : decode mc_N_narrow 71 = .ok (.iconst 0, 1) := by decide +kernel
theorem md_N_narrow_72 : decode mc_N_narrow 72 = .ok (.ireturn, 1) := by decide +kernel
abbrev mc_N_compare : ByteArray := prog_1_method_9_code
def my_N_compare : MethodName := ⟨"NumberProbe", "compare", "(III)I"⟩
abbrev mw_N_compare : List Cond := Cond.code my_N_compare mc_N_compare 9 (some .int) :: gw_tbl
theorem md_N_compare_0 : decode mc_N_compare 0 = .ok (.iload_n 1, 1) := by decide +kernel
theorem md_N_compare_1 : decode mc_N_compare 1 = .ok (.iload_n 2, 1) := by decide +kernel
theorem md_N_compare_2 : decode mc_N_compare 2 = .ok (.invokestatic 14, 3) := by decide +kernel
theorem md_N_compare_5 : decode mc_N_compare 5 = .ok (.ifCond .eq 11, 3) := by decide +kernel
theorem md_N_compare_8 : decode mc_N_compare 8 = .ok (.iload_n 1, 1) := by decide +kernel
theorem md_N_compare_9 : decode mc_N_compare 9 = .ok (.iload_n 3, 1) := by decide +kernel
theorem md_N_compare_10 : decode mc_N_compare 10 = .ok (.invokestatic 14, 3) := by decide +kernel
theorem md_N_compare_13 : decode mc_N_compare 13 = .ok (.ifCond .ne 5, 3) := by decide +kernel
theorem md_N_compare_16 : decode mc_N_compare 16 = .ok (.iconst (-1), 1) := by decide +kernel
theorem md_N_compare_17 : decode mc_N_compare 17 = .ok (.ireturn, 1) := by decide +kernel
theorem md_N_compare_18 : decode mc_N_compare 18 = .ok (.aload_n 0, 1) := by decide +kernel
theorem md_N_compare_19 : decode mc_N_compare 19 = .ok (.getfield 11, 3) := by decide +kernel
theorem md_N_compare_22 : decode mc_N_compare 22 = .ok (.iload_n 1, 1) := by decide +kernel
theorem md_N_compare_23 : decode mc_N_compare 23 = .ok (.aaload, 1) := by decide +kernel
theorem md_N_compare_24 : decode mc_N_compare 24 = .ok (.iload_n 2, 1) := by decide +kernel
theorem md_N_compare_25 : decode mc_N_compare 25 = .ok (.laload, 1) := by decide +kernel
theorem md_N_compare_26 : decode mc_N_compare 26 = .ok (.lstore 4, 2) := by decide +kernel
theorem md_N_compare_28 : decode mc_N_compare 28 = .ok (.aload_n 0, 1) := by decide +kernel
theorem md_N_compare_29 : decode mc_N_compare 29 = .ok (.getfield 11, 3) := by decide +kernel
theorem md_N_compare_32 : decode mc_N_compare 32 = .ok (.iload_n 1, 1) := by decide +kernel
theorem md_N_compare_33 : decode mc_N_compare 33 = .ok (.aaload, 1) := by decide +kernel
theorem md_N_compare_34 : decode mc_N_compare 34 = .ok (.iload_n 3, 1) := by decide +kernel
theorem md_N_compare_35 : decode mc_N_compare 35 = .ok (.laload, 1) := by decide +kernel
theorem md_N_compare_36 : decode mc_N_compare 36 = .ok (.lstore 6, 2) := by decide +kernel
theorem md_N_compare_38 : decode mc_N_compare 38 = .ok (.iload_n 1, 1) := by decide +kernel
theorem md_N_compare_39 : decode mc_N_compare 39 = .ok (.invokestatic 18, 3) := by decide +kernel
theorem md_N_compare_42 : decode mc_N_compare 42 = .ok (.ifCond .eq 51, 3) := by decide +kernel
theorem md_N_compare_45 : decode mc_N_compare 45 = .ok (.iload_n 1, 1) := by decide +kernel
theorem md_N_compare_46 : decode mc_N_compare 46 = .ok (.invokestatic 22, 3) := by decide +kernel
theorem md_N_compare_49 : decode mc_N_compare 49 = .ok (.astore 8, 2) := by decide +kernel
theorem md_N_compare_51 : decode mc_N_compare 51 = .ok (.aload 8, 2) := by decide +kernel
theorem md_N_compare_53 : decode mc_N_compare 53 = .ok (.lload 4, 2) := by decide +kernel
theorem md_N_compare_55 : decode mc_N_compare 55 = .ok (.invokevirtual 59, 3) := by decide +kernel
theorem md_N_compare_58 : decode mc_N_compare 58 = .ok (.ifCond .ne 13, 3) := by decide +kernel
theorem md_N_compare_61 : decode mc_N_compare 61 = .ok (.aload 8, 2) := by decide +kernel
theorem md_N_compare_63 : decode mc_N_compare 63 = .ok (.lload 6, 2) := by decide +kernel
theorem md_N_compare_65 : decode mc_N_compare 65 = .ok (.invokevirtual 59, 3) := by decide +kernel
theorem md_N_compare_68 : decode mc_N_compare 68 = .ok (.ifCond .eq 7, 3) := by decide +kernel
theorem md_N_compare_71 : decode mc_N_compare 71 = .ok (.sipush 224, 3) := by decide +kernel
theorem md_N_compare_74 : decode mc_N_compare 74 = .ok (.ireturn, 1) := by decide +kernel
theorem md_N_compare_75 : decode mc_N_compare 75 = .ok (.aload 8, 2) := by decide +kernel
theorem md_N_compare_77 : decode mc_N_compare 77 = .ok (.lload 4, 2) := by decide +kernel
theorem md_N_compare_79 : decode mc_N_compare 79 = .ok (.invokevirtual 63, 3) := by decide +kernel
theorem md_N_compare_82 : decode mc_N_compare 82 = .ok (.lstore 4, 2) := by decide +kernel
theorem md_N_compare_84 : decode mc_N_compare 84 = .ok (.aload 8, 2) := by decide +kernel
theorem md_N_compare_86 : decode mc_N_compare 86 = .ok (.lload 6, 2) := by decide +kernel
theorem md_N_compare_88 : decode mc_N_compare 88 = .ok (.invokevirtual 63, 3) := by decide +kernel
theorem md_N_compare_91 : decode mc_N_compare 91 = .ok (.lstore 6, 2) := by decide +kernel
theorem md_N_compare_93 : decode mc_N_compare 93 = .ok (.lload 4, 2) := by decide +kernel
theorem md_N_compare_95 : decode mc_N_compare 95 = .ok (.lload 6, 2) := by decide +kernel
theorem md_N_compare_97 : decode mc_N_compare 97 = .ok (.lcmp, 1) := by decide +kernel
theorem md_N_compare_98 : decode mc_N_compare 98 = .ok (.ifCond .ne 6, 3) := by decide +kernel
theorem md_N_compare_101 : decode mc_N_compare 101 = .ok (.bipush 90, 2) := by decide +kernel
theorem md_N_compare_103 : decode mc_N_compare 103 = .ok (.ireturn, 1) := by decide +kernel
theorem md_N_compare_104 : decode mc_N_compare 104 = .ok (.lload 4, 2) := by decide +kernel
theorem md_N_compare_106 : decode mc_N_compare 106 = .ok (.lload 6, 2) := by decide +kernel
theorem md_N_compare_108 : decode mc_N_compare 108 = .ok (.lcmp, 1) := by decide +kernel
theorem md_N_compare_109 : decode mc_N_compare 109 = .ok (.ifCond .ge 9, 3) := by decide +kernel
theorem md_N_compare_112 : decode mc_N_compare 112 = .ok (.sipush 163, 3) := by decide +kernel
theorem md_N_compare_115 : decode mc_N_compare 115 = .ok (.goto 5, 3) := by decide +kernel
theorem md_N_compare_118 : decode mc_N_compare 118 = .ok (.bipush 108, 2) := by decide +kernel
theorem md_N_compare_120 : decode mc_N_compare 120 = .ok (.ireturn, 1) := by decide +kernel
abbrev mc_N_order : ByteArray := prog_1_method_10_code
def my_N_order : MethodName := ⟨"NumberProbe", "order", "(III)I"⟩
abbrev mw_N_order : List Cond := Cond.code my_N_order mc_N_order 9 (some .int) :: gw_tbl
theorem md_N_order_0 : decode mc_N_order 0 = .ok (.iload_n 1, 1) := by decide +kernel
theorem md_N_order_1 : decode mc_N_order 1 = .ok (.iload_n 2, 1) := by decide +kernel
theorem md_N_order_2 : decode mc_N_order 2 = .ok (.invokestatic 14, 3) := by decide +kernel
theorem md_N_order_5 : decode mc_N_order 5 = .ok (.ifCond .eq 11, 3) := by decide +kernel
theorem md_N_order_8 : decode mc_N_order 8 = .ok (.iload_n 1, 1) := by decide +kernel
theorem md_N_order_9 : decode mc_N_order 9 = .ok (.iload_n 3, 1) := by decide +kernel
theorem md_N_order_10 : decode mc_N_order 10 = .ok (.invokestatic 14, 3) := by decide +kernel
theorem md_N_order_13 : decode mc_N_order 13 = .ok (.ifCond .ne 5, 3) := by decide +kernel
theorem md_N_order_16 : decode mc_N_order 16 = .ok (.iconst (-1), 1) := by decide +kernel
theorem md_N_order_17 : decode mc_N_order 17 = .ok (.ireturn, 1) := by decide +kernel
theorem md_N_order_18 : decode mc_N_order 18 = .ok (.aload_n 0, 1) := by decide +kernel
theorem md_N_order_19 : decode mc_N_order 19 = .ok (.getfield 11, 3) := by decide +kernel
theorem md_N_order_22 : decode mc_N_order 22 = .ok (.iload_n 1, 1) := by decide +kernel
theorem md_N_order_23 : decode mc_N_order 23 = .ok (.aaload, 1) := by decide +kernel
theorem md_N_order_24 : decode mc_N_order 24 = .ok (.iload_n 2, 1) := by decide +kernel
theorem md_N_order_25 : decode mc_N_order 25 = .ok (.laload, 1) := by decide +kernel
theorem md_N_order_26 : decode mc_N_order 26 = .ok (.lstore 4, 2) := by decide +kernel
theorem md_N_order_28 : decode mc_N_order 28 = .ok (.aload_n 0, 1) := by decide +kernel
theorem md_N_order_29 : decode mc_N_order 29 = .ok (.getfield 11, 3) := by decide +kernel
theorem md_N_order_32 : decode mc_N_order 32 = .ok (.iload_n 1, 1) := by decide +kernel
theorem md_N_order_33 : decode mc_N_order 33 = .ok (.aaload, 1) := by decide +kernel
theorem md_N_order_34 : decode mc_N_order 34 = .ok (.iload_n 3, 1) := by decide +kernel
theorem md_N_order_35 : decode mc_N_order 35 = .ok (.laload, 1) := by decide +kernel
theorem md_N_order_36 : decode mc_N_order 36 = .ok (.lstore 6, 2) := by decide +kernel
theorem md_N_order_38 : decode mc_N_order 38 = .ok (.iload_n 1, 1) := by decide +kernel
theorem md_N_order_39 : decode mc_N_order 39 = .ok (.invokestatic 18, 3) := by decide +kernel
theorem md_N_order_42 : decode mc_N_order 42 = .ok (.ifCond .eq 27, 3) := by decide +kernel
theorem md_N_order_45 : decode mc_N_order 45 = .ok (.iload_n 1, 1) := by decide +kernel
theorem md_N_order_46 : decode mc_N_order 46 = .ok (.invokestatic 22, 3) := by decide +kernel
theorem md_N_order_49 : decode mc_N_order 49 = .ok (.astore 8, 2) := by decide +kernel
theorem md_N_order_51 : decode mc_N_order 51 = .ok (.aload 8, 2) := by decide +kernel
theorem md_N_order_53 : decode mc_N_order 53 = .ok (.lload 4, 2) := by decide +kernel
theorem md_N_order_55 : decode mc_N_order 55 = .ok (.invokevirtual 66, 3) := by decide +kernel
theorem md_N_order_58 : decode mc_N_order 58 = .ok (.lstore 4, 2) := by decide +kernel
theorem md_N_order_60 : decode mc_N_order 60 = .ok (.aload 8, 2) := by decide +kernel
theorem md_N_order_62 : decode mc_N_order 62 = .ok (.lload 6, 2) := by decide +kernel
theorem md_N_order_64 : decode mc_N_order 64 = .ok (.invokevirtual 66, 3) := by decide +kernel
theorem md_N_order_67 : decode mc_N_order 67 = .ok (.lstore 6, 2) := by decide +kernel
theorem md_N_order_69 : decode mc_N_order 69 = .ok (.lload 4, 2) := by decide +kernel
theorem md_N_order_71 : decode mc_N_order 71 = .ok (.lload 6, 2) := by decide +kernel
theorem md_N_order_73 : decode mc_N_order 73 = .ok (.invokestatic 69, 3) := by decide +kernel
theorem md_N_order_76 : decode mc_N_order 76 = .ok (.ireturn, 1) := by decide +kernel
abbrev mc_N_sort : ByteArray := prog_1_method_11_code
def my_N_sort : MethodName := ⟨"NumberProbe", "sort", "(II)I"⟩
abbrev mw_N_sort : List Cond := Cond.code my_N_sort mc_N_sort 3 (some .int) :: gw_tbl
theorem md_N_sort_0 : decode mc_N_sort 0 = .ok (.iload_n 1, 1) := by decide +kernel
theorem md_N_sort_1 : decode mc_N_sort 1 = .ok (.iload_n 2, 1) := by decide +kernel
theorem md_N_sort_2 : decode mc_N_sort 2 = .ok (.invokestatic 14, 3) := by decide +kernel
theorem md_N_sort_5 : decode mc_N_sort 5 = .ok (.ifCond .ne 5, 3) := by decide +kernel
theorem md_N_sort_8 : decode mc_N_sort 8 = .ok (.iconst (-1), 1) := by decide +kernel
theorem md_N_sort_9 : decode mc_N_sort 9 = .ok (.ireturn, 1) := by decide +kernel
theorem md_N_sort_10 : decode mc_N_sort 10 = .ok (.iload_n 1, 1) := by decide +kernel
theorem md_N_sort_11 : decode mc_N_sort 11 = .ok (.invokestatic 18, 3) := by decide +kernel
theorem md_N_sort_14 : decode mc_N_sort 14 = .ok (.ifCond .eq 21, 3) := by decide +kernel
theorem md_N_sort_17 : decode mc_N_sort 17 = .ok (.iload_n 1, 1) := by decide +kernel
theorem md_N_sort_18 : decode mc_N_sort 18 = .ok (.invokestatic 22, 3) := by decide +kernel
theorem md_N_sort_21 : decode mc_N_sort 21 = .ok (.aload_n 0, 1) := by decide +kernel
theorem md_N_sort_22 : decode mc_N_sort 22 = .ok (.getfield 11, 3) := by decide +kernel
theorem md_N_sort_25 : decode mc_N_sort 25 = .ok (.iload_n 1, 1) := by decide +kernel
theorem md_N_sort_26 : decode mc_N_sort 26 = .ok (.aaload, 1) := by decide +kernel
theorem md_N_sort_27 : decode mc_N_sort 27 = .ok (.iload_n 2, 1) := by decide +kernel
theorem md_N_sort_28 : decode mc_N_sort 28 = .ok (.laload, 1) := by decide +kernel
theorem md_N_sort_29 : decode mc_N_sort 29 = .ok (.invokevirtual 75, 3) := by decide +kernel
theorem md_N_sort_32 : decode mc_N_sort 32 = .ok (.goto 4, 3) := by decide +kernel
theorem md_N_sort_35 : decode mc_N_sort 35 = .ok (.iconst 0, 1) := by decide +kernel
theorem md_N_sort_36 : decode mc_N_sort 36 = .ok (.ireturn, 1) := by decide +kernel
abbrev mc_N_series : ByteArray := prog_1_method_12_code
def my_N_series : MethodName := ⟨"NumberProbe", "series", "(IIII)I"⟩
abbrev mw_N_series : List Cond := Cond.code my_N_series mc_N_series 12 (some .int) :: gw_tbl
theorem md_N_series_0 : decode mc_N_series 0 = .ok (.iconst 1, 1) := by decide +kernel
theorem md_N_series_1 : decode mc_N_series 1 = .ok (.iload_n 1, 1) := by decide +kernel
theorem md_N_series_2 : decode mc_N_series 2 = .ok (.invokestatic 14, 3) := by decide +kernel
theorem md_N_series_5 : decode mc_N_series 5 = .ok (.ifCond .eq 30, 3) := by decide +kernel
theorem md_N_series_8 : decode mc_N_series 8 = .ok (.iconst 1, 1) := by decide +kernel
theorem md_N_series_9 : decode mc_N_series 9 = .ok (.iload_n 2, 1) := by decide +kernel
theorem md_N_series_10 : decode mc_N_series 10 = .ok (.invokestatic 14, 3) := by decide +kernel
theorem md_N_series_13 : decode mc_N_series 13 = .ok (.ifCond .eq 22, 3) := by decide +kernel
theorem md_N_series_16 : decode mc_N_series 16 = .ok (.iconst 1, 1) := by decide +kernel
theorem md_N_series_17 : decode mc_N_series 17 = .ok (.iload 4, 2) := by decide +kernel
theorem md_N_series_19 : decode mc_N_series 19 = .ok (.invokestatic 14, 3) := by decide +kernel
theorem md_N_series_22 : decode mc_N_series 22 = .ok (.ifCond .eq 13, 3) := by decide +kernel
theorem md_N_series_25 : decode mc_N_series 25 = .ok (.iload_n 3, 1) := by decide +kernel
theorem md_N_series_26 : decode mc_N_series 26 = .ok (.ifCond .lt 9, 3) := by decide +kernel
theorem md_N_series_29 : decode mc_N_series 29 = .ok (.iload_n 3, 1) := by decide +kernel
theorem md_N_series_30 : decode mc_N_series 30 = .ok (.bipush 40, 2) := by decide +kernel
theorem md_N_series_32 : decode mc_N_series 32 = .ok (.if_icmp .le 5, 3) := by decide +kernel
theorem md_N_series_35 : decode mc_N_series 35 = .ok (.iconst (-1), 1) := by decide +kernel
theorem md_N_series_36 : decode mc_N_series 36 = .ok (.ireturn, 1) := by decide +kernel
theorem md_N_series_37 : decode mc_N_series 37 = .ok (.aload_n 0, 1) := by decide +kernel
theorem md_N_series_38 : decode mc_N_series 38 = .ok (.getfield 11, 3) := by decide +kernel
theorem md_N_series_41 : decode mc_N_series 41 = .ok (.iconst 1, 1) := by decide +kernel
theorem md_N_series_42 : decode mc_N_series 42 = .ok (.aaload, 1) := by decide +kernel
theorem md_N_series_43 : decode mc_N_series 43 = .ok (.iload_n 1, 1) := by decide +kernel
theorem md_N_series_44 : decode mc_N_series 44 = .ok (.laload, 1) := by decide +kernel
theorem md_N_series_45 : decode mc_N_series 45 = .ok (.lstore 5, 2) := by decide +kernel
theorem md_N_series_47 : decode mc_N_series 47 = .ok (.aload_n 0, 1) := by decide +kernel
theorem md_N_series_48 : decode mc_N_series 48 = .ok (.getfield 11, 3) := by decide +kernel
theorem md_N_series_51 : decode mc_N_series 51 = .ok (.iconst 1, 1) := by decide +kernel
theorem md_N_series_52 : decode mc_N_series 52 = .ok (.aaload, 1) := by decide +kernel
theorem md_N_series_53 : decode mc_N_series 53 = .ok (.iload_n 2, 1) := by decide +kernel
theorem md_N_series_54 : decode mc_N_series 54 = .ok (.laload, 1) := by decide +kernel
theorem md_N_series_55 : decode mc_N_series 55 = .ok (.lstore 7, 2) := by decide +kernel
theorem md_N_series_57 : decode mc_N_series 57 = .ok (.iload_n 3, 1) := by decide +kernel
theorem md_N_series_58 : decode mc_N_series 58 = .ok (.ifCond .ne 7, 3) := by decide +kernel
theorem md_N_series_61 : decode mc_N_series 61 = .ok (.lconst 0, 1) := by decide +kernel
theorem md_N_series_62 : decode mc_N_series 62 = .ok (.goto 5, 3) := by decide +kernel
theorem md_N_series_65 : decode mc_N_series 65 = .ok (.lload 5, 2) := by decide +kernel
theorem md_N_series_67 : decode mc_N_series 67 = .ok (.lstore 9, 2) := by decide +kernel
theorem md_N_series_69 : decode mc_N_series 69 = .ok (.iconst 1, 1) := by decide +kernel
theorem md_N_series_70 : decode mc_N_series 70 = .ok (.istore 11, 2) := by decide +kernel
theorem md_N_series_72 : decode mc_N_series 72 = .ok (.iload 11, 2) := by decide +kernel
theorem md_N_series_74 : decode mc_N_series 74 = .ok (.iload_n 3, 1) := by decide +kernel
theorem md_N_series_75 : decode mc_N_series 75 = .ok (.if_icmp .ge 33, 3) := by decide +kernel
theorem md_N_series_78 : decode mc_N_series 78 = .ok (.getstatic 79, 3) := by decide +kernel
theorem md_N_series_81 : decode mc_N_series 81 = .ok (.lload 5, 2) := by decide +kernel
theorem md_N_series_83 : decode mc_N_series 83 = .ok (.lload 7, 2) := by decide +kernel
theorem md_N_series_85 : decode mc_N_series 85 = .ok (.invokevirtual 83, 3) := by decide +kernel
theorem md_N_series_88 : decode mc_N_series 88 = .ok (.lstore 5, 2) := by decide +kernel
theorem md_N_series_90 : decode mc_N_series 90 = .ok (.getstatic 79, 3) := by decide +kernel
theorem md_N_series_93 : decode mc_N_series 93 = .ok (.lload 9, 2) := by decide +kernel
theorem md_N_series_95 : decode mc_N_series 95 = .ok (.lload 5, 2) := by decide +kernel
theorem md_N_series_97 : decode mc_N_series 97 = .ok (.invokevirtual 83, 3) := by decide +kernel
theorem md_N_series_100 : decode mc_N_series 100 = .ok (.lstore 9, 2) := by decide +kernel
theorem md_N_series_102 : decode mc_N_series 102 = .ok (.iinc 11 1, 3) := by decide +kernel
theorem md_N_series_105 : decode mc_N_series 105 = .ok (.goto (-33), 3) := by decide +kernel
theorem md_N_series_108 : decode mc_N_series 108 = .ok (.aload_n 0, 1) := by decide +kernel
theorem md_N_series_109 : decode mc_N_series 109 = .ok (.getfield 11, 3) := by decide +kernel
theorem md_N_series_112 : decode mc_N_series 112 = .ok (.iconst 1, 1) := by decide +kernel
theorem md_N_series_113 : decode mc_N_series 113 = .ok (.aaload, 1) := by decide +kernel
theorem md_N_series_114 : decode mc_N_series 114 = .ok (.iload 4, 2) := by decide +kernel
theorem md_N_series_116 : decode mc_N_series 116 = .ok (.lload 9, 2) := by decide +kernel
theorem md_N_series_118 : decode mc_N_series 118 = .ok (.lastore, 1) := by decide +kernel
theorem md_N_series_119 : decode mc_N_series 119 = .ok (.iconst 0, 1) := by decide +kernel
theorem md_N_series_120 : decode mc_N_series 120 = .ok (.ireturn, 1) := by decide +kernel
abbrev mc_N_polynomial : ByteArray := prog_1_method_13_code
def my_N_polynomial : MethodName := ⟨"NumberProbe", "polynomial", "(II)I"⟩
abbrev mw_N_polynomial : List Cond := Cond.code my_N_polynomial mc_N_polynomial 7 (some .int) :: gw_tbl
theorem md_N_polynomial_0 : decode mc_N_polynomial 0 = .ok (.iconst 0, 1) := by decide +kernel
theorem md_N_polynomial_1 : decode mc_N_polynomial 1 = .ok (.iload_n 1, 1) := by decide +kernel
theorem md_N_polynomial_2 : decode mc_N_polynomial 2 = .ok (.invokestatic 14, 3) := by decide +kernel
theorem md_N_polynomial_5 : decode mc_N_polynomial 5 = .ok (.ifCond .eq 11, 3) := by decide +kernel
theorem md_N_polynomial_8 : decode mc_N_polynomial 8 = .ok (.iconst 0, 1) := by decide +kernel
theorem md_N_polynomial_9 : decode mc_N_polynomial 9 = .ok (.iload_n 2, 1) := by decide +kernel
theorem md_N_polynomial_10 : decode mc_N_polynomial 10 = .ok (.invokestatic 14, 3) := by decide +kernel
theorem md_N_polynomial_13 : decode mc_N_polynomial 13 = .ok (.ifCond .ne 5, 3) := by decide +kernel
theorem md_N_polynomial_16 : decode mc_N_polynomial 16 = .ok (.iconst (-1), 1) := by decide +kernel
theorem md_N_polynomial_17 : decode mc_N_polynomial 17 = .ok (.ireturn, 1) := by decide +kernel
theorem md_N_polynomial_18 : decode mc_N_polynomial 18 = .ok (.aload_n 0, 1) := by decide +kernel
theorem md_N_polynomial_19 : decode mc_N_polynomial 19 = .ok (.getfield 11, 3) := by decide +kernel
theorem md_N_polynomial_22 : decode mc_N_polynomial 22 = .ok (.iconst 0, 1) := by decide +kernel
theorem md_N_polynomial_23 : decode mc_N_polynomial 23 = .ok (.aaload, 1) := by decide +kernel
theorem md_N_polynomial_24 : decode mc_N_polynomial 24 = .ok (.astore_n 3, 1) := by decide +kernel
theorem md_N_polynomial_25 : decode mc_N_polynomial 25 = .ok (.aload_n 3, 1) := by decide +kernel
theorem md_N_polynomial_26 : decode mc_N_polynomial 26 = .ok (.iconst 5, 1) := by decide +kernel
theorem md_N_polynomial_27 : decode mc_N_polynomial 27 = .ok (.laload, 1) := by decide +kernel
theorem md_N_polynomial_28 : decode mc_N_polynomial 28 = .ok (.lstore 4, 2) := by decide +kernel
theorem md_N_polynomial_30 : decode mc_N_polynomial 30 = .ok (.iconst 4, 1) := by decide +kernel
theorem md_N_polynomial_31 : decode mc_N_polynomial 31 = .ok (.istore 6, 2) := by decide +kernel
theorem md_N_polynomial_33 : decode mc_N_polynomial 33 = .ok (.iload 6, 2) := by decide +kernel
theorem md_N_polynomial_35 : decode mc_N_polynomial 35 = .ok (.ifCond .lt 32, 3) := by decide +kernel
theorem md_N_polynomial_38 : decode mc_N_polynomial 38 = .ok (.getstatic 87, 3) := by decide +kernel
theorem md_N_polynomial_41 : decode mc_N_polynomial 41 = .ok (.getstatic 87, 3) := by decide +kernel
theorem md_N_polynomial_44 : decode mc_N_polynomial 44 = .ok (.lload 4, 2) := by decide +kernel
theorem md_N_polynomial_46 : decode mc_N_polynomial 46 = .ok (.aload_n 3, 1) := by decide +kernel
theorem md_N_polynomial_47 : decode mc_N_polynomial 47 = .ok (.iload_n 1, 1) := by decide +kernel
theorem md_N_polynomial_48 : decode mc_N_polynomial 48 = .ok (.laload, 1) := by decide +kernel
theorem md_N_polynomial_49 : decode mc_N_polynomial 49 = .ok (.invokevirtual 90, 3) := by decide +kernel
theorem md_N_polynomial_52 : decode mc_N_polynomial 52 = .ok (.aload_n 3, 1) := by decide +kernel
theorem md_N_polynomial_53 : decode mc_N_polynomial 53 = .ok (.iload 6, 2) := by decide +kernel
theorem md_N_polynomial_55 : decode mc_N_polynomial 55 = .ok (.laload, 1) := by decide +kernel
theorem md_N_polynomial_56 : decode mc_N_polynomial 56 = .ok (.invokevirtual 83, 3) := by decide +kernel
theorem md_N_polynomial_59 : decode mc_N_polynomial 59 = .ok (.lstore 4, 2) := by decide +kernel
theorem md_N_polynomial_61 : decode mc_N_polynomial 61 = .ok (.iinc 6 (-1), 3) := by decide +kernel
theorem md_N_polynomial_64 : decode mc_N_polynomial 64 = .ok (.goto (-31), 3) := by decide +kernel
theorem md_N_polynomial_67 : decode mc_N_polynomial 67 = .ok (.aload_n 3, 1) := by decide +kernel
theorem md_N_polynomial_68 : decode mc_N_polynomial 68 = .ok (.iload_n 2, 1) := by decide +kernel
theorem md_N_polynomial_69 : decode mc_N_polynomial 69 = .ok (.lload 4, 2) := by decide +kernel
theorem md_N_polynomial_71 : decode mc_N_polynomial 71 = .ok (.lastore, 1) := by decide +kernel
theorem md_N_polynomial_72 : decode mc_N_polynomial 72 = .ok (.iconst 0, 1) := by decide +kernel
theorem md_N_polynomial_73 : decode mc_N_polynomial 73 = .ok (.ireturn, 1) := by decide +kernel
abbrev mc_N_isNumber : ByteArray := prog_1_method_14_code
def my_N_isNumber : MethodName := ⟨"NumberProbe", "isNumber", "(II)Z"⟩
abbrev mw_N_isNumber : List Cond := Cond.code my_N_isNumber mc_N_isNumber 2 (some .boolean) :: gw_tbl
theorem md_N_isNumber_0 : decode mc_N_isNumber 0 = .ok (.iload_n 0, 1) := by decide +kernel
theorem md_N_isNumber_1 : decode mc_N_isNumber 1 = .ok (.ifCond .lt 22, 3) := by decide +kernel
theorem md_N_isNumber_4 : decode mc_N_isNumber 4 = .ok (.iload_n 0, 1) := by decide +kernel
theorem md_N_isNumber_5 : decode mc_N_isNumber 5 = .ok (.iconst 4, 1) := by decide +kernel
theorem md_N_isNumber_6 : decode mc_N_isNumber 6 = .ok (.if_icmp .ge 17, 3) := by decide +kernel
theorem md_N_isNumber_9 : decode mc_N_isNumber 9 = .ok (.iload_n 1, 1) := by decide +kernel
theorem md_N_isNumber_10 : decode mc_N_isNumber 10 = .ok (.ifCond .lt 13, 3) := by decide +kernel
theorem md_N_isNumber_13 : decode mc_N_isNumber 13 = .ok (.iload_n 1, 1) := by decide +kernel
theorem md_N_isNumber_14 : decode mc_N_isNumber 14 = .ok (.bipush 6, 2) := by decide +kernel
theorem md_N_isNumber_16 : decode mc_N_isNumber 16 = .ok (.if_icmp .ge 7, 3) := by decide +kernel
theorem md_N_isNumber_19 : decode mc_N_isNumber 19 = .ok (.iconst 1, 1) := by decide +kernel
theorem md_N_isNumber_20 : decode mc_N_isNumber 20 = .ok (.goto 4, 3) := by decide +kernel
theorem md_N_isNumber_23 : decode mc_N_isNumber 23 = .ok (.iconst 0, 1) := by decide +kernel
theorem md_N_isNumber_24 : decode mc_N_isNumber 24 = .ok (.ireturn, 1) := by decide +kernel
abbrev mc_N_isOperation : ByteArray := prog_1_method_15_code
def my_N_isOperation : MethodName := ⟨"NumberProbe", "isOperation", "(II)Z"⟩
abbrev mw_N_isOperation : List Cond := Cond.code my_N_isOperation mc_N_isOperation 2 (some .boolean) :: gw_tbl
theorem md_N_isOperation_0 : decode mc_N_isOperation 0 = .ok (.iload_n 1, 1) := by decide +kernel
theorem md_N_isOperation_1 : decode mc_N_isOperation 1 = .ok (.ifCond .lt 25, 3) := by decide +kernel
theorem md_N_isOperation_4 : decode mc_N_isOperation 4 = .ok (.iload_n 1, 1) := by decide +kernel
theorem md_N_isOperation_5 : decode mc_N_isOperation 5 = .ok (.iload_n 0, 1) := by decide +kernel
theorem md_N_isOperation_6 : decode mc_N_isOperation 6 = .ok (.invokestatic 18, 3) := by decide +kernel
theorem md_N_isOperation_9 : decode mc_N_isOperation 9 = .ok (.ifCond .eq 8, 3) := by decide +kernel
theorem md_N_isOperation_12 : decode mc_N_isOperation 12 = .ok (.bipush 8, 2) := by decide +kernel
theorem md_N_isOperation_14 : decode mc_N_isOperation 14 = .ok (.goto 5, 3) := by decide +kernel
theorem md_N_isOperation_17 : decode mc_N_isOperation 17 = .ok (.bipush 14, 2) := by decide +kernel
theorem md_N_isOperation_19 : decode mc_N_isOperation 19 = .ok (.if_icmp .gt 7, 3) := by decide +kernel
theorem md_N_isOperation_22 : decode mc_N_isOperation 22 = .ok (.iconst 1, 1) := by decide +kernel
theorem md_N_isOperation_23 : decode mc_N_isOperation 23 = .ok (.goto 4, 3) := by decide +kernel
theorem md_N_isOperation_26 : decode mc_N_isOperation 26 = .ok (.iconst 0, 1) := by decide +kernel
theorem md_N_isOperation_27 : decode mc_N_isOperation 27 = .ok (.ireturn, 1) := by decide +kernel
abbrev mc_N_isFloating : ByteArray := prog_1_method_16_code
def my_N_isFloating : MethodName := ⟨"NumberProbe", "isFloating", "(I)Z"⟩
abbrev mw_N_isFloating : List Cond := Cond.code my_N_isFloating mc_N_isFloating 1 (some .boolean) :: gw_tbl
theorem md_N_isFloating_0 : decode mc_N_isFloating 0 = .ok (.iload_n 0, 1) := by decide +kernel
theorem md_N_isFloating_1 : decode mc_N_isFloating 1 = .ok (.ifCond .eq 8, 3) := by decide +kernel
theorem md_N_isFloating_4 : decode mc_N_isFloating 4 = .ok (.iload_n 0, 1) := by decide +kernel
theorem md_N_isFloating_5 : decode mc_N_isFloating 5 = .ok (.iconst 1, 1) := by decide +kernel
theorem md_N_isFloating_6 : decode mc_N_isFloating 6 = .ok (.if_icmp .ne 7, 3) := by decide +kernel
theorem md_N_isFloating_9 : decode mc_N_isFloating 9 = .ok (.iconst 1, 1) := by decide +kernel
theorem md_N_isFloating_10 : decode mc_N_isFloating 10 = .ok (.goto 4, 3) := by decide +kernel
theorem md_N_isFloating_13 : decode mc_N_isFloating 13 = .ok (.iconst 0, 1) := by decide +kernel
theorem md_N_isFloating_14 : decode mc_N_isFloating 14 = .ok (.ireturn, 1) := by decide +kernel
abbrev mc_N_formatOf : ByteArray := prog_1_method_17_code
def my_N_formatOf : MethodName := ⟨"NumberProbe", "formatOf", "(I)LNumberProbe$Format;"⟩
abbrev mw_N_formatOf : List Cond := Cond.code my_N_formatOf mc_N_formatOf 1 (some (.object "NumberProbe$Format")) :: gw_tbl
theorem md_N_formatOf_0 : decode mc_N_formatOf 0 = .ok (.iload_n 0, 1) := by decide +kernel
theorem md_N_formatOf_1 : decode mc_N_formatOf 1 = .ok (.ifCond .ne 9, 3) := by decide +kernel
theorem md_N_formatOf_4 : decode mc_N_formatOf 4 = .ok (.getstatic 87, 3) := by decide +kernel
theorem md_N_formatOf_7 : decode mc_N_formatOf 7 = .ok (.goto 6, 3) := by decide +kernel
theorem md_N_formatOf_10 : decode mc_N_formatOf 10 = .ok (.getstatic 79, 3) := by decide +kernel
theorem md_N_formatOf_13 : decode mc_N_formatOf 13 = .ok (.areturn, 1) := by decide +kernel
abbrev mc_N_widthOf : ByteArray := prog_1_method_18_code
def my_N_widthOf : MethodName := ⟨"NumberProbe", "widthOf", "(I)I"⟩
abbrev mw_N_widthOf : List Cond := Cond.code my_N_widthOf mc_N_widthOf 1 (some .int) :: gw_tbl
theorem md_N_widthOf_0 : decode mc_N_widthOf 0 = .ok (.iload_n 0, 1) := by decide +kernel
theorem md_N_widthOf_1 : decode mc_N_widthOf 1 = .ok (.invokestatic 18, 3) := by decide +kernel
theorem md_N_widthOf_4 : decode mc_N_widthOf 4 = .ok (.ifCond .eq 9, 3) := by decide +kernel
theorem md_N_widthOf_7 : decode mc_N_widthOf 7 = .ok (.iload_n 0, 1) := by decide +kernel
theorem md_N_widthOf_8 : decode mc_N_widthOf 8 = .ok (.iconst 2, 1) := by decide +kernel
theorem md_N_widthOf_9 : decode mc_N_widthOf 9 = .ok (.iadd, 1) := by decide +kernel
theorem md_N_widthOf_10 : decode mc_N_widthOf 10 = .ok (.goto 6, 3) := by decide +kernel
theorem md_N_widthOf_13 : decode mc_N_widthOf 13 = .ok (.iload_n 0, 1) := by decide +kernel
theorem md_N_widthOf_14 : decode mc_N_widthOf 14 = .ok (.iconst 2, 1) := by decide +kernel
theorem md_N_widthOf_15 : decode mc_N_widthOf 15 = .ok (.isub, 1) := by decide +kernel
theorem md_N_widthOf_16 : decode mc_N_widthOf 16 = .ok (.ireturn, 1) := by decide +kernel
abbrev mc_N_boundariesOf : ByteArray := prog_1_method_19_code
def my_N_boundariesOf : MethodName := ⟨"NumberProbe", "boundariesOf", "(I)[J"⟩
abbrev mw_N_boundariesOf : List Cond := Cond.code my_N_boundariesOf mc_N_boundariesOf 1 (some (.array .long)) :: gw_tbl
theorem md_N_boundariesOf_0 : decode mc_N_boundariesOf 0 = .ok (.iload_n 0, 1) := by decide +kernel
theorem md_N_boundariesOf_1 : decode mc_N_boundariesOf 1 = .ok (.tableswitch 39 0 2 #[27, 31, 35], 27) := by decide +kernel
theorem md_N_boundariesOf_28 : decode mc_N_boundariesOf 28 = .ok (.getstatic 93, 3) := by decide +kernel
theorem md_N_boundariesOf_31 : decode mc_N_boundariesOf 31 = .ok (.areturn, 1) := by decide +kernel
theorem md_N_boundariesOf_32 : decode mc_N_boundariesOf 32 = .ok (.getstatic 97, 3) := by decide +kernel
theorem md_N_boundariesOf_35 : decode mc_N_boundariesOf 35 = .ok (.areturn, 1) := by decide +kernel
theorem md_N_boundariesOf_36 : decode mc_N_boundariesOf 36 = .ok (.getstatic 100, 3) := by decide +kernel
theorem md_N_boundariesOf_39 : decode mc_N_boundariesOf 39 = .ok (.areturn, 1) := by decide +kernel
theorem md_N_boundariesOf_40 : decode mc_N_boundariesOf 40 = .ok (.getstatic 103, 3) := by decide +kernel
theorem md_N_boundariesOf_43 : decode mc_N_boundariesOf 43 = .ok (.areturn, 1) := by decide +kernel
abbrev mc_N_fitted : ByteArray := prog_1_method_20_code
def my_N_fitted : MethodName := ⟨"NumberProbe", "fitted", "(IJ)J"⟩
abbrev mw_N_fitted : List Cond := Cond.code my_N_fitted mc_N_fitted 3 (some .long) :: gw_tbl
theorem md_N_fitted_0 : decode mc_N_fitted 0 = .ok (.iload_n 0, 1) := by decide +kernel
theorem md_N_fitted_1 : decode mc_N_fitted 1 = .ok (.iconst 3, 1) := by decide +kernel
theorem md_N_fitted_2 : decode mc_N_fitted 2 = .ok (.if_icmp .ne 7, 3) := by decide +kernel
theorem md_N_fitted_5 : decode mc_N_fitted 5 = .ok (.lload_n 1, 1) := by decide +kernel
theorem md_N_fitted_6 : decode mc_N_fitted 6 = .ok (.goto 6, 3) := by decide +kernel
theorem md_N_fitted_9 : decode mc_N_fitted 9 = .ok (.lload_n 1, 1) := by decide +kernel
theorem md_N_fitted_10 : decode mc_N_fitted 10 = .ok (.l2i, 1) := by decide +kernel
theorem md_N_fitted_11 : decode mc_N_fitted 11 = .ok (.i2l, 1) := by decide +kernel
theorem md_N_fitted_12 : decode mc_N_fitted 12 = .ok (.lreturn, 1) := by decide +kernel
abbrev mc_N_converted : ByteArray := prog_1_method_21_code
def my_N_converted : MethodName := ⟨"NumberProbe", "converted", "(IJI)J"⟩
abbrev mw_N_converted : List Cond := Cond.code my_N_converted mc_N_converted 6 (some .long) :: gw_tbl
theorem md_N_converted_0 : decode mc_N_converted 0 = .ok (.iload_n 3, 1) := by decide +kernel
theorem md_N_converted_1 : decode mc_N_converted 1 = .ok (.invokestatic 18, 3) := by decide +kernel
theorem md_N_converted_4 : decode mc_N_converted 4 = .ok (.ifCond .eq 34, 3) := by decide +kernel
theorem md_N_converted_7 : decode mc_N_converted 7 = .ok (.iload_n 0, 1) := by decide +kernel
theorem md_N_converted_8 : decode mc_N_converted 8 = .ok (.invokestatic 18, 3) := by decide +kernel
theorem md_N_converted_11 : decode mc_N_converted 11 = .ok (.ifCond .eq 18, 3) := by decide +kernel
theorem md_N_converted_14 : decode mc_N_converted 14 = .ok (.iload_n 3, 1) := by decide +kernel
theorem md_N_converted_15 : decode mc_N_converted 15 = .ok (.invokestatic 22, 3) := by decide +kernel
theorem md_N_converted_18 : decode mc_N_converted 18 = .ok (.iload_n 0, 1) := by decide +kernel
theorem md_N_converted_19 : decode mc_N_converted 19 = .ok (.invokestatic 22, 3) := by decide +kernel
theorem md_N_converted_22 : decode mc_N_converted 22 = .ok (.lload_n 1, 1) := by decide +kernel
theorem md_N_converted_23 : decode mc_N_converted 23 = .ok (.invokevirtual 106, 3) := by decide +kernel
theorem md_N_converted_26 : decode mc_N_converted 26 = .ok (.goto 11, 3) := by decide +kernel
theorem md_N_converted_29 : decode mc_N_converted 29 = .ok (.iload_n 3, 1) := by decide +kernel
theorem md_N_converted_30 : decode mc_N_converted 30 = .ok (.invokestatic 22, 3) := by decide +kernel
theorem md_N_converted_33 : decode mc_N_converted 33 = .ok (.lload_n 1, 1) := by decide +kernel
theorem md_N_converted_34 : decode mc_N_converted 34 = .ok (.invokevirtual 110, 3) := by decide +kernel
theorem md_N_converted_37 : decode mc_N_converted 37 = .ok (.lreturn, 1) := by decide +kernel
theorem md_N_converted_38 : decode mc_N_converted 38 = .ok (.iload_n 0, 1) := by decide +kernel
theorem md_N_converted_39 : decode mc_N_converted 39 = .ok (.invokestatic 18, 3) := by decide +kernel
theorem md_N_converted_42 : decode mc_N_converted 42 = .ok (.ifCond .ne 9, 3) := by decide +kernel
theorem md_N_converted_45 : decode mc_N_converted 45 = .ok (.iload_n 3, 1) := by decide +kernel
theorem md_N_converted_46 : decode mc_N_converted 46 = .ok (.lload_n 1, 1) := by decide +kernel
theorem md_N_converted_47 : decode mc_N_converted 47 = .ok (.invokestatic 32, 3) := by decide +kernel
theorem md_N_converted_50 : decode mc_N_converted 50 = .ok (.lreturn, 1) := by decide +kernel
theorem md_N_converted_51 : decode mc_N_converted 51 = .ok (.iload_n 0, 1) := by decide +kernel
theorem md_N_converted_52 : decode mc_N_converted 52 = .ok (.invokestatic 22, 3) := by decide +kernel
theorem md_N_converted_55 : decode mc_N_converted 55 = .ok (.lload_n 1, 1) := by decide +kernel
theorem md_N_converted_56 : decode mc_N_converted 56 = .ok (.invokevirtual 113, 3) := by decide +kernel
theorem md_N_converted_59 : decode mc_N_converted 59 = .ok (.lstore 4, 2) := by decide +kernel
theorem md_N_converted_61 : decode mc_N_converted 61 = .ok (.iload_n 3, 1) := by decide +kernel
theorem md_N_converted_62 : decode mc_N_converted 62 = .ok (.iconst 3, 1) := by decide +kernel
theorem md_N_converted_63 : decode mc_N_converted 63 = .ok (.if_icmp .ne 8, 3) := by decide +kernel
theorem md_N_converted_66 : decode mc_N_converted 66 = .ok (.lload 4, 2) := by decide +kernel
theorem md_N_converted_68 : decode mc_N_converted 68 = .ok (.goto 17, 3) := by decide +kernel
theorem md_N_converted_71 : decode mc_N_converted 71 = .ok (.ldc2_w 118, 3) := by decide +kernel
theorem md_N_converted_74 : decode mc_N_converted 74 = .ok (.ldc2_w 120, 3) := by decide +kernel
theorem md_N_converted_77 : decode mc_N_converted 77 = .ok (.lload 4, 2) := by decide +kernel
theorem md_N_converted_79 : decode mc_N_converted 79 = .ok (.invokestatic 122, 3) := by decide +kernel
theorem md_N_converted_82 : decode mc_N_converted 82 = .ok (.invokestatic 127, 3) := by decide +kernel
theorem md_N_converted_85 : decode mc_N_converted 85 = .ok (.lreturn, 1) := by decide +kernel
abbrev mc_N_dividesByZero : ByteArray := prog_1_method_22_code
def my_N_dividesByZero : MethodName := ⟨"NumberProbe", "dividesByZero", "(IIJ)Z"⟩
abbrev mw_N_dividesByZero : List Cond := Cond.code my_N_dividesByZero mc_N_dividesByZero 4 (some .boolean) :: gw_tbl
theorem md_N_dividesByZero_0 : decode mc_N_dividesByZero 0 = .ok (.iload_n 0, 1) := by decide +kernel
theorem md_N_dividesByZero_1 : decode mc_N_dividesByZero 1 = .ok (.invokestatic 18, 3) := by decide +kernel
theorem md_N_dividesByZero_4 : decode mc_N_dividesByZero 4 = .ok (.ifCond .ne 23, 3) := by decide +kernel
theorem md_N_dividesByZero_7 : decode mc_N_dividesByZero 7 = .ok (.iload_n 1, 1) := by decide +kernel
theorem md_N_dividesByZero_8 : decode mc_N_dividesByZero 8 = .ok (.iconst 3, 1) := by decide +kernel
theorem md_N_dividesByZero_9 : decode mc_N_dividesByZero 9 = .ok (.if_icmp .eq 8, 3) := by decide +kernel
theorem md_N_dividesByZero_12 : decode mc_N_dividesByZero 12 = .ok (.iload_n 1, 1) := by decide +kernel
theorem md_N_dividesByZero_13 : decode mc_N_dividesByZero 13 = .ok (.iconst 4, 1) := by decide +kernel
theorem md_N_dividesByZero_14 : decode mc_N_dividesByZero 14 = .ok (.if_icmp .ne 13, 3) := by decide +kernel
theorem md_N_dividesByZero_17 : decode mc_N_dividesByZero 17 = .ok (.lload_n 2, 1) := by decide +kernel
theorem md_N_dividesByZero_18 : decode mc_N_dividesByZero 18 = .ok (.lconst 0, 1) := by decide +kernel
theorem md_N_dividesByZero_19 : decode mc_N_dividesByZero 19 = .ok (.lcmp, 1) := by decide +kernel
theorem md_N_dividesByZero_20 : decode mc_N_dividesByZero 20 = .ok (.ifCond .ne 7, 3) := by decide +kernel
theorem md_N_dividesByZero_23 : decode mc_N_dividesByZero 23 = .ok (.iconst 1, 1) := by decide +kernel
theorem md_N_dividesByZero_24 : decode mc_N_dividesByZero 24 = .ok (.goto 4, 3) := by decide +kernel
theorem md_N_dividesByZero_27 : decode mc_N_dividesByZero 27 = .ok (.iconst 0, 1) := by decide +kernel
theorem md_N_dividesByZero_28 : decode mc_N_dividesByZero 28 = .ok (.ireturn, 1) := by decide +kernel
abbrev mc_N_result : ByteArray := prog_1_method_23_code
def my_N_result : MethodName := ⟨"NumberProbe", "result", "(IIJJ)J"⟩
abbrev mw_N_result : List Cond := Cond.code my_N_result mc_N_result 6 (some .long) :: gw_tbl
theorem md_N_result_0 : decode mc_N_result 0 = .ok (.iload_n 0, 1) := by decide +kernel
theorem md_N_result_1 : decode mc_N_result 1 = .ok (.invokestatic 18, 3) := by decide +kernel
theorem md_N_result_4 : decode mc_N_result 4 = .ok (.ifCond .eq 15, 3) := by decide +kernel
theorem md_N_result_7 : decode mc_N_result 7 = .ok (.iload_n 0, 1) := by decide +kernel
theorem md_N_result_8 : decode mc_N_result 8 = .ok (.invokestatic 22, 3) := by decide +kernel
theorem md_N_result_11 : decode mc_N_result 11 = .ok (.iload_n 1, 1) := by decide +kernel
theorem md_N_result_12 : decode mc_N_result 12 = .ok (.lload_n 2, 1) := by decide +kernel
theorem md_N_result_13 : decode mc_N_result 13 = .ok (.lload 4, 2) := by decide +kernel
theorem md_N_result_15 : decode mc_N_result 15 = .ok (.invokestatic 130, 3) := by decide +kernel
theorem md_N_result_18 : decode mc_N_result 18 = .ok (.lreturn, 1) := by decide +kernel
theorem md_N_result_19 : decode mc_N_result 19 = .ok (.iload_n 1, 1) := by decide +kernel
theorem md_N_result_20 : decode mc_N_result 20 = .ok (.bipush 9, 2) := by decide +kernel
theorem md_N_result_22 : decode mc_N_result 22 = .ok (.if_icmp .lt 18, 3) := by decide +kernel
theorem md_N_result_25 : decode mc_N_result 25 = .ok (.iload_n 1, 1) := by decide +kernel
theorem md_N_result_26 : decode mc_N_result 26 = .ok (.bipush 11, 2) := by decide +kernel
theorem md_N_result_28 : decode mc_N_result 28 = .ok (.if_icmp .gt 12, 3) := by decide +kernel
theorem md_N_result_31 : decode mc_N_result 31 = .ok (.iload_n 0, 1) := by decide +kernel
theorem md_N_result_32 : decode mc_N_result 32 = .ok (.iload_n 1, 1) := by decide +kernel
theorem md_N_result_33 : decode mc_N_result 33 = .ok (.lload_n 2, 1) := by decide +kernel
theorem md_N_result_34 : decode mc_N_result 34 = .ok (.lload 4, 2) := by decide +kernel
theorem md_N_result_36 : decode mc_N_result 36 = .ok (.invokestatic 134, 3) := by decide +kernel
theorem md_N_result_39 : decode mc_N_result 39 = .ok (.lreturn, 1) := by decide +kernel
theorem md_N_result_40 : decode mc_N_result 40 = .ok (.iload_n 0, 1) := by decide +kernel
theorem md_N_result_41 : decode mc_N_result 41 = .ok (.iload_n 1, 1) := by decide +kernel
theorem md_N_result_42 : decode mc_N_result 42 = .ok (.lload_n 2, 1) := by decide +kernel
theorem md_N_result_43 : decode mc_N_result 43 = .ok (.lload 4, 2) := by decide +kernel
theorem md_N_result_45 : decode mc_N_result 45 = .ok (.invokestatic 137, 3) := by decide +kernel
theorem md_N_result_48 : decode mc_N_result 48 = .ok (.invokestatic 32, 3) := by decide +kernel
theorem md_N_result_51 : decode mc_N_result 51 = .ok (.lreturn, 1) := by decide +kernel
abbrev mc_N_floatingResult : ByteArray := prog_1_method_24_code
def my_N_floatingResult : MethodName := ⟨"NumberProbe", "floatingResult", "(LNumberProbe$Format;IJJ)J"⟩
abbrev mw_N_floatingResult : List Cond := Cond.code my_N_floatingResult mc_N_floatingResult 6 (some .long) :: gw_tbl
theorem md_N_floatingResult_0 : decode mc_N_floatingResult 0 = .ok (.iload_n 1, 1) := by decide +kernel
theorem md_N_floatingResult_1 : decode mc_N_floatingResult 1 = .ok (.tableswitch 113 0 7 #[47, 55, 67, 75, 83, 91, 99, 107], 47) := by decide +kernel
theorem md_N_floatingResult_48 : decode mc_N_floatingResult 48 = .ok (.aload_n 0, 1) := by decide +kernel
theorem md_N_floatingResult_49 : decode mc_N_floatingResult 49 = .ok (.lload_n 2, 1) := by decide +kernel
theorem md_N_floatingResult_50 : decode mc_N_floatingResult 50 = .ok (.lload 4, 2) := by decide +kernel
theorem md_N_floatingResult_52 : decode mc_N_floatingResult 52 = .ok (.invokevirtual 83, 3) := by decide +kernel
theorem md_N_floatingResult_55 : decode mc_N_floatingResult 55 = .ok (.lreturn, 1) := by decide +kernel
theorem md_N_floatingResult_56 : decode mc_N_floatingResult 56 = .ok (.aload_n 0, 1) := by decide +kernel
theorem md_N_floatingResult_57 : decode mc_N_floatingResult 57 = .ok (.lload_n 2, 1) := by decide +kernel
theorem md_N_floatingResult_58 : decode mc_N_floatingResult 58 = .ok (.aload_n 0, 1) := by decide +kernel
theorem md_N_floatingResult_59 : decode mc_N_floatingResult 59 = .ok (.lload 4, 2) := by decide +kernel
theorem md_N_floatingResult_61 : decode mc_N_floatingResult 61 = .ok (.invokevirtual 141, 3) := by decide +kernel
theorem md_N_floatingResult_64 : decode mc_N_floatingResult 64 = .ok (.invokevirtual 83, 3) := by decide +kernel
theorem md_N_floatingResult_67 : decode mc_N_floatingResult 67 = .ok (.lreturn, 1) := by decide +kernel
theorem md_N_floatingResult_68 : decode mc_N_floatingResult 68 = .ok (.aload_n 0, 1) := by decide +kernel
theorem md_N_floatingResult_69 : decode mc_N_floatingResult 69 = .ok (.lload_n 2, 1) := by decide +kernel
theorem md_N_floatingResult_70 : decode mc_N_floatingResult 70 = .ok (.lload 4, 2) := by decide +kernel
theorem md_N_floatingResult_72 : decode mc_N_floatingResult 72 = .ok (.invokevirtual 90, 3) := by decide +kernel
theorem md_N_floatingResult_75 : decode mc_N_floatingResult 75 = .ok (.lreturn, 1) := by decide +kernel
theorem md_N_floatingResult_76 : decode mc_N_floatingResult 76 = .ok (.aload_n 0, 1) := by decide +kernel
theorem md_N_floatingResult_77 : decode mc_N_floatingResult 77 = .ok (.lload_n 2, 1) := by decide +kernel
theorem md_N_floatingResult_78 : decode mc_N_floatingResult 78 = .ok (.lload 4, 2) := by decide +kernel
theorem md_N_floatingResult_80 : decode mc_N_floatingResult 80 = .ok (.invokevirtual 144, 3) := by decide +kernel
theorem md_N_floatingResult_83 : decode mc_N_floatingResult 83 = .ok (.lreturn, 1) := by decide +kernel
theorem md_N_floatingResult_84 : decode mc_N_floatingResult 84 = .ok (.aload_n 0, 1) := by decide +kernel
theorem md_N_floatingResult_85 : decode mc_N_floatingResult 85 = .ok (.lload_n 2, 1) := by decide +kernel
theorem md_N_floatingResult_86 : decode mc_N_floatingResult 86 = .ok (.lload 4, 2) := by decide +kernel
theorem md_N_floatingResult_88 : decode mc_N_floatingResult 88 = .ok (.invokevirtual 147, 3) := by decide +kernel
theorem md_N_floatingResult_91 : decode mc_N_floatingResult 91 = .ok (.lreturn, 1) := by decide +kernel
theorem md_N_floatingResult_92 : decode mc_N_floatingResult 92 = .ok (.aload_n 0, 1) := by decide +kernel
theorem md_N_floatingResult_93 : decode mc_N_floatingResult 93 = .ok (.lload_n 2, 1) := by decide +kernel
theorem md_N_floatingResult_94 : decode mc_N_floatingResult 94 = .ok (.lload 4, 2) := by decide +kernel
theorem md_N_floatingResult_96 : decode mc_N_floatingResult 96 = .ok (.invokevirtual 150, 3) := by decide +kernel
theorem md_N_floatingResult_99 : decode mc_N_floatingResult 99 = .ok (.lreturn, 1) := by decide +kernel
theorem md_N_floatingResult_100 : decode mc_N_floatingResult 100 = .ok (.aload_n 0, 1) := by decide +kernel
theorem md_N_floatingResult_101 : decode mc_N_floatingResult 101 = .ok (.lload_n 2, 1) := by decide +kernel
theorem md_N_floatingResult_102 : decode mc_N_floatingResult 102 = .ok (.lload 4, 2) := by decide +kernel
theorem md_N_floatingResult_104 : decode mc_N_floatingResult 104 = .ok (.invokevirtual 153, 3) := by decide +kernel
theorem md_N_floatingResult_107 : decode mc_N_floatingResult 107 = .ok (.lreturn, 1) := by decide +kernel
theorem md_N_floatingResult_108 : decode mc_N_floatingResult 108 = .ok (.aload_n 0, 1) := by decide +kernel
theorem md_N_floatingResult_109 : decode mc_N_floatingResult 109 = .ok (.lload_n 2, 1) := by decide +kernel
theorem md_N_floatingResult_110 : decode mc_N_floatingResult 110 = .ok (.invokevirtual 141, 3) := by decide +kernel
theorem md_N_floatingResult_113 : decode mc_N_floatingResult 113 = .ok (.lreturn, 1) := by decide +kernel
theorem md_N_floatingResult_114 : decode mc_N_floatingResult 114 = .ok (.aload_n 0, 1) := by decide +kernel
theorem md_N_floatingResult_115 : decode mc_N_floatingResult 115 = .ok (.lload_n 2, 1) := by decide +kernel
theorem md_N_floatingResult_116 : decode mc_N_floatingResult 116 = .ok (.invokevirtual 156, 3) := by decide +kernel
theorem md_N_floatingResult_119 : decode mc_N_floatingResult 119 = .ok (.lreturn, 1) := by decide +kernel
abbrev mc_N_wholeResult : ByteArray := prog_1_method_25_code
def my_N_wholeResult : MethodName := ⟨"NumberProbe", "wholeResult", "(IJJ)J"⟩
abbrev mw_N_wholeResult : List Cond := Cond.code my_N_wholeResult mc_N_wholeResult 5 (some .long) :: gw_tbl
theorem md_N_wholeResult_0 : decode mc_N_wholeResult 0 = .ok (.iload_n 0, 1) := by decide +kernel
theorem md_N_wholeResult_1 : decode mc_N_wholeResult 1 = .ok (.tableswitch 127 0 13 #[71, 75, 79, 83, 87, 91, 97, 103, 106, 127, 127, 127, 119, 123], 71) := by decide +kernel
theorem md_N_wholeResult_72 : decode mc_N_wholeResult 72 = .ok (.lload_n 1, 1) := by decide +kernel
theorem md_N_wholeResult_73 : decode mc_N_wholeResult 73 = .ok (.lload_n 3, 1) := by decide +kernel
theorem md_N_wholeResult_74 : decode mc_N_wholeResult 74 = .ok (.ladd, 1) := by decide +kernel
theorem md_N_wholeResult_75 : decode mc_N_wholeResult 75 = .ok (.lreturn, 1) := by decide +kernel
theorem md_N_wholeResult_76 : decode mc_N_wholeResult 76 = .ok (.lload_n 1, 1) := by decide +kernel
theorem md_N_wholeResult_77 : decode mc_N_wholeResult 77 = .ok (.lload_n 3, 1) := by decide +kernel
theorem md_N_wholeResult_78 : decode mc_N_wholeResult 78 = .ok (.lsub, 1) := by decide +kernel
theorem md_N_wholeResult_79 : decode mc_N_wholeResult 79 = .ok (.lreturn, 1) := by decide +kernel
theorem md_N_wholeResult_80 : decode mc_N_wholeResult 80 = .ok (.lload_n 1, 1) := by decide +kernel
theorem md_N_wholeResult_81 : decode mc_N_wholeResult 81 = .ok (.lload_n 3, 1) := by decide +kernel
theorem md_N_wholeResult_82 : decode mc_N_wholeResult 82 = .ok (.lmul, 1) := by decide +kernel
theorem md_N_wholeResult_83 : decode mc_N_wholeResult 83 = .ok (.lreturn, 1) := by decide +kernel
theorem md_N_wholeResult_84 : decode mc_N_wholeResult 84 = .ok (.lload_n 1, 1) := by decide +kernel
theorem md_N_wholeResult_85 : decode mc_N_wholeResult 85 = .ok (.lload_n 3, 1) := by decide +kernel
theorem md_N_wholeResult_86 : decode mc_N_wholeResult 86 = .ok (.ldiv, 1) := by decide +kernel
theorem md_N_wholeResult_87 : decode mc_N_wholeResult 87 = .ok (.lreturn, 1) := by decide +kernel
theorem md_N_wholeResult_88 : decode mc_N_wholeResult 88 = .ok (.lload_n 1, 1) := by decide +kernel
theorem md_N_wholeResult_89 : decode mc_N_wholeResult 89 = .ok (.lload_n 3, 1) := by decide +kernel
theorem md_N_wholeResult_90 : decode mc_N_wholeResult 90 = .ok (.lrem, 1) := by decide +kernel
theorem md_N_wholeResult_91 : decode mc_N_wholeResult 91 = .ok (.lreturn, 1) := by decide +kernel
theorem md_N_wholeResult_92 : decode mc_N_wholeResult 92 = .ok (.lload_n 1, 1) := by decide +kernel
theorem md_N_wholeResult_93 : decode mc_N_wholeResult 93 = .ok (.lload_n 3, 1) := by decide +kernel
theorem md_N_wholeResult_94 : decode mc_N_wholeResult 94 = .ok (.invokestatic 122, 3) := by decide +kernel
theorem md_N_wholeResult_97 : decode mc_N_wholeResult 97 = .ok (.lreturn, 1) := by decide +kernel
theorem md_N_wholeResult_98 : decode mc_N_wholeResult 98 = .ok (.lload_n 1, 1) := by decide +kernel
theorem md_N_wholeResult_99 : decode mc_N_wholeResult 99 = .ok (.lload_n 3, 1) := by decide +kernel
theorem md_N_wholeResult_100 : decode mc_N_wholeResult 100 = .ok (.invokestatic 127, 3) := by decide +kernel
theorem md_N_wholeResult_103 : decode mc_N_wholeResult 103 = .ok (.lreturn, 1) := by decide +kernel
theorem md_N_wholeResult_104 : decode mc_N_wholeResult 104 = .ok (.lload_n 1, 1) := by decide +kernel
theorem md_N_wholeResult_105 : decode mc_N_wholeResult 105 = .ok (.lneg, 1) := by decide +kernel
theorem md_N_wholeResult_106 : decode mc_N_wholeResult 106 = .ok (.lreturn, 1) := by decide +kernel
theorem md_N_wholeResult_107 : decode mc_N_wholeResult 107 = .ok (.lload_n 1, 1) := by decide +kernel
theorem md_N_wholeResult_108 : decode mc_N_wholeResult 108 = .ok (.lconst 0, 1) := by decide +kernel
theorem md_N_wholeResult_109 : decode mc_N_wholeResult 109 = .ok (.lcmp, 1) := by decide +kernel
theorem md_N_wholeResult_110 : decode mc_N_wholeResult 110 = .ok (.ifCond .ge 8, 3) := by decide +kernel
theorem md_N_wholeResult_113 : decode mc_N_wholeResult 113 = .ok (.lload_n 1, 1) := by decide +kernel
theorem md_N_wholeResult_114 : decode mc_N_wholeResult 114 = .ok (.lneg, 1) := by decide +kernel
theorem md_N_wholeResult_115 : decode mc_N_wholeResult 115 = .ok (.goto 4, 3) := by decide +kernel
theorem md_N_wholeResult_118 : decode mc_N_wholeResult 118 = .ok (.lload_n 1, 1) := by decide +kernel
theorem md_N_wholeResult_119 : decode mc_N_wholeResult 119 = .ok (.lreturn, 1) := by decide +kernel
theorem md_N_wholeResult_120 : decode mc_N_wholeResult 120 = .ok (.lload_n 1, 1) := by decide +kernel
theorem md_N_wholeResult_121 : decode mc_N_wholeResult 121 = .ok (.lload_n 3, 1) := by decide +kernel
theorem md_N_wholeResult_122 : decode mc_N_wholeResult 122 = .ok (.land, 1) := by decide +kernel
theorem md_N_wholeResult_123 : decode mc_N_wholeResult 123 = .ok (.lreturn, 1) := by decide +kernel
theorem md_N_wholeResult_124 : decode mc_N_wholeResult 124 = .ok (.lload_n 1, 1) := by decide +kernel
theorem md_N_wholeResult_125 : decode mc_N_wholeResult 125 = .ok (.lload_n 3, 1) := by decide +kernel
theorem md_N_wholeResult_126 : decode mc_N_wholeResult 126 = .ok (.lor, 1) := by decide +kernel
theorem md_N_wholeResult_127 : decode mc_N_wholeResult 127 = .ok (.lreturn, 1) := by decide +kernel
theorem md_N_wholeResult_128 : decode mc_N_wholeResult 128 = .ok (.lload_n 1, 1) := by decide +kernel
theorem md_N_wholeResult_129 : decode mc_N_wholeResult 129 = .ok (.lload_n 3, 1) := by decide +kernel
theorem md_N_wholeResult_130 : decode mc_N_wholeResult 130 = .ok (.lxor, 1) := by decide +kernel
theorem md_N_wholeResult_131 : decode mc_N_wholeResult 131 = .ok (.lreturn, 1) := by decide +kernel
abbrev mc_N_shifted : ByteArray := prog_1_method_26_code
def my_N_shifted : MethodName := ⟨"NumberProbe", "shifted", "(IIJJ)J"⟩
abbrev mw_N_shifted : List Cond := Cond.code my_N_shifted mc_N_shifted 8 (some .long) :: gw_tbl
theorem md_N_shifted_0 : decode mc_N_shifted 0 = .ok (.iload_n 0, 1) := by decide +kernel
theorem md_N_shifted_1 : decode mc_N_shifted 1 = .ok (.iconst 2, 1) := by decide +kernel
theorem md_N_shifted_2 : decode mc_N_shifted 2 = .ok (.if_icmp .ne 50, 3) := by decide +kernel
theorem md_N_shifted_5 : decode mc_N_shifted 5 = .ok (.lload_n 2, 1) := by decide +kernel
theorem md_N_shifted_6 : decode mc_N_shifted 6 = .ok (.l2i, 1) := by decide +kernel
theorem md_N_shifted_7 : decode mc_N_shifted 7 = .ok (.istore 6, 2) := by decide +kernel
theorem md_N_shifted_9 : decode mc_N_shifted 9 = .ok (.lload 4, 2) := by decide +kernel
theorem md_N_shifted_11 : decode mc_N_shifted 11 = .ok (.l2i, 1) := by decide +kernel
theorem md_N_shifted_12 : decode mc_N_shifted 12 = .ok (.bipush 31, 2) := by decide +kernel
theorem md_N_shifted_14 : decode mc_N_shifted 14 = .ok (.iand, 1) := by decide +kernel
theorem md_N_shifted_15 : decode mc_N_shifted 15 = .ok (.istore 7, 2) := by decide +kernel
theorem md_N_shifted_17 : decode mc_N_shifted 17 = .ok (.iload_n 1, 1) := by decide +kernel
theorem md_N_shifted_18 : decode mc_N_shifted 18 = .ok (.bipush 9, 2) := by decide +kernel
theorem md_N_shifted_20 : decode mc_N_shifted 20 = .ok (.if_icmp .ne 10, 3) := by decide +kernel
theorem md_N_shifted_23 : decode mc_N_shifted 23 = .ok (.iload 6, 2) := by decide +kernel
theorem md_N_shifted_25 : decode mc_N_shifted 25 = .ok (.iload 7, 2) := by decide +kernel
theorem md_N_shifted_27 : decode mc_N_shifted 27 = .ok (.ishl, 1) := by decide +kernel
theorem md_N_shifted_28 : decode mc_N_shifted 28 = .ok (.i2l, 1) := by decide +kernel
theorem md_N_shifted_29 : decode mc_N_shifted 29 = .ok (.lreturn, 1) := by decide +kernel
theorem md_N_shifted_30 : decode mc_N_shifted 30 = .ok (.iload_n 1, 1) := by decide +kernel
theorem md_N_shifted_31 : decode mc_N_shifted 31 = .ok (.bipush 10, 2) := by decide +kernel
theorem md_N_shifted_33 : decode mc_N_shifted 33 = .ok (.if_icmp .ne 12, 3) := by decide +kernel
theorem md_N_shifted_36 : decode mc_N_shifted 36 = .ok (.iload 6, 2) := by decide +kernel
theorem md_N_shifted_38 : decode mc_N_shifted 38 = .ok (.iload 7, 2) := by decide +kernel
theorem md_N_shifted_40 : decode mc_N_shifted 40 = .ok (.ishr, 1) := by decide +kernel
theorem md_N_shifted_41 : decode mc_N_shifted 41 = .ok (.i2l, 1) := by decide +kernel
theorem md_N_shifted_42 : decode mc_N_shifted 42 = .ok (.goto 9, 3) := by decide +kernel
theorem md_N_shifted_45 : decode mc_N_shifted 45 = .ok (.iload 6, 2) := by decide +kernel
theorem md_N_shifted_47 : decode mc_N_shifted 47 = .ok (.iload 7, 2) := by decide +kernel
theorem md_N_shifted_49 : decode mc_N_shifted 49 = .ok (.iushr, 1) := by decide +kernel
theorem md_N_shifted_50 : decode mc_N_shifted 50 = .ok (.i2l, 1) := by decide +kernel
theorem md_N_shifted_51 : decode mc_N_shifted 51 = .ok (.lreturn, 1) := by decide +kernel
theorem md_N_shifted_52 : decode mc_N_shifted 52 = .ok (.lload 4, 2) := by decide +kernel
theorem md_N_shifted_54 : decode mc_N_shifted 54 = .ok (.l2i, 1) := by decide +kernel
theorem md_N_shifted_55 : decode mc_N_shifted 55 = .ok (.bipush 63, 2) := by decide +kernel
theorem md_N_shifted_57 : decode mc_N_shifted 57 = .ok (.iand, 1) := by decide +kernel
theorem md_N_shifted_58 : decode mc_N_shifted 58 = .ok (.istore 6, 2) := by decide +kernel
theorem md_N_shifted_60 : decode mc_N_shifted 60 = .ok (.iload_n 1, 1) := by decide +kernel
theorem md_N_shifted_61 : decode mc_N_shifted 61 = .ok (.bipush 9, 2) := by decide +kernel
theorem md_N_shifted_63 : decode mc_N_shifted 63 = .ok (.if_icmp .ne 8, 3) := by decide +kernel
theorem md_N_shifted_66 : decode mc_N_shifted 66 = .ok (.lload_n 2, 1) := by decide +kernel
theorem md_N_shifted_67 : decode mc_N_shifted 67 = .ok (.iload 6, 2) := by decide +kernel
theorem md_N_shifted_69 : decode mc_N_shifted 69 = .ok (.lshl, 1) := by decide +kernel
theorem md_N_shifted_70 : decode mc_N_shifted 70 = .ok (.lreturn, 1) := by decide +kernel
theorem md_N_shifted_71 : decode mc_N_shifted 71 = .ok (.iload_n 1, 1) := by decide +kernel
theorem md_N_shifted_72 : decode mc_N_shifted 72 = .ok (.bipush 10, 2) := by decide +kernel
theorem md_N_shifted_74 : decode mc_N_shifted 74 = .ok (.if_icmp .ne 10, 3) := by decide +kernel
theorem md_N_shifted_77 : decode mc_N_shifted 77 = .ok (.lload_n 2, 1) := by decide +kernel
theorem md_N_shifted_78 : decode mc_N_shifted 78 = .ok (.iload 6, 2) := by decide +kernel
theorem md_N_shifted_80 : decode mc_N_shifted 80 = .ok (.lshr, 1) := by decide +kernel
theorem md_N_shifted_81 : decode mc_N_shifted 81 = .ok (.goto 7, 3) := by decide +kernel
theorem md_N_shifted_84 : decode mc_N_shifted 84 = .ok (.lload_n 2, 1) := by decide +kernel
theorem md_N_shifted_85 : decode mc_N_shifted 85 = .ok (.iload 6, 2) := by decide +kernel
theorem md_N_shifted_87 : decode mc_N_shifted 87 = .ok (.lushr, 1) := by decide +kernel
theorem md_N_shifted_88 : decode mc_N_shifted 88 = .ok (.lreturn, 1) := by decide +kernel
