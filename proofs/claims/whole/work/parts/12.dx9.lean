theorem dX9_init_0 : decode cX9_init 0 = .ok (.aload_n 0, 1) := by decide +kernel
theorem dX9_init_1 : decode cX9_init 1 = .ok (.invokespecial 1, 3) := by decide +kernel
theorem dX9_init_4 : decode cX9_init 4 = .ok (.aload_n 0, 1) := by decide +kernel
theorem dX9_init_5 : decode cX9_init 5 = .ok (.bipush 60, 2) := by decide +kernel
theorem dX9_init_7 : decode cX9_init 7 = .ok (.newarray .int, 2) := by decide +kernel
theorem dX9_init_9 : decode cX9_init 9 = .ok (.putfield 7, 3) := by decide +kernel
theorem dX9_init_12 : decode cX9_init 12 = .ok (.aload_n 0, 1) := by decide +kernel
theorem dX9_init_13 : decode cX9_init 13 = .ok (.sipush 201, 3) := by decide +kernel
theorem dX9_init_16 : decode cX9_init 16 = .ok (.newarray .int, 2) := by decide +kernel
theorem dX9_init_18 : decode cX9_init 18 = .ok (.putfield 13, 3) := by decide +kernel
theorem dX9_init_21 : decode cX9_init 21 = .ok (.aload_n 0, 1) := by decide +kernel
theorem dX9_init_22 : decode cX9_init 22 = .ok (.sipush 201, 3) := by decide +kernel
theorem dX9_init_25 : decode cX9_init 25 = .ok (.newarray .int, 2) := by decide +kernel
theorem dX9_init_27 : decode cX9_init 27 = .ok (.putfield 16, 3) := by decide +kernel
theorem dX9_init_30 : decode cX9_init 30 = .ok (.aload_n 0, 1) := by decide +kernel
theorem dX9_init_31 : decode cX9_init 31 = .ok (.sipush 201, 3) := by decide +kernel
theorem dX9_init_34 : decode cX9_init 34 = .ok (.newarray .int, 2) := by decide +kernel
theorem dX9_init_36 : decode cX9_init 36 = .ok (.putfield 19, 3) := by decide +kernel
theorem dX9_init_39 : decode cX9_init 39 = .ok (.aload_n 0, 1) := by decide +kernel
theorem dX9_init_40 : decode cX9_init 40 = .ok (.sipush 201, 3) := by decide +kernel
theorem dX9_init_43 : decode cX9_init 43 = .ok (.newarray .int, 2) := by decide +kernel
theorem dX9_init_45 : decode cX9_init 45 = .ok (.putfield 22, 3) := by decide +kernel
theorem dX9_init_48 : decode cX9_init 48 = .ok (.aload_n 0, 1) := by decide +kernel
theorem dX9_init_49 : decode cX9_init 49 = .ok (.sipush 2814, 3) := by decide +kernel
theorem dX9_init_52 : decode cX9_init 52 = .ok (.newarray .int, 2) := by decide +kernel
theorem dX9_init_54 : decode cX9_init 54 = .ok (.putfield 25, 3) := by decide +kernel
theorem dX9_init_57 : decode cX9_init 57 = .ok (.aload_n 0, 1) := by decide +kernel
theorem dX9_init_58 : decode cX9_init 58 = .ok (.sipush 402, 3) := by decide +kernel
theorem dX9_init_61 : decode cX9_init 61 = .ok (.newarray .int, 2) := by decide +kernel
theorem dX9_init_63 : decode cX9_init 63 = .ok (.putfield 28, 3) := by decide +kernel
theorem dX9_init_66 : decode cX9_init 66 = .ok (.aload_n 0, 1) := by decide +kernel
theorem dX9_init_67 : decode cX9_init 67 = .ok (.iconst 2, 1) := by decide +kernel
theorem dX9_init_68 : decode cX9_init 68 = .ok (.newarray .boolean, 2) := by decide +kernel
theorem dX9_init_70 : decode cX9_init 70 = .ok (.putfield 31, 3) := by decide +kernel
theorem dX9_init_73 : decode cX9_init 73 = .ok (.aload_n 0, 1) := by decide +kernel
theorem dX9_init_74 : decode cX9_init 74 = .ok (.bipush 6, 2) := by decide +kernel
theorem dX9_init_76 : decode cX9_init 76 = .ok (.newarray .int, 2) := by decide +kernel
theorem dX9_init_78 : decode cX9_init 78 = .ok (.putfield 35, 3) := by decide +kernel
theorem dX9_init_81 : decode cX9_init 81 = .ok (.aload_n 0, 1) := by decide +kernel
theorem dX9_init_82 : decode cX9_init 82 = .ok (.bipush 6, 2) := by decide +kernel
theorem dX9_init_84 : decode cX9_init 84 = .ok (.newarray .int, 2) := by decide +kernel
theorem dX9_init_86 : decode cX9_init 86 = .ok (.putfield 38, 3) := by decide +kernel
theorem dX9_init_89 : decode cX9_init 89 = .ok (.aload_n 0, 1) := by decide +kernel
theorem dX9_init_90 : decode cX9_init 90 = .ok (.sipush 201, 3) := by decide +kernel
theorem dX9_init_93 : decode cX9_init 93 = .ok (.newarray .int, 2) := by decide +kernel
theorem dX9_init_95 : decode cX9_init 95 = .ok (.putfield 41, 3) := by decide +kernel
theorem dX9_init_98 : decode cX9_init 98 = .ok (.aload_n 0, 1) := by decide +kernel
theorem dX9_init_99 : decode cX9_init 99 = .ok (.sipush 201, 3) := by decide +kernel
theorem dX9_init_102 : decode cX9_init 102 = .ok (.newarray .int, 2) := by decide +kernel
theorem dX9_init_104 : decode cX9_init 104 = .ok (.putfield 44, 3) := by decide +kernel
theorem dX9_init_107 : decode cX9_init 107 = .ok (.aload_n 0, 1) := by decide +kernel
theorem dX9_init_108 : decode cX9_init 108 = .ok (.sipush 201, 3) := by decide +kernel
theorem dX9_init_111 : decode cX9_init 111 = .ok (.newarray .boolean, 2) := by decide +kernel
theorem dX9_init_113 : decode cX9_init 113 = .ok (.putfield 47, 3) := by decide +kernel
theorem dX9_init_116 : decode cX9_init 116 = .ok (.aload_n 0, 1) := by decide +kernel
theorem dX9_init_117 : decode cX9_init 117 = .ok (.sipush 321, 3) := by decide +kernel
theorem dX9_init_120 : decode cX9_init 120 = .ok (.newarray .int, 2) := by decide +kernel
theorem dX9_init_122 : decode cX9_init 122 = .ok (.putfield 50, 3) := by decide +kernel
theorem dX9_init_125 : decode cX9_init 125 = .ok (.aload_n 0, 1) := by decide +kernel
theorem dX9_init_126 : decode cX9_init 126 = .ok (.sipush 321, 3) := by decide +kernel
theorem dX9_init_129 : decode cX9_init 129 = .ok (.newarray .int, 2) := by decide +kernel
theorem dX9_init_131 : decode cX9_init 131 = .ok (.putfield 53, 3) := by decide +kernel
theorem dX9_init_134 : decode cX9_init 134 = .ok (.aload_n 0, 1) := by decide +kernel
theorem dX9_init_135 : decode cX9_init 135 = .ok (.iconst 5, 1) := by decide +kernel
theorem dX9_init_136 : decode cX9_init 136 = .ok (.newarray .int, 2) := by decide +kernel
theorem dX9_init_138 : decode cX9_init 138 = .ok (.putfield 56, 3) := by decide +kernel
theorem dX9_init_141 : decode cX9_init 141 = .ok (.aload_n 0, 1) := by decide +kernel
theorem dX9_init_142 : decode cX9_init 142 = .ok (.getfield 13, 3) := by decide +kernel
theorem dX9_init_145 : decode cX9_init 145 = .ok (.sipush 200, 3) := by decide +kernel
theorem dX9_init_148 : decode cX9_init 148 = .ok (.iconst 1, 1) := by decide +kernel
theorem dX9_init_149 : decode cX9_init 149 = .ok (.iastore, 1) := by decide +kernel
theorem dX9_init_150 : decode cX9_init 150 = .ok (.return_, 1) := by decide +kernel
theorem dX9_in_0 : decode cX9_in 0 = .ok (.lload_n 0, 1) := by decide +kernel
theorem dX9_in_1 : decode cX9_in 1 = .ok (.lload_n 2, 1) := by decide +kernel
theorem dX9_in_2 : decode cX9_in 2 = .ok (.lcmp, 1) := by decide +kernel
theorem dX9_in_3 : decode cX9_in 3 = .ok (.ifCond .lt 14, 3) := by decide +kernel
theorem dX9_in_6 : decode cX9_in 6 = .ok (.lload_n 0, 1) := by decide +kernel
theorem dX9_in_7 : decode cX9_in 7 = .ok (.lload 4, 2) := by decide +kernel
theorem dX9_in_9 : decode cX9_in 9 = .ok (.lcmp, 1) := by decide +kernel
theorem dX9_in_10 : decode cX9_in 10 = .ok (.ifCond .gt 7, 3) := by decide +kernel
theorem dX9_in_13 : decode cX9_in 13 = .ok (.iconst 1, 1) := by decide +kernel
theorem dX9_in_14 : decode cX9_in 14 = .ok (.goto 4, 3) := by decide +kernel
theorem dX9_in_17 : decode cX9_in 17 = .ok (.iconst 0, 1) := by decide +kernel
theorem dX9_in_18 : decode cX9_in 18 = .ok (.ireturn, 1) := by decide +kernel
theorem dX9_assign_0 : decode cX9_assign 0 = .ok (.iconst 0, 1) := by decide +kernel
theorem dX9_assign_1 : decode cX9_assign 1 = .ok (.istore_n 2, 1) := by decide +kernel
theorem dX9_assign_2 : decode cX9_assign 2 = .ok (.iload_n 2, 1) := by decide +kernel
theorem dX9_assign_3 : decode cX9_assign 3 = .ok (.sipush 201, 3) := by decide +kernel
theorem dX9_assign_6 : decode cX9_assign 6 = .ok (.if_icmp .ge 15, 3) := by decide +kernel
theorem dX9_assign_9 : decode cX9_assign 9 = .ok (.aload_n 1, 1) := by decide +kernel
theorem dX9_assign_10 : decode cX9_assign 10 = .ok (.iload_n 2, 1) := by decide +kernel
theorem dX9_assign_11 : decode cX9_assign 11 = .ok (.aload_n 0, 1) := by decide +kernel
theorem dX9_assign_12 : decode cX9_assign 12 = .ok (.iload_n 2, 1) := by decide +kernel
theorem dX9_assign_13 : decode cX9_assign 13 = .ok (.iaload, 1) := by decide +kernel
theorem dX9_assign_14 : decode cX9_assign 14 = .ok (.iastore, 1) := by decide +kernel
theorem dX9_assign_15 : decode cX9_assign 15 = .ok (.iinc 2 1, 3) := by decide +kernel
theorem dX9_assign_18 : decode cX9_assign 18 = .ok (.goto (-16), 3) := by decide +kernel
theorem dX9_assign_21 : decode cX9_assign 21 = .ok (.return_, 1) := by decide +kernel
theorem dX9_isVariable_0 : decode cX9_isVariable 0 = .ok (.iload_n 0, 1) := by decide +kernel
theorem dX9_isVariable_1 : decode cX9_isVariable 1 = .ok (.sipush 1000, 3) := by decide +kernel
theorem dX9_isVariable_4 : decode cX9_isVariable 4 = .ok (.if_icmp .ge 7, 3) := by decide +kernel
theorem dX9_isVariable_7 : decode cX9_isVariable 7 = .ok (.iconst 1, 1) := by decide +kernel
theorem dX9_isVariable_8 : decode cX9_isVariable 8 = .ok (.goto 4, 3) := by decide +kernel
theorem dX9_isVariable_11 : decode cX9_isVariable 11 = .ok (.iconst 0, 1) := by decide +kernel
theorem dX9_isVariable_12 : decode cX9_isVariable 12 = .ok (.ireturn, 1) := by decide +kernel
theorem dX9_parts_0 : decode cX9_parts 0 = .ok (.iload_n 0, 1) := by decide +kernel
theorem dX9_parts_1 : decode cX9_parts 1 = .ok (.ldc 63, 2) := by decide +kernel
theorem dX9_parts_3 : decode cX9_parts 3 = .ok (.if_icmp .lt 14, 3) := by decide +kernel
theorem dX9_parts_6 : decode cX9_parts 6 = .ok (.iconst 1, 1) := by decide +kernel
theorem dX9_parts_7 : decode cX9_parts 7 = .ok (.iload_n 0, 1) := by decide +kernel
theorem dX9_parts_8 : decode cX9_parts 8 = .ok (.ldc 63, 2) := by decide +kernel
theorem dX9_parts_10 : decode cX9_parts 10 = .ok (.isub, 1) := by decide +kernel
theorem dX9_parts_11 : decode cX9_parts 11 = .ok (.sipush 1000, 3) := by decide +kernel
theorem dX9_parts_14 : decode cX9_parts 14 = .ok (.idiv, 1) := by decide +kernel
theorem dX9_parts_15 : decode cX9_parts 15 = .ok (.iadd, 1) := by decide +kernel
theorem dX9_parts_16 : decode cX9_parts 16 = .ok (.ireturn, 1) := by decide +kernel
theorem dX9_parts_17 : decode cX9_parts 17 = .ok (.iload_n 0, 1) := by decide +kernel
theorem dX9_parts_18 : decode cX9_parts 18 = .ok (.sipush 1000, 3) := by decide +kernel
theorem dX9_parts_21 : decode cX9_parts 21 = .ok (.if_icmp .ne 7, 3) := by decide +kernel
theorem dX9_parts_24 : decode cX9_parts 24 = .ok (.iconst 2, 1) := by decide +kernel
theorem dX9_parts_25 : decode cX9_parts 25 = .ok (.goto 15, 3) := by decide +kernel
theorem dX9_parts_28 : decode cX9_parts 28 = .ok (.iload_n 0, 1) := by decide +kernel
theorem dX9_parts_29 : decode cX9_parts 29 = .ok (.sipush 1001, 3) := by decide +kernel
theorem dX9_parts_32 : decode cX9_parts 32 = .ok (.if_icmp .ne 7, 3) := by decide +kernel
theorem dX9_parts_35 : decode cX9_parts 35 = .ok (.iconst 1, 1) := by decide +kernel
theorem dX9_parts_36 : decode cX9_parts 36 = .ok (.goto 4, 3) := by decide +kernel
theorem dX9_parts_39 : decode cX9_parts 39 = .ok (.iconst 0, 1) := by decide +kernel
theorem dX9_parts_40 : decode cX9_parts 40 = .ok (.ireturn, 1) := by decide +kernel
theorem dX9_end_0 : decode cX9_end 0 = .ok (.iconst 1, 1) := by decide +kernel
theorem dX9_end_1 : decode cX9_end 1 = .ok (.istore_n 2, 1) := by decide +kernel
theorem dX9_end_2 : decode cX9_end 2 = .ok (.iload_n 1, 1) := by decide +kernel
theorem dX9_end_3 : decode cX9_end 3 = .ok (.istore_n 3, 1) := by decide +kernel
theorem dX9_end_4 : decode cX9_end 4 = .ok (.iload_n 2, 1) := by decide +kernel
theorem dX9_end_5 : decode cX9_end 5 = .ok (.ifCond .le 20, 3) := by decide +kernel
theorem dX9_end_8 : decode cX9_end 8 = .ok (.iload_n 2, 1) := by decide +kernel
theorem dX9_end_9 : decode cX9_end 9 = .ok (.aload_n 0, 1) := by decide +kernel
theorem dX9_end_10 : decode cX9_end 10 = .ok (.iload_n 3, 1) := by decide +kernel
theorem dX9_end_11 : decode cX9_end 11 = .ok (.iaload, 1) := by decide +kernel
theorem dX9_end_12 : decode cX9_end 12 = .ok (.invokestatic 64, 3) := by decide +kernel
theorem dX9_end_15 : decode cX9_end 15 = .ok (.iconst 1, 1) := by decide +kernel
theorem dX9_end_16 : decode cX9_end 16 = .ok (.isub, 1) := by decide +kernel
theorem dX9_end_17 : decode cX9_end 17 = .ok (.iadd, 1) := by decide +kernel
theorem dX9_end_18 : decode cX9_end 18 = .ok (.istore_n 2, 1) := by decide +kernel
theorem dX9_end_19 : decode cX9_end 19 = .ok (.iinc 3 1, 3) := by decide +kernel
theorem dX9_end_22 : decode cX9_end 22 = .ok (.goto (-18), 3) := by decide +kernel
theorem dX9_end_25 : decode cX9_end 25 = .ok (.iload_n 3, 1) := by decide +kernel
theorem dX9_end_26 : decode cX9_end 26 = .ok (.ireturn, 1) := by decide +kernel
theorem dX9_layDepths_0 : decode cX9_layDepths 0 = .ok (.iconst 0, 1) := by decide +kernel
theorem dX9_layDepths_1 : decode cX9_layDepths 1 = .ok (.istore 4, 2) := by decide +kernel
theorem dX9_layDepths_3 : decode cX9_layDepths 3 = .ok (.iconst 0, 1) := by decide +kernel
theorem dX9_layDepths_4 : decode cX9_layDepths 4 = .ok (.istore 5, 2) := by decide +kernel
theorem dX9_layDepths_6 : decode cX9_layDepths 6 = .ok (.iload_n 2, 1) := by decide +kernel
theorem dX9_layDepths_7 : decode cX9_layDepths 7 = .ok (.istore 6, 2) := by decide +kernel
theorem dX9_layDepths_9 : decode cX9_layDepths 9 = .ok (.iload 6, 2) := by decide +kernel
theorem dX9_layDepths_11 : decode cX9_layDepths 11 = .ok (.iload_n 3, 1) := by decide +kernel
theorem dX9_layDepths_12 : decode cX9_layDepths 12 = .ok (.if_icmp .ge 182, 3) := by decide +kernel
theorem dX9_layDepths_15 : decode cX9_layDepths 15 = .ok (.aload_n 0, 1) := by decide +kernel
theorem dX9_layDepths_16 : decode cX9_layDepths 16 = .ok (.getfield 41, 3) := by decide +kernel
theorem dX9_layDepths_19 : decode cX9_layDepths 19 = .ok (.iload 6, 2) := by decide +kernel
theorem dX9_layDepths_21 : decode cX9_layDepths 21 = .ok (.iload 5, 2) := by decide +kernel
theorem dX9_layDepths_23 : decode cX9_layDepths 23 = .ok (.iastore, 1) := by decide +kernel
theorem dX9_layDepths_24 : decode cX9_layDepths 24 = .ok (.aload_n 1, 1) := by decide +kernel
theorem dX9_layDepths_25 : decode cX9_layDepths 25 = .ok (.iload 6, 2) := by decide +kernel
theorem dX9_layDepths_27 : decode cX9_layDepths 27 = .ok (.iaload, 1) := by decide +kernel
theorem dX9_layDepths_28 : decode cX9_layDepths 28 = .ok (.invokestatic 68, 3) := by decide +kernel
theorem dX9_layDepths_31 : decode cX9_layDepths 31 = .ok (.ifCond .ne 65, 3) := by decide +kernel
theorem dX9_layDepths_34 : decode cX9_layDepths 34 = .ok (.aload_n 0, 1) := by decide +kernel
theorem dX9_layDepths_35 : decode cX9_layDepths 35 = .ok (.getfield 44, 3) := by decide +kernel
theorem dX9_layDepths_38 : decode cX9_layDepths 38 = .ok (.iload 4, 2) := by decide +kernel
theorem dX9_layDepths_40 : decode cX9_layDepths 40 = .ok (.aload_n 1, 1) := by decide +kernel
theorem dX9_layDepths_41 : decode cX9_layDepths 41 = .ok (.iload 6, 2) := by decide +kernel
theorem dX9_layDepths_43 : decode cX9_layDepths 43 = .ok (.iaload, 1) := by decide +kernel
theorem dX9_layDepths_44 : decode cX9_layDepths 44 = .ok (.invokestatic 64, 3) := by decide +kernel
theorem dX9_layDepths_47 : decode cX9_layDepths 47 = .ok (.iastore, 1) := by decide +kernel
theorem dX9_layDepths_48 : decode cX9_layDepths 48 = .ok (.aload_n 0, 1) := by decide +kernel
theorem dX9_layDepths_49 : decode cX9_layDepths 49 = .ok (.getfield 47, 3) := by decide +kernel
theorem dX9_layDepths_52 : decode cX9_layDepths 52 = .ok (.iload 4, 2) := by decide +kernel
theorem dX9_layDepths_54 : decode cX9_layDepths 54 = .ok (.aload_n 1, 1) := by decide +kernel
theorem dX9_layDepths_55 : decode cX9_layDepths 55 = .ok (.iload 6, 2) := by decide +kernel
theorem dX9_layDepths_57 : decode cX9_layDepths 57 = .ok (.iaload, 1) := by decide +kernel
theorem dX9_layDepths_58 : decode cX9_layDepths 58 = .ok (.sipush 1001, 3) := by decide +kernel
theorem dX9_layDepths_61 : decode cX9_layDepths 61 = .ok (.if_icmp .ne 7, 3) := by decide +kernel
theorem dX9_layDepths_64 : decode cX9_layDepths 64 = .ok (.iconst 1, 1) := by decide +kernel
theorem dX9_layDepths_65 : decode cX9_layDepths 65 = .ok (.goto 4, 3) := by decide +kernel
theorem dX9_layDepths_68 : decode cX9_layDepths 68 = .ok (.iconst 0, 1) := by decide +kernel
theorem dX9_layDepths_69 : decode cX9_layDepths 69 = .ok (.bastore, 1) := by decide +kernel
theorem dX9_layDepths_70 : decode cX9_layDepths 70 = .ok (.iload 5, 2) := by decide +kernel
theorem dX9_layDepths_72 : decode cX9_layDepths 72 = .ok (.aload_n 0, 1) := by decide +kernel
theorem dX9_layDepths_73 : decode cX9_layDepths 73 = .ok (.getfield 47, 3) := by decide +kernel
theorem dX9_layDepths_76 : decode cX9_layDepths 76 = .ok (.iload 4, 2) := by decide +kernel
theorem dX9_layDepths_78 : decode cX9_layDepths 78 = .ok (.baload, 1) := by decide +kernel
theorem dX9_layDepths_79 : decode cX9_layDepths 79 = .ok (.ifCond .eq 7, 3) := by decide +kernel
theorem dX9_layDepths_82 : decode cX9_layDepths 82 = .ok (.iconst 1, 1) := by decide +kernel
theorem dX9_layDepths_83 : decode cX9_layDepths 83 = .ok (.goto 4, 3) := by decide +kernel
theorem dX9_layDepths_86 : decode cX9_layDepths 86 = .ok (.iconst 0, 1) := by decide +kernel
theorem dX9_layDepths_87 : decode cX9_layDepths 87 = .ok (.iadd, 1) := by decide +kernel
theorem dX9_layDepths_88 : decode cX9_layDepths 88 = .ok (.istore 5, 2) := by decide +kernel
theorem dX9_layDepths_90 : decode cX9_layDepths 90 = .ok (.iinc 4 1, 3) := by decide +kernel
theorem dX9_layDepths_93 : decode cX9_layDepths 93 = .ok (.goto 95, 3) := by decide +kernel
theorem dX9_layDepths_96 : decode cX9_layDepths 96 = .ok (.iload 4, 2) := by decide +kernel
theorem dX9_layDepths_98 : decode cX9_layDepths 98 = .ok (.ifCond .le 7, 3) := by decide +kernel
theorem dX9_layDepths_101 : decode cX9_layDepths 101 = .ok (.iconst 1, 1) := by decide +kernel
theorem dX9_layDepths_102 : decode cX9_layDepths 102 = .ok (.goto 4, 3) := by decide +kernel
theorem dX9_layDepths_105 : decode cX9_layDepths 105 = .ok (.iconst 0, 1) := by decide +kernel
theorem dX9_layDepths_106 : decode cX9_layDepths 106 = .ok (.istore 7, 2) := by decide +kernel
theorem dX9_layDepths_108 : decode cX9_layDepths 108 = .ok (.iload 7, 2) := by decide +kernel
theorem dX9_layDepths_110 : decode cX9_layDepths 110 = .ok (.ifCond .eq 78, 3) := by decide +kernel
theorem dX9_layDepths_113 : decode cX9_layDepths 113 = .ok (.aload_n 0, 1) := by decide +kernel
theorem dX9_layDepths_114 : decode cX9_layDepths 114 = .ok (.getfield 44, 3) := by decide +kernel
theorem dX9_layDepths_117 : decode cX9_layDepths 117 = .ok (.iload 4, 2) := by decide +kernel
theorem dX9_layDepths_119 : decode cX9_layDepths 119 = .ok (.iconst 1, 1) := by decide +kernel
theorem dX9_layDepths_120 : decode cX9_layDepths 120 = .ok (.isub, 1) := by decide +kernel
theorem dX9_layDepths_121 : decode cX9_layDepths 121 = .ok (.dup2, 1) := by decide +kernel
theorem dX9_layDepths_122 : decode cX9_layDepths 122 = .ok (.iaload, 1) := by decide +kernel
theorem dX9_layDepths_123 : decode cX9_layDepths 123 = .ok (.iconst 1, 1) := by decide +kernel
theorem dX9_layDepths_124 : decode cX9_layDepths 124 = .ok (.isub, 1) := by decide +kernel
theorem dX9_layDepths_125 : decode cX9_layDepths 125 = .ok (.iastore, 1) := by decide +kernel
theorem dX9_layDepths_126 : decode cX9_layDepths 126 = .ok (.aload_n 0, 1) := by decide +kernel
theorem dX9_layDepths_127 : decode cX9_layDepths 127 = .ok (.getfield 44, 3) := by decide +kernel
theorem dX9_layDepths_130 : decode cX9_layDepths 130 = .ok (.iload 4, 2) := by decide +kernel
theorem dX9_layDepths_132 : decode cX9_layDepths 132 = .ok (.iconst 1, 1) := by decide +kernel
theorem dX9_layDepths_133 : decode cX9_layDepths 133 = .ok (.isub, 1) := by decide +kernel
theorem dX9_layDepths_134 : decode cX9_layDepths 134 = .ok (.iaload, 1) := by decide +kernel
theorem dX9_layDepths_135 : decode cX9_layDepths 135 = .ok (.ifCond .ne 7, 3) := by decide +kernel
theorem dX9_layDepths_138 : decode cX9_layDepths 138 = .ok (.iconst 1, 1) := by decide +kernel
theorem dX9_layDepths_139 : decode cX9_layDepths 139 = .ok (.goto 4, 3) := by decide +kernel
theorem dX9_layDepths_142 : decode cX9_layDepths 142 = .ok (.iconst 0, 1) := by decide +kernel
theorem dX9_layDepths_143 : decode cX9_layDepths 143 = .ok (.istore 7, 2) := by decide +kernel
theorem dX9_layDepths_145 : decode cX9_layDepths 145 = .ok (.iload 7, 2) := by decide +kernel
theorem dX9_layDepths_147 : decode cX9_layDepths 147 = .ok (.ifCond .eq (-39), 3) := by decide +kernel
theorem dX9_layDepths_150 : decode cX9_layDepths 150 = .ok (.iinc 4 (-1), 3) := by decide +kernel
theorem dX9_layDepths_153 : decode cX9_layDepths 153 = .ok (.iload 5, 2) := by decide +kernel
theorem dX9_layDepths_155 : decode cX9_layDepths 155 = .ok (.aload_n 0, 1) := by decide +kernel
theorem dX9_layDepths_156 : decode cX9_layDepths 156 = .ok (.getfield 47, 3) := by decide +kernel
theorem dX9_layDepths_159 : decode cX9_layDepths 159 = .ok (.iload 4, 2) := by decide +kernel
theorem dX9_layDepths_161 : decode cX9_layDepths 161 = .ok (.baload, 1) := by decide +kernel
theorem dX9_layDepths_162 : decode cX9_layDepths 162 = .ok (.ifCond .eq 7, 3) := by decide +kernel
theorem dX9_layDepths_165 : decode cX9_layDepths 165 = .ok (.iconst 1, 1) := by decide +kernel
theorem dX9_layDepths_166 : decode cX9_layDepths 166 = .ok (.goto 4, 3) := by decide +kernel
theorem dX9_layDepths_169 : decode cX9_layDepths 169 = .ok (.iconst 0, 1) := by decide +kernel
theorem dX9_layDepths_170 : decode cX9_layDepths 170 = .ok (.isub, 1) := by decide +kernel
theorem dX9_layDepths_171 : decode cX9_layDepths 171 = .ok (.istore 5, 2) := by decide +kernel
theorem dX9_layDepths_173 : decode cX9_layDepths 173 = .ok (.iload 4, 2) := by decide +kernel
theorem dX9_layDepths_175 : decode cX9_layDepths 175 = .ok (.ifCond .le 7, 3) := by decide +kernel
theorem dX9_layDepths_178 : decode cX9_layDepths 178 = .ok (.iconst 1, 1) := by decide +kernel
theorem dX9_layDepths_179 : decode cX9_layDepths 179 = .ok (.goto 4, 3) := by decide +kernel
theorem dX9_layDepths_182 : decode cX9_layDepths 182 = .ok (.iconst 0, 1) := by decide +kernel
theorem dX9_layDepths_183 : decode cX9_layDepths 183 = .ok (.istore 7, 2) := by decide +kernel
theorem dX9_layDepths_185 : decode cX9_layDepths 185 = .ok (.goto (-77), 3) := by decide +kernel
theorem dX9_layDepths_188 : decode cX9_layDepths 188 = .ok (.iinc 6 1, 3) := by decide +kernel
theorem dX9_layDepths_191 : decode cX9_layDepths 191 = .ok (.goto (-182), 3) := by decide +kernel
theorem dX9_layDepths_194 : decode cX9_layDepths 194 = .ok (.return_, 1) := by decide +kernel
theorem dX9_isRedex_0 : decode cX9_isRedex 0 = .ok (.aload_n 0, 1) := by decide +kernel
theorem dX9_isRedex_1 : decode cX9_isRedex 1 = .ok (.iload_n 1, 1) := by decide +kernel
theorem dX9_isRedex_2 : decode cX9_isRedex 2 = .ok (.iaload, 1) := by decide +kernel
theorem dX9_isRedex_3 : decode cX9_isRedex 3 = .ok (.sipush 1000, 3) := by decide +kernel
theorem dX9_isRedex_6 : decode cX9_isRedex 6 = .ok (.if_icmp .ne 18, 3) := by decide +kernel
theorem dX9_isRedex_9 : decode cX9_isRedex 9 = .ok (.aload_n 0, 1) := by decide +kernel
theorem dX9_isRedex_10 : decode cX9_isRedex 10 = .ok (.iload_n 1, 1) := by decide +kernel
theorem dX9_isRedex_11 : decode cX9_isRedex 11 = .ok (.iconst 1, 1) := by decide +kernel
theorem dX9_isRedex_12 : decode cX9_isRedex 12 = .ok (.iadd, 1) := by decide +kernel
theorem dX9_isRedex_13 : decode cX9_isRedex 13 = .ok (.iaload, 1) := by decide +kernel
theorem dX9_isRedex_14 : decode cX9_isRedex 14 = .ok (.sipush 1001, 3) := by decide +kernel
theorem dX9_isRedex_17 : decode cX9_isRedex 17 = .ok (.if_icmp .ne 7, 3) := by decide +kernel
theorem dX9_isRedex_20 : decode cX9_isRedex 20 = .ok (.iconst 1, 1) := by decide +kernel
theorem dX9_isRedex_21 : decode cX9_isRedex 21 = .ok (.goto 4, 3) := by decide +kernel
theorem dX9_isRedex_24 : decode cX9_isRedex 24 = .ok (.iconst 0, 1) := by decide +kernel
theorem dX9_isRedex_25 : decode cX9_isRedex 25 = .ok (.ireturn, 1) := by decide +kernel
theorem dX9_redexes_0 : decode cX9_redexes 0 = .ok (.iconst 0, 1) := by decide +kernel
theorem dX9_redexes_1 : decode cX9_redexes 1 = .ok (.istore_n 1, 1) := by decide +kernel
theorem dX9_redexes_2 : decode cX9_redexes 2 = .ok (.iconst 0, 1) := by decide +kernel
theorem dX9_redexes_3 : decode cX9_redexes 3 = .ok (.istore_n 2, 1) := by decide +kernel
theorem dX9_redexes_4 : decode cX9_redexes 4 = .ok (.iload_n 2, 1) := by decide +kernel
theorem dX9_redexes_5 : decode cX9_redexes 5 = .ok (.aload_n 0, 1) := by decide +kernel
theorem dX9_redexes_6 : decode cX9_redexes 6 = .ok (.sipush 200, 3) := by decide +kernel
theorem dX9_redexes_9 : decode cX9_redexes 9 = .ok (.iaload, 1) := by decide +kernel
theorem dX9_redexes_10 : decode cX9_redexes 10 = .ok (.iconst 1, 1) := by decide +kernel
theorem dX9_redexes_11 : decode cX9_redexes 11 = .ok (.isub, 1) := by decide +kernel
theorem dX9_redexes_12 : decode cX9_redexes 12 = .ok (.if_icmp .ge 25, 3) := by decide +kernel
theorem dX9_redexes_15 : decode cX9_redexes 15 = .ok (.iload_n 1, 1) := by decide +kernel
theorem dX9_redexes_16 : decode cX9_redexes 16 = .ok (.aload_n 0, 1) := by decide +kernel
theorem dX9_redexes_17 : decode cX9_redexes 17 = .ok (.iload_n 2, 1) := by decide +kernel
theorem dX9_redexes_18 : decode cX9_redexes 18 = .ok (.invokestatic 72, 3) := by decide +kernel
theorem dX9_redexes_21 : decode cX9_redexes 21 = .ok (.ifCond .eq 7, 3) := by decide +kernel
theorem dX9_redexes_24 : decode cX9_redexes 24 = .ok (.iconst 1, 1) := by decide +kernel
theorem dX9_redexes_25 : decode cX9_redexes 25 = .ok (.goto 4, 3) := by decide +kernel
theorem dX9_redexes_28 : decode cX9_redexes 28 = .ok (.iconst 0, 1) := by decide +kernel
theorem dX9_redexes_29 : decode cX9_redexes 29 = .ok (.iadd, 1) := by decide +kernel
theorem dX9_redexes_30 : decode cX9_redexes 30 = .ok (.istore_n 1, 1) := by decide +kernel
theorem dX9_redexes_31 : decode cX9_redexes 31 = .ok (.iinc 2 1, 3) := by decide +kernel
theorem dX9_redexes_34 : decode cX9_redexes 34 = .ok (.goto (-30), 3) := by decide +kernel
theorem dX9_redexes_37 : decode cX9_redexes 37 = .ok (.iload_n 1, 1) := by decide +kernel
theorem dX9_redexes_38 : decode cX9_redexes 38 = .ok (.ireturn, 1) := by decide +kernel
theorem dX9_isInnermost_0 : decode cX9_isInnermost 0 = .ok (.aload_n 0, 1) := by decide +kernel
theorem dX9_isInnermost_1 : decode cX9_isInnermost 1 = .ok (.iload_n 1, 1) := by decide +kernel
theorem dX9_isInnermost_2 : decode cX9_isInnermost 2 = .ok (.invokestatic 76, 3) := by decide +kernel
theorem dX9_isInnermost_5 : decode cX9_isInnermost 5 = .ok (.istore_n 2, 1) := by decide +kernel
theorem dX9_isInnermost_6 : decode cX9_isInnermost 6 = .ok (.iload_n 1, 1) := by decide +kernel
theorem dX9_isInnermost_7 : decode cX9_isInnermost 7 = .ok (.iconst 1, 1) := by decide +kernel
theorem dX9_isInnermost_8 : decode cX9_isInnermost 8 = .ok (.iadd, 1) := by decide +kernel
theorem dX9_isInnermost_9 : decode cX9_isInnermost 9 = .ok (.istore_n 3, 1) := by decide +kernel
theorem dX9_isInnermost_10 : decode cX9_isInnermost 10 = .ok (.iload_n 3, 1) := by decide +kernel
theorem dX9_isInnermost_11 : decode cX9_isInnermost 11 = .ok (.iload_n 2, 1) := by decide +kernel
theorem dX9_isInnermost_12 : decode cX9_isInnermost 12 = .ok (.iconst 1, 1) := by decide +kernel
theorem dX9_isInnermost_13 : decode cX9_isInnermost 13 = .ok (.isub, 1) := by decide +kernel
theorem dX9_isInnermost_14 : decode cX9_isInnermost 14 = .ok (.if_icmp .ge 19, 3) := by decide +kernel
theorem dX9_isInnermost_17 : decode cX9_isInnermost 17 = .ok (.aload_n 0, 1) := by decide +kernel
theorem dX9_isInnermost_18 : decode cX9_isInnermost 18 = .ok (.iload_n 3, 1) := by decide +kernel
theorem dX9_isInnermost_19 : decode cX9_isInnermost 19 = .ok (.invokestatic 72, 3) := by decide +kernel
theorem dX9_isInnermost_22 : decode cX9_isInnermost 22 = .ok (.ifCond .eq 5, 3) := by decide +kernel
theorem dX9_isInnermost_25 : decode cX9_isInnermost 25 = .ok (.iconst 0, 1) := by decide +kernel
theorem dX9_isInnermost_26 : decode cX9_isInnermost 26 = .ok (.ireturn, 1) := by decide +kernel
theorem dX9_isInnermost_27 : decode cX9_isInnermost 27 = .ok (.iinc 3 1, 3) := by decide +kernel
theorem dX9_isInnermost_30 : decode cX9_isInnermost 30 = .ok (.goto (-20), 3) := by decide +kernel
theorem dX9_isInnermost_33 : decode cX9_isInnermost 33 = .ok (.iconst 1, 1) := by decide +kernel
theorem dX9_isInnermost_34 : decode cX9_isInnermost 34 = .ok (.ireturn, 1) := by decide +kernel
theorem dX9_choose_0 : decode cX9_choose 0 = .ok (.bipush (-9), 2) := by decide +kernel
theorem dX9_choose_2 : decode cX9_choose 2 = .ok (.istore_n 2, 1) := by decide +kernel
theorem dX9_choose_3 : decode cX9_choose 3 = .ok (.iconst 1, 1) := by decide +kernel
theorem dX9_choose_4 : decode cX9_choose 4 = .ok (.istore_n 3, 1) := by decide +kernel
theorem dX9_choose_5 : decode cX9_choose 5 = .ok (.iconst 0, 1) := by decide +kernel
theorem dX9_choose_6 : decode cX9_choose 6 = .ok (.istore 4, 2) := by decide +kernel
theorem dX9_choose_8 : decode cX9_choose 8 = .ok (.iload 4, 2) := by decide +kernel
theorem dX9_choose_10 : decode cX9_choose 10 = .ok (.aload_n 0, 1) := by decide +kernel
theorem dX9_choose_11 : decode cX9_choose 11 = .ok (.sipush 200, 3) := by decide +kernel
theorem dX9_choose_14 : decode cX9_choose 14 = .ok (.iaload, 1) := by decide +kernel
theorem dX9_choose_15 : decode cX9_choose 15 = .ok (.iconst 1, 1) := by decide +kernel
theorem dX9_choose_16 : decode cX9_choose 16 = .ok (.isub, 1) := by decide +kernel
theorem dX9_choose_17 : decode cX9_choose 17 = .ok (.if_icmp .ge 120, 3) := by decide +kernel
theorem dX9_choose_20 : decode cX9_choose 20 = .ok (.aload_n 0, 1) := by decide +kernel
theorem dX9_choose_21 : decode cX9_choose 21 = .ok (.iload 4, 2) := by decide +kernel
theorem dX9_choose_23 : decode cX9_choose 23 = .ok (.invokestatic 72, 3) := by decide +kernel
theorem dX9_choose_26 : decode cX9_choose 26 = .ok (.ifCond .eq 85, 3) := by decide +kernel
theorem dX9_choose_29 : decode cX9_choose 29 = .ok (.iload_n 2, 1) := by decide +kernel
theorem dX9_choose_30 : decode cX9_choose 30 = .ok (.bipush (-9), 2) := by decide +kernel
theorem dX9_choose_32 : decode cX9_choose 32 = .ok (.if_icmp .ne 7, 3) := by decide +kernel
theorem dX9_choose_35 : decode cX9_choose 35 = .ok (.iconst 1, 1) := by decide +kernel
theorem dX9_choose_36 : decode cX9_choose 36 = .ok (.goto 4, 3) := by decide +kernel
theorem dX9_choose_39 : decode cX9_choose 39 = .ok (.iconst 0, 1) := by decide +kernel
theorem dX9_choose_40 : decode cX9_choose 40 = .ok (.istore 5, 2) := by decide +kernel
theorem dX9_choose_42 : decode cX9_choose 42 = .ok (.iload_n 1, 1) := by decide +kernel
theorem dX9_choose_43 : decode cX9_choose 43 = .ok (.ifCond .ne 8, 3) := by decide +kernel
theorem dX9_choose_46 : decode cX9_choose 46 = .ok (.iload 5, 2) := by decide +kernel
theorem dX9_choose_48 : decode cX9_choose 48 = .ok (.goto 49, 3) := by decide +kernel
theorem dX9_choose_51 : decode cX9_choose 51 = .ok (.iload_n 1, 1) := by decide +kernel
theorem dX9_choose_52 : decode cX9_choose 52 = .ok (.iconst 1, 1) := by decide +kernel
theorem dX9_choose_53 : decode cX9_choose 53 = .ok (.if_icmp .ne 25, 3) := by decide +kernel
theorem dX9_choose_56 : decode cX9_choose 56 = .ok (.iload 5, 2) := by decide +kernel
theorem dX9_choose_58 : decode cX9_choose 58 = .ok (.ifCond .eq 16, 3) := by decide +kernel
theorem dX9_choose_61 : decode cX9_choose 61 = .ok (.aload_n 0, 1) := by decide +kernel
theorem dX9_choose_62 : decode cX9_choose 62 = .ok (.iload 4, 2) := by decide +kernel
theorem dX9_choose_64 : decode cX9_choose 64 = .ok (.invokestatic 80, 3) := by decide +kernel
theorem dX9_choose_67 : decode cX9_choose 67 = .ok (.ifCond .eq 7, 3) := by decide +kernel
theorem dX9_choose_70 : decode cX9_choose 70 = .ok (.iconst 1, 1) := by decide +kernel
theorem dX9_choose_71 : decode cX9_choose 71 = .ok (.goto 26, 3) := by decide +kernel
theorem dX9_choose_74 : decode cX9_choose 74 = .ok (.iconst 0, 1) := by decide +kernel
theorem dX9_choose_75 : decode cX9_choose 75 = .ok (.goto 22, 3) := by decide +kernel
theorem dX9_choose_78 : decode cX9_choose 78 = .ok (.iload_n 1, 1) := by decide +kernel
theorem dX9_choose_79 : decode cX9_choose 79 = .ok (.iconst 2, 1) := by decide +kernel
theorem dX9_choose_80 : decode cX9_choose 80 = .ok (.if_icmp .eq 12, 3) := by decide +kernel
theorem dX9_choose_83 : decode cX9_choose 83 = .ok (.iload 5, 2) := by decide +kernel
theorem dX9_choose_85 : decode cX9_choose 85 = .ok (.ifCond .eq 11, 3) := by decide +kernel
theorem dX9_choose_88 : decode cX9_choose 88 = .ok (.iload_n 3, 1) := by decide +kernel
theorem dX9_choose_89 : decode cX9_choose 89 = .ok (.ifCond .eq 7, 3) := by decide +kernel
theorem dX9_choose_92 : decode cX9_choose 92 = .ok (.iconst 1, 1) := by decide +kernel
theorem dX9_choose_93 : decode cX9_choose 93 = .ok (.goto 4, 3) := by decide +kernel
theorem dX9_choose_96 : decode cX9_choose 96 = .ok (.iconst 0, 1) := by decide +kernel
theorem dX9_choose_97 : decode cX9_choose 97 = .ok (.istore 6, 2) := by decide +kernel
theorem dX9_choose_99 : decode cX9_choose 99 = .ok (.iload 6, 2) := by decide +kernel
theorem dX9_choose_101 : decode cX9_choose 101 = .ok (.ifCond .eq 8, 3) := by decide +kernel
theorem dX9_choose_104 : decode cX9_choose 104 = .ok (.iload 4, 2) := by decide +kernel
theorem dX9_choose_106 : decode cX9_choose 106 = .ok (.goto 4, 3) := by decide +kernel
theorem dX9_choose_109 : decode cX9_choose 109 = .ok (.iload_n 2, 1) := by decide +kernel
theorem dX9_choose_110 : decode cX9_choose 110 = .ok (.istore_n 2, 1) := by decide +kernel
theorem dX9_choose_111 : decode cX9_choose 111 = .ok (.iload_n 3, 1) := by decide +kernel
theorem dX9_choose_112 : decode cX9_choose 112 = .ok (.ifCond .eq 17, 3) := by decide +kernel
theorem dX9_choose_115 : decode cX9_choose 115 = .ok (.aload_n 0, 1) := by decide +kernel
theorem dX9_choose_116 : decode cX9_choose 116 = .ok (.iload 4, 2) := by decide +kernel
theorem dX9_choose_118 : decode cX9_choose 118 = .ok (.iaload, 1) := by decide +kernel
theorem dX9_choose_119 : decode cX9_choose 119 = .ok (.sipush 1000, 3) := by decide +kernel
theorem dX9_choose_122 : decode cX9_choose 122 = .ok (.if_icmp .ne 7, 3) := by decide +kernel
theorem dX9_choose_125 : decode cX9_choose 125 = .ok (.iconst 1, 1) := by decide +kernel
theorem dX9_choose_126 : decode cX9_choose 126 = .ok (.goto 4, 3) := by decide +kernel
theorem dX9_choose_129 : decode cX9_choose 129 = .ok (.iconst 0, 1) := by decide +kernel
theorem dX9_choose_130 : decode cX9_choose 130 = .ok (.istore_n 3, 1) := by decide +kernel
theorem dX9_choose_131 : decode cX9_choose 131 = .ok (.iinc 4 1, 3) := by decide +kernel
theorem dX9_choose_134 : decode cX9_choose 134 = .ok (.goto (-126), 3) := by decide +kernel
theorem dX9_choose_137 : decode cX9_choose 137 = .ok (.iload_n 2, 1) := by decide +kernel
theorem dX9_choose_138 : decode cX9_choose 138 = .ok (.ireturn, 1) := by decide +kernel
theorem dX9_put_0 : decode cX9_put 0 = .ok (.aload_n 0, 1) := by decide +kernel
theorem dX9_put_1 : decode cX9_put 1 = .ok (.getfield 22, 3) := by decide +kernel
theorem dX9_put_4 : decode cX9_put 4 = .ok (.sipush 200, 3) := by decide +kernel
theorem dX9_put_7 : decode cX9_put 7 = .ok (.iaload, 1) := by decide +kernel
theorem dX9_put_8 : decode cX9_put 8 = .ok (.sipush 200, 3) := by decide +kernel
theorem dX9_put_11 : decode cX9_put 11 = .ok (.if_icmp .ne 5, 3) := by decide +kernel
theorem dX9_put_14 : decode cX9_put 14 = .ok (.iconst 0, 1) := by decide +kernel
theorem dX9_put_15 : decode cX9_put 15 = .ok (.ireturn, 1) := by decide +kernel
theorem dX9_put_16 : decode cX9_put 16 = .ok (.aload_n 0, 1) := by decide +kernel
theorem dX9_put_17 : decode cX9_put 17 = .ok (.getfield 22, 3) := by decide +kernel
theorem dX9_put_20 : decode cX9_put 20 = .ok (.aload_n 0, 1) := by decide +kernel
theorem dX9_put_21 : decode cX9_put 21 = .ok (.getfield 22, 3) := by decide +kernel
theorem dX9_put_24 : decode cX9_put 24 = .ok (.sipush 200, 3) := by decide +kernel
theorem dX9_put_27 : decode cX9_put 27 = .ok (.iaload, 1) := by decide +kernel
theorem dX9_put_28 : decode cX9_put 28 = .ok (.iload_n 1, 1) := by decide +kernel
theorem dX9_put_29 : decode cX9_put 29 = .ok (.iastore, 1) := by decide +kernel
theorem dX9_put_30 : decode cX9_put 30 = .ok (.aload_n 0, 1) := by decide +kernel
theorem dX9_put_31 : decode cX9_put 31 = .ok (.getfield 22, 3) := by decide +kernel
theorem dX9_put_34 : decode cX9_put 34 = .ok (.sipush 200, 3) := by decide +kernel
theorem dX9_put_37 : decode cX9_put 37 = .ok (.dup2, 1) := by decide +kernel
theorem dX9_put_38 : decode cX9_put 38 = .ok (.iaload, 1) := by decide +kernel
theorem dX9_put_39 : decode cX9_put 39 = .ok (.iconst 1, 1) := by decide +kernel
theorem dX9_put_40 : decode cX9_put 40 = .ok (.iadd, 1) := by decide +kernel
theorem dX9_put_41 : decode cX9_put 41 = .ok (.iastore, 1) := by decide +kernel
theorem dX9_put_42 : decode cX9_put 42 = .ok (.iconst 1, 1) := by decide +kernel
theorem dX9_put_43 : decode cX9_put 43 = .ok (.ireturn, 1) := by decide +kernel
theorem dX9_putShifted_0 : decode cX9_putShifted 0 = .ok (.iconst 1, 1) := by decide +kernel
theorem dX9_putShifted_1 : decode cX9_putShifted 1 = .ok (.istore 5, 2) := by decide +kernel
theorem dX9_putShifted_3 : decode cX9_putShifted 3 = .ok (.iload_n 2, 1) := by decide +kernel
theorem dX9_putShifted_4 : decode cX9_putShifted 4 = .ok (.istore 6, 2) := by decide +kernel
theorem dX9_putShifted_6 : decode cX9_putShifted 6 = .ok (.iload 6, 2) := by decide +kernel
theorem dX9_putShifted_8 : decode cX9_putShifted 8 = .ok (.iload_n 3, 1) := by decide +kernel
theorem dX9_putShifted_9 : decode cX9_putShifted 9 = .ok (.if_icmp .ge 70, 3) := by decide +kernel
theorem dX9_putShifted_12 : decode cX9_putShifted 12 = .ok (.iload 5, 2) := by decide +kernel
theorem dX9_putShifted_14 : decode cX9_putShifted 14 = .ok (.ifCond .eq 65, 3) := by decide +kernel
theorem dX9_putShifted_17 : decode cX9_putShifted 17 = .ok (.aload_n 1, 1) := by decide +kernel
theorem dX9_putShifted_18 : decode cX9_putShifted 18 = .ok (.iload 6, 2) := by decide +kernel
theorem dX9_putShifted_20 : decode cX9_putShifted 20 = .ok (.iaload, 1) := by decide +kernel
theorem dX9_putShifted_21 : decode cX9_putShifted 21 = .ok (.invokestatic 68, 3) := by decide +kernel
theorem dX9_putShifted_24 : decode cX9_putShifted 24 = .ok (.ifCond .eq 21, 3) := by decide +kernel
theorem dX9_putShifted_27 : decode cX9_putShifted 27 = .ok (.aload_n 1, 1) := by decide +kernel
theorem dX9_putShifted_28 : decode cX9_putShifted 28 = .ok (.iload 6, 2) := by decide +kernel
theorem dX9_putShifted_30 : decode cX9_putShifted 30 = .ok (.iaload, 1) := by decide +kernel
theorem dX9_putShifted_31 : decode cX9_putShifted 31 = .ok (.aload_n 0, 1) := by decide +kernel
theorem dX9_putShifted_32 : decode cX9_putShifted 32 = .ok (.getfield 41, 3) := by decide +kernel
theorem dX9_putShifted_35 : decode cX9_putShifted 35 = .ok (.iload 6, 2) := by decide +kernel
theorem dX9_putShifted_37 : decode cX9_putShifted 37 = .ok (.iaload, 1) := by decide +kernel
theorem dX9_putShifted_38 : decode cX9_putShifted 38 = .ok (.if_icmp .lt 7, 3) := by decide +kernel
theorem dX9_putShifted_41 : decode cX9_putShifted 41 = .ok (.iconst 1, 1) := by decide +kernel
theorem dX9_putShifted_42 : decode cX9_putShifted 42 = .ok (.goto 4, 3) := by decide +kernel
theorem dX9_putShifted_45 : decode cX9_putShifted 45 = .ok (.iconst 0, 1) := by decide +kernel
theorem dX9_putShifted_46 : decode cX9_putShifted 46 = .ok (.istore 7, 2) := by decide +kernel
theorem dX9_putShifted_48 : decode cX9_putShifted 48 = .ok (.aload_n 0, 1) := by decide +kernel
theorem dX9_putShifted_49 : decode cX9_putShifted 49 = .ok (.iload 7, 2) := by decide +kernel
theorem dX9_putShifted_51 : decode cX9_putShifted 51 = .ok (.ifCond .eq 13, 3) := by decide +kernel
theorem dX9_putShifted_54 : decode cX9_putShifted 54 = .ok (.aload_n 1, 1) := by decide +kernel
theorem dX9_putShifted_55 : decode cX9_putShifted 55 = .ok (.iload 6, 2) := by decide +kernel
theorem dX9_putShifted_57 : decode cX9_putShifted 57 = .ok (.iaload, 1) := by decide +kernel
theorem dX9_putShifted_58 : decode cX9_putShifted 58 = .ok (.iload 4, 2) := by decide +kernel
theorem dX9_putShifted_60 : decode cX9_putShifted 60 = .ok (.iadd, 1) := by decide +kernel
theorem dX9_putShifted_61 : decode cX9_putShifted 61 = .ok (.goto 7, 3) := by decide +kernel
theorem dX9_putShifted_64 : decode cX9_putShifted 64 = .ok (.aload_n 1, 1) := by decide +kernel
theorem dX9_putShifted_65 : decode cX9_putShifted 65 = .ok (.iload 6, 2) := by decide +kernel
theorem dX9_putShifted_67 : decode cX9_putShifted 67 = .ok (.iaload, 1) := by decide +kernel
theorem dX9_putShifted_68 : decode cX9_putShifted 68 = .ok (.invokevirtual 83, 3) := by decide +kernel
theorem dX9_putShifted_71 : decode cX9_putShifted 71 = .ok (.istore 5, 2) := by decide +kernel
theorem dX9_putShifted_73 : decode cX9_putShifted 73 = .ok (.iinc 6 1, 3) := by decide +kernel
theorem dX9_putShifted_76 : decode cX9_putShifted 76 = .ok (.goto (-70), 3) := by decide +kernel
theorem dX9_putShifted_79 : decode cX9_putShifted 79 = .ok (.iload 5, 2) := by decide +kernel
theorem dX9_putShifted_81 : decode cX9_putShifted 81 = .ok (.ireturn, 1) := by decide +kernel
theorem dX9_contract_0 : decode cX9_contract 0 = .ok (.aload_n 1, 1) := by decide +kernel
theorem dX9_contract_1 : decode cX9_contract 1 = .ok (.iload_n 2, 1) := by decide +kernel
theorem dX9_contract_2 : decode cX9_contract 2 = .ok (.iconst 1, 1) := by decide +kernel
theorem dX9_contract_3 : decode cX9_contract 3 = .ok (.iadd, 1) := by decide +kernel
theorem dX9_contract_4 : decode cX9_contract 4 = .ok (.invokestatic 76, 3) := by decide +kernel
theorem dX9_contract_7 : decode cX9_contract 7 = .ok (.istore_n 3, 1) := by decide +kernel
theorem dX9_contract_8 : decode cX9_contract 8 = .ok (.aload_n 1, 1) := by decide +kernel
theorem dX9_contract_9 : decode cX9_contract 9 = .ok (.iload_n 3, 1) := by decide +kernel
theorem dX9_contract_10 : decode cX9_contract 10 = .ok (.invokestatic 76, 3) := by decide +kernel
theorem dX9_contract_13 : decode cX9_contract 13 = .ok (.istore 4, 2) := by decide +kernel
theorem dX9_contract_15 : decode cX9_contract 15 = .ok (.aload_n 0, 1) := by decide +kernel
theorem dX9_contract_16 : decode cX9_contract 16 = .ok (.getfield 22, 3) := by decide +kernel
theorem dX9_contract_19 : decode cX9_contract 19 = .ok (.sipush 200, 3) := by decide +kernel
theorem dX9_contract_22 : decode cX9_contract 22 = .ok (.iconst 0, 1) := by decide +kernel
theorem dX9_contract_23 : decode cX9_contract 23 = .ok (.iastore, 1) := by decide +kernel
theorem dX9_contract_24 : decode cX9_contract 24 = .ok (.iconst 1, 1) := by decide +kernel
theorem dX9_contract_25 : decode cX9_contract 25 = .ok (.istore 5, 2) := by decide +kernel
theorem dX9_contract_27 : decode cX9_contract 27 = .ok (.iconst 0, 1) := by decide +kernel
theorem dX9_contract_28 : decode cX9_contract 28 = .ok (.istore 6, 2) := by decide +kernel
theorem dX9_contract_30 : decode cX9_contract 30 = .ok (.iload 6, 2) := by decide +kernel
theorem dX9_contract_32 : decode cX9_contract 32 = .ok (.iload_n 2, 1) := by decide +kernel
theorem dX9_contract_33 : decode cX9_contract 33 = .ok (.if_icmp .ge 32, 3) := by decide +kernel
theorem dX9_contract_36 : decode cX9_contract 36 = .ok (.iload 5, 2) := by decide +kernel
theorem dX9_contract_38 : decode cX9_contract 38 = .ok (.ifCond .eq 18, 3) := by decide +kernel
theorem dX9_contract_41 : decode cX9_contract 41 = .ok (.aload_n 0, 1) := by decide +kernel
theorem dX9_contract_42 : decode cX9_contract 42 = .ok (.aload_n 1, 1) := by decide +kernel
theorem dX9_contract_43 : decode cX9_contract 43 = .ok (.iload 6, 2) := by decide +kernel
theorem dX9_contract_45 : decode cX9_contract 45 = .ok (.iaload, 1) := by decide +kernel
theorem dX9_contract_46 : decode cX9_contract 46 = .ok (.invokevirtual 83, 3) := by decide +kernel
theorem dX9_contract_49 : decode cX9_contract 49 = .ok (.ifCond .eq 7, 3) := by decide +kernel
theorem dX9_contract_52 : decode cX9_contract 52 = .ok (.iconst 1, 1) := by decide +kernel
theorem dX9_contract_53 : decode cX9_contract 53 = .ok (.goto 4, 3) := by decide +kernel
theorem dX9_contract_56 : decode cX9_contract 56 = .ok (.iconst 0, 1) := by decide +kernel
theorem dX9_contract_57 : decode cX9_contract 57 = .ok (.istore 5, 2) := by decide +kernel
theorem dX9_contract_59 : decode cX9_contract 59 = .ok (.iinc 6 1, 3) := by decide +kernel
theorem dX9_contract_62 : decode cX9_contract 62 = .ok (.goto (-32), 3) := by decide +kernel
theorem dX9_contract_65 : decode cX9_contract 65 = .ok (.aload_n 0, 1) := by decide +kernel
theorem dX9_contract_66 : decode cX9_contract 66 = .ok (.aload_n 1, 1) := by decide +kernel
theorem dX9_contract_67 : decode cX9_contract 67 = .ok (.iload_n 3, 1) := by decide +kernel
theorem dX9_contract_68 : decode cX9_contract 68 = .ok (.iload 4, 2) := by decide +kernel
theorem dX9_contract_70 : decode cX9_contract 70 = .ok (.invokevirtual 86, 3) := by decide +kernel
theorem dX9_contract_73 : decode cX9_contract 73 = .ok (.aload_n 0, 1) := by decide +kernel
theorem dX9_contract_74 : decode cX9_contract 74 = .ok (.aload_n 1, 1) := by decide +kernel
theorem dX9_contract_75 : decode cX9_contract 75 = .ok (.iload_n 2, 1) := by decide +kernel
theorem dX9_contract_76 : decode cX9_contract 76 = .ok (.iconst 2, 1) := by decide +kernel
theorem dX9_contract_77 : decode cX9_contract 77 = .ok (.iadd, 1) := by decide +kernel
theorem dX9_contract_78 : decode cX9_contract 78 = .ok (.iload_n 3, 1) := by decide +kernel
theorem dX9_contract_79 : decode cX9_contract 79 = .ok (.invokevirtual 86, 3) := by decide +kernel
theorem dX9_contract_82 : decode cX9_contract 82 = .ok (.iload_n 2, 1) := by decide +kernel
theorem dX9_contract_83 : decode cX9_contract 83 = .ok (.iconst 2, 1) := by decide +kernel
theorem dX9_contract_84 : decode cX9_contract 84 = .ok (.iadd, 1) := by decide +kernel
theorem dX9_contract_85 : decode cX9_contract 85 = .ok (.istore 6, 2) := by decide +kernel
theorem dX9_contract_87 : decode cX9_contract 87 = .ok (.iload 6, 2) := by decide +kernel
theorem dX9_contract_89 : decode cX9_contract 89 = .ok (.iload_n 3, 1) := by decide +kernel
theorem dX9_contract_90 : decode cX9_contract 90 = .ok (.if_icmp .ge 91, 3) := by decide +kernel
theorem dX9_contract_93 : decode cX9_contract 93 = .ok (.iload 5, 2) := by decide +kernel
theorem dX9_contract_95 : decode cX9_contract 95 = .ok (.ifCond .eq 86, 3) := by decide +kernel
theorem dX9_contract_98 : decode cX9_contract 98 = .ok (.aload_n 0, 1) := by decide +kernel
theorem dX9_contract_99 : decode cX9_contract 99 = .ok (.getfield 41, 3) := by decide +kernel
theorem dX9_contract_102 : decode cX9_contract 102 = .ok (.iload 6, 2) := by decide +kernel
theorem dX9_contract_104 : decode cX9_contract 104 = .ok (.iaload, 1) := by decide +kernel
theorem dX9_contract_105 : decode cX9_contract 105 = .ok (.istore 7, 2) := by decide +kernel
theorem dX9_contract_107 : decode cX9_contract 107 = .ok (.aload_n 1, 1) := by decide +kernel
theorem dX9_contract_108 : decode cX9_contract 108 = .ok (.iload 6, 2) := by decide +kernel
theorem dX9_contract_110 : decode cX9_contract 110 = .ok (.iaload, 1) := by decide +kernel
theorem dX9_contract_111 : decode cX9_contract 111 = .ok (.invokestatic 68, 3) := by decide +kernel
theorem dX9_contract_114 : decode cX9_contract 114 = .ok (.ifCond .eq 12, 3) := by decide +kernel
theorem dX9_contract_117 : decode cX9_contract 117 = .ok (.aload_n 1, 1) := by decide +kernel
theorem dX9_contract_118 : decode cX9_contract 118 = .ok (.iload 6, 2) := by decide +kernel
theorem dX9_contract_120 : decode cX9_contract 120 = .ok (.iaload, 1) := by decide +kernel
theorem dX9_contract_121 : decode cX9_contract 121 = .ok (.iload 7, 2) := by decide +kernel
theorem dX9_contract_123 : decode cX9_contract 123 = .ok (.if_icmp .ge 16, 3) := by decide +kernel
theorem dX9_contract_126 : decode cX9_contract 126 = .ok (.aload_n 0, 1) := by decide +kernel
theorem dX9_contract_127 : decode cX9_contract 127 = .ok (.aload_n 1, 1) := by decide +kernel
theorem dX9_contract_128 : decode cX9_contract 128 = .ok (.iload 6, 2) := by decide +kernel
theorem dX9_contract_130 : decode cX9_contract 130 = .ok (.iaload, 1) := by decide +kernel
theorem dX9_contract_131 : decode cX9_contract 131 = .ok (.invokevirtual 83, 3) := by decide +kernel
theorem dX9_contract_134 : decode cX9_contract 134 = .ok (.istore 5, 2) := by decide +kernel
theorem dX9_contract_136 : decode cX9_contract 136 = .ok (.goto 39, 3) := by decide +kernel
theorem dX9_contract_139 : decode cX9_contract 139 = .ok (.aload_n 1, 1) := by decide +kernel
theorem dX9_contract_140 : decode cX9_contract 140 = .ok (.iload 6, 2) := by decide +kernel
theorem dX9_contract_142 : decode cX9_contract 142 = .ok (.iaload, 1) := by decide +kernel
theorem dX9_contract_143 : decode cX9_contract 143 = .ok (.iload 7, 2) := by decide +kernel
theorem dX9_contract_145 : decode cX9_contract 145 = .ok (.if_icmp .le 18, 3) := by decide +kernel
theorem dX9_contract_148 : decode cX9_contract 148 = .ok (.aload_n 0, 1) := by decide +kernel
theorem dX9_contract_149 : decode cX9_contract 149 = .ok (.aload_n 1, 1) := by decide +kernel
theorem dX9_contract_150 : decode cX9_contract 150 = .ok (.iload 6, 2) := by decide +kernel
theorem dX9_contract_152 : decode cX9_contract 152 = .ok (.iaload, 1) := by decide +kernel
theorem dX9_contract_153 : decode cX9_contract 153 = .ok (.iconst 1, 1) := by decide +kernel
theorem dX9_contract_154 : decode cX9_contract 154 = .ok (.isub, 1) := by decide +kernel
theorem dX9_contract_155 : decode cX9_contract 155 = .ok (.invokevirtual 83, 3) := by decide +kernel
theorem dX9_contract_158 : decode cX9_contract 158 = .ok (.istore 5, 2) := by decide +kernel
theorem dX9_contract_160 : decode cX9_contract 160 = .ok (.goto 15, 3) := by decide +kernel
theorem dX9_contract_163 : decode cX9_contract 163 = .ok (.aload_n 0, 1) := by decide +kernel
theorem dX9_contract_164 : decode cX9_contract 164 = .ok (.aload_n 1, 1) := by decide +kernel
theorem dX9_contract_165 : decode cX9_contract 165 = .ok (.iload_n 3, 1) := by decide +kernel
theorem dX9_contract_166 : decode cX9_contract 166 = .ok (.iload 4, 2) := by decide +kernel
theorem dX9_contract_168 : decode cX9_contract 168 = .ok (.iload 7, 2) := by decide +kernel
theorem dX9_contract_170 : decode cX9_contract 170 = .ok (.invokevirtual 90, 3) := by decide +kernel
theorem dX9_contract_173 : decode cX9_contract 173 = .ok (.istore 5, 2) := by decide +kernel
theorem dX9_contract_175 : decode cX9_contract 175 = .ok (.iinc 6 1, 3) := by decide +kernel
theorem dX9_contract_178 : decode cX9_contract 178 = .ok (.goto (-91), 3) := by decide +kernel
theorem dX9_contract_181 : decode cX9_contract 181 = .ok (.iload 4, 2) := by decide +kernel
theorem dX9_contract_183 : decode cX9_contract 183 = .ok (.istore 6, 2) := by decide +kernel
theorem dX9_contract_185 : decode cX9_contract 185 = .ok (.iload 6, 2) := by decide +kernel
theorem dX9_contract_187 : decode cX9_contract 187 = .ok (.aload_n 1, 1) := by decide +kernel
theorem dX9_contract_188 : decode cX9_contract 188 = .ok (.sipush 200, 3) := by decide +kernel
theorem dX9_contract_191 : decode cX9_contract 191 = .ok (.iaload, 1) := by decide +kernel
theorem dX9_contract_192 : decode cX9_contract 192 = .ok (.if_icmp .ge 32, 3) := by decide +kernel
theorem dX9_contract_195 : decode cX9_contract 195 = .ok (.iload 5, 2) := by decide +kernel
theorem dX9_contract_197 : decode cX9_contract 197 = .ok (.ifCond .eq 18, 3) := by decide +kernel
theorem dX9_contract_200 : decode cX9_contract 200 = .ok (.aload_n 0, 1) := by decide +kernel
theorem dX9_contract_201 : decode cX9_contract 201 = .ok (.aload_n 1, 1) := by decide +kernel
theorem dX9_contract_202 : decode cX9_contract 202 = .ok (.iload 6, 2) := by decide +kernel
theorem dX9_contract_204 : decode cX9_contract 204 = .ok (.iaload, 1) := by decide +kernel
theorem dX9_contract_205 : decode cX9_contract 205 = .ok (.invokevirtual 83, 3) := by decide +kernel
theorem dX9_contract_208 : decode cX9_contract 208 = .ok (.ifCond .eq 7, 3) := by decide +kernel
theorem dX9_contract_211 : decode cX9_contract 211 = .ok (.iconst 1, 1) := by decide +kernel
theorem dX9_contract_212 : decode cX9_contract 212 = .ok (.goto 4, 3) := by decide +kernel
theorem dX9_contract_215 : decode cX9_contract 215 = .ok (.iconst 0, 1) := by decide +kernel
theorem dX9_contract_216 : decode cX9_contract 216 = .ok (.istore 5, 2) := by decide +kernel
theorem dX9_contract_218 : decode cX9_contract 218 = .ok (.iinc 6 1, 3) := by decide +kernel
theorem dX9_contract_221 : decode cX9_contract 221 = .ok (.goto (-36), 3) := by decide +kernel
theorem dX9_contract_224 : decode cX9_contract 224 = .ok (.iload 5, 2) := by decide +kernel
theorem dX9_contract_226 : decode cX9_contract 226 = .ok (.ireturn, 1) := by decide +kernel
theorem dX9_runOn_0 : decode cX9_runOn 0 = .ok (.iconst 0, 1) := by decide +kernel
theorem dX9_runOn_1 : decode cX9_runOn 1 = .ok (.istore 4, 2) := by decide +kernel
theorem dX9_runOn_3 : decode cX9_runOn 3 = .ok (.iload 4, 2) := by decide +kernel
theorem dX9_runOn_5 : decode cX9_runOn 5 = .ok (.iload_n 3, 1) := by decide +kernel
theorem dX9_runOn_6 : decode cX9_runOn 6 = .ok (.if_icmp .ge 44, 3) := by decide +kernel
theorem dX9_runOn_9 : decode cX9_runOn 9 = .ok (.aload_n 1, 1) := by decide +kernel
theorem dX9_runOn_10 : decode cX9_runOn 10 = .ok (.iload_n 2, 1) := by decide +kernel
theorem dX9_runOn_11 : decode cX9_runOn 11 = .ok (.invokestatic 94, 3) := by decide +kernel
theorem dX9_runOn_14 : decode cX9_runOn 14 = .ok (.istore 5, 2) := by decide +kernel
theorem dX9_runOn_16 : decode cX9_runOn 16 = .ok (.iload 5, 2) := by decide +kernel
theorem dX9_runOn_18 : decode cX9_runOn 18 = .ok (.bipush (-9), 2) := by decide +kernel
theorem dX9_runOn_20 : decode cX9_runOn 20 = .ok (.if_icmp .eq 13, 3) := by decide +kernel
theorem dX9_runOn_23 : decode cX9_runOn 23 = .ok (.aload_n 0, 1) := by decide +kernel
theorem dX9_runOn_24 : decode cX9_runOn 24 = .ok (.aload_n 1, 1) := by decide +kernel
theorem dX9_runOn_25 : decode cX9_runOn 25 = .ok (.iload 5, 2) := by decide +kernel
theorem dX9_runOn_27 : decode cX9_runOn 27 = .ok (.invokevirtual 97, 3) := by decide +kernel
theorem dX9_runOn_30 : decode cX9_runOn 30 = .ok (.ifCond .ne 6, 3) := by decide +kernel
theorem dX9_runOn_33 : decode cX9_runOn 33 = .ok (.iload 4, 2) := by decide +kernel
theorem dX9_runOn_35 : decode cX9_runOn 35 = .ok (.ireturn, 1) := by decide +kernel
theorem dX9_runOn_36 : decode cX9_runOn 36 = .ok (.aload_n 0, 1) := by decide +kernel
theorem dX9_runOn_37 : decode cX9_runOn 37 = .ok (.getfield 22, 3) := by decide +kernel
theorem dX9_runOn_40 : decode cX9_runOn 40 = .ok (.aload_n 1, 1) := by decide +kernel
theorem dX9_runOn_41 : decode cX9_runOn 41 = .ok (.invokestatic 100, 3) := by decide +kernel
theorem dX9_runOn_44 : decode cX9_runOn 44 = .ok (.iinc 4 1, 3) := by decide +kernel
theorem dX9_runOn_47 : decode cX9_runOn 47 = .ok (.goto (-44), 3) := by decide +kernel
theorem dX9_runOn_50 : decode cX9_runOn 50 = .ok (.iload 4, 2) := by decide +kernel
theorem dX9_runOn_52 : decode cX9_runOn 52 = .ok (.ireturn, 1) := by decide +kernel
theorem dX9_normalize_0 : decode cX9_normalize 0 = .ok (.aload_n 0, 1) := by decide +kernel
theorem dX9_normalize_1 : decode cX9_normalize 1 = .ok (.aload_n 1, 1) := by decide +kernel
theorem dX9_normalize_2 : decode cX9_normalize 2 = .ok (.iconst 0, 1) := by decide +kernel
theorem dX9_normalize_3 : decode cX9_normalize 3 = .ok (.sipush 200, 3) := by decide +kernel
theorem dX9_normalize_6 : decode cX9_normalize 6 = .ok (.invokevirtual 104, 3) := by decide +kernel
theorem dX9_normalize_9 : decode cX9_normalize 9 = .ok (.pop, 1) := by decide +kernel
theorem dX9_normalize_10 : decode cX9_normalize 10 = .ok (.aload_n 1, 1) := by decide +kernel
theorem dX9_normalize_11 : decode cX9_normalize 11 = .ok (.invokestatic 108, 3) := by decide +kernel
theorem dX9_normalize_14 : decode cX9_normalize 14 = .ok (.ifCond .ne 7, 3) := by decide +kernel
theorem dX9_normalize_17 : decode cX9_normalize 17 = .ok (.iconst 1, 1) := by decide +kernel
theorem dX9_normalize_18 : decode cX9_normalize 18 = .ok (.goto 4, 3) := by decide +kernel
theorem dX9_normalize_21 : decode cX9_normalize 21 = .ok (.iconst 0, 1) := by decide +kernel
theorem dX9_normalize_22 : decode cX9_normalize 22 = .ok (.ireturn, 1) := by decide +kernel
theorem dX9_append_0 : decode cX9_append 0 = .ok (.aload_n 0, 1) := by decide +kernel
theorem dX9_append_1 : decode cX9_append 1 = .ok (.iconst 0, 1) := by decide +kernel
theorem dX9_append_2 : decode cX9_append 2 = .ok (.putfield 59, 3) := by decide +kernel
theorem dX9_append_5 : decode cX9_append 5 = .ok (.iload_n 1, 1) := by decide +kernel
theorem dX9_append_6 : decode cX9_append 6 = .ok (.i2l, 1) := by decide +kernel
theorem dX9_append_7 : decode cX9_append 7 = .ok (.lconst 0, 1) := by decide +kernel
theorem dX9_append_8 : decode cX9_append 8 = .ok (.ldc2_w 112, 3) := by decide +kernel
theorem dX9_append_11 : decode cX9_append 11 = .ok (.invokestatic 114, 3) := by decide +kernel
theorem dX9_append_14 : decode cX9_append 14 = .ok (.ifCond .ne 6, 3) := by decide +kernel
theorem dX9_append_17 : decode cX9_append 17 = .ok (.bipush (-2), 2) := by decide +kernel
theorem dX9_append_19 : decode cX9_append 19 = .ok (.ireturn, 1) := by decide +kernel
theorem dX9_append_20 : decode cX9_append 20 = .ok (.aload_n 0, 1) := by decide +kernel
theorem dX9_append_21 : decode cX9_append 21 = .ok (.getfield 118, 3) := by decide +kernel
theorem dX9_append_24 : decode cX9_append 24 = .ok (.bipush 60, 2) := by decide +kernel
theorem dX9_append_26 : decode cX9_append 26 = .ok (.if_icmp .ne 6, 3) := by decide +kernel
theorem dX9_append_29 : decode cX9_append 29 = .ok (.bipush (-4), 2) := by decide +kernel
theorem dX9_append_31 : decode cX9_append 31 = .ok (.ireturn, 1) := by decide +kernel
theorem dX9_append_32 : decode cX9_append 32 = .ok (.aload_n 0, 1) := by decide +kernel
theorem dX9_append_33 : decode cX9_append 33 = .ok (.getfield 7, 3) := by decide +kernel
theorem dX9_append_36 : decode cX9_append 36 = .ok (.aload_n 0, 1) := by decide +kernel
theorem dX9_append_37 : decode cX9_append 37 = .ok (.getfield 118, 3) := by decide +kernel
theorem dX9_append_40 : decode cX9_append 40 = .ok (.iload_n 1, 1) := by decide +kernel
theorem dX9_append_41 : decode cX9_append 41 = .ok (.iastore, 1) := by decide +kernel
theorem dX9_append_42 : decode cX9_append 42 = .ok (.aload_n 0, 1) := by decide +kernel
theorem dX9_append_43 : decode cX9_append 43 = .ok (.dup, 1) := by decide +kernel
theorem dX9_append_44 : decode cX9_append 44 = .ok (.getfield 118, 3) := by decide +kernel
theorem dX9_append_47 : decode cX9_append 47 = .ok (.iconst 1, 1) := by decide +kernel
theorem dX9_append_48 : decode cX9_append 48 = .ok (.iadd, 1) := by decide +kernel
theorem dX9_append_49 : decode cX9_append 49 = .ok (.putfield 118, 3) := by decide +kernel
theorem dX9_append_52 : decode cX9_append 52 = .ok (.aload_n 0, 1) := by decide +kernel
theorem dX9_append_53 : decode cX9_append 53 = .ok (.getfield 118, 3) := by decide +kernel
theorem dX9_append_56 : decode cX9_append 56 = .ok (.ireturn, 1) := by decide +kernel
theorem dX9_clearText_0 : decode cX9_clearText 0 = .ok (.aload_n 0, 1) := by decide +kernel
theorem dX9_clearText_1 : decode cX9_clearText 1 = .ok (.iconst 0, 1) := by decide +kernel
theorem dX9_clearText_2 : decode cX9_clearText 2 = .ok (.putfield 59, 3) := by decide +kernel
theorem dX9_clearText_5 : decode cX9_clearText 5 = .ok (.aload_n 0, 1) := by decide +kernel
theorem dX9_clearText_6 : decode cX9_clearText 6 = .ok (.getfield 118, 3) := by decide +kernel
theorem dX9_clearText_9 : decode cX9_clearText 9 = .ok (.istore_n 1, 1) := by decide +kernel
theorem dX9_clearText_10 : decode cX9_clearText 10 = .ok (.aload_n 0, 1) := by decide +kernel
theorem dX9_clearText_11 : decode cX9_clearText 11 = .ok (.iconst 0, 1) := by decide +kernel
theorem dX9_clearText_12 : decode cX9_clearText 12 = .ok (.putfield 118, 3) := by decide +kernel
theorem dX9_clearText_15 : decode cX9_clearText 15 = .ok (.iload_n 1, 1) := by decide +kernel
theorem dX9_clearText_16 : decode cX9_clearText 16 = .ok (.ireturn, 1) := by decide +kernel
theorem dX9_tokenOf_0 : decode cX9_tokenOf 0 = .ok (.iload_n 0, 1) := by decide +kernel
theorem dX9_tokenOf_1 : decode cX9_tokenOf 1 = .ok (.bipush 76, 2) := by decide +kernel
theorem dX9_tokenOf_3 : decode cX9_tokenOf 3 = .ok (.if_icmp .ne 9, 3) := by decide +kernel
theorem dX9_tokenOf_6 : decode cX9_tokenOf 6 = .ok (.sipush 1001, 3) := by decide +kernel
theorem dX9_tokenOf_9 : decode cX9_tokenOf 9 = .ok (.goto 38, 3) := by decide +kernel
theorem dX9_tokenOf_12 : decode cX9_tokenOf 12 = .ok (.iload_n 0, 1) := by decide +kernel
theorem dX9_tokenOf_13 : decode cX9_tokenOf 13 = .ok (.bipush 64, 2) := by decide +kernel
theorem dX9_tokenOf_15 : decode cX9_tokenOf 15 = .ok (.if_icmp .ne 9, 3) := by decide +kernel
theorem dX9_tokenOf_18 : decode cX9_tokenOf 18 = .ok (.sipush 1000, 3) := by decide +kernel
theorem dX9_tokenOf_21 : decode cX9_tokenOf 21 = .ok (.goto 26, 3) := by decide +kernel
theorem dX9_tokenOf_24 : decode cX9_tokenOf 24 = .ok (.iload_n 0, 1) := by decide +kernel
theorem dX9_tokenOf_25 : decode cX9_tokenOf 25 = .ok (.i2l, 1) := by decide +kernel
theorem dX9_tokenOf_26 : decode cX9_tokenOf 26 = .ok (.ldc2_w 121, 3) := by decide +kernel
theorem dX9_tokenOf_29 : decode cX9_tokenOf 29 = .ok (.ldc2_w 123, 3) := by decide +kernel
theorem dX9_tokenOf_32 : decode cX9_tokenOf 32 = .ok (.invokestatic 114, 3) := by decide +kernel
theorem dX9_tokenOf_35 : decode cX9_tokenOf 35 = .ok (.ifCond .eq 10, 3) := by decide +kernel
theorem dX9_tokenOf_38 : decode cX9_tokenOf 38 = .ok (.iload_n 0, 1) := by decide +kernel
theorem dX9_tokenOf_39 : decode cX9_tokenOf 39 = .ok (.bipush 48, 2) := by decide +kernel
theorem dX9_tokenOf_41 : decode cX9_tokenOf 41 = .ok (.isub, 1) := by decide +kernel
theorem dX9_tokenOf_42 : decode cX9_tokenOf 42 = .ok (.goto 5, 3) := by decide +kernel
theorem dX9_tokenOf_45 : decode cX9_tokenOf 45 = .ok (.bipush (-9), 2) := by decide +kernel
theorem dX9_tokenOf_47 : decode cX9_tokenOf 47 = .ok (.ireturn, 1) := by decide +kernel
theorem dX9_errorPosition_0 : decode cX9_errorPosition 0 = .ok (.aload_n 0, 1) := by decide +kernel
theorem dX9_errorPosition_1 : decode cX9_errorPosition 1 = .ok (.iconst 0, 1) := by decide +kernel
theorem dX9_errorPosition_2 : decode cX9_errorPosition 2 = .ok (.putfield 59, 3) := by decide +kernel
theorem dX9_errorPosition_5 : decode cX9_errorPosition 5 = .ok (.iconst 1, 1) := by decide +kernel
theorem dX9_errorPosition_6 : decode cX9_errorPosition 6 = .ok (.istore_n 1, 1) := by decide +kernel
theorem dX9_errorPosition_7 : decode cX9_errorPosition 7 = .ok (.iconst 0, 1) := by decide +kernel
theorem dX9_errorPosition_8 : decode cX9_errorPosition 8 = .ok (.istore_n 2, 1) := by decide +kernel
theorem dX9_errorPosition_9 : decode cX9_errorPosition 9 = .ok (.iload_n 2, 1) := by decide +kernel
theorem dX9_errorPosition_10 : decode cX9_errorPosition 10 = .ok (.aload_n 0, 1) := by decide +kernel
theorem dX9_errorPosition_11 : decode cX9_errorPosition 11 = .ok (.getfield 118, 3) := by decide +kernel
theorem dX9_errorPosition_14 : decode cX9_errorPosition 14 = .ok (.if_icmp .ge 40, 3) := by decide +kernel
theorem dX9_errorPosition_17 : decode cX9_errorPosition 17 = .ok (.aload_n 0, 1) := by decide +kernel
theorem dX9_errorPosition_18 : decode cX9_errorPosition 18 = .ok (.getfield 7, 3) := by decide +kernel
theorem dX9_errorPosition_21 : decode cX9_errorPosition 21 = .ok (.iload_n 2, 1) := by decide +kernel
theorem dX9_errorPosition_22 : decode cX9_errorPosition 22 = .ok (.iaload, 1) := by decide +kernel
theorem dX9_errorPosition_23 : decode cX9_errorPosition 23 = .ok (.invokestatic 125, 3) := by decide +kernel
theorem dX9_errorPosition_26 : decode cX9_errorPosition 26 = .ok (.istore_n 3, 1) := by decide +kernel
theorem dX9_errorPosition_27 : decode cX9_errorPosition 27 = .ok (.iload_n 3, 1) := by decide +kernel
theorem dX9_errorPosition_28 : decode cX9_errorPosition 28 = .ok (.bipush (-9), 2) := by decide +kernel
theorem dX9_errorPosition_30 : decode cX9_errorPosition 30 = .ok (.if_icmp .eq 7, 3) := by decide +kernel
theorem dX9_errorPosition_33 : decode cX9_errorPosition 33 = .ok (.iload_n 1, 1) := by decide +kernel
theorem dX9_errorPosition_34 : decode cX9_errorPosition 34 = .ok (.ifCond .ne 5, 3) := by decide +kernel
theorem dX9_errorPosition_37 : decode cX9_errorPosition 37 = .ok (.iload_n 2, 1) := by decide +kernel
theorem dX9_errorPosition_38 : decode cX9_errorPosition 38 = .ok (.ireturn, 1) := by decide +kernel
theorem dX9_errorPosition_39 : decode cX9_errorPosition 39 = .ok (.iload_n 1, 1) := by decide +kernel
theorem dX9_errorPosition_40 : decode cX9_errorPosition 40 = .ok (.iload_n 3, 1) := by decide +kernel
theorem dX9_errorPosition_41 : decode cX9_errorPosition 41 = .ok (.invokestatic 64, 3) := by decide +kernel
theorem dX9_errorPosition_44 : decode cX9_errorPosition 44 = .ok (.iconst 1, 1) := by decide +kernel
theorem dX9_errorPosition_45 : decode cX9_errorPosition 45 = .ok (.isub, 1) := by decide +kernel
theorem dX9_errorPosition_46 : decode cX9_errorPosition 46 = .ok (.iadd, 1) := by decide +kernel
theorem dX9_errorPosition_47 : decode cX9_errorPosition 47 = .ok (.istore_n 1, 1) := by decide +kernel
theorem dX9_errorPosition_48 : decode cX9_errorPosition 48 = .ok (.iinc 2 1, 3) := by decide +kernel
theorem dX9_errorPosition_51 : decode cX9_errorPosition 51 = .ok (.goto (-42), 3) := by decide +kernel
theorem dX9_errorPosition_54 : decode cX9_errorPosition 54 = .ok (.iload_n 1, 1) := by decide +kernel
theorem dX9_errorPosition_55 : decode cX9_errorPosition 55 = .ok (.ifCond .le 10, 3) := by decide +kernel
theorem dX9_errorPosition_58 : decode cX9_errorPosition 58 = .ok (.aload_n 0, 1) := by decide +kernel
theorem dX9_errorPosition_59 : decode cX9_errorPosition 59 = .ok (.getfield 118, 3) := by decide +kernel
theorem dX9_errorPosition_62 : decode cX9_errorPosition 62 = .ok (.goto 5, 3) := by decide +kernel
theorem dX9_errorPosition_65 : decode cX9_errorPosition 65 = .ok (.bipush (-9), 2) := by decide +kernel
theorem dX9_errorPosition_67 : decode cX9_errorPosition 67 = .ok (.ireturn, 1) := by decide +kernel
theorem dX9_load_0 : decode cX9_load 0 = .ok (.aload_n 0, 1) := by decide +kernel
theorem dX9_load_1 : decode cX9_load 1 = .ok (.iconst 0, 1) := by decide +kernel
theorem dX9_load_2 : decode cX9_load 2 = .ok (.putfield 59, 3) := by decide +kernel
theorem dX9_load_5 : decode cX9_load 5 = .ok (.aload_n 0, 1) := by decide +kernel
theorem dX9_load_6 : decode cX9_load 6 = .ok (.invokevirtual 128, 3) := by decide +kernel
theorem dX9_load_9 : decode cX9_load 9 = .ok (.bipush (-9), 2) := by decide +kernel
theorem dX9_load_11 : decode cX9_load 11 = .ok (.if_icmp .eq 6, 3) := by decide +kernel
theorem dX9_load_14 : decode cX9_load 14 = .ok (.bipush (-3), 2) := by decide +kernel
theorem dX9_load_16 : decode cX9_load 16 = .ok (.ireturn, 1) := by decide +kernel
theorem dX9_load_17 : decode cX9_load 17 = .ok (.iconst 0, 1) := by decide +kernel
theorem dX9_load_18 : decode cX9_load 18 = .ok (.istore_n 1, 1) := by decide +kernel
theorem dX9_load_19 : decode cX9_load 19 = .ok (.iload_n 1, 1) := by decide +kernel
theorem dX9_load_20 : decode cX9_load 20 = .ok (.aload_n 0, 1) := by decide +kernel
theorem dX9_load_21 : decode cX9_load 21 = .ok (.getfield 118, 3) := by decide +kernel
theorem dX9_load_24 : decode cX9_load 24 = .ok (.if_icmp .ge 24, 3) := by decide +kernel
theorem dX9_load_27 : decode cX9_load 27 = .ok (.aload_n 0, 1) := by decide +kernel
theorem dX9_load_28 : decode cX9_load 28 = .ok (.getfield 13, 3) := by decide +kernel
theorem dX9_load_31 : decode cX9_load 31 = .ok (.iload_n 1, 1) := by decide +kernel
theorem dX9_load_32 : decode cX9_load 32 = .ok (.aload_n 0, 1) := by decide +kernel
theorem dX9_load_33 : decode cX9_load 33 = .ok (.getfield 7, 3) := by decide +kernel
theorem dX9_load_36 : decode cX9_load 36 = .ok (.iload_n 1, 1) := by decide +kernel
theorem dX9_load_37 : decode cX9_load 37 = .ok (.iaload, 1) := by decide +kernel
theorem dX9_load_38 : decode cX9_load 38 = .ok (.invokestatic 125, 3) := by decide +kernel
theorem dX9_load_41 : decode cX9_load 41 = .ok (.iastore, 1) := by decide +kernel
theorem dX9_load_42 : decode cX9_load 42 = .ok (.iinc 1 1, 3) := by decide +kernel
theorem dX9_load_45 : decode cX9_load 45 = .ok (.goto (-26), 3) := by decide +kernel
theorem dX9_load_48 : decode cX9_load 48 = .ok (.aload_n 0, 1) := by decide +kernel
theorem dX9_load_49 : decode cX9_load 49 = .ok (.getfield 13, 3) := by decide +kernel
theorem dX9_load_52 : decode cX9_load 52 = .ok (.sipush 200, 3) := by decide +kernel
theorem dX9_load_55 : decode cX9_load 55 = .ok (.aload_n 0, 1) := by decide +kernel
theorem dX9_load_56 : decode cX9_load 56 = .ok (.getfield 118, 3) := by decide +kernel
theorem dX9_load_59 : decode cX9_load 59 = .ok (.iastore, 1) := by decide +kernel
theorem dX9_load_60 : decode cX9_load 60 = .ok (.aload_n 0, 1) := by decide +kernel
theorem dX9_load_61 : decode cX9_load 61 = .ok (.iconst 0, 1) := by decide +kernel
theorem dX9_load_62 : decode cX9_load 62 = .ok (.putfield 132, 3) := by decide +kernel
theorem dX9_load_65 : decode cX9_load 65 = .ok (.aload_n 0, 1) := by decide +kernel
theorem dX9_load_66 : decode cX9_load 66 = .ok (.getfield 31, 3) := by decide +kernel
theorem dX9_load_69 : decode cX9_load 69 = .ok (.iconst 0, 1) := by decide +kernel
theorem dX9_load_70 : decode cX9_load 70 = .ok (.iconst 0, 1) := by decide +kernel
theorem dX9_load_71 : decode cX9_load 71 = .ok (.bastore, 1) := by decide +kernel
theorem dX9_load_72 : decode cX9_load 72 = .ok (.aload_n 0, 1) := by decide +kernel
theorem dX9_load_73 : decode cX9_load 73 = .ok (.getfield 31, 3) := by decide +kernel
theorem dX9_load_76 : decode cX9_load 76 = .ok (.iconst 1, 1) := by decide +kernel
theorem dX9_load_77 : decode cX9_load 77 = .ok (.iconst 0, 1) := by decide +kernel
theorem dX9_load_78 : decode cX9_load 78 = .ok (.bastore, 1) := by decide +kernel
theorem dX9_load_79 : decode cX9_load 79 = .ok (.aload_n 0, 1) := by decide +kernel
theorem dX9_load_80 : decode cX9_load 80 = .ok (.getfield 118, 3) := by decide +kernel
theorem dX9_load_83 : decode cX9_load 83 = .ok (.ireturn, 1) := by decide +kernel
theorem dX9_size_0 : decode cX9_size 0 = .ok (.aload_n 0, 1) := by decide +kernel
theorem dX9_size_1 : decode cX9_size 1 = .ok (.iconst 0, 1) := by decide +kernel
theorem dX9_size_2 : decode cX9_size 2 = .ok (.putfield 59, 3) := by decide +kernel
theorem dX9_size_5 : decode cX9_size 5 = .ok (.aload_n 0, 1) := by decide +kernel
theorem dX9_size_6 : decode cX9_size 6 = .ok (.getfield 13, 3) := by decide +kernel
theorem dX9_size_9 : decode cX9_size 9 = .ok (.sipush 200, 3) := by decide +kernel
theorem dX9_size_12 : decode cX9_size 12 = .ok (.iaload, 1) := by decide +kernel
theorem dX9_size_13 : decode cX9_size 13 = .ok (.ireturn, 1) := by decide +kernel
theorem dX9_tokenAt_0 : decode cX9_tokenAt 0 = .ok (.aload_n 0, 1) := by decide +kernel
theorem dX9_tokenAt_1 : decode cX9_tokenAt 1 = .ok (.iconst 0, 1) := by decide +kernel
theorem dX9_tokenAt_2 : decode cX9_tokenAt 2 = .ok (.putfield 59, 3) := by decide +kernel
theorem dX9_tokenAt_5 : decode cX9_tokenAt 5 = .ok (.iload_n 1, 1) := by decide +kernel
theorem dX9_tokenAt_6 : decode cX9_tokenAt 6 = .ok (.i2l, 1) := by decide +kernel
theorem dX9_tokenAt_7 : decode cX9_tokenAt 7 = .ok (.lconst 0, 1) := by decide +kernel
theorem dX9_tokenAt_8 : decode cX9_tokenAt 8 = .ok (.aload_n 0, 1) := by decide +kernel
theorem dX9_tokenAt_9 : decode cX9_tokenAt 9 = .ok (.getfield 13, 3) := by decide +kernel
theorem dX9_tokenAt_12 : decode cX9_tokenAt 12 = .ok (.sipush 200, 3) := by decide +kernel
theorem dX9_tokenAt_15 : decode cX9_tokenAt 15 = .ok (.iaload, 1) := by decide +kernel
theorem dX9_tokenAt_16 : decode cX9_tokenAt 16 = .ok (.iconst 1, 1) := by decide +kernel
theorem dX9_tokenAt_17 : decode cX9_tokenAt 17 = .ok (.isub, 1) := by decide +kernel
theorem dX9_tokenAt_18 : decode cX9_tokenAt 18 = .ok (.i2l, 1) := by decide +kernel
theorem dX9_tokenAt_19 : decode cX9_tokenAt 19 = .ok (.invokestatic 114, 3) := by decide +kernel
theorem dX9_tokenAt_22 : decode cX9_tokenAt 22 = .ok (.ifCond .eq 12, 3) := by decide +kernel
theorem dX9_tokenAt_25 : decode cX9_tokenAt 25 = .ok (.aload_n 0, 1) := by decide +kernel
theorem dX9_tokenAt_26 : decode cX9_tokenAt 26 = .ok (.getfield 13, 3) := by decide +kernel
theorem dX9_tokenAt_29 : decode cX9_tokenAt 29 = .ok (.iload_n 1, 1) := by decide +kernel
theorem dX9_tokenAt_30 : decode cX9_tokenAt 30 = .ok (.iaload, 1) := by decide +kernel
theorem dX9_tokenAt_31 : decode cX9_tokenAt 31 = .ok (.goto 4, 3) := by decide +kernel
theorem dX9_tokenAt_34 : decode cX9_tokenAt 34 = .ok (.iconst (-1), 1) := by decide +kernel
theorem dX9_tokenAt_35 : decode cX9_tokenAt 35 = .ok (.ireturn, 1) := by decide +kernel
theorem dX9_nameAt_0 : decode cX9_nameAt 0 = .ok (.aload_n 0, 1) := by decide +kernel
theorem dX9_nameAt_1 : decode cX9_nameAt 1 = .ok (.iconst 0, 1) := by decide +kernel
theorem dX9_nameAt_2 : decode cX9_nameAt 2 = .ok (.putfield 59, 3) := by decide +kernel
theorem dX9_nameAt_5 : decode cX9_nameAt 5 = .ok (.iload_n 1, 1) := by decide +kernel
theorem dX9_nameAt_6 : decode cX9_nameAt 6 = .ok (.i2l, 1) := by decide +kernel
theorem dX9_nameAt_7 : decode cX9_nameAt 7 = .ok (.lconst 0, 1) := by decide +kernel
theorem dX9_nameAt_8 : decode cX9_nameAt 8 = .ok (.aload_n 0, 1) := by decide +kernel
theorem dX9_nameAt_9 : decode cX9_nameAt 9 = .ok (.getfield 13, 3) := by decide +kernel
theorem dX9_nameAt_12 : decode cX9_nameAt 12 = .ok (.sipush 200, 3) := by decide +kernel
theorem dX9_nameAt_15 : decode cX9_nameAt 15 = .ok (.iaload, 1) := by decide +kernel
theorem dX9_nameAt_16 : decode cX9_nameAt 16 = .ok (.iconst 1, 1) := by decide +kernel
theorem dX9_nameAt_17 : decode cX9_nameAt 17 = .ok (.isub, 1) := by decide +kernel
theorem dX9_nameAt_18 : decode cX9_nameAt 18 = .ok (.i2l, 1) := by decide +kernel
theorem dX9_nameAt_19 : decode cX9_nameAt 19 = .ok (.invokestatic 114, 3) := by decide +kernel
theorem dX9_nameAt_22 : decode cX9_nameAt 22 = .ok (.ifCond .ne 5, 3) := by decide +kernel
theorem dX9_nameAt_25 : decode cX9_nameAt 25 = .ok (.iconst (-1), 1) := by decide +kernel
theorem dX9_nameAt_26 : decode cX9_nameAt 26 = .ok (.ireturn, 1) := by decide +kernel
theorem dX9_nameAt_27 : decode cX9_nameAt 27 = .ok (.aload_n 0, 1) := by decide +kernel
theorem dX9_nameAt_28 : decode cX9_nameAt 28 = .ok (.aload_n 0, 1) := by decide +kernel
theorem dX9_nameAt_29 : decode cX9_nameAt 29 = .ok (.getfield 13, 3) := by decide +kernel
theorem dX9_nameAt_32 : decode cX9_nameAt 32 = .ok (.iconst 0, 1) := by decide +kernel
theorem dX9_nameAt_33 : decode cX9_nameAt 33 = .ok (.aload_n 0, 1) := by decide +kernel
theorem dX9_nameAt_34 : decode cX9_nameAt 34 = .ok (.getfield 13, 3) := by decide +kernel
theorem dX9_nameAt_37 : decode cX9_nameAt 37 = .ok (.sipush 200, 3) := by decide +kernel
theorem dX9_nameAt_40 : decode cX9_nameAt 40 = .ok (.iaload, 1) := by decide +kernel
theorem dX9_nameAt_41 : decode cX9_nameAt 41 = .ok (.invokevirtual 86, 3) := by decide +kernel
theorem dX9_nameAt_44 : decode cX9_nameAt 44 = .ok (.aload_n 0, 1) := by decide +kernel
theorem dX9_nameAt_45 : decode cX9_nameAt 45 = .ok (.getfield 13, 3) := by decide +kernel
theorem dX9_nameAt_48 : decode cX9_nameAt 48 = .ok (.iload_n 1, 1) := by decide +kernel
theorem dX9_nameAt_49 : decode cX9_nameAt 49 = .ok (.iaload, 1) := by decide +kernel
theorem dX9_nameAt_50 : decode cX9_nameAt 50 = .ok (.istore_n 2, 1) := by decide +kernel
theorem dX9_nameAt_51 : decode cX9_nameAt 51 = .ok (.aload_n 0, 1) := by decide +kernel
theorem dX9_nameAt_52 : decode cX9_nameAt 52 = .ok (.getfield 41, 3) := by decide +kernel
theorem dX9_nameAt_55 : decode cX9_nameAt 55 = .ok (.iload_n 1, 1) := by decide +kernel
theorem dX9_nameAt_56 : decode cX9_nameAt 56 = .ok (.iaload, 1) := by decide +kernel
theorem dX9_nameAt_57 : decode cX9_nameAt 57 = .ok (.istore_n 3, 1) := by decide +kernel
theorem dX9_nameAt_58 : decode cX9_nameAt 58 = .ok (.iload_n 2, 1) := by decide +kernel
theorem dX9_nameAt_59 : decode cX9_nameAt 59 = .ok (.sipush 1000, 3) := by decide +kernel
theorem dX9_nameAt_62 : decode cX9_nameAt 62 = .ok (.if_icmp .ne 6, 3) := by decide +kernel
theorem dX9_nameAt_65 : decode cX9_nameAt 65 = .ok (.bipush (-9), 2) := by decide +kernel
theorem dX9_nameAt_67 : decode cX9_nameAt 67 = .ok (.ireturn, 1) := by decide +kernel
theorem dX9_nameAt_68 : decode cX9_nameAt 68 = .ok (.iload_n 2, 1) := by decide +kernel
theorem dX9_nameAt_69 : decode cX9_nameAt 69 = .ok (.sipush 1001, 3) := by decide +kernel
theorem dX9_nameAt_72 : decode cX9_nameAt 72 = .ok (.if_icmp .ne 8, 3) := by decide +kernel
theorem dX9_nameAt_75 : decode cX9_nameAt 75 = .ok (.bipush 97, 2) := by decide +kernel
theorem dX9_nameAt_77 : decode cX9_nameAt 77 = .ok (.iload_n 3, 1) := by decide +kernel
theorem dX9_nameAt_78 : decode cX9_nameAt 78 = .ok (.iadd, 1) := by decide +kernel
theorem dX9_nameAt_79 : decode cX9_nameAt 79 = .ok (.ireturn, 1) := by decide +kernel
theorem dX9_nameAt_80 : decode cX9_nameAt 80 = .ok (.iload_n 2, 1) := by decide +kernel
theorem dX9_nameAt_81 : decode cX9_nameAt 81 = .ok (.iload_n 3, 1) := by decide +kernel
theorem dX9_nameAt_82 : decode cX9_nameAt 82 = .ok (.if_icmp .ge 14, 3) := by decide +kernel
theorem dX9_nameAt_85 : decode cX9_nameAt 85 = .ok (.bipush 97, 2) := by decide +kernel
theorem dX9_nameAt_87 : decode cX9_nameAt 87 = .ok (.iload_n 3, 1) := by decide +kernel
theorem dX9_nameAt_88 : decode cX9_nameAt 88 = .ok (.iadd, 1) := by decide +kernel
theorem dX9_nameAt_89 : decode cX9_nameAt 89 = .ok (.iconst 1, 1) := by decide +kernel
theorem dX9_nameAt_90 : decode cX9_nameAt 90 = .ok (.isub, 1) := by decide +kernel
theorem dX9_nameAt_91 : decode cX9_nameAt 91 = .ok (.iload_n 2, 1) := by decide +kernel
theorem dX9_nameAt_92 : decode cX9_nameAt 92 = .ok (.isub, 1) := by decide +kernel
theorem dX9_nameAt_93 : decode cX9_nameAt 93 = .ok (.goto 9, 3) := by decide +kernel
theorem dX9_nameAt_96 : decode cX9_nameAt 96 = .ok (.bipush 65, 2) := by decide +kernel
theorem dX9_nameAt_98 : decode cX9_nameAt 98 = .ok (.iload_n 2, 1) := by decide +kernel
theorem dX9_nameAt_99 : decode cX9_nameAt 99 = .ok (.iadd, 1) := by decide +kernel
theorem dX9_nameAt_100 : decode cX9_nameAt 100 = .ok (.iload_n 3, 1) := by decide +kernel
theorem dX9_nameAt_101 : decode cX9_nameAt 101 = .ok (.isub, 1) := by decide +kernel
theorem dX9_nameAt_102 : decode cX9_nameAt 102 = .ok (.ireturn, 1) := by decide +kernel
theorem dX9_redexCount_0 : decode cX9_redexCount 0 = .ok (.aload_n 0, 1) := by decide +kernel
theorem dX9_redexCount_1 : decode cX9_redexCount 1 = .ok (.iconst 0, 1) := by decide +kernel
theorem dX9_redexCount_2 : decode cX9_redexCount 2 = .ok (.putfield 59, 3) := by decide +kernel
theorem dX9_redexCount_5 : decode cX9_redexCount 5 = .ok (.aload_n 0, 1) := by decide +kernel
theorem dX9_redexCount_6 : decode cX9_redexCount 6 = .ok (.getfield 13, 3) := by decide +kernel
theorem dX9_redexCount_9 : decode cX9_redexCount 9 = .ok (.invokestatic 108, 3) := by decide +kernel
theorem dX9_redexCount_12 : decode cX9_redexCount 12 = .ok (.ireturn, 1) := by decide +kernel
theorem dX9_chosenRedex_0 : decode cX9_chosenRedex 0 = .ok (.aload_n 0, 1) := by decide +kernel
theorem dX9_chosenRedex_1 : decode cX9_chosenRedex 1 = .ok (.iconst 0, 1) := by decide +kernel
theorem dX9_chosenRedex_2 : decode cX9_chosenRedex 2 = .ok (.putfield 59, 3) := by decide +kernel
theorem dX9_chosenRedex_5 : decode cX9_chosenRedex 5 = .ok (.iload_n 1, 1) := by decide +kernel
theorem dX9_chosenRedex_6 : decode cX9_chosenRedex 6 = .ok (.i2l, 1) := by decide +kernel
theorem dX9_chosenRedex_7 : decode cX9_chosenRedex 7 = .ok (.lconst 0, 1) := by decide +kernel
theorem dX9_chosenRedex_8 : decode cX9_chosenRedex 8 = .ok (.ldc2_w 135, 3) := by decide +kernel
theorem dX9_chosenRedex_11 : decode cX9_chosenRedex 11 = .ok (.invokestatic 114, 3) := by decide +kernel
theorem dX9_chosenRedex_14 : decode cX9_chosenRedex 14 = .ok (.ifCond .eq 14, 3) := by decide +kernel
theorem dX9_chosenRedex_17 : decode cX9_chosenRedex 17 = .ok (.aload_n 0, 1) := by decide +kernel
theorem dX9_chosenRedex_18 : decode cX9_chosenRedex 18 = .ok (.getfield 13, 3) := by decide +kernel
theorem dX9_chosenRedex_21 : decode cX9_chosenRedex 21 = .ok (.iload_n 1, 1) := by decide +kernel
theorem dX9_chosenRedex_22 : decode cX9_chosenRedex 22 = .ok (.invokestatic 94, 3) := by decide +kernel
theorem dX9_chosenRedex_25 : decode cX9_chosenRedex 25 = .ok (.goto 5, 3) := by decide +kernel
theorem dX9_chosenRedex_28 : decode cX9_chosenRedex 28 = .ok (.bipush (-2), 2) := by decide +kernel
theorem dX9_chosenRedex_30 : decode cX9_chosenRedex 30 = .ok (.ireturn, 1) := by decide +kernel
theorem dX9_freeVariables_0 : decode cX9_freeVariables 0 = .ok (.aload_n 0, 1) := by decide +kernel
theorem dX9_freeVariables_1 : decode cX9_freeVariables 1 = .ok (.iconst 0, 1) := by decide +kernel
theorem dX9_freeVariables_2 : decode cX9_freeVariables 2 = .ok (.putfield 59, 3) := by decide +kernel
theorem dX9_freeVariables_5 : decode cX9_freeVariables 5 = .ok (.aload_n 0, 1) := by decide +kernel
theorem dX9_freeVariables_6 : decode cX9_freeVariables 6 = .ok (.aload_n 0, 1) := by decide +kernel
theorem dX9_freeVariables_7 : decode cX9_freeVariables 7 = .ok (.getfield 13, 3) := by decide +kernel
theorem dX9_freeVariables_10 : decode cX9_freeVariables 10 = .ok (.iconst 0, 1) := by decide +kernel
theorem dX9_freeVariables_11 : decode cX9_freeVariables 11 = .ok (.aload_n 0, 1) := by decide +kernel
theorem dX9_freeVariables_12 : decode cX9_freeVariables 12 = .ok (.getfield 13, 3) := by decide +kernel
theorem dX9_freeVariables_15 : decode cX9_freeVariables 15 = .ok (.sipush 200, 3) := by decide +kernel
theorem dX9_freeVariables_18 : decode cX9_freeVariables 18 = .ok (.iaload, 1) := by decide +kernel
theorem dX9_freeVariables_19 : decode cX9_freeVariables 19 = .ok (.invokevirtual 86, 3) := by decide +kernel
theorem dX9_freeVariables_22 : decode cX9_freeVariables 22 = .ok (.iconst 0, 1) := by decide +kernel
theorem dX9_freeVariables_23 : decode cX9_freeVariables 23 = .ok (.istore_n 1, 1) := by decide +kernel
theorem dX9_freeVariables_24 : decode cX9_freeVariables 24 = .ok (.iconst 0, 1) := by decide +kernel
theorem dX9_freeVariables_25 : decode cX9_freeVariables 25 = .ok (.istore_n 2, 1) := by decide +kernel
theorem dX9_freeVariables_26 : decode cX9_freeVariables 26 = .ok (.iload_n 2, 1) := by decide +kernel
theorem dX9_freeVariables_27 : decode cX9_freeVariables 27 = .ok (.aload_n 0, 1) := by decide +kernel
theorem dX9_freeVariables_28 : decode cX9_freeVariables 28 = .ok (.getfield 13, 3) := by decide +kernel
theorem dX9_freeVariables_31 : decode cX9_freeVariables 31 = .ok (.sipush 200, 3) := by decide +kernel
theorem dX9_freeVariables_34 : decode cX9_freeVariables 34 = .ok (.iaload, 1) := by decide +kernel
theorem dX9_freeVariables_35 : decode cX9_freeVariables 35 = .ok (.if_icmp .ge 58, 3) := by decide +kernel
theorem dX9_freeVariables_38 : decode cX9_freeVariables 38 = .ok (.iload_n 1, 1) := by decide +kernel
theorem dX9_freeVariables_39 : decode cX9_freeVariables 39 = .ok (.aload_n 0, 1) := by decide +kernel
theorem dX9_freeVariables_40 : decode cX9_freeVariables 40 = .ok (.getfield 13, 3) := by decide +kernel
theorem dX9_freeVariables_43 : decode cX9_freeVariables 43 = .ok (.iload_n 2, 1) := by decide +kernel
theorem dX9_freeVariables_44 : decode cX9_freeVariables 44 = .ok (.iaload, 1) := by decide +kernel
theorem dX9_freeVariables_45 : decode cX9_freeVariables 45 = .ok (.invokestatic 68, 3) := by decide +kernel
theorem dX9_freeVariables_48 : decode cX9_freeVariables 48 = .ok (.ifCond .eq 36, 3) := by decide +kernel
theorem dX9_freeVariables_51 : decode cX9_freeVariables 51 = .ok (.aload_n 0, 1) := by decide +kernel
theorem dX9_freeVariables_52 : decode cX9_freeVariables 52 = .ok (.getfield 13, 3) := by decide +kernel
theorem dX9_freeVariables_55 : decode cX9_freeVariables 55 = .ok (.iload_n 2, 1) := by decide +kernel
theorem dX9_freeVariables_56 : decode cX9_freeVariables 56 = .ok (.iaload, 1) := by decide +kernel
theorem dX9_freeVariables_57 : decode cX9_freeVariables 57 = .ok (.aload_n 0, 1) := by decide +kernel
theorem dX9_freeVariables_58 : decode cX9_freeVariables 58 = .ok (.getfield 41, 3) := by decide +kernel
theorem dX9_freeVariables_61 : decode cX9_freeVariables 61 = .ok (.iload_n 2, 1) := by decide +kernel
theorem dX9_freeVariables_62 : decode cX9_freeVariables 62 = .ok (.iaload, 1) := by decide +kernel
theorem dX9_freeVariables_63 : decode cX9_freeVariables 63 = .ok (.if_icmp .lt 21, 3) := by decide +kernel
theorem dX9_freeVariables_66 : decode cX9_freeVariables 66 = .ok (.iconst 1, 1) := by decide +kernel
theorem dX9_freeVariables_67 : decode cX9_freeVariables 67 = .ok (.aload_n 0, 1) := by decide +kernel
theorem dX9_freeVariables_68 : decode cX9_freeVariables 68 = .ok (.getfield 13, 3) := by decide +kernel
theorem dX9_freeVariables_71 : decode cX9_freeVariables 71 = .ok (.iload_n 2, 1) := by decide +kernel
theorem dX9_freeVariables_72 : decode cX9_freeVariables 72 = .ok (.iaload, 1) := by decide +kernel
theorem dX9_freeVariables_73 : decode cX9_freeVariables 73 = .ok (.aload_n 0, 1) := by decide +kernel
theorem dX9_freeVariables_74 : decode cX9_freeVariables 74 = .ok (.getfield 41, 3) := by decide +kernel
theorem dX9_freeVariables_77 : decode cX9_freeVariables 77 = .ok (.iload_n 2, 1) := by decide +kernel
theorem dX9_freeVariables_78 : decode cX9_freeVariables 78 = .ok (.iaload, 1) := by decide +kernel
theorem dX9_freeVariables_79 : decode cX9_freeVariables 79 = .ok (.isub, 1) := by decide +kernel
theorem dX9_freeVariables_80 : decode cX9_freeVariables 80 = .ok (.ishl, 1) := by decide +kernel
theorem dX9_freeVariables_81 : decode cX9_freeVariables 81 = .ok (.goto 4, 3) := by decide +kernel
theorem dX9_freeVariables_84 : decode cX9_freeVariables 84 = .ok (.iconst 0, 1) := by decide +kernel
theorem dX9_freeVariables_85 : decode cX9_freeVariables 85 = .ok (.ior, 1) := by decide +kernel
theorem dX9_freeVariables_86 : decode cX9_freeVariables 86 = .ok (.istore_n 1, 1) := by decide +kernel
theorem dX9_freeVariables_87 : decode cX9_freeVariables 87 = .ok (.iinc 2 1, 3) := by decide +kernel
theorem dX9_freeVariables_90 : decode cX9_freeVariables 90 = .ok (.goto (-64), 3) := by decide +kernel
theorem dX9_freeVariables_93 : decode cX9_freeVariables 93 = .ok (.iload_n 1, 1) := by decide +kernel
theorem dX9_freeVariables_94 : decode cX9_freeVariables 94 = .ok (.ireturn, 1) := by decide +kernel
theorem dX9_remember_0 : decode cX9_remember 0 = .ok (.aload_n 0, 1) := by decide +kernel
theorem dX9_remember_1 : decode cX9_remember 1 = .ok (.getfield 132, 3) := by decide +kernel
theorem dX9_remember_4 : decode cX9_remember 4 = .ok (.bipush 14, 2) := by decide +kernel
theorem dX9_remember_6 : decode cX9_remember 6 = .ok (.if_icmp .ne 44, 3) := by decide +kernel
theorem dX9_remember_9 : decode cX9_remember 9 = .ok (.iconst 0, 1) := by decide +kernel
theorem dX9_remember_10 : decode cX9_remember 10 = .ok (.istore_n 1, 1) := by decide +kernel
theorem dX9_remember_11 : decode cX9_remember 11 = .ok (.iload_n 1, 1) := by decide +kernel
theorem dX9_remember_12 : decode cX9_remember 12 = .ok (.sipush 2613, 3) := by decide +kernel
theorem dX9_remember_15 : decode cX9_remember 15 = .ok (.if_icmp .ge 25, 3) := by decide +kernel
theorem dX9_remember_18 : decode cX9_remember 18 = .ok (.aload_n 0, 1) := by decide +kernel
theorem dX9_remember_19 : decode cX9_remember 19 = .ok (.getfield 25, 3) := by decide +kernel
theorem dX9_remember_22 : decode cX9_remember 22 = .ok (.iload_n 1, 1) := by decide +kernel
theorem dX9_remember_23 : decode cX9_remember 23 = .ok (.aload_n 0, 1) := by decide +kernel
theorem dX9_remember_24 : decode cX9_remember 24 = .ok (.getfield 25, 3) := by decide +kernel
theorem dX9_remember_27 : decode cX9_remember 27 = .ok (.iload_n 1, 1) := by decide +kernel
theorem dX9_remember_28 : decode cX9_remember 28 = .ok (.sipush 201, 3) := by decide +kernel
theorem dX9_remember_31 : decode cX9_remember 31 = .ok (.iadd, 1) := by decide +kernel
theorem dX9_remember_32 : decode cX9_remember 32 = .ok (.iaload, 1) := by decide +kernel
theorem dX9_remember_33 : decode cX9_remember 33 = .ok (.iastore, 1) := by decide +kernel
theorem dX9_remember_34 : decode cX9_remember 34 = .ok (.iinc 1 1, 3) := by decide +kernel
theorem dX9_remember_37 : decode cX9_remember 37 = .ok (.goto (-26), 3) := by decide +kernel
theorem dX9_remember_40 : decode cX9_remember 40 = .ok (.aload_n 0, 1) := by decide +kernel
theorem dX9_remember_41 : decode cX9_remember 41 = .ok (.dup, 1) := by decide +kernel
theorem dX9_remember_42 : decode cX9_remember 42 = .ok (.getfield 132, 3) := by decide +kernel
theorem dX9_remember_45 : decode cX9_remember 45 = .ok (.iconst 1, 1) := by decide +kernel
theorem dX9_remember_46 : decode cX9_remember 46 = .ok (.isub, 1) := by decide +kernel
theorem dX9_remember_47 : decode cX9_remember 47 = .ok (.putfield 132, 3) := by decide +kernel
theorem dX9_remember_50 : decode cX9_remember 50 = .ok (.iconst 0, 1) := by decide +kernel
theorem dX9_remember_51 : decode cX9_remember 51 = .ok (.istore_n 1, 1) := by decide +kernel
theorem dX9_remember_52 : decode cX9_remember 52 = .ok (.iload_n 1, 1) := by decide +kernel
theorem dX9_remember_53 : decode cX9_remember 53 = .ok (.sipush 201, 3) := by decide +kernel
theorem dX9_remember_56 : decode cX9_remember 56 = .ok (.if_icmp .ge 30, 3) := by decide +kernel
theorem dX9_remember_59 : decode cX9_remember 59 = .ok (.aload_n 0, 1) := by decide +kernel
theorem dX9_remember_60 : decode cX9_remember 60 = .ok (.getfield 25, 3) := by decide +kernel
theorem dX9_remember_63 : decode cX9_remember 63 = .ok (.sipush 201, 3) := by decide +kernel
theorem dX9_remember_66 : decode cX9_remember 66 = .ok (.aload_n 0, 1) := by decide +kernel
theorem dX9_remember_67 : decode cX9_remember 67 = .ok (.getfield 132, 3) := by decide +kernel
theorem dX9_remember_70 : decode cX9_remember 70 = .ok (.imul, 1) := by decide +kernel
theorem dX9_remember_71 : decode cX9_remember 71 = .ok (.iload_n 1, 1) := by decide +kernel
theorem dX9_remember_72 : decode cX9_remember 72 = .ok (.iadd, 1) := by decide +kernel
theorem dX9_remember_73 : decode cX9_remember 73 = .ok (.aload_n 0, 1) := by decide +kernel
theorem dX9_remember_74 : decode cX9_remember 74 = .ok (.getfield 13, 3) := by decide +kernel
theorem dX9_remember_77 : decode cX9_remember 77 = .ok (.iload_n 1, 1) := by decide +kernel
theorem dX9_remember_78 : decode cX9_remember 78 = .ok (.iaload, 1) := by decide +kernel
theorem dX9_remember_79 : decode cX9_remember 79 = .ok (.iastore, 1) := by decide +kernel
theorem dX9_remember_80 : decode cX9_remember 80 = .ok (.iinc 1 1, 3) := by decide +kernel
theorem dX9_remember_83 : decode cX9_remember 83 = .ok (.goto (-31), 3) := by decide +kernel
theorem dX9_remember_86 : decode cX9_remember 86 = .ok (.aload_n 0, 1) := by decide +kernel
theorem dX9_remember_87 : decode cX9_remember 87 = .ok (.dup, 1) := by decide +kernel
theorem dX9_remember_88 : decode cX9_remember 88 = .ok (.getfield 132, 3) := by decide +kernel
theorem dX9_remember_91 : decode cX9_remember 91 = .ok (.iconst 1, 1) := by decide +kernel
theorem dX9_remember_92 : decode cX9_remember 92 = .ok (.iadd, 1) := by decide +kernel
theorem dX9_remember_93 : decode cX9_remember 93 = .ok (.putfield 132, 3) := by decide +kernel
theorem dX9_remember_96 : decode cX9_remember 96 = .ok (.return_, 1) := by decide +kernel
theorem dX9_commit_0 : decode cX9_commit 0 = .ok (.aload_n 0, 1) := by decide +kernel
theorem dX9_commit_1 : decode cX9_commit 1 = .ok (.invokevirtual 137, 3) := by decide +kernel
theorem dX9_commit_4 : decode cX9_commit 4 = .ok (.aload_n 0, 1) := by decide +kernel
theorem dX9_commit_5 : decode cX9_commit 5 = .ok (.getfield 22, 3) := by decide +kernel
theorem dX9_commit_8 : decode cX9_commit 8 = .ok (.aload_n 0, 1) := by decide +kernel
theorem dX9_commit_9 : decode cX9_commit 9 = .ok (.getfield 13, 3) := by decide +kernel
theorem dX9_commit_12 : decode cX9_commit 12 = .ok (.invokestatic 100, 3) := by decide +kernel
theorem dX9_commit_15 : decode cX9_commit 15 = .ok (.aload_n 0, 1) := by decide +kernel
theorem dX9_commit_16 : decode cX9_commit 16 = .ok (.getfield 13, 3) := by decide +kernel
theorem dX9_commit_19 : decode cX9_commit 19 = .ok (.sipush 200, 3) := by decide +kernel
theorem dX9_commit_22 : decode cX9_commit 22 = .ok (.iaload, 1) := by decide +kernel
theorem dX9_commit_23 : decode cX9_commit 23 = .ok (.ireturn, 1) := by decide +kernel
theorem dX9_step_0 : decode cX9_step 0 = .ok (.aload_n 0, 1) := by decide +kernel
theorem dX9_step_1 : decode cX9_step 1 = .ok (.iconst 0, 1) := by decide +kernel
theorem dX9_step_2 : decode cX9_step 2 = .ok (.putfield 59, 3) := by decide +kernel
theorem dX9_step_5 : decode cX9_step 5 = .ok (.iload_n 1, 1) := by decide +kernel
theorem dX9_step_6 : decode cX9_step 6 = .ok (.i2l, 1) := by decide +kernel
theorem dX9_step_7 : decode cX9_step 7 = .ok (.lconst 0, 1) := by decide +kernel
theorem dX9_step_8 : decode cX9_step 8 = .ok (.ldc2_w 135, 3) := by decide +kernel
theorem dX9_step_11 : decode cX9_step 11 = .ok (.invokestatic 114, 3) := by decide +kernel
theorem dX9_step_14 : decode cX9_step 14 = .ok (.ifCond .ne 6, 3) := by decide +kernel
theorem dX9_step_17 : decode cX9_step 17 = .ok (.bipush (-2), 2) := by decide +kernel
theorem dX9_step_19 : decode cX9_step 19 = .ok (.ireturn, 1) := by decide +kernel
theorem dX9_step_20 : decode cX9_step 20 = .ok (.aload_n 0, 1) := by decide +kernel
theorem dX9_step_21 : decode cX9_step 21 = .ok (.getfield 13, 3) := by decide +kernel
theorem dX9_step_24 : decode cX9_step 24 = .ok (.iload_n 1, 1) := by decide +kernel
theorem dX9_step_25 : decode cX9_step 25 = .ok (.invokestatic 94, 3) := by decide +kernel
theorem dX9_step_28 : decode cX9_step 28 = .ok (.istore_n 2, 1) := by decide +kernel
theorem dX9_step_29 : decode cX9_step 29 = .ok (.iload_n 2, 1) := by decide +kernel
theorem dX9_step_30 : decode cX9_step 30 = .ok (.bipush (-9), 2) := by decide +kernel
theorem dX9_step_32 : decode cX9_step 32 = .ok (.if_icmp .ne 6, 3) := by decide +kernel
theorem dX9_step_35 : decode cX9_step 35 = .ok (.bipush (-3), 2) := by decide +kernel
theorem dX9_step_37 : decode cX9_step 37 = .ok (.ireturn, 1) := by decide +kernel
theorem dX9_step_38 : decode cX9_step 38 = .ok (.aload_n 0, 1) := by decide +kernel
theorem dX9_step_39 : decode cX9_step 39 = .ok (.aload_n 0, 1) := by decide +kernel
theorem dX9_step_40 : decode cX9_step 40 = .ok (.getfield 13, 3) := by decide +kernel
theorem dX9_step_43 : decode cX9_step 43 = .ok (.iload_n 2, 1) := by decide +kernel
theorem dX9_step_44 : decode cX9_step 44 = .ok (.invokevirtual 97, 3) := by decide +kernel
theorem dX9_step_47 : decode cX9_step 47 = .ok (.ifCond .eq 10, 3) := by decide +kernel
theorem dX9_step_50 : decode cX9_step 50 = .ok (.aload_n 0, 1) := by decide +kernel
theorem dX9_step_51 : decode cX9_step 51 = .ok (.invokevirtual 140, 3) := by decide +kernel
theorem dX9_step_54 : decode cX9_step 54 = .ok (.goto 5, 3) := by decide +kernel
theorem dX9_step_57 : decode cX9_step 57 = .ok (.bipush (-4), 2) := by decide +kernel
theorem dX9_step_59 : decode cX9_step 59 = .ok (.ireturn, 1) := by decide +kernel
theorem dX9_run_0 : decode cX9_run 0 = .ok (.aload_n 0, 1) := by decide +kernel
theorem dX9_run_1 : decode cX9_run 1 = .ok (.iconst 0, 1) := by decide +kernel
theorem dX9_run_2 : decode cX9_run 2 = .ok (.putfield 59, 3) := by decide +kernel
theorem dX9_run_5 : decode cX9_run 5 = .ok (.iload_n 1, 1) := by decide +kernel
theorem dX9_run_6 : decode cX9_run 6 = .ok (.i2l, 1) := by decide +kernel
theorem dX9_run_7 : decode cX9_run 7 = .ok (.lconst 0, 1) := by decide +kernel
theorem dX9_run_8 : decode cX9_run 8 = .ok (.ldc2_w 135, 3) := by decide +kernel
theorem dX9_run_11 : decode cX9_run 11 = .ok (.invokestatic 114, 3) := by decide +kernel
theorem dX9_run_14 : decode cX9_run 14 = .ok (.ifCond .eq 15, 3) := by decide +kernel
theorem dX9_run_17 : decode cX9_run 17 = .ok (.iload_n 2, 1) := by decide +kernel
theorem dX9_run_18 : decode cX9_run 18 = .ok (.i2l, 1) := by decide +kernel
theorem dX9_run_19 : decode cX9_run 19 = .ok (.lconst 1, 1) := by decide +kernel
theorem dX9_run_20 : decode cX9_run 20 = .ok (.ldc2_w 143, 3) := by decide +kernel
theorem dX9_run_23 : decode cX9_run 23 = .ok (.invokestatic 114, 3) := by decide +kernel
theorem dX9_run_26 : decode cX9_run 26 = .ok (.ifCond .ne 6, 3) := by decide +kernel
theorem dX9_run_29 : decode cX9_run 29 = .ok (.bipush (-2), 2) := by decide +kernel
theorem dX9_run_31 : decode cX9_run 31 = .ok (.ireturn, 1) := by decide +kernel
theorem dX9_run_32 : decode cX9_run 32 = .ok (.aload_n 0, 1) := by decide +kernel
theorem dX9_run_33 : decode cX9_run 33 = .ok (.invokevirtual 137, 3) := by decide +kernel
theorem dX9_run_36 : decode cX9_run 36 = .ok (.aload_n 0, 1) := by decide +kernel
theorem dX9_run_37 : decode cX9_run 37 = .ok (.aload_n 0, 1) := by decide +kernel
theorem dX9_run_38 : decode cX9_run 38 = .ok (.getfield 13, 3) := by decide +kernel
theorem dX9_run_41 : decode cX9_run 41 = .ok (.iload_n 1, 1) := by decide +kernel
theorem dX9_run_42 : decode cX9_run 42 = .ok (.iload_n 2, 1) := by decide +kernel
theorem dX9_run_43 : decode cX9_run 43 = .ok (.invokevirtual 104, 3) := by decide +kernel
theorem dX9_run_46 : decode cX9_run 46 = .ok (.ireturn, 1) := by decide +kernel
theorem dX9_putBehind_0 : decode cX9_putBehind 0 = .ok (.aload_n 0, 1) := by decide +kernel
theorem dX9_putBehind_1 : decode cX9_putBehind 1 = .ok (.getfield 22, 3) := by decide +kernel
theorem dX9_putBehind_4 : decode cX9_putBehind 4 = .ok (.sipush 200, 3) := by decide +kernel
theorem dX9_putBehind_7 : decode cX9_putBehind 7 = .ok (.iconst 0, 1) := by decide +kernel
theorem dX9_putBehind_8 : decode cX9_putBehind 8 = .ok (.iastore, 1) := by decide +kernel
theorem dX9_putBehind_9 : decode cX9_putBehind 9 = .ok (.aload_n 0, 1) := by decide +kernel
theorem dX9_putBehind_10 : decode cX9_putBehind 10 = .ok (.iload_n 1, 1) := by decide +kernel
theorem dX9_putBehind_11 : decode cX9_putBehind 11 = .ok (.invokevirtual 83, 3) := by decide +kernel
theorem dX9_putBehind_14 : decode cX9_putBehind 14 = .ok (.istore_n 3, 1) := by decide +kernel
theorem dX9_putBehind_15 : decode cX9_putBehind 15 = .ok (.iconst 0, 1) := by decide +kernel
theorem dX9_putBehind_16 : decode cX9_putBehind 16 = .ok (.istore 4, 2) := by decide +kernel
theorem dX9_putBehind_18 : decode cX9_putBehind 18 = .ok (.iload 4, 2) := by decide +kernel
theorem dX9_putBehind_20 : decode cX9_putBehind 20 = .ok (.aload_n 2, 1) := by decide +kernel
theorem dX9_putBehind_21 : decode cX9_putBehind 21 = .ok (.sipush 200, 3) := by decide +kernel
theorem dX9_putBehind_24 : decode cX9_putBehind 24 = .ok (.iaload, 1) := by decide +kernel
theorem dX9_putBehind_25 : decode cX9_putBehind 25 = .ok (.if_icmp .ge 30, 3) := by decide +kernel
theorem dX9_putBehind_28 : decode cX9_putBehind 28 = .ok (.iload_n 3, 1) := by decide +kernel
theorem dX9_putBehind_29 : decode cX9_putBehind 29 = .ok (.ifCond .eq 18, 3) := by decide +kernel
theorem dX9_putBehind_32 : decode cX9_putBehind 32 = .ok (.aload_n 0, 1) := by decide +kernel
theorem dX9_putBehind_33 : decode cX9_putBehind 33 = .ok (.aload_n 2, 1) := by decide +kernel
theorem dX9_putBehind_34 : decode cX9_putBehind 34 = .ok (.iload 4, 2) := by decide +kernel
theorem dX9_putBehind_36 : decode cX9_putBehind 36 = .ok (.iaload, 1) := by decide +kernel
theorem dX9_putBehind_37 : decode cX9_putBehind 37 = .ok (.invokevirtual 83, 3) := by decide +kernel
theorem dX9_putBehind_40 : decode cX9_putBehind 40 = .ok (.ifCond .eq 7, 3) := by decide +kernel
theorem dX9_putBehind_43 : decode cX9_putBehind 43 = .ok (.iconst 1, 1) := by decide +kernel
theorem dX9_putBehind_44 : decode cX9_putBehind 44 = .ok (.goto 4, 3) := by decide +kernel
theorem dX9_putBehind_47 : decode cX9_putBehind 47 = .ok (.iconst 0, 1) := by decide +kernel
theorem dX9_putBehind_48 : decode cX9_putBehind 48 = .ok (.istore_n 3, 1) := by decide +kernel
theorem dX9_putBehind_49 : decode cX9_putBehind 49 = .ok (.iinc 4 1, 3) := by decide +kernel
theorem dX9_putBehind_52 : decode cX9_putBehind 52 = .ok (.goto (-34), 3) := by decide +kernel
theorem dX9_putBehind_55 : decode cX9_putBehind 55 = .ok (.iload_n 3, 1) := by decide +kernel
theorem dX9_putBehind_56 : decode cX9_putBehind 56 = .ok (.ireturn, 1) := by decide +kernel
theorem dX9_abstractTerm_0 : decode cX9_abstractTerm 0 = .ok (.aload_n 0, 1) := by decide +kernel
theorem dX9_abstractTerm_1 : decode cX9_abstractTerm 1 = .ok (.iconst 0, 1) := by decide +kernel
theorem dX9_abstractTerm_2 : decode cX9_abstractTerm 2 = .ok (.putfield 59, 3) := by decide +kernel
theorem dX9_abstractTerm_5 : decode cX9_abstractTerm 5 = .ok (.aload_n 0, 1) := by decide +kernel
theorem dX9_abstractTerm_6 : decode cX9_abstractTerm 6 = .ok (.sipush 1001, 3) := by decide +kernel
theorem dX9_abstractTerm_9 : decode cX9_abstractTerm 9 = .ok (.aload_n 0, 1) := by decide +kernel
theorem dX9_abstractTerm_10 : decode cX9_abstractTerm 10 = .ok (.getfield 13, 3) := by decide +kernel
theorem dX9_abstractTerm_13 : decode cX9_abstractTerm 13 = .ok (.invokevirtual 145, 3) := by decide +kernel
theorem dX9_abstractTerm_16 : decode cX9_abstractTerm 16 = .ok (.ifCond .eq 10, 3) := by decide +kernel
theorem dX9_abstractTerm_19 : decode cX9_abstractTerm 19 = .ok (.aload_n 0, 1) := by decide +kernel
theorem dX9_abstractTerm_20 : decode cX9_abstractTerm 20 = .ok (.invokevirtual 140, 3) := by decide +kernel
theorem dX9_abstractTerm_23 : decode cX9_abstractTerm 23 = .ok (.goto 5, 3) := by decide +kernel
theorem dX9_abstractTerm_26 : decode cX9_abstractTerm 26 = .ok (.bipush (-4), 2) := by decide +kernel
theorem dX9_abstractTerm_28 : decode cX9_abstractTerm 28 = .ok (.ireturn, 1) := by decide +kernel
theorem dX9_takeSlot_0 : decode cX9_takeSlot 0 = .ok (.iconst 0, 1) := by decide +kernel
theorem dX9_takeSlot_1 : decode cX9_takeSlot 1 = .ok (.istore_n 3, 1) := by decide +kernel
theorem dX9_takeSlot_2 : decode cX9_takeSlot 2 = .ok (.iload_n 3, 1) := by decide +kernel
theorem dX9_takeSlot_3 : decode cX9_takeSlot 3 = .ok (.sipush 201, 3) := by decide +kernel
theorem dX9_takeSlot_6 : decode cX9_takeSlot 6 = .ok (.if_icmp .ge 24, 3) := by decide +kernel
theorem dX9_takeSlot_9 : decode cX9_takeSlot 9 = .ok (.aload_n 2, 1) := by decide +kernel
theorem dX9_takeSlot_10 : decode cX9_takeSlot 10 = .ok (.iload_n 3, 1) := by decide +kernel
theorem dX9_takeSlot_11 : decode cX9_takeSlot 11 = .ok (.aload_n 0, 1) := by decide +kernel
theorem dX9_takeSlot_12 : decode cX9_takeSlot 12 = .ok (.getfield 28, 3) := by decide +kernel
theorem dX9_takeSlot_15 : decode cX9_takeSlot 15 = .ok (.sipush 201, 3) := by decide +kernel
theorem dX9_takeSlot_18 : decode cX9_takeSlot 18 = .ok (.iload_n 1, 1) := by decide +kernel
theorem dX9_takeSlot_19 : decode cX9_takeSlot 19 = .ok (.imul, 1) := by decide +kernel
theorem dX9_takeSlot_20 : decode cX9_takeSlot 20 = .ok (.iload_n 3, 1) := by decide +kernel
theorem dX9_takeSlot_21 : decode cX9_takeSlot 21 = .ok (.iadd, 1) := by decide +kernel
theorem dX9_takeSlot_22 : decode cX9_takeSlot 22 = .ok (.iaload, 1) := by decide +kernel
theorem dX9_takeSlot_23 : decode cX9_takeSlot 23 = .ok (.iastore, 1) := by decide +kernel
theorem dX9_takeSlot_24 : decode cX9_takeSlot 24 = .ok (.iinc 3 1, 3) := by decide +kernel
theorem dX9_takeSlot_27 : decode cX9_takeSlot 27 = .ok (.goto (-25), 3) := by decide +kernel
theorem dX9_takeSlot_30 : decode cX9_takeSlot 30 = .ok (.return_, 1) := by decide +kernel
theorem dX9_applyTo_0 : decode cX9_applyTo 0 = .ok (.aload_n 0, 1) := by decide +kernel
theorem dX9_applyTo_1 : decode cX9_applyTo 1 = .ok (.iconst 0, 1) := by decide +kernel
theorem dX9_applyTo_2 : decode cX9_applyTo 2 = .ok (.putfield 59, 3) := by decide +kernel
theorem dX9_applyTo_5 : decode cX9_applyTo 5 = .ok (.iload_n 1, 1) := by decide +kernel
theorem dX9_applyTo_6 : decode cX9_applyTo 6 = .ok (.i2l, 1) := by decide +kernel
theorem dX9_applyTo_7 : decode cX9_applyTo 7 = .ok (.lconst 0, 1) := by decide +kernel
theorem dX9_applyTo_8 : decode cX9_applyTo 8 = .ok (.lconst 1, 1) := by decide +kernel
theorem dX9_applyTo_9 : decode cX9_applyTo 9 = .ok (.invokestatic 114, 3) := by decide +kernel
theorem dX9_applyTo_12 : decode cX9_applyTo 12 = .ok (.ifCond .ne 5, 3) := by decide +kernel
theorem dX9_applyTo_15 : decode cX9_applyTo 15 = .ok (.iconst (-1), 1) := by decide +kernel
theorem dX9_applyTo_16 : decode cX9_applyTo 16 = .ok (.ireturn, 1) := by decide +kernel
theorem dX9_applyTo_17 : decode cX9_applyTo 17 = .ok (.aload_n 0, 1) := by decide +kernel
theorem dX9_applyTo_18 : decode cX9_applyTo 18 = .ok (.getfield 31, 3) := by decide +kernel
theorem dX9_applyTo_21 : decode cX9_applyTo 21 = .ok (.iload_n 1, 1) := by decide +kernel
theorem dX9_applyTo_22 : decode cX9_applyTo 22 = .ok (.baload, 1) := by decide +kernel
theorem dX9_applyTo_23 : decode cX9_applyTo 23 = .ok (.ifCond .ne 6, 3) := by decide +kernel
theorem dX9_applyTo_26 : decode cX9_applyTo 26 = .ok (.bipush (-3), 2) := by decide +kernel
theorem dX9_applyTo_28 : decode cX9_applyTo 28 = .ok (.ireturn, 1) := by decide +kernel
theorem dX9_applyTo_29 : decode cX9_applyTo 29 = .ok (.aload_n 0, 1) := by decide +kernel
theorem dX9_applyTo_30 : decode cX9_applyTo 30 = .ok (.iload_n 1, 1) := by decide +kernel
theorem dX9_applyTo_31 : decode cX9_applyTo 31 = .ok (.aload_n 0, 1) := by decide +kernel
theorem dX9_applyTo_32 : decode cX9_applyTo 32 = .ok (.getfield 19, 3) := by decide +kernel
theorem dX9_applyTo_35 : decode cX9_applyTo 35 = .ok (.invokevirtual 149, 3) := by decide +kernel
theorem dX9_applyTo_38 : decode cX9_applyTo 38 = .ok (.aload_n 0, 1) := by decide +kernel
theorem dX9_applyTo_39 : decode cX9_applyTo 39 = .ok (.sipush 1000, 3) := by decide +kernel
theorem dX9_applyTo_42 : decode cX9_applyTo 42 = .ok (.aload_n 0, 1) := by decide +kernel
theorem dX9_applyTo_43 : decode cX9_applyTo 43 = .ok (.getfield 13, 3) := by decide +kernel
theorem dX9_applyTo_46 : decode cX9_applyTo 46 = .ok (.invokevirtual 145, 3) := by decide +kernel
theorem dX9_applyTo_49 : decode cX9_applyTo 49 = .ok (.istore_n 2, 1) := by decide +kernel
theorem dX9_applyTo_50 : decode cX9_applyTo 50 = .ok (.iconst 0, 1) := by decide +kernel
theorem dX9_applyTo_51 : decode cX9_applyTo 51 = .ok (.istore_n 3, 1) := by decide +kernel
theorem dX9_applyTo_52 : decode cX9_applyTo 52 = .ok (.iload_n 3, 1) := by decide +kernel
theorem dX9_applyTo_53 : decode cX9_applyTo 53 = .ok (.aload_n 0, 1) := by decide +kernel
theorem dX9_applyTo_54 : decode cX9_applyTo 54 = .ok (.getfield 19, 3) := by decide +kernel
theorem dX9_applyTo_57 : decode cX9_applyTo 57 = .ok (.sipush 200, 3) := by decide +kernel
theorem dX9_applyTo_60 : decode cX9_applyTo 60 = .ok (.iaload, 1) := by decide +kernel
theorem dX9_applyTo_61 : decode cX9_applyTo 61 = .ok (.if_icmp .ge 32, 3) := by decide +kernel
theorem dX9_applyTo_64 : decode cX9_applyTo 64 = .ok (.iload_n 2, 1) := by decide +kernel
theorem dX9_applyTo_65 : decode cX9_applyTo 65 = .ok (.ifCond .eq 20, 3) := by decide +kernel
theorem dX9_applyTo_68 : decode cX9_applyTo 68 = .ok (.aload_n 0, 1) := by decide +kernel
theorem dX9_applyTo_69 : decode cX9_applyTo 69 = .ok (.aload_n 0, 1) := by decide +kernel
theorem dX9_applyTo_70 : decode cX9_applyTo 70 = .ok (.getfield 19, 3) := by decide +kernel
theorem dX9_applyTo_73 : decode cX9_applyTo 73 = .ok (.iload_n 3, 1) := by decide +kernel
theorem dX9_applyTo_74 : decode cX9_applyTo 74 = .ok (.iaload, 1) := by decide +kernel
theorem dX9_applyTo_75 : decode cX9_applyTo 75 = .ok (.invokevirtual 83, 3) := by decide +kernel
theorem dX9_applyTo_78 : decode cX9_applyTo 78 = .ok (.ifCond .eq 7, 3) := by decide +kernel
theorem dX9_applyTo_81 : decode cX9_applyTo 81 = .ok (.iconst 1, 1) := by decide +kernel
theorem dX9_applyTo_82 : decode cX9_applyTo 82 = .ok (.goto 4, 3) := by decide +kernel
theorem dX9_applyTo_85 : decode cX9_applyTo 85 = .ok (.iconst 0, 1) := by decide +kernel
theorem dX9_applyTo_86 : decode cX9_applyTo 86 = .ok (.istore_n 2, 1) := by decide +kernel
theorem dX9_applyTo_87 : decode cX9_applyTo 87 = .ok (.iinc 3 1, 3) := by decide +kernel
theorem dX9_applyTo_90 : decode cX9_applyTo 90 = .ok (.goto (-38), 3) := by decide +kernel
theorem dX9_applyTo_93 : decode cX9_applyTo 93 = .ok (.iload_n 2, 1) := by decide +kernel
theorem dX9_applyTo_94 : decode cX9_applyTo 94 = .ok (.ifCond .eq 10, 3) := by decide +kernel
theorem dX9_applyTo_97 : decode cX9_applyTo 97 = .ok (.aload_n 0, 1) := by decide +kernel
theorem dX9_applyTo_98 : decode cX9_applyTo 98 = .ok (.invokevirtual 140, 3) := by decide +kernel
theorem dX9_applyTo_101 : decode cX9_applyTo 101 = .ok (.goto 5, 3) := by decide +kernel
theorem dX9_applyTo_104 : decode cX9_applyTo 104 = .ok (.bipush (-4), 2) := by decide +kernel
theorem dX9_applyTo_106 : decode cX9_applyTo 106 = .ok (.ireturn, 1) := by decide +kernel
theorem dX9_substitute_0 : decode cX9_substitute 0 = .ok (.aload_n 0, 1) := by decide +kernel
theorem dX9_substitute_1 : decode cX9_substitute 1 = .ok (.iconst 0, 1) := by decide +kernel
theorem dX9_substitute_2 : decode cX9_substitute 2 = .ok (.putfield 59, 3) := by decide +kernel
theorem dX9_substitute_5 : decode cX9_substitute 5 = .ok (.iload_n 2, 1) := by decide +kernel
theorem dX9_substitute_6 : decode cX9_substitute 6 = .ok (.i2l, 1) := by decide +kernel
theorem dX9_substitute_7 : decode cX9_substitute 7 = .ok (.lconst 0, 1) := by decide +kernel
theorem dX9_substitute_8 : decode cX9_substitute 8 = .ok (.lconst 1, 1) := by decide +kernel
theorem dX9_substitute_9 : decode cX9_substitute 9 = .ok (.invokestatic 114, 3) := by decide +kernel
theorem dX9_substitute_12 : decode cX9_substitute 12 = .ok (.ifCond .ne 5, 3) := by decide +kernel
theorem dX9_substitute_15 : decode cX9_substitute 15 = .ok (.iconst (-1), 1) := by decide +kernel
theorem dX9_substitute_16 : decode cX9_substitute 16 = .ok (.ireturn, 1) := by decide +kernel
theorem dX9_substitute_17 : decode cX9_substitute 17 = .ok (.iload_n 1, 1) := by decide +kernel
theorem dX9_substitute_18 : decode cX9_substitute 18 = .ok (.i2l, 1) := by decide +kernel
theorem dX9_substitute_19 : decode cX9_substitute 19 = .ok (.lconst 0, 1) := by decide +kernel
theorem dX9_substitute_20 : decode cX9_substitute 20 = .ok (.ldc2_w 153, 3) := by decide +kernel
theorem dX9_substitute_23 : decode cX9_substitute 23 = .ok (.invokestatic 114, 3) := by decide +kernel
theorem dX9_substitute_26 : decode cX9_substitute 26 = .ok (.ifCond .ne 6, 3) := by decide +kernel
theorem dX9_substitute_29 : decode cX9_substitute 29 = .ok (.bipush (-2), 2) := by decide +kernel
theorem dX9_substitute_31 : decode cX9_substitute 31 = .ok (.ireturn, 1) := by decide +kernel
theorem dX9_substitute_32 : decode cX9_substitute 32 = .ok (.aload_n 0, 1) := by decide +kernel
theorem dX9_substitute_33 : decode cX9_substitute 33 = .ok (.getfield 31, 3) := by decide +kernel
theorem dX9_substitute_36 : decode cX9_substitute 36 = .ok (.iload_n 2, 1) := by decide +kernel
theorem dX9_substitute_37 : decode cX9_substitute 37 = .ok (.baload, 1) := by decide +kernel
theorem dX9_substitute_38 : decode cX9_substitute 38 = .ok (.ifCond .ne 6, 3) := by decide +kernel
theorem dX9_substitute_41 : decode cX9_substitute 41 = .ok (.bipush (-3), 2) := by decide +kernel
theorem dX9_substitute_43 : decode cX9_substitute 43 = .ok (.ireturn, 1) := by decide +kernel
theorem dX9_substitute_44 : decode cX9_substitute 44 = .ok (.aload_n 0, 1) := by decide +kernel
theorem dX9_substitute_45 : decode cX9_substitute 45 = .ok (.iload_n 2, 1) := by decide +kernel
theorem dX9_substitute_46 : decode cX9_substitute 46 = .ok (.aload_n 0, 1) := by decide +kernel
theorem dX9_substitute_47 : decode cX9_substitute 47 = .ok (.getfield 19, 3) := by decide +kernel
theorem dX9_substitute_50 : decode cX9_substitute 50 = .ok (.invokevirtual 149, 3) := by decide +kernel
theorem dX9_substitute_53 : decode cX9_substitute 53 = .ok (.aload_n 0, 1) := by decide +kernel
theorem dX9_substitute_54 : decode cX9_substitute 54 = .ok (.aload_n 0, 1) := by decide +kernel
theorem dX9_substitute_55 : decode cX9_substitute 55 = .ok (.getfield 13, 3) := by decide +kernel
theorem dX9_substitute_58 : decode cX9_substitute 58 = .ok (.iconst 0, 1) := by decide +kernel
theorem dX9_substitute_59 : decode cX9_substitute 59 = .ok (.aload_n 0, 1) := by decide +kernel
theorem dX9_substitute_60 : decode cX9_substitute 60 = .ok (.getfield 13, 3) := by decide +kernel
theorem dX9_substitute_63 : decode cX9_substitute 63 = .ok (.sipush 200, 3) := by decide +kernel
theorem dX9_substitute_66 : decode cX9_substitute 66 = .ok (.iaload, 1) := by decide +kernel
theorem dX9_substitute_67 : decode cX9_substitute 67 = .ok (.invokevirtual 86, 3) := by decide +kernel
theorem dX9_substitute_70 : decode cX9_substitute 70 = .ok (.iconst 0, 1) := by decide +kernel
theorem dX9_substitute_71 : decode cX9_substitute 71 = .ok (.istore_n 3, 1) := by decide +kernel
theorem dX9_substitute_72 : decode cX9_substitute 72 = .ok (.iload_n 3, 1) := by decide +kernel
theorem dX9_substitute_73 : decode cX9_substitute 73 = .ok (.aload_n 0, 1) := by decide +kernel
theorem dX9_substitute_74 : decode cX9_substitute 74 = .ok (.getfield 13, 3) := by decide +kernel
theorem dX9_substitute_77 : decode cX9_substitute 77 = .ok (.sipush 200, 3) := by decide +kernel
theorem dX9_substitute_80 : decode cX9_substitute 80 = .ok (.iaload, 1) := by decide +kernel
theorem dX9_substitute_81 : decode cX9_substitute 81 = .ok (.if_icmp .ge 21, 3) := by decide +kernel
theorem dX9_substitute_84 : decode cX9_substitute 84 = .ok (.aload_n 0, 1) := by decide +kernel
theorem dX9_substitute_85 : decode cX9_substitute 85 = .ok (.getfield 16, 3) := by decide +kernel
theorem dX9_substitute_88 : decode cX9_substitute 88 = .ok (.iload_n 3, 1) := by decide +kernel
theorem dX9_substitute_89 : decode cX9_substitute 89 = .ok (.aload_n 0, 1) := by decide +kernel
theorem dX9_substitute_90 : decode cX9_substitute 90 = .ok (.getfield 41, 3) := by decide +kernel
theorem dX9_substitute_93 : decode cX9_substitute 93 = .ok (.iload_n 3, 1) := by decide +kernel
theorem dX9_substitute_94 : decode cX9_substitute 94 = .ok (.iaload, 1) := by decide +kernel
theorem dX9_substitute_95 : decode cX9_substitute 95 = .ok (.iastore, 1) := by decide +kernel
theorem dX9_substitute_96 : decode cX9_substitute 96 = .ok (.iinc 3 1, 3) := by decide +kernel
theorem dX9_substitute_99 : decode cX9_substitute 99 = .ok (.goto (-27), 3) := by decide +kernel
theorem dX9_substitute_102 : decode cX9_substitute 102 = .ok (.aload_n 0, 1) := by decide +kernel
theorem dX9_substitute_103 : decode cX9_substitute 103 = .ok (.aload_n 0, 1) := by decide +kernel
theorem dX9_substitute_104 : decode cX9_substitute 104 = .ok (.getfield 19, 3) := by decide +kernel
theorem dX9_substitute_107 : decode cX9_substitute 107 = .ok (.iconst 0, 1) := by decide +kernel
theorem dX9_substitute_108 : decode cX9_substitute 108 = .ok (.aload_n 0, 1) := by decide +kernel
theorem dX9_substitute_109 : decode cX9_substitute 109 = .ok (.getfield 19, 3) := by decide +kernel
theorem dX9_substitute_112 : decode cX9_substitute 112 = .ok (.sipush 200, 3) := by decide +kernel
theorem dX9_substitute_115 : decode cX9_substitute 115 = .ok (.iaload, 1) := by decide +kernel
theorem dX9_substitute_116 : decode cX9_substitute 116 = .ok (.invokevirtual 86, 3) := by decide +kernel
theorem dX9_substitute_119 : decode cX9_substitute 119 = .ok (.aload_n 0, 1) := by decide +kernel
theorem dX9_substitute_120 : decode cX9_substitute 120 = .ok (.getfield 22, 3) := by decide +kernel
theorem dX9_substitute_123 : decode cX9_substitute 123 = .ok (.sipush 200, 3) := by decide +kernel
theorem dX9_substitute_126 : decode cX9_substitute 126 = .ok (.iconst 0, 1) := by decide +kernel
theorem dX9_substitute_127 : decode cX9_substitute 127 = .ok (.iastore, 1) := by decide +kernel
theorem dX9_substitute_128 : decode cX9_substitute 128 = .ok (.iconst 1, 1) := by decide +kernel
theorem dX9_substitute_129 : decode cX9_substitute 129 = .ok (.istore_n 3, 1) := by decide +kernel
theorem dX9_substitute_130 : decode cX9_substitute 130 = .ok (.iconst 0, 1) := by decide +kernel
theorem dX9_substitute_131 : decode cX9_substitute 131 = .ok (.istore 4, 2) := by decide +kernel
theorem dX9_substitute_133 : decode cX9_substitute 133 = .ok (.iload 4, 2) := by decide +kernel
theorem dX9_substitute_135 : decode cX9_substitute 135 = .ok (.aload_n 0, 1) := by decide +kernel
theorem dX9_substitute_136 : decode cX9_substitute 136 = .ok (.getfield 13, 3) := by decide +kernel
theorem dX9_substitute_139 : decode cX9_substitute 139 = .ok (.sipush 200, 3) := by decide +kernel
theorem dX9_substitute_142 : decode cX9_substitute 142 = .ok (.iaload, 1) := by decide +kernel
theorem dX9_substitute_143 : decode cX9_substitute 143 = .ok (.if_icmp .ge 96, 3) := by decide +kernel
theorem dX9_substitute_146 : decode cX9_substitute 146 = .ok (.iload_n 3, 1) := by decide +kernel
theorem dX9_substitute_147 : decode cX9_substitute 147 = .ok (.ifCond .eq 92, 3) := by decide +kernel
theorem dX9_substitute_150 : decode cX9_substitute 150 = .ok (.aload_n 0, 1) := by decide +kernel
theorem dX9_substitute_151 : decode cX9_substitute 151 = .ok (.getfield 13, 3) := by decide +kernel
theorem dX9_substitute_154 : decode cX9_substitute 154 = .ok (.iload 4, 2) := by decide +kernel
theorem dX9_substitute_156 : decode cX9_substitute 156 = .ok (.iaload, 1) := by decide +kernel
theorem dX9_substitute_157 : decode cX9_substitute 157 = .ok (.invokestatic 68, 3) := by decide +kernel
theorem dX9_substitute_160 : decode cX9_substitute 160 = .ok (.ifCond .eq 26, 3) := by decide +kernel
theorem dX9_substitute_163 : decode cX9_substitute 163 = .ok (.aload_n 0, 1) := by decide +kernel
theorem dX9_substitute_164 : decode cX9_substitute 164 = .ok (.getfield 13, 3) := by decide +kernel
theorem dX9_substitute_167 : decode cX9_substitute 167 = .ok (.iload 4, 2) := by decide +kernel
theorem dX9_substitute_169 : decode cX9_substitute 169 = .ok (.iaload, 1) := by decide +kernel
theorem dX9_substitute_170 : decode cX9_substitute 170 = .ok (.aload_n 0, 1) := by decide +kernel
theorem dX9_substitute_171 : decode cX9_substitute 171 = .ok (.getfield 16, 3) := by decide +kernel
theorem dX9_substitute_174 : decode cX9_substitute 174 = .ok (.iload 4, 2) := by decide +kernel
theorem dX9_substitute_176 : decode cX9_substitute 176 = .ok (.iaload, 1) := by decide +kernel
theorem dX9_substitute_177 : decode cX9_substitute 177 = .ok (.isub, 1) := by decide +kernel
theorem dX9_substitute_178 : decode cX9_substitute 178 = .ok (.iload_n 1, 1) := by decide +kernel
theorem dX9_substitute_179 : decode cX9_substitute 179 = .ok (.if_icmp .ne 7, 3) := by decide +kernel
theorem dX9_substitute_182 : decode cX9_substitute 182 = .ok (.iconst 1, 1) := by decide +kernel
theorem dX9_substitute_183 : decode cX9_substitute 183 = .ok (.goto 4, 3) := by decide +kernel
theorem dX9_substitute_186 : decode cX9_substitute 186 = .ok (.iconst 0, 1) := by decide +kernel
theorem dX9_substitute_187 : decode cX9_substitute 187 = .ok (.istore 5, 2) := by decide +kernel
theorem dX9_substitute_189 : decode cX9_substitute 189 = .ok (.iload 5, 2) := by decide +kernel
theorem dX9_substitute_191 : decode cX9_substitute 191 = .ok (.ifCond .eq 30, 3) := by decide +kernel
theorem dX9_substitute_194 : decode cX9_substitute 194 = .ok (.aload_n 0, 1) := by decide +kernel
theorem dX9_substitute_195 : decode cX9_substitute 195 = .ok (.aload_n 0, 1) := by decide +kernel
theorem dX9_substitute_196 : decode cX9_substitute 196 = .ok (.getfield 19, 3) := by decide +kernel
theorem dX9_substitute_199 : decode cX9_substitute 199 = .ok (.iconst 0, 1) := by decide +kernel
theorem dX9_substitute_200 : decode cX9_substitute 200 = .ok (.aload_n 0, 1) := by decide +kernel
theorem dX9_substitute_201 : decode cX9_substitute 201 = .ok (.getfield 19, 3) := by decide +kernel
theorem dX9_substitute_204 : decode cX9_substitute 204 = .ok (.sipush 200, 3) := by decide +kernel
theorem dX9_substitute_207 : decode cX9_substitute 207 = .ok (.iaload, 1) := by decide +kernel
theorem dX9_substitute_208 : decode cX9_substitute 208 = .ok (.aload_n 0, 1) := by decide +kernel
theorem dX9_substitute_209 : decode cX9_substitute 209 = .ok (.getfield 16, 3) := by decide +kernel
theorem dX9_substitute_212 : decode cX9_substitute 212 = .ok (.iload 4, 2) := by decide +kernel
theorem dX9_substitute_214 : decode cX9_substitute 214 = .ok (.iaload, 1) := by decide +kernel
theorem dX9_substitute_215 : decode cX9_substitute 215 = .ok (.invokevirtual 90, 3) := by decide +kernel
theorem dX9_substitute_218 : decode cX9_substitute 218 = .ok (.goto 14, 3) := by decide +kernel
theorem dX9_substitute_221 : decode cX9_substitute 221 = .ok (.aload_n 0, 1) := by decide +kernel
theorem dX9_substitute_222 : decode cX9_substitute 222 = .ok (.aload_n 0, 1) := by decide +kernel
theorem dX9_substitute_223 : decode cX9_substitute 223 = .ok (.getfield 13, 3) := by decide +kernel
theorem dX9_substitute_226 : decode cX9_substitute 226 = .ok (.iload 4, 2) := by decide +kernel
theorem dX9_substitute_228 : decode cX9_substitute 228 = .ok (.iaload, 1) := by decide +kernel
theorem dX9_substitute_229 : decode cX9_substitute 229 = .ok (.invokevirtual 83, 3) := by decide +kernel
theorem dX9_substitute_232 : decode cX9_substitute 232 = .ok (.istore_n 3, 1) := by decide +kernel
theorem dX9_substitute_233 : decode cX9_substitute 233 = .ok (.iinc 4 1, 3) := by decide +kernel
theorem dX9_substitute_236 : decode cX9_substitute 236 = .ok (.goto (-103), 3) := by decide +kernel
theorem dX9_substitute_239 : decode cX9_substitute 239 = .ok (.iload_n 3, 1) := by decide +kernel
theorem dX9_substitute_240 : decode cX9_substitute 240 = .ok (.ifCond .eq 10, 3) := by decide +kernel
theorem dX9_substitute_243 : decode cX9_substitute 243 = .ok (.aload_n 0, 1) := by decide +kernel
theorem dX9_substitute_244 : decode cX9_substitute 244 = .ok (.invokevirtual 140, 3) := by decide +kernel
theorem dX9_substitute_247 : decode cX9_substitute 247 = .ok (.goto 5, 3) := by decide +kernel
theorem dX9_substitute_250 : decode cX9_substitute 250 = .ok (.bipush (-4), 2) := by decide +kernel
theorem dX9_substitute_252 : decode cX9_substitute 252 = .ok (.ireturn, 1) := by decide +kernel
theorem dX9_undo_0 : decode cX9_undo 0 = .ok (.aload_n 0, 1) := by decide +kernel
theorem dX9_undo_1 : decode cX9_undo 1 = .ok (.iconst 0, 1) := by decide +kernel
theorem dX9_undo_2 : decode cX9_undo 2 = .ok (.putfield 59, 3) := by decide +kernel
theorem dX9_undo_5 : decode cX9_undo 5 = .ok (.aload_n 0, 1) := by decide +kernel
theorem dX9_undo_6 : decode cX9_undo 6 = .ok (.getfield 132, 3) := by decide +kernel
theorem dX9_undo_9 : decode cX9_undo 9 = .ok (.ifCond .ne 6, 3) := by decide +kernel
theorem dX9_undo_12 : decode cX9_undo 12 = .ok (.bipush (-3), 2) := by decide +kernel
theorem dX9_undo_14 : decode cX9_undo 14 = .ok (.ireturn, 1) := by decide +kernel
theorem dX9_undo_15 : decode cX9_undo 15 = .ok (.aload_n 0, 1) := by decide +kernel
theorem dX9_undo_16 : decode cX9_undo 16 = .ok (.dup, 1) := by decide +kernel
theorem dX9_undo_17 : decode cX9_undo 17 = .ok (.getfield 132, 3) := by decide +kernel
theorem dX9_undo_20 : decode cX9_undo 20 = .ok (.iconst 1, 1) := by decide +kernel
theorem dX9_undo_21 : decode cX9_undo 21 = .ok (.isub, 1) := by decide +kernel
theorem dX9_undo_22 : decode cX9_undo 22 = .ok (.putfield 132, 3) := by decide +kernel
theorem dX9_undo_25 : decode cX9_undo 25 = .ok (.iconst 0, 1) := by decide +kernel
theorem dX9_undo_26 : decode cX9_undo 26 = .ok (.istore_n 1, 1) := by decide +kernel
theorem dX9_undo_27 : decode cX9_undo 27 = .ok (.iload_n 1, 1) := by decide +kernel
theorem dX9_undo_28 : decode cX9_undo 28 = .ok (.sipush 201, 3) := by decide +kernel
theorem dX9_undo_31 : decode cX9_undo 31 = .ok (.if_icmp .ge 30, 3) := by decide +kernel
theorem dX9_undo_34 : decode cX9_undo 34 = .ok (.aload_n 0, 1) := by decide +kernel
theorem dX9_undo_35 : decode cX9_undo 35 = .ok (.getfield 13, 3) := by decide +kernel
theorem dX9_undo_38 : decode cX9_undo 38 = .ok (.iload_n 1, 1) := by decide +kernel
theorem dX9_undo_39 : decode cX9_undo 39 = .ok (.aload_n 0, 1) := by decide +kernel
theorem dX9_undo_40 : decode cX9_undo 40 = .ok (.getfield 25, 3) := by decide +kernel
theorem dX9_undo_43 : decode cX9_undo 43 = .ok (.sipush 201, 3) := by decide +kernel
theorem dX9_undo_46 : decode cX9_undo 46 = .ok (.aload_n 0, 1) := by decide +kernel
theorem dX9_undo_47 : decode cX9_undo 47 = .ok (.getfield 132, 3) := by decide +kernel
theorem dX9_undo_50 : decode cX9_undo 50 = .ok (.imul, 1) := by decide +kernel
theorem dX9_undo_51 : decode cX9_undo 51 = .ok (.iload_n 1, 1) := by decide +kernel
theorem dX9_undo_52 : decode cX9_undo 52 = .ok (.iadd, 1) := by decide +kernel
theorem dX9_undo_53 : decode cX9_undo 53 = .ok (.iaload, 1) := by decide +kernel
theorem dX9_undo_54 : decode cX9_undo 54 = .ok (.iastore, 1) := by decide +kernel
theorem dX9_undo_55 : decode cX9_undo 55 = .ok (.iinc 1 1, 3) := by decide +kernel
theorem dX9_undo_58 : decode cX9_undo 58 = .ok (.goto (-31), 3) := by decide +kernel
theorem dX9_undo_61 : decode cX9_undo 61 = .ok (.aload_n 0, 1) := by decide +kernel
theorem dX9_undo_62 : decode cX9_undo 62 = .ok (.getfield 132, 3) := by decide +kernel
theorem dX9_undo_65 : decode cX9_undo 65 = .ok (.ireturn, 1) := by decide +kernel
theorem dX9_stepsOfRun_0 : decode cX9_stepsOfRun 0 = .ok (.aload_n 0, 1) := by decide +kernel
theorem dX9_stepsOfRun_1 : decode cX9_stepsOfRun 1 = .ok (.iconst 0, 1) := by decide +kernel
theorem dX9_stepsOfRun_2 : decode cX9_stepsOfRun 2 = .ok (.putfield 59, 3) := by decide +kernel
theorem dX9_stepsOfRun_5 : decode cX9_stepsOfRun 5 = .ok (.iload_n 1, 1) := by decide +kernel
theorem dX9_stepsOfRun_6 : decode cX9_stepsOfRun 6 = .ok (.i2l, 1) := by decide +kernel
theorem dX9_stepsOfRun_7 : decode cX9_stepsOfRun 7 = .ok (.lconst 0, 1) := by decide +kernel
theorem dX9_stepsOfRun_8 : decode cX9_stepsOfRun 8 = .ok (.ldc2_w 135, 3) := by decide +kernel
theorem dX9_stepsOfRun_11 : decode cX9_stepsOfRun 11 = .ok (.invokestatic 114, 3) := by decide +kernel
theorem dX9_stepsOfRun_14 : decode cX9_stepsOfRun 14 = .ok (.ifCond .eq 15, 3) := by decide +kernel
theorem dX9_stepsOfRun_17 : decode cX9_stepsOfRun 17 = .ok (.iload_n 2, 1) := by decide +kernel
theorem dX9_stepsOfRun_18 : decode cX9_stepsOfRun 18 = .ok (.i2l, 1) := by decide +kernel
theorem dX9_stepsOfRun_19 : decode cX9_stepsOfRun 19 = .ok (.lconst 0, 1) := by decide +kernel
theorem dX9_stepsOfRun_20 : decode cX9_stepsOfRun 20 = .ok (.ldc2_w 155, 3) := by decide +kernel
theorem dX9_stepsOfRun_23 : decode cX9_stepsOfRun 23 = .ok (.invokestatic 114, 3) := by decide +kernel
theorem dX9_stepsOfRun_26 : decode cX9_stepsOfRun 26 = .ok (.ifCond .ne 6, 3) := by decide +kernel
theorem dX9_stepsOfRun_29 : decode cX9_stepsOfRun 29 = .ok (.bipush (-2), 2) := by decide +kernel
theorem dX9_stepsOfRun_31 : decode cX9_stepsOfRun 31 = .ok (.ireturn, 1) := by decide +kernel
theorem dX9_stepsOfRun_32 : decode cX9_stepsOfRun 32 = .ok (.aload_n 0, 1) := by decide +kernel
theorem dX9_stepsOfRun_33 : decode cX9_stepsOfRun 33 = .ok (.getfield 13, 3) := by decide +kernel
theorem dX9_stepsOfRun_36 : decode cX9_stepsOfRun 36 = .ok (.aload_n 0, 1) := by decide +kernel
theorem dX9_stepsOfRun_37 : decode cX9_stepsOfRun 37 = .ok (.getfield 16, 3) := by decide +kernel
theorem dX9_stepsOfRun_40 : decode cX9_stepsOfRun 40 = .ok (.invokestatic 100, 3) := by decide +kernel
theorem dX9_stepsOfRun_43 : decode cX9_stepsOfRun 43 = .ok (.aload_n 0, 1) := by decide +kernel
theorem dX9_stepsOfRun_44 : decode cX9_stepsOfRun 44 = .ok (.aload_n 0, 1) := by decide +kernel
theorem dX9_stepsOfRun_45 : decode cX9_stepsOfRun 45 = .ok (.getfield 16, 3) := by decide +kernel
theorem dX9_stepsOfRun_48 : decode cX9_stepsOfRun 48 = .ok (.iload_n 1, 1) := by decide +kernel
theorem dX9_stepsOfRun_49 : decode cX9_stepsOfRun 49 = .ok (.iload_n 2, 1) := by decide +kernel
theorem dX9_stepsOfRun_50 : decode cX9_stepsOfRun 50 = .ok (.invokevirtual 104, 3) := by decide +kernel
theorem dX9_stepsOfRun_53 : decode cX9_stepsOfRun 53 = .ok (.ireturn, 1) := by decide +kernel
theorem dX9_sizeAfterRun_0 : decode cX9_sizeAfterRun 0 = .ok (.aload_n 0, 1) := by decide +kernel
theorem dX9_sizeAfterRun_1 : decode cX9_sizeAfterRun 1 = .ok (.iconst 0, 1) := by decide +kernel
theorem dX9_sizeAfterRun_2 : decode cX9_sizeAfterRun 2 = .ok (.putfield 59, 3) := by decide +kernel
theorem dX9_sizeAfterRun_5 : decode cX9_sizeAfterRun 5 = .ok (.iload_n 1, 1) := by decide +kernel
theorem dX9_sizeAfterRun_6 : decode cX9_sizeAfterRun 6 = .ok (.i2l, 1) := by decide +kernel
theorem dX9_sizeAfterRun_7 : decode cX9_sizeAfterRun 7 = .ok (.lconst 0, 1) := by decide +kernel
theorem dX9_sizeAfterRun_8 : decode cX9_sizeAfterRun 8 = .ok (.ldc2_w 135, 3) := by decide +kernel
theorem dX9_sizeAfterRun_11 : decode cX9_sizeAfterRun 11 = .ok (.invokestatic 114, 3) := by decide +kernel
theorem dX9_sizeAfterRun_14 : decode cX9_sizeAfterRun 14 = .ok (.ifCond .eq 15, 3) := by decide +kernel
theorem dX9_sizeAfterRun_17 : decode cX9_sizeAfterRun 17 = .ok (.iload_n 2, 1) := by decide +kernel
theorem dX9_sizeAfterRun_18 : decode cX9_sizeAfterRun 18 = .ok (.i2l, 1) := by decide +kernel
theorem dX9_sizeAfterRun_19 : decode cX9_sizeAfterRun 19 = .ok (.lconst 0, 1) := by decide +kernel
theorem dX9_sizeAfterRun_20 : decode cX9_sizeAfterRun 20 = .ok (.ldc2_w 155, 3) := by decide +kernel
theorem dX9_sizeAfterRun_23 : decode cX9_sizeAfterRun 23 = .ok (.invokestatic 114, 3) := by decide +kernel
theorem dX9_sizeAfterRun_26 : decode cX9_sizeAfterRun 26 = .ok (.ifCond .ne 6, 3) := by decide +kernel
theorem dX9_sizeAfterRun_29 : decode cX9_sizeAfterRun 29 = .ok (.bipush (-2), 2) := by decide +kernel
theorem dX9_sizeAfterRun_31 : decode cX9_sizeAfterRun 31 = .ok (.ireturn, 1) := by decide +kernel
theorem dX9_sizeAfterRun_32 : decode cX9_sizeAfterRun 32 = .ok (.aload_n 0, 1) := by decide +kernel
theorem dX9_sizeAfterRun_33 : decode cX9_sizeAfterRun 33 = .ok (.getfield 13, 3) := by decide +kernel
theorem dX9_sizeAfterRun_36 : decode cX9_sizeAfterRun 36 = .ok (.aload_n 0, 1) := by decide +kernel
theorem dX9_sizeAfterRun_37 : decode cX9_sizeAfterRun 37 = .ok (.getfield 16, 3) := by decide +kernel
theorem dX9_sizeAfterRun_40 : decode cX9_sizeAfterRun 40 = .ok (.invokestatic 100, 3) := by decide +kernel
theorem dX9_sizeAfterRun_43 : decode cX9_sizeAfterRun 43 = .ok (.aload_n 0, 1) := by decide +kernel
theorem dX9_sizeAfterRun_44 : decode cX9_sizeAfterRun 44 = .ok (.aload_n 0, 1) := by decide +kernel
theorem dX9_sizeAfterRun_45 : decode cX9_sizeAfterRun 45 = .ok (.getfield 16, 3) := by decide +kernel
theorem dX9_sizeAfterRun_48 : decode cX9_sizeAfterRun 48 = .ok (.iload_n 1, 1) := by decide +kernel
theorem dX9_sizeAfterRun_49 : decode cX9_sizeAfterRun 49 = .ok (.iload_n 2, 1) := by decide +kernel
theorem dX9_sizeAfterRun_50 : decode cX9_sizeAfterRun 50 = .ok (.invokevirtual 104, 3) := by decide +kernel
theorem dX9_sizeAfterRun_53 : decode cX9_sizeAfterRun 53 = .ok (.pop, 1) := by decide +kernel
theorem dX9_sizeAfterRun_54 : decode cX9_sizeAfterRun 54 = .ok (.aload_n 0, 1) := by decide +kernel
theorem dX9_sizeAfterRun_55 : decode cX9_sizeAfterRun 55 = .ok (.getfield 16, 3) := by decide +kernel
theorem dX9_sizeAfterRun_58 : decode cX9_sizeAfterRun 58 = .ok (.sipush 200, 3) := by decide +kernel
theorem dX9_sizeAfterRun_61 : decode cX9_sizeAfterRun 61 = .ok (.iaload, 1) := by decide +kernel
theorem dX9_sizeAfterRun_62 : decode cX9_sizeAfterRun 62 = .ok (.ireturn, 1) := by decide +kernel
theorem dX9_normalSize_0 : decode cX9_normalSize 0 = .ok (.aload_n 0, 1) := by decide +kernel
theorem dX9_normalSize_1 : decode cX9_normalSize 1 = .ok (.iconst 0, 1) := by decide +kernel
theorem dX9_normalSize_2 : decode cX9_normalSize 2 = .ok (.putfield 59, 3) := by decide +kernel
theorem dX9_normalSize_5 : decode cX9_normalSize 5 = .ok (.aload_n 0, 1) := by decide +kernel
theorem dX9_normalSize_6 : decode cX9_normalSize 6 = .ok (.getfield 13, 3) := by decide +kernel
theorem dX9_normalSize_9 : decode cX9_normalSize 9 = .ok (.aload_n 0, 1) := by decide +kernel
theorem dX9_normalSize_10 : decode cX9_normalSize 10 = .ok (.getfield 16, 3) := by decide +kernel
theorem dX9_normalSize_13 : decode cX9_normalSize 13 = .ok (.invokestatic 100, 3) := by decide +kernel
theorem dX9_normalSize_16 : decode cX9_normalSize 16 = .ok (.aload_n 0, 1) := by decide +kernel
theorem dX9_normalSize_17 : decode cX9_normalSize 17 = .ok (.aload_n 0, 1) := by decide +kernel
theorem dX9_normalSize_18 : decode cX9_normalSize 18 = .ok (.getfield 16, 3) := by decide +kernel
theorem dX9_normalSize_21 : decode cX9_normalSize 21 = .ok (.invokevirtual 157, 3) := by decide +kernel
theorem dX9_normalSize_24 : decode cX9_normalSize 24 = .ok (.ifCond .eq 14, 3) := by decide +kernel
theorem dX9_normalSize_27 : decode cX9_normalSize 27 = .ok (.aload_n 0, 1) := by decide +kernel
theorem dX9_normalSize_28 : decode cX9_normalSize 28 = .ok (.getfield 16, 3) := by decide +kernel
theorem dX9_normalSize_31 : decode cX9_normalSize 31 = .ok (.sipush 200, 3) := by decide +kernel
theorem dX9_normalSize_34 : decode cX9_normalSize 34 = .ok (.iaload, 1) := by decide +kernel
theorem dX9_normalSize_35 : decode cX9_normalSize 35 = .ok (.goto 5, 3) := by decide +kernel
theorem dX9_normalSize_38 : decode cX9_normalSize 38 = .ok (.bipush (-9), 2) := by decide +kernel
theorem dX9_normalSize_40 : decode cX9_normalSize 40 = .ok (.ireturn, 1) := by decide +kernel
theorem dX9_normalTokenAt_0 : decode cX9_normalTokenAt 0 = .ok (.aload_n 0, 1) := by decide +kernel
theorem dX9_normalTokenAt_1 : decode cX9_normalTokenAt 1 = .ok (.iconst 0, 1) := by decide +kernel
theorem dX9_normalTokenAt_2 : decode cX9_normalTokenAt 2 = .ok (.putfield 59, 3) := by decide +kernel
theorem dX9_normalTokenAt_5 : decode cX9_normalTokenAt 5 = .ok (.aload_n 0, 1) := by decide +kernel
theorem dX9_normalTokenAt_6 : decode cX9_normalTokenAt 6 = .ok (.getfield 13, 3) := by decide +kernel
theorem dX9_normalTokenAt_9 : decode cX9_normalTokenAt 9 = .ok (.aload_n 0, 1) := by decide +kernel
theorem dX9_normalTokenAt_10 : decode cX9_normalTokenAt 10 = .ok (.getfield 16, 3) := by decide +kernel
theorem dX9_normalTokenAt_13 : decode cX9_normalTokenAt 13 = .ok (.invokestatic 100, 3) := by decide +kernel
theorem dX9_normalTokenAt_16 : decode cX9_normalTokenAt 16 = .ok (.aload_n 0, 1) := by decide +kernel
theorem dX9_normalTokenAt_17 : decode cX9_normalTokenAt 17 = .ok (.aload_n 0, 1) := by decide +kernel
theorem dX9_normalTokenAt_18 : decode cX9_normalTokenAt 18 = .ok (.getfield 16, 3) := by decide +kernel
theorem dX9_normalTokenAt_21 : decode cX9_normalTokenAt 21 = .ok (.invokevirtual 157, 3) := by decide +kernel
theorem dX9_normalTokenAt_24 : decode cX9_normalTokenAt 24 = .ok (.ifCond .ne 6, 3) := by decide +kernel
theorem dX9_normalTokenAt_27 : decode cX9_normalTokenAt 27 = .ok (.bipush (-9), 2) := by decide +kernel
theorem dX9_normalTokenAt_29 : decode cX9_normalTokenAt 29 = .ok (.ireturn, 1) := by decide +kernel
theorem dX9_normalTokenAt_30 : decode cX9_normalTokenAt 30 = .ok (.iload_n 1, 1) := by decide +kernel
theorem dX9_normalTokenAt_31 : decode cX9_normalTokenAt 31 = .ok (.i2l, 1) := by decide +kernel
theorem dX9_normalTokenAt_32 : decode cX9_normalTokenAt 32 = .ok (.lconst 0, 1) := by decide +kernel
theorem dX9_normalTokenAt_33 : decode cX9_normalTokenAt 33 = .ok (.aload_n 0, 1) := by decide +kernel
theorem dX9_normalTokenAt_34 : decode cX9_normalTokenAt 34 = .ok (.getfield 16, 3) := by decide +kernel
theorem dX9_normalTokenAt_37 : decode cX9_normalTokenAt 37 = .ok (.sipush 200, 3) := by decide +kernel
theorem dX9_normalTokenAt_40 : decode cX9_normalTokenAt 40 = .ok (.iaload, 1) := by decide +kernel
theorem dX9_normalTokenAt_41 : decode cX9_normalTokenAt 41 = .ok (.iconst 1, 1) := by decide +kernel
theorem dX9_normalTokenAt_42 : decode cX9_normalTokenAt 42 = .ok (.isub, 1) := by decide +kernel
theorem dX9_normalTokenAt_43 : decode cX9_normalTokenAt 43 = .ok (.i2l, 1) := by decide +kernel
theorem dX9_normalTokenAt_44 : decode cX9_normalTokenAt 44 = .ok (.invokestatic 114, 3) := by decide +kernel
theorem dX9_normalTokenAt_47 : decode cX9_normalTokenAt 47 = .ok (.ifCond .eq 12, 3) := by decide +kernel
theorem dX9_normalTokenAt_50 : decode cX9_normalTokenAt 50 = .ok (.aload_n 0, 1) := by decide +kernel
theorem dX9_normalTokenAt_51 : decode cX9_normalTokenAt 51 = .ok (.getfield 16, 3) := by decide +kernel
theorem dX9_normalTokenAt_54 : decode cX9_normalTokenAt 54 = .ok (.iload_n 1, 1) := by decide +kernel
theorem dX9_normalTokenAt_55 : decode cX9_normalTokenAt 55 = .ok (.iaload, 1) := by decide +kernel
theorem dX9_normalTokenAt_56 : decode cX9_normalTokenAt 56 = .ok (.goto 4, 3) := by decide +kernel
theorem dX9_normalTokenAt_59 : decode cX9_normalTokenAt 59 = .ok (.iconst (-1), 1) := by decide +kernel
theorem dX9_normalTokenAt_60 : decode cX9_normalTokenAt 60 = .ok (.ireturn, 1) := by decide +kernel
theorem dX9_isEquivalent_0 : decode cX9_isEquivalent 0 = .ok (.aload_n 0, 1) := by decide +kernel
theorem dX9_isEquivalent_1 : decode cX9_isEquivalent 1 = .ok (.iconst 0, 1) := by decide +kernel
theorem dX9_isEquivalent_2 : decode cX9_isEquivalent 2 = .ok (.putfield 59, 3) := by decide +kernel
theorem dX9_isEquivalent_5 : decode cX9_isEquivalent 5 = .ok (.iload_n 1, 1) := by decide +kernel
theorem dX9_isEquivalent_6 : decode cX9_isEquivalent 6 = .ok (.i2l, 1) := by decide +kernel
theorem dX9_isEquivalent_7 : decode cX9_isEquivalent 7 = .ok (.lconst 0, 1) := by decide +kernel
theorem dX9_isEquivalent_8 : decode cX9_isEquivalent 8 = .ok (.lconst 1, 1) := by decide +kernel
theorem dX9_isEquivalent_9 : decode cX9_isEquivalent 9 = .ok (.invokestatic 114, 3) := by decide +kernel
theorem dX9_isEquivalent_12 : decode cX9_isEquivalent 12 = .ok (.ifCond .ne 5, 3) := by decide +kernel
theorem dX9_isEquivalent_15 : decode cX9_isEquivalent 15 = .ok (.iconst (-1), 1) := by decide +kernel
theorem dX9_isEquivalent_16 : decode cX9_isEquivalent 16 = .ok (.ireturn, 1) := by decide +kernel
theorem dX9_isEquivalent_17 : decode cX9_isEquivalent 17 = .ok (.aload_n 0, 1) := by decide +kernel
theorem dX9_isEquivalent_18 : decode cX9_isEquivalent 18 = .ok (.getfield 31, 3) := by decide +kernel
theorem dX9_isEquivalent_21 : decode cX9_isEquivalent 21 = .ok (.iload_n 1, 1) := by decide +kernel
theorem dX9_isEquivalent_22 : decode cX9_isEquivalent 22 = .ok (.baload, 1) := by decide +kernel
theorem dX9_isEquivalent_23 : decode cX9_isEquivalent 23 = .ok (.ifCond .ne 6, 3) := by decide +kernel
theorem dX9_isEquivalent_26 : decode cX9_isEquivalent 26 = .ok (.bipush (-3), 2) := by decide +kernel
theorem dX9_isEquivalent_28 : decode cX9_isEquivalent 28 = .ok (.ireturn, 1) := by decide +kernel
theorem dX9_isEquivalent_29 : decode cX9_isEquivalent 29 = .ok (.aload_n 0, 1) := by decide +kernel
theorem dX9_isEquivalent_30 : decode cX9_isEquivalent 30 = .ok (.getfield 13, 3) := by decide +kernel
theorem dX9_isEquivalent_33 : decode cX9_isEquivalent 33 = .ok (.aload_n 0, 1) := by decide +kernel
theorem dX9_isEquivalent_34 : decode cX9_isEquivalent 34 = .ok (.getfield 16, 3) := by decide +kernel
theorem dX9_isEquivalent_37 : decode cX9_isEquivalent 37 = .ok (.invokestatic 100, 3) := by decide +kernel
theorem dX9_isEquivalent_40 : decode cX9_isEquivalent 40 = .ok (.aload_n 0, 1) := by decide +kernel
theorem dX9_isEquivalent_41 : decode cX9_isEquivalent 41 = .ok (.iload_n 1, 1) := by decide +kernel
theorem dX9_isEquivalent_42 : decode cX9_isEquivalent 42 = .ok (.aload_n 0, 1) := by decide +kernel
theorem dX9_isEquivalent_43 : decode cX9_isEquivalent 43 = .ok (.getfield 19, 3) := by decide +kernel
theorem dX9_isEquivalent_46 : decode cX9_isEquivalent 46 = .ok (.invokevirtual 149, 3) := by decide +kernel
theorem dX9_isEquivalent_49 : decode cX9_isEquivalent 49 = .ok (.aload_n 0, 1) := by decide +kernel
theorem dX9_isEquivalent_50 : decode cX9_isEquivalent 50 = .ok (.aload_n 0, 1) := by decide +kernel
theorem dX9_isEquivalent_51 : decode cX9_isEquivalent 51 = .ok (.getfield 16, 3) := by decide +kernel
theorem dX9_isEquivalent_54 : decode cX9_isEquivalent 54 = .ok (.invokevirtual 157, 3) := by decide +kernel
theorem dX9_isEquivalent_57 : decode cX9_isEquivalent 57 = .ok (.ifCond .eq 14, 3) := by decide +kernel
theorem dX9_isEquivalent_60 : decode cX9_isEquivalent 60 = .ok (.aload_n 0, 1) := by decide +kernel
theorem dX9_isEquivalent_61 : decode cX9_isEquivalent 61 = .ok (.aload_n 0, 1) := by decide +kernel
theorem dX9_isEquivalent_62 : decode cX9_isEquivalent 62 = .ok (.getfield 19, 3) := by decide +kernel
theorem dX9_isEquivalent_65 : decode cX9_isEquivalent 65 = .ok (.invokevirtual 157, 3) := by decide +kernel
theorem dX9_isEquivalent_68 : decode cX9_isEquivalent 68 = .ok (.ifCond .ne 6, 3) := by decide +kernel
theorem dX9_isEquivalent_71 : decode cX9_isEquivalent 71 = .ok (.bipush (-9), 2) := by decide +kernel
theorem dX9_isEquivalent_73 : decode cX9_isEquivalent 73 = .ok (.ireturn, 1) := by decide +kernel
theorem dX9_isEquivalent_74 : decode cX9_isEquivalent 74 = .ok (.aload_n 0, 1) := by decide +kernel
theorem dX9_isEquivalent_75 : decode cX9_isEquivalent 75 = .ok (.getfield 16, 3) := by decide +kernel
theorem dX9_isEquivalent_78 : decode cX9_isEquivalent 78 = .ok (.sipush 200, 3) := by decide +kernel
theorem dX9_isEquivalent_81 : decode cX9_isEquivalent 81 = .ok (.iaload, 1) := by decide +kernel
theorem dX9_isEquivalent_82 : decode cX9_isEquivalent 82 = .ok (.aload_n 0, 1) := by decide +kernel
theorem dX9_isEquivalent_83 : decode cX9_isEquivalent 83 = .ok (.getfield 19, 3) := by decide +kernel
theorem dX9_isEquivalent_86 : decode cX9_isEquivalent 86 = .ok (.sipush 200, 3) := by decide +kernel
theorem dX9_isEquivalent_89 : decode cX9_isEquivalent 89 = .ok (.iaload, 1) := by decide +kernel
theorem dX9_isEquivalent_90 : decode cX9_isEquivalent 90 = .ok (.if_icmp .ne 7, 3) := by decide +kernel
theorem dX9_isEquivalent_93 : decode cX9_isEquivalent 93 = .ok (.iconst 1, 1) := by decide +kernel
theorem dX9_isEquivalent_94 : decode cX9_isEquivalent 94 = .ok (.goto 4, 3) := by decide +kernel
theorem dX9_isEquivalent_97 : decode cX9_isEquivalent 97 = .ok (.iconst 0, 1) := by decide +kernel
theorem dX9_isEquivalent_98 : decode cX9_isEquivalent 98 = .ok (.istore_n 2, 1) := by decide +kernel
theorem dX9_isEquivalent_99 : decode cX9_isEquivalent 99 = .ok (.iconst 0, 1) := by decide +kernel
theorem dX9_isEquivalent_100 : decode cX9_isEquivalent 100 = .ok (.istore_n 3, 1) := by decide +kernel
theorem dX9_isEquivalent_101 : decode cX9_isEquivalent 101 = .ok (.iload_n 3, 1) := by decide +kernel
theorem dX9_isEquivalent_102 : decode cX9_isEquivalent 102 = .ok (.aload_n 0, 1) := by decide +kernel
theorem dX9_isEquivalent_103 : decode cX9_isEquivalent 103 = .ok (.getfield 16, 3) := by decide +kernel
theorem dX9_isEquivalent_106 : decode cX9_isEquivalent 106 = .ok (.sipush 200, 3) := by decide +kernel
theorem dX9_isEquivalent_109 : decode cX9_isEquivalent 109 = .ok (.iaload, 1) := by decide +kernel
theorem dX9_isEquivalent_110 : decode cX9_isEquivalent 110 = .ok (.if_icmp .ge 34, 3) := by decide +kernel
theorem dX9_isEquivalent_113 : decode cX9_isEquivalent 113 = .ok (.iload_n 2, 1) := by decide +kernel
theorem dX9_isEquivalent_114 : decode cX9_isEquivalent 114 = .ok (.ifCond .eq 22, 3) := by decide +kernel
theorem dX9_isEquivalent_117 : decode cX9_isEquivalent 117 = .ok (.aload_n 0, 1) := by decide +kernel
theorem dX9_isEquivalent_118 : decode cX9_isEquivalent 118 = .ok (.getfield 16, 3) := by decide +kernel
theorem dX9_isEquivalent_121 : decode cX9_isEquivalent 121 = .ok (.iload_n 3, 1) := by decide +kernel
theorem dX9_isEquivalent_122 : decode cX9_isEquivalent 122 = .ok (.iaload, 1) := by decide +kernel
theorem dX9_isEquivalent_123 : decode cX9_isEquivalent 123 = .ok (.aload_n 0, 1) := by decide +kernel
theorem dX9_isEquivalent_124 : decode cX9_isEquivalent 124 = .ok (.getfield 19, 3) := by decide +kernel
theorem dX9_isEquivalent_127 : decode cX9_isEquivalent 127 = .ok (.iload_n 3, 1) := by decide +kernel
theorem dX9_isEquivalent_128 : decode cX9_isEquivalent 128 = .ok (.iaload, 1) := by decide +kernel
theorem dX9_isEquivalent_129 : decode cX9_isEquivalent 129 = .ok (.if_icmp .ne 7, 3) := by decide +kernel
theorem dX9_isEquivalent_132 : decode cX9_isEquivalent 132 = .ok (.iconst 1, 1) := by decide +kernel
theorem dX9_isEquivalent_133 : decode cX9_isEquivalent 133 = .ok (.goto 4, 3) := by decide +kernel
theorem dX9_isEquivalent_136 : decode cX9_isEquivalent 136 = .ok (.iconst 0, 1) := by decide +kernel
theorem dX9_isEquivalent_137 : decode cX9_isEquivalent 137 = .ok (.istore_n 2, 1) := by decide +kernel
theorem dX9_isEquivalent_138 : decode cX9_isEquivalent 138 = .ok (.iinc 3 1, 3) := by decide +kernel
theorem dX9_isEquivalent_141 : decode cX9_isEquivalent 141 = .ok (.goto (-40), 3) := by decide +kernel
theorem dX9_isEquivalent_144 : decode cX9_isEquivalent 144 = .ok (.iload_n 2, 1) := by decide +kernel
theorem dX9_isEquivalent_145 : decode cX9_isEquivalent 145 = .ok (.ifCond .eq 7, 3) := by decide +kernel
theorem dX9_isEquivalent_148 : decode cX9_isEquivalent 148 = .ok (.iconst 1, 1) := by decide +kernel
theorem dX9_isEquivalent_149 : decode cX9_isEquivalent 149 = .ok (.goto 4, 3) := by decide +kernel
theorem dX9_isEquivalent_152 : decode cX9_isEquivalent 152 = .ok (.iconst 0, 1) := by decide +kernel
theorem dX9_isEquivalent_153 : decode cX9_isEquivalent 153 = .ok (.ireturn, 1) := by decide +kernel
theorem dX9_add_0 : decode cX9_add 0 = .ok (.aload_n 0, 1) := by decide +kernel
theorem dX9_add_1 : decode cX9_add 1 = .ok (.aload_n 0, 1) := by decide +kernel
theorem dX9_add_2 : decode cX9_add 2 = .ok (.getfield 161, 3) := by decide +kernel
theorem dX9_add_5 : decode cX9_add 5 = .ok (.ifCond .ne 17, 3) := by decide +kernel
theorem dX9_add_8 : decode cX9_add 8 = .ok (.aload_n 0, 1) := by decide +kernel
theorem dX9_add_9 : decode cX9_add 9 = .ok (.getfield 53, 3) := by decide +kernel
theorem dX9_add_12 : decode cX9_add 12 = .ok (.sipush 320, 3) := by decide +kernel
theorem dX9_add_15 : decode cX9_add 15 = .ok (.iaload, 1) := by decide +kernel
theorem dX9_add_16 : decode cX9_add 16 = .ok (.sipush 300, 3) := by decide +kernel
theorem dX9_add_19 : decode cX9_add 19 = .ok (.if_icmp .ne 7, 3) := by decide +kernel
theorem dX9_add_22 : decode cX9_add 22 = .ok (.iconst 1, 1) := by decide +kernel
theorem dX9_add_23 : decode cX9_add 23 = .ok (.goto 4, 3) := by decide +kernel
theorem dX9_add_26 : decode cX9_add 26 = .ok (.iconst 0, 1) := by decide +kernel
theorem dX9_add_27 : decode cX9_add 27 = .ok (.putfield 161, 3) := by decide +kernel
theorem dX9_add_30 : decode cX9_add 30 = .ok (.aload_n 0, 1) := by decide +kernel
theorem dX9_add_31 : decode cX9_add 31 = .ok (.getfield 161, 3) := by decide +kernel
theorem dX9_add_34 : decode cX9_add 34 = .ok (.ifCond .ne 29, 3) := by decide +kernel
theorem dX9_add_37 : decode cX9_add 37 = .ok (.aload_n 0, 1) := by decide +kernel
theorem dX9_add_38 : decode cX9_add 38 = .ok (.getfield 53, 3) := by decide +kernel
theorem dX9_add_41 : decode cX9_add 41 = .ok (.aload_n 0, 1) := by decide +kernel
theorem dX9_add_42 : decode cX9_add 42 = .ok (.getfield 53, 3) := by decide +kernel
theorem dX9_add_45 : decode cX9_add 45 = .ok (.sipush 320, 3) := by decide +kernel
theorem dX9_add_48 : decode cX9_add 48 = .ok (.iaload, 1) := by decide +kernel
theorem dX9_add_49 : decode cX9_add 49 = .ok (.iload_n 1, 1) := by decide +kernel
theorem dX9_add_50 : decode cX9_add 50 = .ok (.iastore, 1) := by decide +kernel
theorem dX9_add_51 : decode cX9_add 51 = .ok (.aload_n 0, 1) := by decide +kernel
theorem dX9_add_52 : decode cX9_add 52 = .ok (.getfield 53, 3) := by decide +kernel
theorem dX9_add_55 : decode cX9_add 55 = .ok (.sipush 320, 3) := by decide +kernel
theorem dX9_add_58 : decode cX9_add 58 = .ok (.dup2, 1) := by decide +kernel
theorem dX9_add_59 : decode cX9_add 59 = .ok (.iaload, 1) := by decide +kernel
theorem dX9_add_60 : decode cX9_add 60 = .ok (.iconst 1, 1) := by decide +kernel
theorem dX9_add_61 : decode cX9_add 61 = .ok (.iadd, 1) := by decide +kernel
theorem dX9_add_62 : decode cX9_add 62 = .ok (.iastore, 1) := by decide +kernel
theorem dX9_add_63 : decode cX9_add 63 = .ok (.return_, 1) := by decide +kernel
theorem dX9_addPart_0 : decode cX9_addPart 0 = .ok (.iload_n 1, 1) := by decide +kernel
theorem dX9_addPart_1 : decode cX9_addPart 1 = .ok (.istore_n 3, 1) := by decide +kernel
theorem dX9_addPart_2 : decode cX9_addPart 2 = .ok (.iload_n 3, 1) := by decide +kernel
theorem dX9_addPart_3 : decode cX9_addPart 3 = .ok (.iload_n 2, 1) := by decide +kernel
theorem dX9_addPart_4 : decode cX9_addPart 4 = .ok (.if_icmp .ge 19, 3) := by decide +kernel
theorem dX9_addPart_7 : decode cX9_addPart 7 = .ok (.aload_n 0, 1) := by decide +kernel
theorem dX9_addPart_8 : decode cX9_addPart 8 = .ok (.aload_n 0, 1) := by decide +kernel
theorem dX9_addPart_9 : decode cX9_addPart 9 = .ok (.getfield 50, 3) := by decide +kernel
theorem dX9_addPart_12 : decode cX9_addPart 12 = .ok (.iload_n 3, 1) := by decide +kernel
theorem dX9_addPart_13 : decode cX9_addPart 13 = .ok (.iaload, 1) := by decide +kernel
theorem dX9_addPart_14 : decode cX9_addPart 14 = .ok (.invokevirtual 165, 3) := by decide +kernel
theorem dX9_addPart_17 : decode cX9_addPart 17 = .ok (.iinc 3 1, 3) := by decide +kernel
theorem dX9_addPart_20 : decode cX9_addPart 20 = .ok (.goto (-18), 3) := by decide +kernel
theorem dX9_addPart_23 : decode cX9_addPart 23 = .ok (.return_, 1) := by decide +kernel
theorem dX9_ruleAt_0 : decode cX9_ruleAt 0 = .ok (.aload_n 0, 1) := by decide +kernel
theorem dX9_ruleAt_1 : decode cX9_ruleAt 1 = .ok (.getfield 50, 3) := by decide +kernel
theorem dX9_ruleAt_4 : decode cX9_ruleAt 4 = .ok (.iload_n 1, 1) := by decide +kernel
theorem dX9_ruleAt_5 : decode cX9_ruleAt 5 = .ok (.iaload, 1) := by decide +kernel
theorem dX9_ruleAt_6 : decode cX9_ruleAt 6 = .ok (.sipush 1000, 3) := by decide +kernel
theorem dX9_ruleAt_9 : decode cX9_ruleAt 9 = .ok (.if_icmp .ne 24, 3) := by decide +kernel
theorem dX9_ruleAt_12 : decode cX9_ruleAt 12 = .ok (.aload_n 0, 1) := by decide +kernel
theorem dX9_ruleAt_13 : decode cX9_ruleAt 13 = .ok (.getfield 50, 3) := by decide +kernel
theorem dX9_ruleAt_16 : decode cX9_ruleAt 16 = .ok (.iload_n 1, 1) := by decide +kernel
theorem dX9_ruleAt_17 : decode cX9_ruleAt 17 = .ok (.iconst 1, 1) := by decide +kernel
theorem dX9_ruleAt_18 : decode cX9_ruleAt 18 = .ok (.iadd, 1) := by decide +kernel
theorem dX9_ruleAt_19 : decode cX9_ruleAt 19 = .ok (.iaload, 1) := by decide +kernel
theorem dX9_ruleAt_20 : decode cX9_ruleAt 20 = .ok (.sipush 1001, 3) := by decide +kernel
theorem dX9_ruleAt_23 : decode cX9_ruleAt 23 = .ok (.if_icmp .ne 7, 3) := by decide +kernel
theorem dX9_ruleAt_26 : decode cX9_ruleAt 26 = .ok (.iconst 0, 1) := by decide +kernel
theorem dX9_ruleAt_27 : decode cX9_ruleAt 27 = .ok (.goto 5, 3) := by decide +kernel
theorem dX9_ruleAt_30 : decode cX9_ruleAt 30 = .ok (.bipush (-9), 2) := by decide +kernel
theorem dX9_ruleAt_32 : decode cX9_ruleAt 32 = .ok (.ireturn, 1) := by decide +kernel
theorem dX9_ruleAt_33 : decode cX9_ruleAt 33 = .ok (.aload_n 0, 1) := by decide +kernel
theorem dX9_ruleAt_34 : decode cX9_ruleAt 34 = .ok (.getfield 50, 3) := by decide +kernel
theorem dX9_ruleAt_37 : decode cX9_ruleAt 37 = .ok (.iload_n 1, 1) := by decide +kernel
theorem dX9_ruleAt_38 : decode cX9_ruleAt 38 = .ok (.iaload, 1) := by decide +kernel
theorem dX9_ruleAt_39 : decode cX9_ruleAt 39 = .ok (.ldc 63, 2) := by decide +kernel
theorem dX9_ruleAt_41 : decode cX9_ruleAt 41 = .ok (.if_icmp .ge 6, 3) := by decide +kernel
theorem dX9_ruleAt_44 : decode cX9_ruleAt 44 = .ok (.bipush (-9), 2) := by decide +kernel
theorem dX9_ruleAt_46 : decode cX9_ruleAt 46 = .ok (.ireturn, 1) := by decide +kernel
theorem dX9_ruleAt_47 : decode cX9_ruleAt 47 = .ok (.aload_n 0, 1) := by decide +kernel
theorem dX9_ruleAt_48 : decode cX9_ruleAt 48 = .ok (.getfield 50, 3) := by decide +kernel
theorem dX9_ruleAt_51 : decode cX9_ruleAt 51 = .ok (.iload_n 1, 1) := by decide +kernel
theorem dX9_ruleAt_52 : decode cX9_ruleAt 52 = .ok (.iconst 1, 1) := by decide +kernel
theorem dX9_ruleAt_53 : decode cX9_ruleAt 53 = .ok (.iadd, 1) := by decide +kernel
theorem dX9_ruleAt_54 : decode cX9_ruleAt 54 = .ok (.iaload, 1) := by decide +kernel
theorem dX9_ruleAt_55 : decode cX9_ruleAt 55 = .ok (.istore_n 3, 1) := by decide +kernel
theorem dX9_ruleAt_56 : decode cX9_ruleAt 56 = .ok (.iload_n 3, 1) := by decide +kernel
theorem dX9_ruleAt_57 : decode cX9_ruleAt 57 = .ok (.sipush 1000, 3) := by decide +kernel
theorem dX9_ruleAt_60 : decode cX9_ruleAt 60 = .ok (.if_icmp .ne 7, 3) := by decide +kernel
theorem dX9_ruleAt_63 : decode cX9_ruleAt 63 = .ok (.iconst 1, 1) := by decide +kernel
theorem dX9_ruleAt_64 : decode cX9_ruleAt 64 = .ok (.goto 35, 3) := by decide +kernel
theorem dX9_ruleAt_67 : decode cX9_ruleAt 67 = .ok (.iload_n 3, 1) := by decide +kernel
theorem dX9_ruleAt_68 : decode cX9_ruleAt 68 = .ok (.sipush 1001, 3) := by decide +kernel
theorem dX9_ruleAt_71 : decode cX9_ruleAt 71 = .ok (.if_icmp .ne 7, 3) := by decide +kernel
theorem dX9_ruleAt_74 : decode cX9_ruleAt 74 = .ok (.iconst 2, 1) := by decide +kernel
theorem dX9_ruleAt_75 : decode cX9_ruleAt 75 = .ok (.goto 24, 3) := by decide +kernel
theorem dX9_ruleAt_78 : decode cX9_ruleAt 78 = .ok (.iload_n 3, 1) := by decide +kernel
theorem dX9_ruleAt_79 : decode cX9_ruleAt 79 = .ok (.invokestatic 68, 3) := by decide +kernel
theorem dX9_ruleAt_82 : decode cX9_ruleAt 82 = .ok (.ifCond .eq 7, 3) := by decide +kernel
theorem dX9_ruleAt_85 : decode cX9_ruleAt 85 = .ok (.iconst 3, 1) := by decide +kernel
theorem dX9_ruleAt_86 : decode cX9_ruleAt 86 = .ok (.goto 13, 3) := by decide +kernel
theorem dX9_ruleAt_89 : decode cX9_ruleAt 89 = .ok (.iload_n 2, 1) := by decide +kernel
theorem dX9_ruleAt_90 : decode cX9_ruleAt 90 = .ok (.ifCond .eq 7, 3) := by decide +kernel
theorem dX9_ruleAt_93 : decode cX9_ruleAt 93 = .ok (.iconst 4, 1) := by decide +kernel
theorem dX9_ruleAt_94 : decode cX9_ruleAt 94 = .ok (.goto 5, 3) := by decide +kernel
theorem dX9_ruleAt_97 : decode cX9_ruleAt 97 = .ok (.bipush (-9), 2) := by decide +kernel
theorem dX9_ruleAt_99 : decode cX9_ruleAt 99 = .ok (.ireturn, 1) := by decide +kernel
theorem dX9_apply_0 : decode cX9_apply 0 = .ok (.aload_n 0, 1) := by decide +kernel
theorem dX9_apply_1 : decode cX9_apply 1 = .ok (.getfield 53, 3) := by decide +kernel
theorem dX9_apply_4 : decode cX9_apply 4 = .ok (.sipush 320, 3) := by decide +kernel
theorem dX9_apply_7 : decode cX9_apply 7 = .ok (.iconst 0, 1) := by decide +kernel
theorem dX9_apply_8 : decode cX9_apply 8 = .ok (.iastore, 1) := by decide +kernel
theorem dX9_apply_9 : decode cX9_apply 9 = .ok (.aload_n 0, 1) := by decide +kernel
theorem dX9_apply_10 : decode cX9_apply 10 = .ok (.iconst 0, 1) := by decide +kernel
theorem dX9_apply_11 : decode cX9_apply 11 = .ok (.iload_n 2, 1) := by decide +kernel
theorem dX9_apply_12 : decode cX9_apply 12 = .ok (.invokevirtual 169, 3) := by decide +kernel
theorem dX9_apply_15 : decode cX9_apply 15 = .ok (.aload_n 0, 1) := by decide +kernel
theorem dX9_apply_16 : decode cX9_apply 16 = .ok (.getfield 50, 3) := by decide +kernel
theorem dX9_apply_19 : decode cX9_apply 19 = .ok (.iload_n 2, 1) := by decide +kernel
theorem dX9_apply_20 : decode cX9_apply 20 = .ok (.invokestatic 76, 3) := by decide +kernel
theorem dX9_apply_23 : decode cX9_apply 23 = .ok (.istore_n 3, 1) := by decide +kernel
theorem dX9_apply_24 : decode cX9_apply 24 = .ok (.aload_n 0, 1) := by decide +kernel
theorem dX9_apply_25 : decode cX9_apply 25 = .ok (.getfield 50, 3) := by decide +kernel
theorem dX9_apply_28 : decode cX9_apply 28 = .ok (.iload_n 2, 1) := by decide +kernel
theorem dX9_apply_29 : decode cX9_apply 29 = .ok (.iaload, 1) := by decide +kernel
theorem dX9_apply_30 : decode cX9_apply 30 = .ok (.invokestatic 64, 3) := by decide +kernel
theorem dX9_apply_33 : decode cX9_apply 33 = .ok (.iconst 1, 1) := by decide +kernel
theorem dX9_apply_34 : decode cX9_apply 34 = .ok (.isub, 1) := by decide +kernel
theorem dX9_apply_35 : decode cX9_apply 35 = .ok (.istore 4, 2) := by decide +kernel
theorem dX9_apply_37 : decode cX9_apply 37 = .ok (.aload_n 0, 1) := by decide +kernel
theorem dX9_apply_38 : decode cX9_apply 38 = .ok (.getfield 50, 3) := by decide +kernel
theorem dX9_apply_41 : decode cX9_apply 41 = .ok (.iload_n 2, 1) := by decide +kernel
theorem dX9_apply_42 : decode cX9_apply 42 = .ok (.iaload, 1) := by decide +kernel
theorem dX9_apply_43 : decode cX9_apply 43 = .ok (.ldc 63, 2) := by decide +kernel
theorem dX9_apply_45 : decode cX9_apply 45 = .ok (.isub, 1) := by decide +kernel
theorem dX9_apply_46 : decode cX9_apply 46 = .ok (.sipush 1000, 3) := by decide +kernel
theorem dX9_apply_49 : decode cX9_apply 49 = .ok (.irem, 1) := by decide +kernel
theorem dX9_apply_50 : decode cX9_apply 50 = .ok (.istore 5, 2) := by decide +kernel
theorem dX9_apply_52 : decode cX9_apply 52 = .ok (.iload_n 2, 1) := by decide +kernel
theorem dX9_apply_53 : decode cX9_apply 53 = .ok (.iconst 1, 1) := by decide +kernel
theorem dX9_apply_54 : decode cX9_apply 54 = .ok (.iadd, 1) := by decide +kernel
theorem dX9_apply_55 : decode cX9_apply 55 = .ok (.istore 6, 2) := by decide +kernel
theorem dX9_apply_57 : decode cX9_apply 57 = .ok (.aload_n 0, 1) := by decide +kernel
theorem dX9_apply_58 : decode cX9_apply 58 = .ok (.getfield 50, 3) := by decide +kernel
theorem dX9_apply_61 : decode cX9_apply 61 = .ok (.iload 6, 2) := by decide +kernel
theorem dX9_apply_63 : decode cX9_apply 63 = .ok (.invokestatic 76, 3) := by decide +kernel
theorem dX9_apply_66 : decode cX9_apply 66 = .ok (.istore 7, 2) := by decide +kernel
theorem dX9_apply_68 : decode cX9_apply 68 = .ok (.iload_n 1, 1) := by decide +kernel
theorem dX9_apply_69 : decode cX9_apply 69 = .ok (.tableswitch 290 0 3 #[31, 48, 121, 210], 31) := by decide +kernel
theorem dX9_apply_100 : decode cX9_apply 100 = .ok (.aload_n 0, 1) := by decide +kernel
theorem dX9_apply_101 : decode cX9_apply 101 = .ok (.ldc 173, 2) := by decide +kernel
theorem dX9_apply_103 : decode cX9_apply 103 = .ok (.invokevirtual 165, 3) := by decide +kernel
theorem dX9_apply_106 : decode cX9_apply 106 = .ok (.aload_n 0, 1) := by decide +kernel
theorem dX9_apply_107 : decode cX9_apply 107 = .ok (.iload_n 2, 1) := by decide +kernel
theorem dX9_apply_108 : decode cX9_apply 108 = .ok (.iconst 2, 1) := by decide +kernel
theorem dX9_apply_109 : decode cX9_apply 109 = .ok (.iadd, 1) := by decide +kernel
theorem dX9_apply_110 : decode cX9_apply 110 = .ok (.iload_n 3, 1) := by decide +kernel
theorem dX9_apply_111 : decode cX9_apply 111 = .ok (.invokevirtual 169, 3) := by decide +kernel
theorem dX9_apply_114 : decode cX9_apply 114 = .ok (.goto 255, 3) := by decide +kernel
theorem dX9_apply_117 : decode cX9_apply 117 = .ok (.aload_n 0, 1) := by decide +kernel
theorem dX9_apply_118 : decode cX9_apply 118 = .ok (.getfield 50, 3) := by decide +kernel
theorem dX9_apply_121 : decode cX9_apply 121 = .ok (.iload_n 2, 1) := by decide +kernel
theorem dX9_apply_122 : decode cX9_apply 122 = .ok (.iconst 2, 1) := by decide +kernel
theorem dX9_apply_123 : decode cX9_apply 123 = .ok (.iadd, 1) := by decide +kernel
theorem dX9_apply_124 : decode cX9_apply 124 = .ok (.invokestatic 76, 3) := by decide +kernel
theorem dX9_apply_127 : decode cX9_apply 127 = .ok (.istore 8, 2) := by decide +kernel
theorem dX9_apply_129 : decode cX9_apply 129 = .ok (.aload_n 0, 1) := by decide +kernel
theorem dX9_apply_130 : decode cX9_apply 130 = .ok (.sipush 1000, 3) := by decide +kernel
theorem dX9_apply_133 : decode cX9_apply 133 = .ok (.invokevirtual 165, 3) := by decide +kernel
theorem dX9_apply_136 : decode cX9_apply 136 = .ok (.aload_n 0, 1) := by decide +kernel
theorem dX9_apply_137 : decode cX9_apply 137 = .ok (.aload_n 0, 1) := by decide +kernel
theorem dX9_apply_138 : decode cX9_apply 138 = .ok (.getfield 50, 3) := by decide +kernel
theorem dX9_apply_141 : decode cX9_apply 141 = .ok (.iload_n 2, 1) := by decide +kernel
theorem dX9_apply_142 : decode cX9_apply 142 = .ok (.iaload, 1) := by decide +kernel
theorem dX9_apply_143 : decode cX9_apply 143 = .ok (.invokevirtual 165, 3) := by decide +kernel
theorem dX9_apply_146 : decode cX9_apply 146 = .ok (.aload_n 0, 1) := by decide +kernel
theorem dX9_apply_147 : decode cX9_apply 147 = .ok (.iload_n 2, 1) := by decide +kernel
theorem dX9_apply_148 : decode cX9_apply 148 = .ok (.iconst 2, 1) := by decide +kernel
theorem dX9_apply_149 : decode cX9_apply 149 = .ok (.iadd, 1) := by decide +kernel
theorem dX9_apply_150 : decode cX9_apply 150 = .ok (.iload 8, 2) := by decide +kernel
theorem dX9_apply_152 : decode cX9_apply 152 = .ok (.invokevirtual 169, 3) := by decide +kernel
theorem dX9_apply_155 : decode cX9_apply 155 = .ok (.aload_n 0, 1) := by decide +kernel
theorem dX9_apply_156 : decode cX9_apply 156 = .ok (.iload 7, 2) := by decide +kernel
theorem dX9_apply_158 : decode cX9_apply 158 = .ok (.iload_n 3, 1) := by decide +kernel
theorem dX9_apply_159 : decode cX9_apply 159 = .ok (.invokevirtual 169, 3) := by decide +kernel
theorem dX9_apply_162 : decode cX9_apply 162 = .ok (.aload_n 0, 1) := by decide +kernel
theorem dX9_apply_163 : decode cX9_apply 163 = .ok (.aload_n 0, 1) := by decide +kernel
theorem dX9_apply_164 : decode cX9_apply 164 = .ok (.getfield 50, 3) := by decide +kernel
theorem dX9_apply_167 : decode cX9_apply 167 = .ok (.iload_n 2, 1) := by decide +kernel
theorem dX9_apply_168 : decode cX9_apply 168 = .ok (.iaload, 1) := by decide +kernel
theorem dX9_apply_169 : decode cX9_apply 169 = .ok (.invokevirtual 165, 3) := by decide +kernel
theorem dX9_apply_172 : decode cX9_apply 172 = .ok (.aload_n 0, 1) := by decide +kernel
theorem dX9_apply_173 : decode cX9_apply 173 = .ok (.iload 8, 2) := by decide +kernel
theorem dX9_apply_175 : decode cX9_apply 175 = .ok (.iload 7, 2) := by decide +kernel
theorem dX9_apply_177 : decode cX9_apply 177 = .ok (.invokevirtual 169, 3) := by decide +kernel
theorem dX9_apply_180 : decode cX9_apply 180 = .ok (.aload_n 0, 1) := by decide +kernel
theorem dX9_apply_181 : decode cX9_apply 181 = .ok (.iload 7, 2) := by decide +kernel
theorem dX9_apply_183 : decode cX9_apply 183 = .ok (.iload_n 3, 1) := by decide +kernel
theorem dX9_apply_184 : decode cX9_apply 184 = .ok (.invokevirtual 169, 3) := by decide +kernel
theorem dX9_apply_187 : decode cX9_apply 187 = .ok (.goto 182, 3) := by decide +kernel
theorem dX9_apply_190 : decode cX9_apply 190 = .ok (.aload_n 0, 1) := by decide +kernel
theorem dX9_apply_191 : decode cX9_apply 191 = .ok (.sipush 1001, 3) := by decide +kernel
theorem dX9_apply_194 : decode cX9_apply 194 = .ok (.invokevirtual 165, 3) := by decide +kernel
theorem dX9_apply_197 : decode cX9_apply 197 = .ok (.aload_n 0, 1) := by decide +kernel
theorem dX9_apply_198 : decode cX9_apply 198 = .ok (.ldc 63, 2) := by decide +kernel
theorem dX9_apply_200 : decode cX9_apply 200 = .ok (.sipush 1000, 3) := by decide +kernel
theorem dX9_apply_203 : decode cX9_apply 203 = .ok (.iload 4, 2) := by decide +kernel
theorem dX9_apply_205 : decode cX9_apply 205 = .ok (.iconst 1, 1) := by decide +kernel
theorem dX9_apply_206 : decode cX9_apply 206 = .ok (.iadd, 1) := by decide +kernel
theorem dX9_apply_207 : decode cX9_apply 207 = .ok (.imul, 1) := by decide +kernel
theorem dX9_apply_208 : decode cX9_apply 208 = .ok (.iadd, 1) := by decide +kernel
theorem dX9_apply_209 : decode cX9_apply 209 = .ok (.iload 5, 2) := by decide +kernel
theorem dX9_apply_211 : decode cX9_apply 211 = .ok (.iadd, 1) := by decide +kernel
theorem dX9_apply_212 : decode cX9_apply 212 = .ok (.iconst 1, 1) := by decide +kernel
theorem dX9_apply_213 : decode cX9_apply 213 = .ok (.iadd, 1) := by decide +kernel
theorem dX9_apply_214 : decode cX9_apply 214 = .ok (.invokevirtual 165, 3) := by decide +kernel
theorem dX9_apply_217 : decode cX9_apply 217 = .ok (.aload_n 0, 1) := by decide +kernel
theorem dX9_apply_218 : decode cX9_apply 218 = .ok (.iload_n 2, 1) := by decide +kernel
theorem dX9_apply_219 : decode cX9_apply 219 = .ok (.iconst 2, 1) := by decide +kernel
theorem dX9_apply_220 : decode cX9_apply 220 = .ok (.iadd, 1) := by decide +kernel
theorem dX9_apply_221 : decode cX9_apply 221 = .ok (.iload 7, 2) := by decide +kernel
theorem dX9_apply_223 : decode cX9_apply 223 = .ok (.invokevirtual 169, 3) := by decide +kernel
theorem dX9_apply_226 : decode cX9_apply 226 = .ok (.aload_n 0, 1) := by decide +kernel
theorem dX9_apply_227 : decode cX9_apply 227 = .ok (.iconst 0, 1) := by decide +kernel
theorem dX9_apply_228 : decode cX9_apply 228 = .ok (.invokevirtual 165, 3) := by decide +kernel
theorem dX9_apply_231 : decode cX9_apply 231 = .ok (.iload 7, 2) := by decide +kernel
theorem dX9_apply_233 : decode cX9_apply 233 = .ok (.istore 9, 2) := by decide +kernel
theorem dX9_apply_235 : decode cX9_apply 235 = .ok (.iload 9, 2) := by decide +kernel
theorem dX9_apply_237 : decode cX9_apply 237 = .ok (.iload_n 3, 1) := by decide +kernel
theorem dX9_apply_238 : decode cX9_apply 238 = .ok (.if_icmp .ge 38, 3) := by decide +kernel
theorem dX9_apply_241 : decode cX9_apply 241 = .ok (.aload_n 0, 1) := by decide +kernel
theorem dX9_apply_242 : decode cX9_apply 242 = .ok (.ldc 174, 2) := by decide +kernel
theorem dX9_apply_244 : decode cX9_apply 244 = .ok (.invokevirtual 165, 3) := by decide +kernel
theorem dX9_apply_247 : decode cX9_apply 247 = .ok (.aload_n 0, 1) := by decide +kernel
theorem dX9_apply_248 : decode cX9_apply 248 = .ok (.iload 9, 2) := by decide +kernel
theorem dX9_apply_250 : decode cX9_apply 250 = .ok (.aload_n 0, 1) := by decide +kernel
theorem dX9_apply_251 : decode cX9_apply 251 = .ok (.getfield 50, 3) := by decide +kernel
theorem dX9_apply_254 : decode cX9_apply 254 = .ok (.iload 9, 2) := by decide +kernel
theorem dX9_apply_256 : decode cX9_apply 256 = .ok (.invokestatic 76, 3) := by decide +kernel
theorem dX9_apply_259 : decode cX9_apply 259 = .ok (.invokevirtual 169, 3) := by decide +kernel
theorem dX9_apply_262 : decode cX9_apply 262 = .ok (.aload_n 0, 1) := by decide +kernel
theorem dX9_apply_263 : decode cX9_apply 263 = .ok (.getfield 50, 3) := by decide +kernel
theorem dX9_apply_266 : decode cX9_apply 266 = .ok (.iload 9, 2) := by decide +kernel
theorem dX9_apply_268 : decode cX9_apply 268 = .ok (.invokestatic 76, 3) := by decide +kernel
theorem dX9_apply_271 : decode cX9_apply 271 = .ok (.istore 9, 2) := by decide +kernel
theorem dX9_apply_273 : decode cX9_apply 273 = .ok (.goto (-38), 3) := by decide +kernel
theorem dX9_apply_276 : decode cX9_apply 276 = .ok (.goto 93, 3) := by decide +kernel
theorem dX9_apply_279 : decode cX9_apply 279 = .ok (.aload_n 0, 1) := by decide +kernel
theorem dX9_apply_280 : decode cX9_apply 280 = .ok (.getfield 50, 3) := by decide +kernel
theorem dX9_apply_283 : decode cX9_apply 283 = .ok (.iload 6, 2) := by decide +kernel
theorem dX9_apply_285 : decode cX9_apply 285 = .ok (.iaload, 1) := by decide +kernel
theorem dX9_apply_286 : decode cX9_apply 286 = .ok (.istore 9, 2) := by decide +kernel
theorem dX9_apply_288 : decode cX9_apply 288 = .ok (.iload 9, 2) := by decide +kernel
theorem dX9_apply_290 : decode cX9_apply 290 = .ok (.iload 4, 2) := by decide +kernel
theorem dX9_apply_292 : decode cX9_apply 292 = .ok (.if_icmp .ge 52, 3) := by decide +kernel
theorem dX9_apply_295 : decode cX9_apply 295 = .ok (.iload 7, 2) := by decide +kernel
theorem dX9_apply_297 : decode cX9_apply 297 = .ok (.istore 10, 2) := by decide +kernel
theorem dX9_apply_299 : decode cX9_apply 299 = .ok (.iconst 0, 1) := by decide +kernel
theorem dX9_apply_300 : decode cX9_apply 300 = .ok (.istore 11, 2) := by decide +kernel
theorem dX9_apply_302 : decode cX9_apply 302 = .ok (.iload 11, 2) := by decide +kernel
theorem dX9_apply_304 : decode cX9_apply 304 = .ok (.iload 9, 2) := by decide +kernel
theorem dX9_apply_306 : decode cX9_apply 306 = .ok (.if_icmp .ge 20, 3) := by decide +kernel
theorem dX9_apply_309 : decode cX9_apply 309 = .ok (.aload_n 0, 1) := by decide +kernel
theorem dX9_apply_310 : decode cX9_apply 310 = .ok (.getfield 50, 3) := by decide +kernel
theorem dX9_apply_313 : decode cX9_apply 313 = .ok (.iload 10, 2) := by decide +kernel
theorem dX9_apply_315 : decode cX9_apply 315 = .ok (.invokestatic 76, 3) := by decide +kernel
theorem dX9_apply_318 : decode cX9_apply 318 = .ok (.istore 10, 2) := by decide +kernel
theorem dX9_apply_320 : decode cX9_apply 320 = .ok (.iinc 11 1, 3) := by decide +kernel
theorem dX9_apply_323 : decode cX9_apply 323 = .ok (.goto (-21), 3) := by decide +kernel
theorem dX9_apply_326 : decode cX9_apply 326 = .ok (.aload_n 0, 1) := by decide +kernel
theorem dX9_apply_327 : decode cX9_apply 327 = .ok (.iload 10, 2) := by decide +kernel
theorem dX9_apply_329 : decode cX9_apply 329 = .ok (.aload_n 0, 1) := by decide +kernel
theorem dX9_apply_330 : decode cX9_apply 330 = .ok (.getfield 50, 3) := by decide +kernel
theorem dX9_apply_333 : decode cX9_apply 333 = .ok (.iload 10, 2) := by decide +kernel
theorem dX9_apply_335 : decode cX9_apply 335 = .ok (.invokestatic 76, 3) := by decide +kernel
theorem dX9_apply_338 : decode cX9_apply 338 = .ok (.invokevirtual 169, 3) := by decide +kernel
theorem dX9_apply_341 : decode cX9_apply 341 = .ok (.goto 28, 3) := by decide +kernel
theorem dX9_apply_344 : decode cX9_apply 344 = .ok (.aload_n 0, 1) := by decide +kernel
theorem dX9_apply_345 : decode cX9_apply 345 = .ok (.iload 9, 2) := by decide +kernel
theorem dX9_apply_347 : decode cX9_apply 347 = .ok (.iload 4, 2) := by decide +kernel
theorem dX9_apply_349 : decode cX9_apply 349 = .ok (.isub, 1) := by decide +kernel
theorem dX9_apply_350 : decode cX9_apply 350 = .ok (.iload 5, 2) := by decide +kernel
theorem dX9_apply_352 : decode cX9_apply 352 = .ok (.iadd, 1) := by decide +kernel
theorem dX9_apply_353 : decode cX9_apply 353 = .ok (.invokevirtual 165, 3) := by decide +kernel
theorem dX9_apply_356 : decode cX9_apply 356 = .ok (.goto 13, 3) := by decide +kernel
theorem dX9_apply_359 : decode cX9_apply 359 = .ok (.aload_n 0, 1) := by decide +kernel
theorem dX9_apply_360 : decode cX9_apply 360 = .ok (.iload_n 2, 1) := by decide +kernel
theorem dX9_apply_361 : decode cX9_apply 361 = .ok (.iload 6, 2) := by decide +kernel
theorem dX9_apply_363 : decode cX9_apply 363 = .ok (.iload 7, 2) := by decide +kernel
theorem dX9_apply_365 : decode cX9_apply 365 = .ok (.iload_n 3, 1) := by decide +kernel
theorem dX9_apply_366 : decode cX9_apply 366 = .ok (.invokevirtual 175, 3) := by decide +kernel
theorem dX9_apply_369 : decode cX9_apply 369 = .ok (.aload_n 0, 1) := by decide +kernel
theorem dX9_apply_370 : decode cX9_apply 370 = .ok (.iload_n 3, 1) := by decide +kernel
theorem dX9_apply_371 : decode cX9_apply 371 = .ok (.aload_n 0, 1) := by decide +kernel
theorem dX9_apply_372 : decode cX9_apply 372 = .ok (.getfield 50, 3) := by decide +kernel
theorem dX9_apply_375 : decode cX9_apply 375 = .ok (.sipush 320, 3) := by decide +kernel
theorem dX9_apply_378 : decode cX9_apply 378 = .ok (.iaload, 1) := by decide +kernel
theorem dX9_apply_379 : decode cX9_apply 379 = .ok (.invokevirtual 169, 3) := by decide +kernel
theorem dX9_apply_382 : decode cX9_apply 382 = .ok (.return_, 1) := by decide +kernel
theorem dX9_merge_0 : decode cX9_merge 0 = .ok (.aload_n 0, 1) := by decide +kernel
theorem dX9_merge_1 : decode cX9_merge 1 = .ok (.getfield 50, 3) := by decide +kernel
theorem dX9_merge_4 : decode cX9_merge 4 = .ok (.iload_n 1, 1) := by decide +kernel
theorem dX9_merge_5 : decode cX9_merge 5 = .ok (.iaload, 1) := by decide +kernel
theorem dX9_merge_6 : decode cX9_merge 6 = .ok (.invokestatic 64, 3) := by decide +kernel
theorem dX9_merge_9 : decode cX9_merge 9 = .ok (.iconst 1, 1) := by decide +kernel
theorem dX9_merge_10 : decode cX9_merge 10 = .ok (.isub, 1) := by decide +kernel
theorem dX9_merge_11 : decode cX9_merge 11 = .ok (.istore 5, 2) := by decide +kernel
theorem dX9_merge_13 : decode cX9_merge 13 = .ok (.aload_n 0, 1) := by decide +kernel
theorem dX9_merge_14 : decode cX9_merge 14 = .ok (.getfield 50, 3) := by decide +kernel
theorem dX9_merge_17 : decode cX9_merge 17 = .ok (.iload_n 1, 1) := by decide +kernel
theorem dX9_merge_18 : decode cX9_merge 18 = .ok (.iaload, 1) := by decide +kernel
theorem dX9_merge_19 : decode cX9_merge 19 = .ok (.ldc 63, 2) := by decide +kernel
theorem dX9_merge_21 : decode cX9_merge 21 = .ok (.isub, 1) := by decide +kernel
theorem dX9_merge_22 : decode cX9_merge 22 = .ok (.sipush 1000, 3) := by decide +kernel
theorem dX9_merge_25 : decode cX9_merge 25 = .ok (.irem, 1) := by decide +kernel
theorem dX9_merge_26 : decode cX9_merge 26 = .ok (.istore 6, 2) := by decide +kernel
theorem dX9_merge_28 : decode cX9_merge 28 = .ok (.aload_n 0, 1) := by decide +kernel
theorem dX9_merge_29 : decode cX9_merge 29 = .ok (.getfield 50, 3) := by decide +kernel
theorem dX9_merge_32 : decode cX9_merge 32 = .ok (.iload_n 2, 1) := by decide +kernel
theorem dX9_merge_33 : decode cX9_merge 33 = .ok (.iaload, 1) := by decide +kernel
theorem dX9_merge_34 : decode cX9_merge 34 = .ok (.invokestatic 64, 3) := by decide +kernel
theorem dX9_merge_37 : decode cX9_merge 37 = .ok (.iconst 1, 1) := by decide +kernel
theorem dX9_merge_38 : decode cX9_merge 38 = .ok (.isub, 1) := by decide +kernel
theorem dX9_merge_39 : decode cX9_merge 39 = .ok (.istore 7, 2) := by decide +kernel
theorem dX9_merge_41 : decode cX9_merge 41 = .ok (.aload_n 0, 1) := by decide +kernel
theorem dX9_merge_42 : decode cX9_merge 42 = .ok (.getfield 50, 3) := by decide +kernel
theorem dX9_merge_45 : decode cX9_merge 45 = .ok (.iload_n 2, 1) := by decide +kernel
theorem dX9_merge_46 : decode cX9_merge 46 = .ok (.iaload, 1) := by decide +kernel
theorem dX9_merge_47 : decode cX9_merge 47 = .ok (.ldc 63, 2) := by decide +kernel
theorem dX9_merge_49 : decode cX9_merge 49 = .ok (.isub, 1) := by decide +kernel
theorem dX9_merge_50 : decode cX9_merge 50 = .ok (.sipush 1000, 3) := by decide +kernel
theorem dX9_merge_53 : decode cX9_merge 53 = .ok (.irem, 1) := by decide +kernel
theorem dX9_merge_54 : decode cX9_merge 54 = .ok (.istore 8, 2) := by decide +kernel
theorem dX9_merge_56 : decode cX9_merge 56 = .ok (.iload 8, 2) := by decide +kernel
theorem dX9_merge_58 : decode cX9_merge 58 = .ok (.iload 5, 2) := by decide +kernel
theorem dX9_merge_60 : decode cX9_merge 60 = .ok (.if_icmp .ge 14, 3) := by decide +kernel
theorem dX9_merge_63 : decode cX9_merge 63 = .ok (.iload 7, 2) := by decide +kernel
theorem dX9_merge_65 : decode cX9_merge 65 = .ok (.iload 5, 2) := by decide +kernel
theorem dX9_merge_67 : decode cX9_merge 67 = .ok (.iadd, 1) := by decide +kernel
theorem dX9_merge_68 : decode cX9_merge 68 = .ok (.iload 8, 2) := by decide +kernel
theorem dX9_merge_70 : decode cX9_merge 70 = .ok (.isub, 1) := by decide +kernel
theorem dX9_merge_71 : decode cX9_merge 71 = .ok (.goto 5, 3) := by decide +kernel
theorem dX9_merge_74 : decode cX9_merge 74 = .ok (.iload 7, 2) := by decide +kernel
theorem dX9_merge_76 : decode cX9_merge 76 = .ok (.istore 9, 2) := by decide +kernel
theorem dX9_merge_78 : decode cX9_merge 78 = .ok (.aload_n 0, 1) := by decide +kernel
theorem dX9_merge_79 : decode cX9_merge 79 = .ok (.ldc 63, 2) := by decide +kernel
theorem dX9_merge_81 : decode cX9_merge 81 = .ok (.sipush 1000, 3) := by decide +kernel
theorem dX9_merge_84 : decode cX9_merge 84 = .ok (.iload 9, 2) := by decide +kernel
theorem dX9_merge_86 : decode cX9_merge 86 = .ok (.imul, 1) := by decide +kernel
theorem dX9_merge_87 : decode cX9_merge 87 = .ok (.iadd, 1) := by decide +kernel
theorem dX9_merge_88 : decode cX9_merge 88 = .ok (.iload 8, 2) := by decide +kernel
theorem dX9_merge_90 : decode cX9_merge 90 = .ok (.iload 5, 2) := by decide +kernel
theorem dX9_merge_92 : decode cX9_merge 92 = .ok (.if_icmp .ge 8, 3) := by decide +kernel
theorem dX9_merge_95 : decode cX9_merge 95 = .ok (.iload 6, 2) := by decide +kernel
theorem dX9_merge_97 : decode cX9_merge 97 = .ok (.goto 11, 3) := by decide +kernel
theorem dX9_merge_100 : decode cX9_merge 100 = .ok (.iload 8, 2) := by decide +kernel
theorem dX9_merge_102 : decode cX9_merge 102 = .ok (.iload 5, 2) := by decide +kernel
theorem dX9_merge_104 : decode cX9_merge 104 = .ok (.isub, 1) := by decide +kernel
theorem dX9_merge_105 : decode cX9_merge 105 = .ok (.iload 6, 2) := by decide +kernel
theorem dX9_merge_107 : decode cX9_merge 107 = .ok (.iadd, 1) := by decide +kernel
theorem dX9_merge_108 : decode cX9_merge 108 = .ok (.iadd, 1) := by decide +kernel
theorem dX9_merge_109 : decode cX9_merge 109 = .ok (.invokevirtual 165, 3) := by decide +kernel
theorem dX9_merge_112 : decode cX9_merge 112 = .ok (.aload_n 0, 1) := by decide +kernel
theorem dX9_merge_113 : decode cX9_merge 113 = .ok (.getfield 50, 3) := by decide +kernel
theorem dX9_merge_116 : decode cX9_merge 116 = .ok (.iload_n 2, 1) := by decide +kernel
theorem dX9_merge_117 : decode cX9_merge 117 = .ok (.iconst 1, 1) := by decide +kernel
theorem dX9_merge_118 : decode cX9_merge 118 = .ok (.iadd, 1) := by decide +kernel
theorem dX9_merge_119 : decode cX9_merge 119 = .ok (.invokestatic 76, 3) := by decide +kernel
theorem dX9_merge_122 : decode cX9_merge 122 = .ok (.istore 10, 2) := by decide +kernel
theorem dX9_merge_124 : decode cX9_merge 124 = .ok (.aload_n 0, 1) := by decide +kernel
theorem dX9_merge_125 : decode cX9_merge 125 = .ok (.iload_n 2, 1) := by decide +kernel
theorem dX9_merge_126 : decode cX9_merge 126 = .ok (.iconst 1, 1) := by decide +kernel
theorem dX9_merge_127 : decode cX9_merge 127 = .ok (.iadd, 1) := by decide +kernel
theorem dX9_merge_128 : decode cX9_merge 128 = .ok (.iload 10, 2) := by decide +kernel
theorem dX9_merge_130 : decode cX9_merge 130 = .ok (.invokevirtual 169, 3) := by decide +kernel
theorem dX9_merge_133 : decode cX9_merge 133 = .ok (.iload 10, 2) := by decide +kernel
theorem dX9_merge_135 : decode cX9_merge 135 = .ok (.istore 11, 2) := by decide +kernel
theorem dX9_merge_137 : decode cX9_merge 137 = .ok (.iload 11, 2) := by decide +kernel
theorem dX9_merge_139 : decode cX9_merge 139 = .ok (.iload_n 3, 1) := by decide +kernel
theorem dX9_merge_140 : decode cX9_merge 140 = .ok (.if_icmp .ge 49, 3) := by decide +kernel
theorem dX9_merge_143 : decode cX9_merge 143 = .ok (.aload_n 0, 1) := by decide +kernel
theorem dX9_merge_144 : decode cX9_merge 144 = .ok (.aload_n 0, 1) := by decide +kernel
theorem dX9_merge_145 : decode cX9_merge 145 = .ok (.getfield 50, 3) := by decide +kernel
theorem dX9_merge_148 : decode cX9_merge 148 = .ok (.iload_n 1, 1) := by decide +kernel
theorem dX9_merge_149 : decode cX9_merge 149 = .ok (.iaload, 1) := by decide +kernel
theorem dX9_merge_150 : decode cX9_merge 150 = .ok (.invokevirtual 165, 3) := by decide +kernel
theorem dX9_merge_153 : decode cX9_merge 153 = .ok (.aload_n 0, 1) := by decide +kernel
theorem dX9_merge_154 : decode cX9_merge 154 = .ok (.iload 11, 2) := by decide +kernel
theorem dX9_merge_156 : decode cX9_merge 156 = .ok (.aload_n 0, 1) := by decide +kernel
theorem dX9_merge_157 : decode cX9_merge 157 = .ok (.getfield 50, 3) := by decide +kernel
theorem dX9_merge_160 : decode cX9_merge 160 = .ok (.iload 11, 2) := by decide +kernel
theorem dX9_merge_162 : decode cX9_merge 162 = .ok (.invokestatic 76, 3) := by decide +kernel
theorem dX9_merge_165 : decode cX9_merge 165 = .ok (.invokevirtual 169, 3) := by decide +kernel
theorem dX9_merge_168 : decode cX9_merge 168 = .ok (.aload_n 0, 1) := by decide +kernel
theorem dX9_merge_169 : decode cX9_merge 169 = .ok (.iload_n 3, 1) := by decide +kernel
theorem dX9_merge_170 : decode cX9_merge 170 = .ok (.iload 4, 2) := by decide +kernel
theorem dX9_merge_172 : decode cX9_merge 172 = .ok (.invokevirtual 169, 3) := by decide +kernel
theorem dX9_merge_175 : decode cX9_merge 175 = .ok (.aload_n 0, 1) := by decide +kernel
theorem dX9_merge_176 : decode cX9_merge 176 = .ok (.getfield 50, 3) := by decide +kernel
theorem dX9_merge_179 : decode cX9_merge 179 = .ok (.iload 11, 2) := by decide +kernel
theorem dX9_merge_181 : decode cX9_merge 181 = .ok (.invokestatic 76, 3) := by decide +kernel
theorem dX9_merge_184 : decode cX9_merge 184 = .ok (.istore 11, 2) := by decide +kernel
theorem dX9_merge_186 : decode cX9_merge 186 = .ok (.goto (-49), 3) := by decide +kernel
theorem dX9_merge_189 : decode cX9_merge 189 = .ok (.iload_n 3, 1) := by decide +kernel
theorem dX9_merge_190 : decode cX9_merge 190 = .ok (.istore 11, 2) := by decide +kernel
theorem dX9_merge_192 : decode cX9_merge 192 = .ok (.iconst 0, 1) := by decide +kernel
theorem dX9_merge_193 : decode cX9_merge 193 = .ok (.istore 12, 2) := by decide +kernel
theorem dX9_merge_195 : decode cX9_merge 195 = .ok (.iload 12, 2) := by decide +kernel
theorem dX9_merge_197 : decode cX9_merge 197 = .ok (.iload 8, 2) := by decide +kernel
theorem dX9_merge_199 : decode cX9_merge 199 = .ok (.if_icmp .ge 27, 3) := by decide +kernel
theorem dX9_merge_202 : decode cX9_merge 202 = .ok (.iload 11, 2) := by decide +kernel
theorem dX9_merge_204 : decode cX9_merge 204 = .ok (.iload 4, 2) := by decide +kernel
theorem dX9_merge_206 : decode cX9_merge 206 = .ok (.if_icmp .ge 20, 3) := by decide +kernel
theorem dX9_merge_209 : decode cX9_merge 209 = .ok (.aload_n 0, 1) := by decide +kernel
theorem dX9_merge_210 : decode cX9_merge 210 = .ok (.getfield 50, 3) := by decide +kernel
theorem dX9_merge_213 : decode cX9_merge 213 = .ok (.iload 11, 2) := by decide +kernel
theorem dX9_merge_215 : decode cX9_merge 215 = .ok (.invokestatic 76, 3) := by decide +kernel
theorem dX9_merge_218 : decode cX9_merge 218 = .ok (.istore 11, 2) := by decide +kernel
theorem dX9_merge_220 : decode cX9_merge 220 = .ok (.iinc 12 1, 3) := by decide +kernel
theorem dX9_merge_223 : decode cX9_merge 223 = .ok (.goto (-28), 3) := by decide +kernel
theorem dX9_merge_226 : decode cX9_merge 226 = .ok (.aload_n 0, 1) := by decide +kernel
theorem dX9_merge_227 : decode cX9_merge 227 = .ok (.iload 11, 2) := by decide +kernel
theorem dX9_merge_229 : decode cX9_merge 229 = .ok (.iload 4, 2) := by decide +kernel
theorem dX9_merge_231 : decode cX9_merge 231 = .ok (.invokevirtual 169, 3) := by decide +kernel
theorem dX9_merge_234 : decode cX9_merge 234 = .ok (.return_, 1) := by decide +kernel
theorem dX9_machine_0 : decode cX9_machine 0 = .ok (.iconst 0, 1) := by decide +kernel
theorem dX9_machine_1 : decode cX9_machine 1 = .ok (.istore_n 2, 1) := by decide +kernel
theorem dX9_machine_2 : decode cX9_machine 2 = .ok (.iload_n 2, 1) := by decide +kernel
theorem dX9_machine_3 : decode cX9_machine 3 = .ok (.iconst 5, 1) := by decide +kernel
theorem dX9_machine_4 : decode cX9_machine 4 = .ok (.if_icmp .ge 16, 3) := by decide +kernel
theorem dX9_machine_7 : decode cX9_machine 7 = .ok (.aload_n 0, 1) := by decide +kernel
theorem dX9_machine_8 : decode cX9_machine 8 = .ok (.getfield 56, 3) := by decide +kernel
theorem dX9_machine_11 : decode cX9_machine 11 = .ok (.iload_n 2, 1) := by decide +kernel
theorem dX9_machine_12 : decode cX9_machine 12 = .ok (.iconst 0, 1) := by decide +kernel
theorem dX9_machine_13 : decode cX9_machine 13 = .ok (.iastore, 1) := by decide +kernel
theorem dX9_machine_14 : decode cX9_machine 14 = .ok (.iinc 2 1, 3) := by decide +kernel
theorem dX9_machine_17 : decode cX9_machine 17 = .ok (.goto (-15), 3) := by decide +kernel
theorem dX9_machine_20 : decode cX9_machine 20 = .ok (.iconst 0, 1) := by decide +kernel
theorem dX9_machine_21 : decode cX9_machine 21 = .ok (.istore_n 2, 1) := by decide +kernel
theorem dX9_machine_22 : decode cX9_machine 22 = .ok (.iload_n 2, 1) := by decide +kernel
theorem dX9_machine_23 : decode cX9_machine 23 = .ok (.aload_n 0, 1) := by decide +kernel
theorem dX9_machine_24 : decode cX9_machine 24 = .ok (.getfield 13, 3) := by decide +kernel
theorem dX9_machine_27 : decode cX9_machine 27 = .ok (.sipush 200, 3) := by decide +kernel
theorem dX9_machine_30 : decode cX9_machine 30 = .ok (.iaload, 1) := by decide +kernel
theorem dX9_machine_31 : decode cX9_machine 31 = .ok (.if_icmp .ge 21, 3) := by decide +kernel
theorem dX9_machine_34 : decode cX9_machine 34 = .ok (.aload_n 0, 1) := by decide +kernel
theorem dX9_machine_35 : decode cX9_machine 35 = .ok (.getfield 50, 3) := by decide +kernel
theorem dX9_machine_38 : decode cX9_machine 38 = .ok (.iload_n 2, 1) := by decide +kernel
theorem dX9_machine_39 : decode cX9_machine 39 = .ok (.aload_n 0, 1) := by decide +kernel
theorem dX9_machine_40 : decode cX9_machine 40 = .ok (.getfield 13, 3) := by decide +kernel
theorem dX9_machine_43 : decode cX9_machine 43 = .ok (.iload_n 2, 1) := by decide +kernel
theorem dX9_machine_44 : decode cX9_machine 44 = .ok (.iaload, 1) := by decide +kernel
theorem dX9_machine_45 : decode cX9_machine 45 = .ok (.iastore, 1) := by decide +kernel
theorem dX9_machine_46 : decode cX9_machine 46 = .ok (.iinc 2 1, 3) := by decide +kernel
theorem dX9_machine_49 : decode cX9_machine 49 = .ok (.goto (-27), 3) := by decide +kernel
theorem dX9_machine_52 : decode cX9_machine 52 = .ok (.aload_n 0, 1) := by decide +kernel
theorem dX9_machine_53 : decode cX9_machine 53 = .ok (.getfield 50, 3) := by decide +kernel
theorem dX9_machine_56 : decode cX9_machine 56 = .ok (.sipush 320, 3) := by decide +kernel
theorem dX9_machine_59 : decode cX9_machine 59 = .ok (.aload_n 0, 1) := by decide +kernel
theorem dX9_machine_60 : decode cX9_machine 60 = .ok (.getfield 13, 3) := by decide +kernel
theorem dX9_machine_63 : decode cX9_machine 63 = .ok (.sipush 200, 3) := by decide +kernel
theorem dX9_machine_66 : decode cX9_machine 66 = .ok (.iaload, 1) := by decide +kernel
theorem dX9_machine_67 : decode cX9_machine 67 = .ok (.iastore, 1) := by decide +kernel
theorem dX9_machine_68 : decode cX9_machine 68 = .ok (.aload_n 0, 1) := by decide +kernel
theorem dX9_machine_69 : decode cX9_machine 69 = .ok (.aload_n 0, 1) := by decide +kernel
theorem dX9_machine_70 : decode cX9_machine 70 = .ok (.getfield 13, 3) := by decide +kernel
theorem dX9_machine_73 : decode cX9_machine 73 = .ok (.sipush 200, 3) := by decide +kernel
theorem dX9_machine_76 : decode cX9_machine 76 = .ok (.iaload, 1) := by decide +kernel
theorem dX9_machine_77 : decode cX9_machine 77 = .ok (.putfield 179, 3) := by decide +kernel
theorem dX9_machine_80 : decode cX9_machine 80 = .ok (.aload_n 0, 1) := by decide +kernel
theorem dX9_machine_81 : decode cX9_machine 81 = .ok (.iconst 0, 1) := by decide +kernel
theorem dX9_machine_82 : decode cX9_machine 82 = .ok (.putfield 161, 3) := by decide +kernel
theorem dX9_machine_85 : decode cX9_machine 85 = .ok (.iconst 0, 1) := by decide +kernel
theorem dX9_machine_86 : decode cX9_machine 86 = .ok (.istore_n 2, 1) := by decide +kernel
theorem dX9_machine_87 : decode cX9_machine 87 = .ok (.iload_n 2, 1) := by decide +kernel
theorem dX9_machine_88 : decode cX9_machine 88 = .ok (.sipush 601, 3) := by decide +kernel
theorem dX9_machine_91 : decode cX9_machine 91 = .ok (.if_icmp .ge 154, 3) := by decide +kernel
theorem dX9_machine_94 : decode cX9_machine 94 = .ok (.iconst 0, 1) := by decide +kernel
theorem dX9_machine_95 : decode cX9_machine 95 = .ok (.istore_n 3, 1) := by decide +kernel
theorem dX9_machine_96 : decode cX9_machine 96 = .ok (.iload_n 3, 1) := by decide +kernel
theorem dX9_machine_97 : decode cX9_machine 97 = .ok (.aload_n 0, 1) := by decide +kernel
theorem dX9_machine_98 : decode cX9_machine 98 = .ok (.getfield 50, 3) := by decide +kernel
theorem dX9_machine_101 : decode cX9_machine 101 = .ok (.sipush 320, 3) := by decide +kernel
theorem dX9_machine_104 : decode cX9_machine 104 = .ok (.iaload, 1) := by decide +kernel
theorem dX9_machine_105 : decode cX9_machine 105 = .ok (.if_icmp .ge 20, 3) := by decide +kernel
theorem dX9_machine_108 : decode cX9_machine 108 = .ok (.aload_n 0, 1) := by decide +kernel
theorem dX9_machine_109 : decode cX9_machine 109 = .ok (.iload_n 3, 1) := by decide +kernel
theorem dX9_machine_110 : decode cX9_machine 110 = .ok (.iload_n 1, 1) := by decide +kernel
theorem dX9_machine_111 : decode cX9_machine 111 = .ok (.invokevirtual 182, 3) := by decide +kernel
theorem dX9_machine_114 : decode cX9_machine 114 = .ok (.bipush (-9), 2) := by decide +kernel
theorem dX9_machine_116 : decode cX9_machine 116 = .ok (.if_icmp .ne 9, 3) := by decide +kernel
theorem dX9_machine_119 : decode cX9_machine 119 = .ok (.iinc 3 1, 3) := by decide +kernel
theorem dX9_machine_122 : decode cX9_machine 122 = .ok (.goto (-26), 3) := by decide +kernel
theorem dX9_machine_125 : decode cX9_machine 125 = .ok (.iload_n 3, 1) := by decide +kernel
theorem dX9_machine_126 : decode cX9_machine 126 = .ok (.aload_n 0, 1) := by decide +kernel
theorem dX9_machine_127 : decode cX9_machine 127 = .ok (.getfield 50, 3) := by decide +kernel
theorem dX9_machine_130 : decode cX9_machine 130 = .ok (.sipush 320, 3) := by decide +kernel
theorem dX9_machine_133 : decode cX9_machine 133 = .ok (.iaload, 1) := by decide +kernel
theorem dX9_machine_134 : decode cX9_machine 134 = .ok (.if_icmp .ne 5, 3) := by decide +kernel
theorem dX9_machine_137 : decode cX9_machine 137 = .ok (.iconst 1, 1) := by decide +kernel
theorem dX9_machine_138 : decode cX9_machine 138 = .ok (.ireturn, 1) := by decide +kernel
theorem dX9_machine_139 : decode cX9_machine 139 = .ok (.aload_n 0, 1) := by decide +kernel
theorem dX9_machine_140 : decode cX9_machine 140 = .ok (.iload_n 3, 1) := by decide +kernel
theorem dX9_machine_141 : decode cX9_machine 141 = .ok (.iload_n 1, 1) := by decide +kernel
theorem dX9_machine_142 : decode cX9_machine 142 = .ok (.invokevirtual 182, 3) := by decide +kernel
theorem dX9_machine_145 : decode cX9_machine 145 = .ok (.istore 4, 2) := by decide +kernel
theorem dX9_machine_147 : decode cX9_machine 147 = .ok (.aload_n 0, 1) := by decide +kernel
theorem dX9_machine_148 : decode cX9_machine 148 = .ok (.iload 4, 2) := by decide +kernel
theorem dX9_machine_150 : decode cX9_machine 150 = .ok (.iload_n 3, 1) := by decide +kernel
theorem dX9_machine_151 : decode cX9_machine 151 = .ok (.invokevirtual 186, 3) := by decide +kernel
theorem dX9_machine_154 : decode cX9_machine 154 = .ok (.aload_n 0, 1) := by decide +kernel
theorem dX9_machine_155 : decode cX9_machine 155 = .ok (.getfield 161, 3) := by decide +kernel
theorem dX9_machine_158 : decode cX9_machine 158 = .ok (.ifCond .eq 5, 3) := by decide +kernel
theorem dX9_machine_161 : decode cX9_machine 161 = .ok (.iconst 0, 1) := by decide +kernel
theorem dX9_machine_162 : decode cX9_machine 162 = .ok (.ireturn, 1) := by decide +kernel
theorem dX9_machine_163 : decode cX9_machine 163 = .ok (.aload_n 0, 1) := by decide +kernel
theorem dX9_machine_164 : decode cX9_machine 164 = .ok (.getfield 56, 3) := by decide +kernel
theorem dX9_machine_167 : decode cX9_machine 167 = .ok (.iload 4, 2) := by decide +kernel
theorem dX9_machine_169 : decode cX9_machine 169 = .ok (.dup2, 1) := by decide +kernel
theorem dX9_machine_170 : decode cX9_machine 170 = .ok (.iaload, 1) := by decide +kernel
theorem dX9_machine_171 : decode cX9_machine 171 = .ok (.iconst 1, 1) := by decide +kernel
theorem dX9_machine_172 : decode cX9_machine 172 = .ok (.iadd, 1) := by decide +kernel
theorem dX9_machine_173 : decode cX9_machine 173 = .ok (.iastore, 1) := by decide +kernel
theorem dX9_machine_174 : decode cX9_machine 174 = .ok (.iconst 0, 1) := by decide +kernel
theorem dX9_machine_175 : decode cX9_machine 175 = .ok (.istore 5, 2) := by decide +kernel
theorem dX9_machine_177 : decode cX9_machine 177 = .ok (.iload 5, 2) := by decide +kernel
theorem dX9_machine_179 : decode cX9_machine 179 = .ok (.sipush 321, 3) := by decide +kernel
theorem dX9_machine_182 : decode cX9_machine 182 = .ok (.if_icmp .ge 23, 3) := by decide +kernel
theorem dX9_machine_185 : decode cX9_machine 185 = .ok (.aload_n 0, 1) := by decide +kernel
theorem dX9_machine_186 : decode cX9_machine 186 = .ok (.getfield 50, 3) := by decide +kernel
theorem dX9_machine_189 : decode cX9_machine 189 = .ok (.iload 5, 2) := by decide +kernel
theorem dX9_machine_191 : decode cX9_machine 191 = .ok (.aload_n 0, 1) := by decide +kernel
theorem dX9_machine_192 : decode cX9_machine 192 = .ok (.getfield 53, 3) := by decide +kernel
theorem dX9_machine_195 : decode cX9_machine 195 = .ok (.iload 5, 2) := by decide +kernel
theorem dX9_machine_197 : decode cX9_machine 197 = .ok (.iaload, 1) := by decide +kernel
theorem dX9_machine_198 : decode cX9_machine 198 = .ok (.iastore, 1) := by decide +kernel
theorem dX9_machine_199 : decode cX9_machine 199 = .ok (.iinc 5 1, 3) := by decide +kernel
theorem dX9_machine_202 : decode cX9_machine 202 = .ok (.goto (-25), 3) := by decide +kernel
theorem dX9_machine_205 : decode cX9_machine 205 = .ok (.aload_n 0, 1) := by decide +kernel
theorem dX9_machine_206 : decode cX9_machine 206 = .ok (.aload_n 0, 1) := by decide +kernel
theorem dX9_machine_207 : decode cX9_machine 207 = .ok (.getfield 50, 3) := by decide +kernel
theorem dX9_machine_210 : decode cX9_machine 210 = .ok (.sipush 320, 3) := by decide +kernel
theorem dX9_machine_213 : decode cX9_machine 213 = .ok (.iaload, 1) := by decide +kernel
theorem dX9_machine_214 : decode cX9_machine 214 = .ok (.aload_n 0, 1) := by decide +kernel
theorem dX9_machine_215 : decode cX9_machine 215 = .ok (.getfield 179, 3) := by decide +kernel
theorem dX9_machine_218 : decode cX9_machine 218 = .ok (.if_icmp .le 14, 3) := by decide +kernel
theorem dX9_machine_221 : decode cX9_machine 221 = .ok (.aload_n 0, 1) := by decide +kernel
theorem dX9_machine_222 : decode cX9_machine 222 = .ok (.getfield 50, 3) := by decide +kernel
theorem dX9_machine_225 : decode cX9_machine 225 = .ok (.sipush 320, 3) := by decide +kernel
theorem dX9_machine_228 : decode cX9_machine 228 = .ok (.iaload, 1) := by decide +kernel
theorem dX9_machine_229 : decode cX9_machine 229 = .ok (.goto 7, 3) := by decide +kernel
theorem dX9_machine_232 : decode cX9_machine 232 = .ok (.aload_n 0, 1) := by decide +kernel
theorem dX9_machine_233 : decode cX9_machine 233 = .ok (.getfield 179, 3) := by decide +kernel
theorem dX9_machine_236 : decode cX9_machine 236 = .ok (.putfield 179, 3) := by decide +kernel
theorem dX9_machine_239 : decode cX9_machine 239 = .ok (.iinc 2 1, 3) := by decide +kernel
theorem dX9_machine_242 : decode cX9_machine 242 = .ok (.goto (-155), 3) := by decide +kernel
theorem dX9_machine_245 : decode cX9_machine 245 = .ok (.iconst 0, 1) := by decide +kernel
theorem dX9_machine_246 : decode cX9_machine 246 = .ok (.ireturn, 1) := by decide +kernel
theorem dX9_machineSteps_0 : decode cX9_machineSteps 0 = .ok (.aload_n 0, 1) := by decide +kernel
theorem dX9_machineSteps_1 : decode cX9_machineSteps 1 = .ok (.iconst 0, 1) := by decide +kernel
theorem dX9_machineSteps_2 : decode cX9_machineSteps 2 = .ok (.putfield 59, 3) := by decide +kernel
theorem dX9_machineSteps_5 : decode cX9_machineSteps 5 = .ok (.iload_n 1, 1) := by decide +kernel
theorem dX9_machineSteps_6 : decode cX9_machineSteps 6 = .ok (.i2l, 1) := by decide +kernel
theorem dX9_machineSteps_7 : decode cX9_machineSteps 7 = .ok (.lconst 0, 1) := by decide +kernel
theorem dX9_machineSteps_8 : decode cX9_machineSteps 8 = .ok (.ldc2_w 189, 3) := by decide +kernel
theorem dX9_machineSteps_11 : decode cX9_machineSteps 11 = .ok (.invokestatic 114, 3) := by decide +kernel
theorem dX9_machineSteps_14 : decode cX9_machineSteps 14 = .ok (.ifCond .eq 13, 3) := by decide +kernel
theorem dX9_machineSteps_17 : decode cX9_machineSteps 17 = .ok (.iload_n 2, 1) := by decide +kernel
theorem dX9_machineSteps_18 : decode cX9_machineSteps 18 = .ok (.i2l, 1) := by decide +kernel
theorem dX9_machineSteps_19 : decode cX9_machineSteps 19 = .ok (.lconst 0, 1) := by decide +kernel
theorem dX9_machineSteps_20 : decode cX9_machineSteps 20 = .ok (.lconst 1, 1) := by decide +kernel
theorem dX9_machineSteps_21 : decode cX9_machineSteps 21 = .ok (.invokestatic 114, 3) := by decide +kernel
theorem dX9_machineSteps_24 : decode cX9_machineSteps 24 = .ok (.ifCond .ne 6, 3) := by decide +kernel
theorem dX9_machineSteps_27 : decode cX9_machineSteps 27 = .ok (.bipush (-2), 2) := by decide +kernel
theorem dX9_machineSteps_29 : decode cX9_machineSteps 29 = .ok (.ireturn, 1) := by decide +kernel
theorem dX9_machineSteps_30 : decode cX9_machineSteps 30 = .ok (.aload_n 0, 1) := by decide +kernel
theorem dX9_machineSteps_31 : decode cX9_machineSteps 31 = .ok (.iload_n 2, 1) := by decide +kernel
theorem dX9_machineSteps_32 : decode cX9_machineSteps 32 = .ok (.iconst 1, 1) := by decide +kernel
theorem dX9_machineSteps_33 : decode cX9_machineSteps 33 = .ok (.if_icmp .ne 7, 3) := by decide +kernel
theorem dX9_machineSteps_36 : decode cX9_machineSteps 36 = .ok (.iconst 1, 1) := by decide +kernel
theorem dX9_machineSteps_37 : decode cX9_machineSteps 37 = .ok (.goto 4, 3) := by decide +kernel
theorem dX9_machineSteps_40 : decode cX9_machineSteps 40 = .ok (.iconst 0, 1) := by decide +kernel
theorem dX9_machineSteps_41 : decode cX9_machineSteps 41 = .ok (.invokevirtual 191, 3) := by decide +kernel
theorem dX9_machineSteps_44 : decode cX9_machineSteps 44 = .ok (.ifCond .eq 12, 3) := by decide +kernel
theorem dX9_machineSteps_47 : decode cX9_machineSteps 47 = .ok (.aload_n 0, 1) := by decide +kernel
theorem dX9_machineSteps_48 : decode cX9_machineSteps 48 = .ok (.getfield 56, 3) := by decide +kernel
theorem dX9_machineSteps_51 : decode cX9_machineSteps 51 = .ok (.iload_n 1, 1) := by decide +kernel
theorem dX9_machineSteps_52 : decode cX9_machineSteps 52 = .ok (.iaload, 1) := by decide +kernel
theorem dX9_machineSteps_53 : decode cX9_machineSteps 53 = .ok (.goto 5, 3) := by decide +kernel
theorem dX9_machineSteps_56 : decode cX9_machineSteps 56 = .ok (.bipush (-9), 2) := by decide +kernel
theorem dX9_machineSteps_58 : decode cX9_machineSteps 58 = .ok (.ireturn, 1) := by decide +kernel
theorem dX9_machinePeak_0 : decode cX9_machinePeak 0 = .ok (.aload_n 0, 1) := by decide +kernel
theorem dX9_machinePeak_1 : decode cX9_machinePeak 1 = .ok (.iconst 0, 1) := by decide +kernel
theorem dX9_machinePeak_2 : decode cX9_machinePeak 2 = .ok (.putfield 59, 3) := by decide +kernel
theorem dX9_machinePeak_5 : decode cX9_machinePeak 5 = .ok (.iload_n 1, 1) := by decide +kernel
theorem dX9_machinePeak_6 : decode cX9_machinePeak 6 = .ok (.i2l, 1) := by decide +kernel
theorem dX9_machinePeak_7 : decode cX9_machinePeak 7 = .ok (.lconst 0, 1) := by decide +kernel
theorem dX9_machinePeak_8 : decode cX9_machinePeak 8 = .ok (.lconst 1, 1) := by decide +kernel
theorem dX9_machinePeak_9 : decode cX9_machinePeak 9 = .ok (.invokestatic 114, 3) := by decide +kernel
theorem dX9_machinePeak_12 : decode cX9_machinePeak 12 = .ok (.ifCond .ne 6, 3) := by decide +kernel
theorem dX9_machinePeak_15 : decode cX9_machinePeak 15 = .ok (.bipush (-2), 2) := by decide +kernel
theorem dX9_machinePeak_17 : decode cX9_machinePeak 17 = .ok (.ireturn, 1) := by decide +kernel
theorem dX9_machinePeak_18 : decode cX9_machinePeak 18 = .ok (.aload_n 0, 1) := by decide +kernel
theorem dX9_machinePeak_19 : decode cX9_machinePeak 19 = .ok (.iload_n 1, 1) := by decide +kernel
theorem dX9_machinePeak_20 : decode cX9_machinePeak 20 = .ok (.iconst 1, 1) := by decide +kernel
theorem dX9_machinePeak_21 : decode cX9_machinePeak 21 = .ok (.if_icmp .ne 7, 3) := by decide +kernel
theorem dX9_machinePeak_24 : decode cX9_machinePeak 24 = .ok (.iconst 1, 1) := by decide +kernel
theorem dX9_machinePeak_25 : decode cX9_machinePeak 25 = .ok (.goto 4, 3) := by decide +kernel
theorem dX9_machinePeak_28 : decode cX9_machinePeak 28 = .ok (.iconst 0, 1) := by decide +kernel
theorem dX9_machinePeak_29 : decode cX9_machinePeak 29 = .ok (.invokevirtual 191, 3) := by decide +kernel
theorem dX9_machinePeak_32 : decode cX9_machinePeak 32 = .ok (.ifCond .eq 10, 3) := by decide +kernel
theorem dX9_machinePeak_35 : decode cX9_machinePeak 35 = .ok (.aload_n 0, 1) := by decide +kernel
theorem dX9_machinePeak_36 : decode cX9_machinePeak 36 = .ok (.getfield 179, 3) := by decide +kernel
theorem dX9_machinePeak_39 : decode cX9_machinePeak 39 = .ok (.goto 5, 3) := by decide +kernel
theorem dX9_machinePeak_42 : decode cX9_machinePeak 42 = .ok (.bipush (-9), 2) := by decide +kernel
theorem dX9_machinePeak_44 : decode cX9_machinePeak 44 = .ok (.ireturn, 1) := by decide +kernel
theorem dX9_command_0 : decode cX9_command 0 = .ok (.bipush 10, 2) := by decide +kernel
theorem dX9_command_2 : decode cX9_command 2 = .ok (.iload_n 2, 1) := by decide +kernel
theorem dX9_command_3 : decode cX9_command 3 = .ok (.imul, 1) := by decide +kernel
theorem dX9_command_4 : decode cX9_command 4 = .ok (.iload_n 3, 1) := by decide +kernel
theorem dX9_command_5 : decode cX9_command 5 = .ok (.iadd, 1) := by decide +kernel
theorem dX9_command_6 : decode cX9_command 6 = .ok (.istore 4, 2) := by decide +kernel
theorem dX9_command_8 : decode cX9_command 8 = .ok (.iload_n 1, 1) := by decide +kernel
theorem dX9_command_9 : decode cX9_command 9 = .ok (.tableswitch 224 1 5 #[35, 105, 124, 142, 179], 35) := by decide +kernel
theorem dX9_command_44 : decode cX9_command 44 = .ok (.iload_n 2, 1) := by decide +kernel
theorem dX9_command_45 : decode cX9_command 45 = .ok (.ifCond .ne 19, 3) := by decide +kernel
theorem dX9_command_48 : decode cX9_command 48 = .ok (.iload_n 3, 1) := by decide +kernel
theorem dX9_command_49 : decode cX9_command 49 = .ok (.iconst 4, 1) := by decide +kernel
theorem dX9_command_50 : decode cX9_command 50 = .ok (.if_icmp .ge 14, 3) := by decide +kernel
theorem dX9_command_53 : decode cX9_command 53 = .ok (.aload_n 0, 1) := by decide +kernel
theorem dX9_command_54 : decode cX9_command 54 = .ok (.getfield 16, 3) := by decide +kernel
theorem dX9_command_57 : decode cX9_command 57 = .ok (.iload_n 3, 1) := by decide +kernel
theorem dX9_command_58 : decode cX9_command 58 = .ok (.invokestatic 94, 3) := by decide +kernel
theorem dX9_command_61 : decode cX9_command 61 = .ok (.goto 5, 3) := by decide +kernel
theorem dX9_command_64 : decode cX9_command 64 = .ok (.bipush (-9), 2) := by decide +kernel
theorem dX9_command_66 : decode cX9_command 66 = .ok (.istore 5, 2) := by decide +kernel
theorem dX9_command_68 : decode cX9_command 68 = .ok (.iload 5, 2) := by decide +kernel
theorem dX9_command_70 : decode cX9_command 70 = .ok (.bipush (-9), 2) := by decide +kernel
theorem dX9_command_72 : decode cX9_command 72 = .ok (.if_icmp .eq 20, 3) := by decide +kernel
theorem dX9_command_75 : decode cX9_command 75 = .ok (.aload_n 0, 1) := by decide +kernel
theorem dX9_command_76 : decode cX9_command 76 = .ok (.aload_n 0, 1) := by decide +kernel
theorem dX9_command_77 : decode cX9_command 77 = .ok (.getfield 16, 3) := by decide +kernel
theorem dX9_command_80 : decode cX9_command 80 = .ok (.iload 5, 2) := by decide +kernel
theorem dX9_command_82 : decode cX9_command 82 = .ok (.invokevirtual 97, 3) := by decide +kernel
theorem dX9_command_85 : decode cX9_command 85 = .ok (.ifCond .eq 7, 3) := by decide +kernel
theorem dX9_command_88 : decode cX9_command 88 = .ok (.iconst 1, 1) := by decide +kernel
theorem dX9_command_89 : decode cX9_command 89 = .ok (.goto 4, 3) := by decide +kernel
theorem dX9_command_92 : decode cX9_command 92 = .ok (.iconst 0, 1) := by decide +kernel
theorem dX9_command_93 : decode cX9_command 93 = .ok (.istore 6, 2) := by decide +kernel
theorem dX9_command_95 : decode cX9_command 95 = .ok (.iload 6, 2) := by decide +kernel
theorem dX9_command_97 : decode cX9_command 97 = .ok (.ifCond .eq 14, 3) := by decide +kernel
theorem dX9_command_100 : decode cX9_command 100 = .ok (.aload_n 0, 1) := by decide +kernel
theorem dX9_command_101 : decode cX9_command 101 = .ok (.getfield 22, 3) := by decide +kernel
theorem dX9_command_104 : decode cX9_command 104 = .ok (.aload_n 0, 1) := by decide +kernel
theorem dX9_command_105 : decode cX9_command 105 = .ok (.getfield 16, 3) := by decide +kernel
theorem dX9_command_108 : decode cX9_command 108 = .ok (.invokestatic 100, 3) := by decide +kernel
theorem dX9_command_111 : decode cX9_command 111 = .ok (.iload 6, 2) := by decide +kernel
theorem dX9_command_113 : decode cX9_command 113 = .ok (.ireturn, 1) := by decide +kernel
theorem dX9_command_114 : decode cX9_command 114 = .ok (.aload_n 0, 1) := by decide +kernel
theorem dX9_command_115 : decode cX9_command 115 = .ok (.getfield 16, 3) := by decide +kernel
theorem dX9_command_118 : decode cX9_command 118 = .ok (.sipush 200, 3) := by decide +kernel
theorem dX9_command_121 : decode cX9_command 121 = .ok (.iaload, 1) := by decide +kernel
theorem dX9_command_122 : decode cX9_command 122 = .ok (.iload 4, 2) := by decide +kernel
theorem dX9_command_124 : decode cX9_command 124 = .ok (.if_icmp .ne 7, 3) := by decide +kernel
theorem dX9_command_127 : decode cX9_command 127 = .ok (.iconst 1, 1) := by decide +kernel
theorem dX9_command_128 : decode cX9_command 128 = .ok (.goto 4, 3) := by decide +kernel
theorem dX9_command_131 : decode cX9_command 131 = .ok (.iconst 0, 1) := by decide +kernel
theorem dX9_command_132 : decode cX9_command 132 = .ok (.ireturn, 1) := by decide +kernel
theorem dX9_command_133 : decode cX9_command 133 = .ok (.aload_n 0, 1) := by decide +kernel
theorem dX9_command_134 : decode cX9_command 134 = .ok (.getfield 16, 3) := by decide +kernel
theorem dX9_command_137 : decode cX9_command 137 = .ok (.invokestatic 108, 3) := by decide +kernel
theorem dX9_command_140 : decode cX9_command 140 = .ok (.iload 4, 2) := by decide +kernel
theorem dX9_command_142 : decode cX9_command 142 = .ok (.if_icmp .ne 7, 3) := by decide +kernel
theorem dX9_command_145 : decode cX9_command 145 = .ok (.iconst 1, 1) := by decide +kernel
theorem dX9_command_146 : decode cX9_command 146 = .ok (.goto 4, 3) := by decide +kernel
theorem dX9_command_149 : decode cX9_command 149 = .ok (.iconst 0, 1) := by decide +kernel
theorem dX9_command_150 : decode cX9_command 150 = .ok (.ireturn, 1) := by decide +kernel
theorem dX9_command_151 : decode cX9_command 151 = .ok (.aload_n 0, 1) := by decide +kernel
theorem dX9_command_152 : decode cX9_command 152 = .ok (.getfield 16, 3) := by decide +kernel
theorem dX9_command_155 : decode cX9_command 155 = .ok (.aload_n 0, 1) := by decide +kernel
theorem dX9_command_156 : decode cX9_command 156 = .ok (.getfield 19, 3) := by decide +kernel
theorem dX9_command_159 : decode cX9_command 159 = .ok (.invokestatic 100, 3) := by decide +kernel
theorem dX9_command_162 : decode cX9_command 162 = .ok (.iload_n 2, 1) := by decide +kernel
theorem dX9_command_163 : decode cX9_command 163 = .ok (.iconst 4, 1) := by decide +kernel
theorem dX9_command_164 : decode cX9_command 164 = .ok (.if_icmp .ge 22, 3) := by decide +kernel
theorem dX9_command_167 : decode cX9_command 167 = .ok (.aload_n 0, 1) := by decide +kernel
theorem dX9_command_168 : decode cX9_command 168 = .ok (.aload_n 0, 1) := by decide +kernel
theorem dX9_command_169 : decode cX9_command 169 = .ok (.getfield 19, 3) := by decide +kernel
theorem dX9_command_172 : decode cX9_command 172 = .ok (.iload_n 2, 1) := by decide +kernel
theorem dX9_command_173 : decode cX9_command 173 = .ok (.bipush 9, 2) := by decide +kernel
theorem dX9_command_175 : decode cX9_command 175 = .ok (.invokevirtual 104, 3) := by decide +kernel
theorem dX9_command_178 : decode cX9_command 178 = .ok (.iload_n 3, 1) := by decide +kernel
theorem dX9_command_179 : decode cX9_command 179 = .ok (.if_icmp .ne 7, 3) := by decide +kernel
theorem dX9_command_182 : decode cX9_command 182 = .ok (.iconst 1, 1) := by decide +kernel
theorem dX9_command_183 : decode cX9_command 183 = .ok (.goto 4, 3) := by decide +kernel
theorem dX9_command_186 : decode cX9_command 186 = .ok (.iconst 0, 1) := by decide +kernel
theorem dX9_command_187 : decode cX9_command 187 = .ok (.ireturn, 1) := by decide +kernel
theorem dX9_command_188 : decode cX9_command 188 = .ok (.iload 4, 2) := by decide +kernel
theorem dX9_command_190 : decode cX9_command 190 = .ok (.ifCond .ne 21, 3) := by decide +kernel
theorem dX9_command_193 : decode cX9_command 193 = .ok (.aload_n 0, 1) := by decide +kernel
theorem dX9_command_194 : decode cX9_command 194 = .ok (.sipush 1001, 3) := by decide +kernel
theorem dX9_command_197 : decode cX9_command 197 = .ok (.aload_n 0, 1) := by decide +kernel
theorem dX9_command_198 : decode cX9_command 198 = .ok (.getfield 16, 3) := by decide +kernel
theorem dX9_command_201 : decode cX9_command 201 = .ok (.invokevirtual 145, 3) := by decide +kernel
theorem dX9_command_204 : decode cX9_command 204 = .ok (.ifCond .eq 7, 3) := by decide +kernel
theorem dX9_command_207 : decode cX9_command 207 = .ok (.iconst 1, 1) := by decide +kernel
theorem dX9_command_208 : decode cX9_command 208 = .ok (.goto 4, 3) := by decide +kernel
theorem dX9_command_211 : decode cX9_command 211 = .ok (.iconst 0, 1) := by decide +kernel
theorem dX9_command_212 : decode cX9_command 212 = .ok (.istore 7, 2) := by decide +kernel
theorem dX9_command_214 : decode cX9_command 214 = .ok (.iload 7, 2) := by decide +kernel
theorem dX9_command_216 : decode cX9_command 216 = .ok (.ifCond .eq 14, 3) := by decide +kernel
theorem dX9_command_219 : decode cX9_command 219 = .ok (.aload_n 0, 1) := by decide +kernel
theorem dX9_command_220 : decode cX9_command 220 = .ok (.getfield 22, 3) := by decide +kernel
theorem dX9_command_223 : decode cX9_command 223 = .ok (.aload_n 0, 1) := by decide +kernel
theorem dX9_command_224 : decode cX9_command 224 = .ok (.getfield 16, 3) := by decide +kernel
theorem dX9_command_227 : decode cX9_command 227 = .ok (.invokestatic 100, 3) := by decide +kernel
theorem dX9_command_230 : decode cX9_command 230 = .ok (.iload 7, 2) := by decide +kernel
theorem dX9_command_232 : decode cX9_command 232 = .ok (.ireturn, 1) := by decide +kernel
theorem dX9_command_233 : decode cX9_command 233 = .ok (.iconst 0, 1) := by decide +kernel
theorem dX9_command_234 : decode cX9_command 234 = .ok (.ireturn, 1) := by decide +kernel
theorem dX9_thousands_0 : decode cX9_thousands 0 = .ok (.lconst 1, 1) := by decide +kernel
theorem dX9_thousands_1 : decode cX9_thousands 1 = .ok (.lstore_n 1, 1) := by decide +kernel
theorem dX9_thousands_2 : decode cX9_thousands 2 = .ok (.iconst 0, 1) := by decide +kernel
theorem dX9_thousands_3 : decode cX9_thousands 3 = .ok (.istore_n 3, 1) := by decide +kernel
theorem dX9_thousands_4 : decode cX9_thousands 4 = .ok (.iload_n 3, 1) := by decide +kernel
theorem dX9_thousands_5 : decode cX9_thousands 5 = .ok (.iload_n 0, 1) := by decide +kernel
theorem dX9_thousands_6 : decode cX9_thousands 6 = .ok (.if_icmp .ge 15, 3) := by decide +kernel
theorem dX9_thousands_9 : decode cX9_thousands 9 = .ok (.lload_n 1, 1) := by decide +kernel
theorem dX9_thousands_10 : decode cX9_thousands 10 = .ok (.ldc2_w 195, 3) := by decide +kernel
theorem dX9_thousands_13 : decode cX9_thousands 13 = .ok (.lmul, 1) := by decide +kernel
theorem dX9_thousands_14 : decode cX9_thousands 14 = .ok (.lstore_n 1, 1) := by decide +kernel
theorem dX9_thousands_15 : decode cX9_thousands 15 = .ok (.iinc 3 1, 3) := by decide +kernel
theorem dX9_thousands_18 : decode cX9_thousands 18 = .ok (.goto (-14), 3) := by decide +kernel
theorem dX9_thousands_21 : decode cX9_thousands 21 = .ok (.lload_n 1, 1) := by decide +kernel
theorem dX9_thousands_22 : decode cX9_thousands 22 = .ok (.lreturn, 1) := by decide +kernel
theorem dX9_runScript_0 : decode cX9_runScript 0 = .ok (.aload_n 0, 1) := by decide +kernel
theorem dX9_runScript_1 : decode cX9_runScript 1 = .ok (.iconst 0, 1) := by decide +kernel
theorem dX9_runScript_2 : decode cX9_runScript 2 = .ok (.putfield 59, 3) := by decide +kernel
theorem dX9_runScript_5 : decode cX9_runScript 5 = .ok (.iload_n 1, 1) := by decide +kernel
theorem dX9_runScript_6 : decode cX9_runScript 6 = .ok (.i2l, 1) := by decide +kernel
theorem dX9_runScript_7 : decode cX9_runScript 7 = .ok (.lconst 1, 1) := by decide +kernel
theorem dX9_runScript_8 : decode cX9_runScript 8 = .ok (.ldc2_w 189, 3) := by decide +kernel
theorem dX9_runScript_11 : decode cX9_runScript 11 = .ok (.invokestatic 114, 3) := by decide +kernel
theorem dX9_runScript_14 : decode cX9_runScript 14 = .ok (.ifCond .eq 17, 3) := by decide +kernel
theorem dX9_runScript_17 : decode cX9_runScript 17 = .ok (.lload_n 2, 1) := by decide +kernel
theorem dX9_runScript_18 : decode cX9_runScript 18 = .ok (.lconst 0, 1) := by decide +kernel
theorem dX9_runScript_19 : decode cX9_runScript 19 = .ok (.iload_n 1, 1) := by decide +kernel
theorem dX9_runScript_20 : decode cX9_runScript 20 = .ok (.invokestatic 197, 3) := by decide +kernel
theorem dX9_runScript_23 : decode cX9_runScript 23 = .ok (.lconst 1, 1) := by decide +kernel
theorem dX9_runScript_24 : decode cX9_runScript 24 = .ok (.lsub, 1) := by decide +kernel
theorem dX9_runScript_25 : decode cX9_runScript 25 = .ok (.invokestatic 114, 3) := by decide +kernel
theorem dX9_runScript_28 : decode cX9_runScript 28 = .ok (.ifCond .ne 6, 3) := by decide +kernel
theorem dX9_runScript_31 : decode cX9_runScript 31 = .ok (.bipush (-2), 2) := by decide +kernel
theorem dX9_runScript_33 : decode cX9_runScript 33 = .ok (.ireturn, 1) := by decide +kernel
theorem dX9_runScript_34 : decode cX9_runScript 34 = .ok (.aload_n 0, 1) := by decide +kernel
theorem dX9_runScript_35 : decode cX9_runScript 35 = .ok (.getfield 13, 3) := by decide +kernel
theorem dX9_runScript_38 : decode cX9_runScript 38 = .ok (.aload_n 0, 1) := by decide +kernel
theorem dX9_runScript_39 : decode cX9_runScript 39 = .ok (.getfield 16, 3) := by decide +kernel
theorem dX9_runScript_42 : decode cX9_runScript 42 = .ok (.invokestatic 100, 3) := by decide +kernel
theorem dX9_runScript_45 : decode cX9_runScript 45 = .ok (.iconst 0, 1) := by decide +kernel
theorem dX9_runScript_46 : decode cX9_runScript 46 = .ok (.istore 4, 2) := by decide +kernel
theorem dX9_runScript_48 : decode cX9_runScript 48 = .ok (.iload 4, 2) := by decide +kernel
theorem dX9_runScript_50 : decode cX9_runScript 50 = .ok (.iload_n 1, 1) := by decide +kernel
theorem dX9_runScript_51 : decode cX9_runScript 51 = .ok (.if_icmp .ge 55, 3) := by decide +kernel
theorem dX9_runScript_54 : decode cX9_runScript 54 = .ok (.lload_n 2, 1) := by decide +kernel
theorem dX9_runScript_55 : decode cX9_runScript 55 = .ok (.iload_n 1, 1) := by decide +kernel
theorem dX9_runScript_56 : decode cX9_runScript 56 = .ok (.iconst 1, 1) := by decide +kernel
theorem dX9_runScript_57 : decode cX9_runScript 57 = .ok (.isub, 1) := by decide +kernel
theorem dX9_runScript_58 : decode cX9_runScript 58 = .ok (.iload 4, 2) := by decide +kernel
theorem dX9_runScript_60 : decode cX9_runScript 60 = .ok (.isub, 1) := by decide +kernel
theorem dX9_runScript_61 : decode cX9_runScript 61 = .ok (.invokestatic 197, 3) := by decide +kernel
theorem dX9_runScript_64 : decode cX9_runScript 64 = .ok (.ldiv, 1) := by decide +kernel
theorem dX9_runScript_65 : decode cX9_runScript 65 = .ok (.ldc2_w 195, 3) := by decide +kernel
theorem dX9_runScript_68 : decode cX9_runScript 68 = .ok (.lrem, 1) := by decide +kernel
theorem dX9_runScript_69 : decode cX9_runScript 69 = .ok (.l2i, 1) := by decide +kernel
theorem dX9_runScript_70 : decode cX9_runScript 70 = .ok (.istore 5, 2) := by decide +kernel
theorem dX9_runScript_72 : decode cX9_runScript 72 = .ok (.aload_n 0, 1) := by decide +kernel
theorem dX9_runScript_73 : decode cX9_runScript 73 = .ok (.iload 5, 2) := by decide +kernel
theorem dX9_runScript_75 : decode cX9_runScript 75 = .ok (.bipush 100, 2) := by decide +kernel
theorem dX9_runScript_77 : decode cX9_runScript 77 = .ok (.idiv, 1) := by decide +kernel
theorem dX9_runScript_78 : decode cX9_runScript 78 = .ok (.iload 5, 2) := by decide +kernel
theorem dX9_runScript_80 : decode cX9_runScript 80 = .ok (.bipush 10, 2) := by decide +kernel
theorem dX9_runScript_82 : decode cX9_runScript 82 = .ok (.idiv, 1) := by decide +kernel
theorem dX9_runScript_83 : decode cX9_runScript 83 = .ok (.bipush 10, 2) := by decide +kernel
theorem dX9_runScript_85 : decode cX9_runScript 85 = .ok (.irem, 1) := by decide +kernel
theorem dX9_runScript_86 : decode cX9_runScript 86 = .ok (.iload 5, 2) := by decide +kernel
theorem dX9_runScript_88 : decode cX9_runScript 88 = .ok (.bipush 10, 2) := by decide +kernel
theorem dX9_runScript_90 : decode cX9_runScript 90 = .ok (.irem, 1) := by decide +kernel
theorem dX9_runScript_91 : decode cX9_runScript 91 = .ok (.invokevirtual 201, 3) := by decide +kernel
theorem dX9_runScript_94 : decode cX9_runScript 94 = .ok (.ifCond .ne 6, 3) := by decide +kernel
theorem dX9_runScript_97 : decode cX9_runScript 97 = .ok (.iload 4, 2) := by decide +kernel
theorem dX9_runScript_99 : decode cX9_runScript 99 = .ok (.ireturn, 1) := by decide +kernel
theorem dX9_runScript_100 : decode cX9_runScript 100 = .ok (.iinc 4 1, 3) := by decide +kernel
theorem dX9_runScript_103 : decode cX9_runScript 103 = .ok (.goto (-55), 3) := by decide +kernel
theorem dX9_runScript_106 : decode cX9_runScript 106 = .ok (.bipush (-9), 2) := by decide +kernel
theorem dX9_runScript_108 : decode cX9_runScript 108 = .ok (.ireturn, 1) := by decide +kernel
theorem dX9_observe_0 : decode cX9_observe 0 = .ok (.aload_n 0, 1) := by decide +kernel
theorem dX9_observe_1 : decode cX9_observe 1 = .ok (.iconst 0, 1) := by decide +kernel
theorem dX9_observe_2 : decode cX9_observe 2 = .ok (.putfield 59, 3) := by decide +kernel
theorem dX9_observe_5 : decode cX9_observe 5 = .ok (.iload_n 1, 1) := by decide +kernel
theorem dX9_observe_6 : decode cX9_observe 6 = .ok (.i2l, 1) := by decide +kernel
theorem dX9_observe_7 : decode cX9_observe 7 = .ok (.lconst 0, 1) := by decide +kernel
theorem dX9_observe_8 : decode cX9_observe 8 = .ok (.ldc2_w 143, 3) := by decide +kernel
theorem dX9_observe_11 : decode cX9_observe 11 = .ok (.invokestatic 114, 3) := by decide +kernel
theorem dX9_observe_14 : decode cX9_observe 14 = .ok (.ifCond .eq 15, 3) := by decide +kernel
theorem dX9_observe_17 : decode cX9_observe 17 = .ok (.iload_n 2, 1) := by decide +kernel
theorem dX9_observe_18 : decode cX9_observe 18 = .ok (.i2l, 1) := by decide +kernel
theorem dX9_observe_19 : decode cX9_observe 19 = .ok (.lconst 1, 1) := by decide +kernel
theorem dX9_observe_20 : decode cX9_observe 20 = .ok (.ldc2_w 155, 3) := by decide +kernel
theorem dX9_observe_23 : decode cX9_observe 23 = .ok (.invokestatic 114, 3) := by decide +kernel
theorem dX9_observe_26 : decode cX9_observe 26 = .ok (.ifCond .ne 6, 3) := by decide +kernel
theorem dX9_observe_29 : decode cX9_observe 29 = .ok (.bipush (-2), 2) := by decide +kernel
theorem dX9_observe_31 : decode cX9_observe 31 = .ok (.ireturn, 1) := by decide +kernel
theorem dX9_observe_32 : decode cX9_observe 32 = .ok (.aload_n 0, 1) := by decide +kernel
theorem dX9_observe_33 : decode cX9_observe 33 = .ok (.getfield 205, 3) := by decide +kernel
theorem dX9_observe_36 : decode cX9_observe 36 = .ok (.bipush 6, 2) := by decide +kernel
theorem dX9_observe_38 : decode cX9_observe 38 = .ok (.if_icmp .ne 54, 3) := by decide +kernel
theorem dX9_observe_41 : decode cX9_observe 41 = .ok (.iconst 0, 1) := by decide +kernel
theorem dX9_observe_42 : decode cX9_observe 42 = .ok (.istore_n 3, 1) := by decide +kernel
theorem dX9_observe_43 : decode cX9_observe 43 = .ok (.iload_n 3, 1) := by decide +kernel
theorem dX9_observe_44 : decode cX9_observe 44 = .ok (.iconst 5, 1) := by decide +kernel
theorem dX9_observe_45 : decode cX9_observe 45 = .ok (.if_icmp .ge 37, 3) := by decide +kernel
theorem dX9_observe_48 : decode cX9_observe 48 = .ok (.aload_n 0, 1) := by decide +kernel
theorem dX9_observe_49 : decode cX9_observe 49 = .ok (.getfield 35, 3) := by decide +kernel
theorem dX9_observe_52 : decode cX9_observe 52 = .ok (.iload_n 3, 1) := by decide +kernel
theorem dX9_observe_53 : decode cX9_observe 53 = .ok (.aload_n 0, 1) := by decide +kernel
theorem dX9_observe_54 : decode cX9_observe 54 = .ok (.getfield 35, 3) := by decide +kernel
theorem dX9_observe_57 : decode cX9_observe 57 = .ok (.iload_n 3, 1) := by decide +kernel
theorem dX9_observe_58 : decode cX9_observe 58 = .ok (.iconst 1, 1) := by decide +kernel
theorem dX9_observe_59 : decode cX9_observe 59 = .ok (.iadd, 1) := by decide +kernel
theorem dX9_observe_60 : decode cX9_observe 60 = .ok (.iaload, 1) := by decide +kernel
theorem dX9_observe_61 : decode cX9_observe 61 = .ok (.iastore, 1) := by decide +kernel
theorem dX9_observe_62 : decode cX9_observe 62 = .ok (.aload_n 0, 1) := by decide +kernel
theorem dX9_observe_63 : decode cX9_observe 63 = .ok (.getfield 38, 3) := by decide +kernel
theorem dX9_observe_66 : decode cX9_observe 66 = .ok (.iload_n 3, 1) := by decide +kernel
theorem dX9_observe_67 : decode cX9_observe 67 = .ok (.aload_n 0, 1) := by decide +kernel
theorem dX9_observe_68 : decode cX9_observe 68 = .ok (.getfield 38, 3) := by decide +kernel
theorem dX9_observe_71 : decode cX9_observe 71 = .ok (.iload_n 3, 1) := by decide +kernel
theorem dX9_observe_72 : decode cX9_observe 72 = .ok (.iconst 1, 1) := by decide +kernel
theorem dX9_observe_73 : decode cX9_observe 73 = .ok (.iadd, 1) := by decide +kernel
theorem dX9_observe_74 : decode cX9_observe 74 = .ok (.iaload, 1) := by decide +kernel
theorem dX9_observe_75 : decode cX9_observe 75 = .ok (.iastore, 1) := by decide +kernel
theorem dX9_observe_76 : decode cX9_observe 76 = .ok (.iinc 3 1, 3) := by decide +kernel
theorem dX9_observe_79 : decode cX9_observe 79 = .ok (.goto (-36), 3) := by decide +kernel
theorem dX9_observe_82 : decode cX9_observe 82 = .ok (.aload_n 0, 1) := by decide +kernel
theorem dX9_observe_83 : decode cX9_observe 83 = .ok (.dup, 1) := by decide +kernel
theorem dX9_observe_84 : decode cX9_observe 84 = .ok (.getfield 205, 3) := by decide +kernel
theorem dX9_observe_87 : decode cX9_observe 87 = .ok (.iconst 1, 1) := by decide +kernel
theorem dX9_observe_88 : decode cX9_observe 88 = .ok (.isub, 1) := by decide +kernel
theorem dX9_observe_89 : decode cX9_observe 89 = .ok (.putfield 205, 3) := by decide +kernel
theorem dX9_observe_92 : decode cX9_observe 92 = .ok (.aload_n 0, 1) := by decide +kernel
theorem dX9_observe_93 : decode cX9_observe 93 = .ok (.getfield 35, 3) := by decide +kernel
theorem dX9_observe_96 : decode cX9_observe 96 = .ok (.aload_n 0, 1) := by decide +kernel
theorem dX9_observe_97 : decode cX9_observe 97 = .ok (.getfield 205, 3) := by decide +kernel
theorem dX9_observe_100 : decode cX9_observe 100 = .ok (.iload_n 1, 1) := by decide +kernel
theorem dX9_observe_101 : decode cX9_observe 101 = .ok (.iastore, 1) := by decide +kernel
theorem dX9_observe_102 : decode cX9_observe 102 = .ok (.aload_n 0, 1) := by decide +kernel
theorem dX9_observe_103 : decode cX9_observe 103 = .ok (.getfield 38, 3) := by decide +kernel
theorem dX9_observe_106 : decode cX9_observe 106 = .ok (.aload_n 0, 1) := by decide +kernel
theorem dX9_observe_107 : decode cX9_observe 107 = .ok (.getfield 205, 3) := by decide +kernel
theorem dX9_observe_110 : decode cX9_observe 110 = .ok (.iload_n 2, 1) := by decide +kernel
theorem dX9_observe_111 : decode cX9_observe 111 = .ok (.iastore, 1) := by decide +kernel
theorem dX9_observe_112 : decode cX9_observe 112 = .ok (.aload_n 0, 1) := by decide +kernel
theorem dX9_observe_113 : decode cX9_observe 113 = .ok (.dup, 1) := by decide +kernel
theorem dX9_observe_114 : decode cX9_observe 114 = .ok (.getfield 205, 3) := by decide +kernel
theorem dX9_observe_117 : decode cX9_observe 117 = .ok (.iconst 1, 1) := by decide +kernel
theorem dX9_observe_118 : decode cX9_observe 118 = .ok (.iadd, 1) := by decide +kernel
theorem dX9_observe_119 : decode cX9_observe 119 = .ok (.putfield 205, 3) := by decide +kernel
theorem dX9_observe_122 : decode cX9_observe 122 = .ok (.aload_n 0, 1) := by decide +kernel
theorem dX9_observe_123 : decode cX9_observe 123 = .ok (.getfield 205, 3) := by decide +kernel
theorem dX9_observe_126 : decode cX9_observe 126 = .ok (.ireturn, 1) := by decide +kernel
theorem dX9_forgetAfter_0 : decode cX9_forgetAfter 0 = .ok (.aload_n 0, 1) := by decide +kernel
theorem dX9_forgetAfter_1 : decode cX9_forgetAfter 1 = .ok (.iconst 0, 1) := by decide +kernel
theorem dX9_forgetAfter_2 : decode cX9_forgetAfter 2 = .ok (.putfield 59, 3) := by decide +kernel
theorem dX9_forgetAfter_5 : decode cX9_forgetAfter 5 = .ok (.iload_n 1, 1) := by decide +kernel
theorem dX9_forgetAfter_6 : decode cX9_forgetAfter 6 = .ok (.i2l, 1) := by decide +kernel
theorem dX9_forgetAfter_7 : decode cX9_forgetAfter 7 = .ok (.lconst 0, 1) := by decide +kernel
theorem dX9_forgetAfter_8 : decode cX9_forgetAfter 8 = .ok (.ldc2_w 143, 3) := by decide +kernel
theorem dX9_forgetAfter_11 : decode cX9_forgetAfter 11 = .ok (.invokestatic 114, 3) := by decide +kernel
theorem dX9_forgetAfter_14 : decode cX9_forgetAfter 14 = .ok (.ifCond .ne 6, 3) := by decide +kernel
theorem dX9_forgetAfter_17 : decode cX9_forgetAfter 17 = .ok (.bipush (-2), 2) := by decide +kernel
theorem dX9_forgetAfter_19 : decode cX9_forgetAfter 19 = .ok (.ireturn, 1) := by decide +kernel
theorem dX9_forgetAfter_20 : decode cX9_forgetAfter 20 = .ok (.iconst 0, 1) := by decide +kernel
theorem dX9_forgetAfter_21 : decode cX9_forgetAfter 21 = .ok (.istore_n 2, 1) := by decide +kernel
theorem dX9_forgetAfter_22 : decode cX9_forgetAfter 22 = .ok (.iconst 0, 1) := by decide +kernel
theorem dX9_forgetAfter_23 : decode cX9_forgetAfter 23 = .ok (.istore_n 3, 1) := by decide +kernel
theorem dX9_forgetAfter_24 : decode cX9_forgetAfter 24 = .ok (.iload_n 3, 1) := by decide +kernel
theorem dX9_forgetAfter_25 : decode cX9_forgetAfter 25 = .ok (.aload_n 0, 1) := by decide +kernel
theorem dX9_forgetAfter_26 : decode cX9_forgetAfter 26 = .ok (.getfield 205, 3) := by decide +kernel
theorem dX9_forgetAfter_29 : decode cX9_forgetAfter 29 = .ok (.if_icmp .ge 46, 3) := by decide +kernel
theorem dX9_forgetAfter_32 : decode cX9_forgetAfter 32 = .ok (.aload_n 0, 1) := by decide +kernel
theorem dX9_forgetAfter_33 : decode cX9_forgetAfter 33 = .ok (.getfield 35, 3) := by decide +kernel
theorem dX9_forgetAfter_36 : decode cX9_forgetAfter 36 = .ok (.iload_n 3, 1) := by decide +kernel
theorem dX9_forgetAfter_37 : decode cX9_forgetAfter 37 = .ok (.iaload, 1) := by decide +kernel
theorem dX9_forgetAfter_38 : decode cX9_forgetAfter 38 = .ok (.iload_n 1, 1) := by decide +kernel
theorem dX9_forgetAfter_39 : decode cX9_forgetAfter 39 = .ok (.if_icmp .gt 30, 3) := by decide +kernel
theorem dX9_forgetAfter_42 : decode cX9_forgetAfter 42 = .ok (.aload_n 0, 1) := by decide +kernel
theorem dX9_forgetAfter_43 : decode cX9_forgetAfter 43 = .ok (.getfield 35, 3) := by decide +kernel
theorem dX9_forgetAfter_46 : decode cX9_forgetAfter 46 = .ok (.iload_n 2, 1) := by decide +kernel
theorem dX9_forgetAfter_47 : decode cX9_forgetAfter 47 = .ok (.aload_n 0, 1) := by decide +kernel
theorem dX9_forgetAfter_48 : decode cX9_forgetAfter 48 = .ok (.getfield 35, 3) := by decide +kernel
theorem dX9_forgetAfter_51 : decode cX9_forgetAfter 51 = .ok (.iload_n 3, 1) := by decide +kernel
theorem dX9_forgetAfter_52 : decode cX9_forgetAfter 52 = .ok (.iaload, 1) := by decide +kernel
theorem dX9_forgetAfter_53 : decode cX9_forgetAfter 53 = .ok (.iastore, 1) := by decide +kernel
theorem dX9_forgetAfter_54 : decode cX9_forgetAfter 54 = .ok (.aload_n 0, 1) := by decide +kernel
theorem dX9_forgetAfter_55 : decode cX9_forgetAfter 55 = .ok (.getfield 38, 3) := by decide +kernel
theorem dX9_forgetAfter_58 : decode cX9_forgetAfter 58 = .ok (.iload_n 2, 1) := by decide +kernel
theorem dX9_forgetAfter_59 : decode cX9_forgetAfter 59 = .ok (.aload_n 0, 1) := by decide +kernel
theorem dX9_forgetAfter_60 : decode cX9_forgetAfter 60 = .ok (.getfield 38, 3) := by decide +kernel
theorem dX9_forgetAfter_63 : decode cX9_forgetAfter 63 = .ok (.iload_n 3, 1) := by decide +kernel
theorem dX9_forgetAfter_64 : decode cX9_forgetAfter 64 = .ok (.iaload, 1) := by decide +kernel
theorem dX9_forgetAfter_65 : decode cX9_forgetAfter 65 = .ok (.iastore, 1) := by decide +kernel
theorem dX9_forgetAfter_66 : decode cX9_forgetAfter 66 = .ok (.iinc 2 1, 3) := by decide +kernel
theorem dX9_forgetAfter_69 : decode cX9_forgetAfter 69 = .ok (.iinc 3 1, 3) := by decide +kernel
theorem dX9_forgetAfter_72 : decode cX9_forgetAfter 72 = .ok (.goto (-48), 3) := by decide +kernel
theorem dX9_forgetAfter_75 : decode cX9_forgetAfter 75 = .ok (.aload_n 0, 1) := by decide +kernel
theorem dX9_forgetAfter_76 : decode cX9_forgetAfter 76 = .ok (.iload_n 2, 1) := by decide +kernel
theorem dX9_forgetAfter_77 : decode cX9_forgetAfter 77 = .ok (.putfield 205, 3) := by decide +kernel
theorem dX9_forgetAfter_80 : decode cX9_forgetAfter 80 = .ok (.iload_n 2, 1) := by decide +kernel
theorem dX9_forgetAfter_81 : decode cX9_forgetAfter 81 = .ok (.ireturn, 1) := by decide +kernel
theorem dX9_possibleStrategies_0 : decode cX9_possibleStrategies 0 = .ok (.aload_n 0, 1) := by decide +kernel
theorem dX9_possibleStrategies_1 : decode cX9_possibleStrategies 1 = .ok (.iconst 0, 1) := by decide +kernel
theorem dX9_possibleStrategies_2 : decode cX9_possibleStrategies 2 = .ok (.putfield 59, 3) := by decide +kernel
theorem dX9_possibleStrategies_5 : decode cX9_possibleStrategies 5 = .ok (.iconst 0, 1) := by decide +kernel
theorem dX9_possibleStrategies_6 : decode cX9_possibleStrategies 6 = .ok (.istore_n 1, 1) := by decide +kernel
theorem dX9_possibleStrategies_7 : decode cX9_possibleStrategies 7 = .ok (.iconst 0, 1) := by decide +kernel
theorem dX9_possibleStrategies_8 : decode cX9_possibleStrategies 8 = .ok (.istore_n 2, 1) := by decide +kernel
theorem dX9_possibleStrategies_9 : decode cX9_possibleStrategies 9 = .ok (.iload_n 2, 1) := by decide +kernel
theorem dX9_possibleStrategies_10 : decode cX9_possibleStrategies 10 = .ok (.iconst 4, 1) := by decide +kernel
theorem dX9_possibleStrategies_11 : decode cX9_possibleStrategies 11 = .ok (.if_icmp .ge 99, 3) := by decide +kernel
theorem dX9_possibleStrategies_14 : decode cX9_possibleStrategies 14 = .ok (.iconst 1, 1) := by decide +kernel
theorem dX9_possibleStrategies_15 : decode cX9_possibleStrategies 15 = .ok (.istore_n 3, 1) := by decide +kernel
theorem dX9_possibleStrategies_16 : decode cX9_possibleStrategies 16 = .ok (.iconst 0, 1) := by decide +kernel
theorem dX9_possibleStrategies_17 : decode cX9_possibleStrategies 17 = .ok (.istore 4, 2) := by decide +kernel
theorem dX9_possibleStrategies_19 : decode cX9_possibleStrategies 19 = .ok (.iload 4, 2) := by decide +kernel
theorem dX9_possibleStrategies_21 : decode cX9_possibleStrategies 21 = .ok (.aload_n 0, 1) := by decide +kernel
theorem dX9_possibleStrategies_22 : decode cX9_possibleStrategies 22 = .ok (.getfield 205, 3) := by decide +kernel
theorem dX9_possibleStrategies_25 : decode cX9_possibleStrategies 25 = .ok (.if_icmp .ge 65, 3) := by decide +kernel
theorem dX9_possibleStrategies_28 : decode cX9_possibleStrategies 28 = .ok (.aload_n 0, 1) := by decide +kernel
theorem dX9_possibleStrategies_29 : decode cX9_possibleStrategies 29 = .ok (.getfield 13, 3) := by decide +kernel
theorem dX9_possibleStrategies_32 : decode cX9_possibleStrategies 32 = .ok (.aload_n 0, 1) := by decide +kernel
theorem dX9_possibleStrategies_33 : decode cX9_possibleStrategies 33 = .ok (.getfield 16, 3) := by decide +kernel
theorem dX9_possibleStrategies_36 : decode cX9_possibleStrategies 36 = .ok (.invokestatic 100, 3) := by decide +kernel
theorem dX9_possibleStrategies_39 : decode cX9_possibleStrategies 39 = .ok (.aload_n 0, 1) := by decide +kernel
theorem dX9_possibleStrategies_40 : decode cX9_possibleStrategies 40 = .ok (.aload_n 0, 1) := by decide +kernel
theorem dX9_possibleStrategies_41 : decode cX9_possibleStrategies 41 = .ok (.getfield 16, 3) := by decide +kernel
theorem dX9_possibleStrategies_44 : decode cX9_possibleStrategies 44 = .ok (.iload_n 2, 1) := by decide +kernel
theorem dX9_possibleStrategies_45 : decode cX9_possibleStrategies 45 = .ok (.aload_n 0, 1) := by decide +kernel
theorem dX9_possibleStrategies_46 : decode cX9_possibleStrategies 46 = .ok (.getfield 35, 3) := by decide +kernel
theorem dX9_possibleStrategies_49 : decode cX9_possibleStrategies 49 = .ok (.iload 4, 2) := by decide +kernel
theorem dX9_possibleStrategies_51 : decode cX9_possibleStrategies 51 = .ok (.iaload, 1) := by decide +kernel
theorem dX9_possibleStrategies_52 : decode cX9_possibleStrategies 52 = .ok (.invokevirtual 104, 3) := by decide +kernel
theorem dX9_possibleStrategies_55 : decode cX9_possibleStrategies 55 = .ok (.pop, 1) := by decide +kernel
theorem dX9_possibleStrategies_56 : decode cX9_possibleStrategies 56 = .ok (.iload_n 3, 1) := by decide +kernel
theorem dX9_possibleStrategies_57 : decode cX9_possibleStrategies 57 = .ok (.ifCond .eq 25, 3) := by decide +kernel
theorem dX9_possibleStrategies_60 : decode cX9_possibleStrategies 60 = .ok (.aload_n 0, 1) := by decide +kernel
theorem dX9_possibleStrategies_61 : decode cX9_possibleStrategies 61 = .ok (.getfield 16, 3) := by decide +kernel
theorem dX9_possibleStrategies_64 : decode cX9_possibleStrategies 64 = .ok (.sipush 200, 3) := by decide +kernel
theorem dX9_possibleStrategies_67 : decode cX9_possibleStrategies 67 = .ok (.iaload, 1) := by decide +kernel
theorem dX9_possibleStrategies_68 : decode cX9_possibleStrategies 68 = .ok (.aload_n 0, 1) := by decide +kernel
theorem dX9_possibleStrategies_69 : decode cX9_possibleStrategies 69 = .ok (.getfield 38, 3) := by decide +kernel
theorem dX9_possibleStrategies_72 : decode cX9_possibleStrategies 72 = .ok (.iload 4, 2) := by decide +kernel
theorem dX9_possibleStrategies_74 : decode cX9_possibleStrategies 74 = .ok (.iaload, 1) := by decide +kernel
theorem dX9_possibleStrategies_75 : decode cX9_possibleStrategies 75 = .ok (.if_icmp .ne 7, 3) := by decide +kernel
theorem dX9_possibleStrategies_78 : decode cX9_possibleStrategies 78 = .ok (.iconst 1, 1) := by decide +kernel
theorem dX9_possibleStrategies_79 : decode cX9_possibleStrategies 79 = .ok (.goto 4, 3) := by decide +kernel
theorem dX9_possibleStrategies_82 : decode cX9_possibleStrategies 82 = .ok (.iconst 0, 1) := by decide +kernel
theorem dX9_possibleStrategies_83 : decode cX9_possibleStrategies 83 = .ok (.istore_n 3, 1) := by decide +kernel
theorem dX9_possibleStrategies_84 : decode cX9_possibleStrategies 84 = .ok (.iinc 4 1, 3) := by decide +kernel
theorem dX9_possibleStrategies_87 : decode cX9_possibleStrategies 87 = .ok (.goto (-68), 3) := by decide +kernel
theorem dX9_possibleStrategies_90 : decode cX9_possibleStrategies 90 = .ok (.iload_n 1, 1) := by decide +kernel
theorem dX9_possibleStrategies_91 : decode cX9_possibleStrategies 91 = .ok (.iload_n 3, 1) := by decide +kernel
theorem dX9_possibleStrategies_92 : decode cX9_possibleStrategies 92 = .ok (.ifCond .eq 9, 3) := by decide +kernel
theorem dX9_possibleStrategies_95 : decode cX9_possibleStrategies 95 = .ok (.iconst 1, 1) := by decide +kernel
theorem dX9_possibleStrategies_96 : decode cX9_possibleStrategies 96 = .ok (.iload_n 2, 1) := by decide +kernel
theorem dX9_possibleStrategies_97 : decode cX9_possibleStrategies 97 = .ok (.ishl, 1) := by decide +kernel
theorem dX9_possibleStrategies_98 : decode cX9_possibleStrategies 98 = .ok (.goto 4, 3) := by decide +kernel
theorem dX9_possibleStrategies_101 : decode cX9_possibleStrategies 101 = .ok (.iconst 0, 1) := by decide +kernel
theorem dX9_possibleStrategies_102 : decode cX9_possibleStrategies 102 = .ok (.ior, 1) := by decide +kernel
theorem dX9_possibleStrategies_103 : decode cX9_possibleStrategies 103 = .ok (.istore_n 1, 1) := by decide +kernel
theorem dX9_possibleStrategies_104 : decode cX9_possibleStrategies 104 = .ok (.iinc 2 1, 3) := by decide +kernel
theorem dX9_possibleStrategies_107 : decode cX9_possibleStrategies 107 = .ok (.goto (-98), 3) := by decide +kernel
theorem dX9_possibleStrategies_110 : decode cX9_possibleStrategies 110 = .ok (.iload_n 1, 1) := by decide +kernel
theorem dX9_possibleStrategies_111 : decode cX9_possibleStrategies 111 = .ok (.ireturn, 1) := by decide +kernel
theorem dX9_setSeed_0 : decode cX9_setSeed 0 = .ok (.aload_n 0, 1) := by decide +kernel
theorem dX9_setSeed_1 : decode cX9_setSeed 1 = .ok (.iconst 0, 1) := by decide +kernel
theorem dX9_setSeed_2 : decode cX9_setSeed 2 = .ok (.putfield 59, 3) := by decide +kernel
theorem dX9_setSeed_5 : decode cX9_setSeed 5 = .ok (.aload_n 0, 1) := by decide +kernel
theorem dX9_setSeed_6 : decode cX9_setSeed 6 = .ok (.getfield 208, 3) := by decide +kernel
theorem dX9_setSeed_9 : decode cX9_setSeed 9 = .ok (.lstore_n 3, 1) := by decide +kernel
theorem dX9_setSeed_10 : decode cX9_setSeed 10 = .ok (.aload_n 0, 1) := by decide +kernel
theorem dX9_setSeed_11 : decode cX9_setSeed 11 = .ok (.lload_n 1, 1) := by decide +kernel
theorem dX9_setSeed_12 : decode cX9_setSeed 12 = .ok (.putfield 208, 3) := by decide +kernel
theorem dX9_setSeed_15 : decode cX9_setSeed 15 = .ok (.lload_n 3, 1) := by decide +kernel
theorem dX9_setSeed_16 : decode cX9_setSeed 16 = .ok (.lreturn, 1) := by decide +kernel
theorem dX9_redexNumber_0 : decode cX9_redexNumber 0 = .ok (.iload_n 1, 1) := by decide +kernel
theorem dX9_redexNumber_1 : decode cX9_redexNumber 1 = .ok (.istore_n 2, 1) := by decide +kernel
theorem dX9_redexNumber_2 : decode cX9_redexNumber 2 = .ok (.iconst 0, 1) := by decide +kernel
theorem dX9_redexNumber_3 : decode cX9_redexNumber 3 = .ok (.istore_n 3, 1) := by decide +kernel
theorem dX9_redexNumber_4 : decode cX9_redexNumber 4 = .ok (.aload_n 0, 1) := by decide +kernel
theorem dX9_redexNumber_5 : decode cX9_redexNumber 5 = .ok (.iload_n 3, 1) := by decide +kernel
theorem dX9_redexNumber_6 : decode cX9_redexNumber 6 = .ok (.invokestatic 72, 3) := by decide +kernel
theorem dX9_redexNumber_9 : decode cX9_redexNumber 9 = .ok (.ifCond .eq 7, 3) := by decide +kernel
theorem dX9_redexNumber_12 : decode cX9_redexNumber 12 = .ok (.iload_n 2, 1) := by decide +kernel
theorem dX9_redexNumber_13 : decode cX9_redexNumber 13 = .ok (.ifCond .le 25, 3) := by decide +kernel
theorem dX9_redexNumber_16 : decode cX9_redexNumber 16 = .ok (.iload_n 2, 1) := by decide +kernel
theorem dX9_redexNumber_17 : decode cX9_redexNumber 17 = .ok (.aload_n 0, 1) := by decide +kernel
theorem dX9_redexNumber_18 : decode cX9_redexNumber 18 = .ok (.iload_n 3, 1) := by decide +kernel
theorem dX9_redexNumber_19 : decode cX9_redexNumber 19 = .ok (.invokestatic 72, 3) := by decide +kernel
theorem dX9_redexNumber_22 : decode cX9_redexNumber 22 = .ok (.ifCond .eq 7, 3) := by decide +kernel
theorem dX9_redexNumber_25 : decode cX9_redexNumber 25 = .ok (.iconst 1, 1) := by decide +kernel
theorem dX9_redexNumber_26 : decode cX9_redexNumber 26 = .ok (.goto 4, 3) := by decide +kernel
theorem dX9_redexNumber_29 : decode cX9_redexNumber 29 = .ok (.iconst 0, 1) := by decide +kernel
theorem dX9_redexNumber_30 : decode cX9_redexNumber 30 = .ok (.isub, 1) := by decide +kernel
theorem dX9_redexNumber_31 : decode cX9_redexNumber 31 = .ok (.istore_n 2, 1) := by decide +kernel
theorem dX9_redexNumber_32 : decode cX9_redexNumber 32 = .ok (.iinc 3 1, 3) := by decide +kernel
theorem dX9_redexNumber_35 : decode cX9_redexNumber 35 = .ok (.goto (-31), 3) := by decide +kernel
theorem dX9_redexNumber_38 : decode cX9_redexNumber 38 = .ok (.iload_n 3, 1) := by decide +kernel
theorem dX9_redexNumber_39 : decode cX9_redexNumber 39 = .ok (.ireturn, 1) := by decide +kernel
theorem dX9_randomReduction_0 : decode cX9_randomReduction 0 = .ok (.aload_n 0, 1) := by decide +kernel
theorem dX9_randomReduction_1 : decode cX9_randomReduction 1 = .ok (.iconst 0, 1) := by decide +kernel
theorem dX9_randomReduction_2 : decode cX9_randomReduction 2 = .ok (.putfield 59, 3) := by decide +kernel
theorem dX9_randomReduction_5 : decode cX9_randomReduction 5 = .ok (.iload_n 1, 1) := by decide +kernel
theorem dX9_randomReduction_6 : decode cX9_randomReduction 6 = .ok (.i2l, 1) := by decide +kernel
theorem dX9_randomReduction_7 : decode cX9_randomReduction 7 = .ok (.lconst 1, 1) := by decide +kernel
theorem dX9_randomReduction_8 : decode cX9_randomReduction 8 = .ok (.ldc2_w 212, 3) := by decide +kernel
theorem dX9_randomReduction_11 : decode cX9_randomReduction 11 = .ok (.invokestatic 114, 3) := by decide +kernel
theorem dX9_randomReduction_14 : decode cX9_randomReduction 14 = .ok (.ifCond .ne 6, 3) := by decide +kernel
theorem dX9_randomReduction_17 : decode cX9_randomReduction 17 = .ok (.bipush (-2), 2) := by decide +kernel
theorem dX9_randomReduction_19 : decode cX9_randomReduction 19 = .ok (.ireturn, 1) := by decide +kernel
theorem dX9_randomReduction_20 : decode cX9_randomReduction 20 = .ok (.aload_n 0, 1) := by decide +kernel
theorem dX9_randomReduction_21 : decode cX9_randomReduction 21 = .ok (.getfield 13, 3) := by decide +kernel
theorem dX9_randomReduction_24 : decode cX9_randomReduction 24 = .ok (.aload_n 0, 1) := by decide +kernel
theorem dX9_randomReduction_25 : decode cX9_randomReduction 25 = .ok (.getfield 16, 3) := by decide +kernel
theorem dX9_randomReduction_28 : decode cX9_randomReduction 28 = .ok (.invokestatic 100, 3) := by decide +kernel
theorem dX9_randomReduction_31 : decode cX9_randomReduction 31 = .ok (.iconst 0, 1) := by decide +kernel
theorem dX9_randomReduction_32 : decode cX9_randomReduction 32 = .ok (.istore_n 2, 1) := by decide +kernel
theorem dX9_randomReduction_33 : decode cX9_randomReduction 33 = .ok (.iconst 0, 1) := by decide +kernel
theorem dX9_randomReduction_34 : decode cX9_randomReduction 34 = .ok (.istore_n 3, 1) := by decide +kernel
theorem dX9_randomReduction_35 : decode cX9_randomReduction 35 = .ok (.iload_n 3, 1) := by decide +kernel
theorem dX9_randomReduction_36 : decode cX9_randomReduction 36 = .ok (.iload_n 1, 1) := by decide +kernel
theorem dX9_randomReduction_37 : decode cX9_randomReduction 37 = .ok (.if_icmp .ge 94, 3) := by decide +kernel
theorem dX9_randomReduction_40 : decode cX9_randomReduction 40 = .ok (.aload_n 0, 1) := by decide +kernel
theorem dX9_randomReduction_41 : decode cX9_randomReduction 41 = .ok (.aload_n 0, 1) := by decide +kernel
theorem dX9_randomReduction_42 : decode cX9_randomReduction 42 = .ok (.getfield 208, 3) := by decide +kernel
theorem dX9_randomReduction_45 : decode cX9_randomReduction 45 = .ok (.ldc2_w 214, 3) := by decide +kernel
theorem dX9_randomReduction_48 : decode cX9_randomReduction 48 = .ok (.lmul, 1) := by decide +kernel
theorem dX9_randomReduction_49 : decode cX9_randomReduction 49 = .ok (.ldc2_w 216, 3) := by decide +kernel
theorem dX9_randomReduction_52 : decode cX9_randomReduction 52 = .ok (.ladd, 1) := by decide +kernel
theorem dX9_randomReduction_53 : decode cX9_randomReduction 53 = .ok (.putfield 208, 3) := by decide +kernel
theorem dX9_randomReduction_56 : decode cX9_randomReduction 56 = .ok (.aload_n 0, 1) := by decide +kernel
theorem dX9_randomReduction_57 : decode cX9_randomReduction 57 = .ok (.getfield 208, 3) := by decide +kernel
theorem dX9_randomReduction_60 : decode cX9_randomReduction 60 = .ok (.bipush 33, 2) := by decide +kernel
theorem dX9_randomReduction_62 : decode cX9_randomReduction 62 = .ok (.lushr, 1) := by decide +kernel
theorem dX9_randomReduction_63 : decode cX9_randomReduction 63 = .ok (.l2i, 1) := by decide +kernel
theorem dX9_randomReduction_64 : decode cX9_randomReduction 64 = .ok (.istore 4, 2) := by decide +kernel
theorem dX9_randomReduction_66 : decode cX9_randomReduction 66 = .ok (.aload_n 0, 1) := by decide +kernel
theorem dX9_randomReduction_67 : decode cX9_randomReduction 67 = .ok (.getfield 16, 3) := by decide +kernel
theorem dX9_randomReduction_70 : decode cX9_randomReduction 70 = .ok (.invokestatic 108, 3) := by decide +kernel
theorem dX9_randomReduction_73 : decode cX9_randomReduction 73 = .ok (.istore 5, 2) := by decide +kernel
theorem dX9_randomReduction_75 : decode cX9_randomReduction 75 = .ok (.iload 5, 2) := by decide +kernel
theorem dX9_randomReduction_77 : decode cX9_randomReduction 77 = .ok (.ifCond .le 37, 3) := by decide +kernel
theorem dX9_randomReduction_80 : decode cX9_randomReduction 80 = .ok (.aload_n 0, 1) := by decide +kernel
theorem dX9_randomReduction_81 : decode cX9_randomReduction 81 = .ok (.aload_n 0, 1) := by decide +kernel
theorem dX9_randomReduction_82 : decode cX9_randomReduction 82 = .ok (.getfield 16, 3) := by decide +kernel
theorem dX9_randomReduction_85 : decode cX9_randomReduction 85 = .ok (.aload_n 0, 1) := by decide +kernel
theorem dX9_randomReduction_86 : decode cX9_randomReduction 86 = .ok (.getfield 16, 3) := by decide +kernel
theorem dX9_randomReduction_89 : decode cX9_randomReduction 89 = .ok (.iload 4, 2) := by decide +kernel
theorem dX9_randomReduction_91 : decode cX9_randomReduction 91 = .ok (.iload 5, 2) := by decide +kernel
theorem dX9_randomReduction_93 : decode cX9_randomReduction 93 = .ok (.irem, 1) := by decide +kernel
theorem dX9_randomReduction_94 : decode cX9_randomReduction 94 = .ok (.invokestatic 218, 3) := by decide +kernel
theorem dX9_randomReduction_97 : decode cX9_randomReduction 97 = .ok (.invokevirtual 97, 3) := by decide +kernel
theorem dX9_randomReduction_100 : decode cX9_randomReduction 100 = .ok (.ifCond .eq 14, 3) := by decide +kernel
theorem dX9_randomReduction_103 : decode cX9_randomReduction 103 = .ok (.aload_n 0, 1) := by decide +kernel
theorem dX9_randomReduction_104 : decode cX9_randomReduction 104 = .ok (.getfield 22, 3) := by decide +kernel
theorem dX9_randomReduction_107 : decode cX9_randomReduction 107 = .ok (.aload_n 0, 1) := by decide +kernel
theorem dX9_randomReduction_108 : decode cX9_randomReduction 108 = .ok (.getfield 16, 3) := by decide +kernel
theorem dX9_randomReduction_111 : decode cX9_randomReduction 111 = .ok (.invokestatic 100, 3) := by decide +kernel
theorem dX9_randomReduction_114 : decode cX9_randomReduction 114 = .ok (.iload_n 2, 1) := by decide +kernel
theorem dX9_randomReduction_115 : decode cX9_randomReduction 115 = .ok (.aload_n 0, 1) := by decide +kernel
theorem dX9_randomReduction_116 : decode cX9_randomReduction 116 = .ok (.getfield 16, 3) := by decide +kernel
theorem dX9_randomReduction_119 : decode cX9_randomReduction 119 = .ok (.sipush 200, 3) := by decide +kernel
theorem dX9_randomReduction_122 : decode cX9_randomReduction 122 = .ok (.iaload, 1) := by decide +kernel
theorem dX9_randomReduction_123 : decode cX9_randomReduction 123 = .ok (.iadd, 1) := by decide +kernel
theorem dX9_randomReduction_124 : decode cX9_randomReduction 124 = .ok (.istore_n 2, 1) := by decide +kernel
theorem dX9_randomReduction_125 : decode cX9_randomReduction 125 = .ok (.iinc 3 1, 3) := by decide +kernel
theorem dX9_randomReduction_128 : decode cX9_randomReduction 128 = .ok (.goto (-93), 3) := by decide +kernel
theorem dX9_randomReduction_131 : decode cX9_randomReduction 131 = .ok (.iload_n 2, 1) := by decide +kernel
theorem dX9_randomReduction_132 : decode cX9_randomReduction 132 = .ok (.ireturn, 1) := by decide +kernel
theorem dX9_save_0 : decode cX9_save 0 = .ok (.aload_n 0, 1) := by decide +kernel
theorem dX9_save_1 : decode cX9_save 1 = .ok (.iconst 0, 1) := by decide +kernel
theorem dX9_save_2 : decode cX9_save 2 = .ok (.putfield 59, 3) := by decide +kernel
theorem dX9_save_5 : decode cX9_save 5 = .ok (.iload_n 1, 1) := by decide +kernel
theorem dX9_save_6 : decode cX9_save 6 = .ok (.i2l, 1) := by decide +kernel
theorem dX9_save_7 : decode cX9_save 7 = .ok (.lconst 0, 1) := by decide +kernel
theorem dX9_save_8 : decode cX9_save 8 = .ok (.lconst 1, 1) := by decide +kernel
theorem dX9_save_9 : decode cX9_save 9 = .ok (.invokestatic 114, 3) := by decide +kernel
theorem dX9_save_12 : decode cX9_save 12 = .ok (.ifCond .ne 5, 3) := by decide +kernel
theorem dX9_save_15 : decode cX9_save 15 = .ok (.iconst (-1), 1) := by decide +kernel
theorem dX9_save_16 : decode cX9_save 16 = .ok (.ireturn, 1) := by decide +kernel
theorem dX9_save_17 : decode cX9_save 17 = .ok (.aload_n 0, 1) := by decide +kernel
theorem dX9_save_18 : decode cX9_save 18 = .ok (.getfield 31, 3) := by decide +kernel
theorem dX9_save_21 : decode cX9_save 21 = .ok (.iload_n 1, 1) := by decide +kernel
theorem dX9_save_22 : decode cX9_save 22 = .ok (.iconst 1, 1) := by decide +kernel
theorem dX9_save_23 : decode cX9_save 23 = .ok (.bastore, 1) := by decide +kernel
theorem dX9_save_24 : decode cX9_save 24 = .ok (.iconst 0, 1) := by decide +kernel
theorem dX9_save_25 : decode cX9_save 25 = .ok (.istore_n 2, 1) := by decide +kernel
theorem dX9_save_26 : decode cX9_save 26 = .ok (.iload_n 2, 1) := by decide +kernel
theorem dX9_save_27 : decode cX9_save 27 = .ok (.sipush 201, 3) := by decide +kernel
theorem dX9_save_30 : decode cX9_save 30 = .ok (.if_icmp .ge 27, 3) := by decide +kernel
theorem dX9_save_33 : decode cX9_save 33 = .ok (.aload_n 0, 1) := by decide +kernel
theorem dX9_save_34 : decode cX9_save 34 = .ok (.getfield 28, 3) := by decide +kernel
theorem dX9_save_37 : decode cX9_save 37 = .ok (.sipush 201, 3) := by decide +kernel
theorem dX9_save_40 : decode cX9_save 40 = .ok (.iload_n 1, 1) := by decide +kernel
theorem dX9_save_41 : decode cX9_save 41 = .ok (.imul, 1) := by decide +kernel
theorem dX9_save_42 : decode cX9_save 42 = .ok (.iload_n 2, 1) := by decide +kernel
theorem dX9_save_43 : decode cX9_save 43 = .ok (.iadd, 1) := by decide +kernel
theorem dX9_save_44 : decode cX9_save 44 = .ok (.aload_n 0, 1) := by decide +kernel
theorem dX9_save_45 : decode cX9_save 45 = .ok (.getfield 13, 3) := by decide +kernel
theorem dX9_save_48 : decode cX9_save 48 = .ok (.iload_n 2, 1) := by decide +kernel
theorem dX9_save_49 : decode cX9_save 49 = .ok (.iaload, 1) := by decide +kernel
theorem dX9_save_50 : decode cX9_save 50 = .ok (.iastore, 1) := by decide +kernel
theorem dX9_save_51 : decode cX9_save 51 = .ok (.iinc 2 1, 3) := by decide +kernel
theorem dX9_save_54 : decode cX9_save 54 = .ok (.goto (-28), 3) := by decide +kernel
theorem dX9_save_57 : decode cX9_save 57 = .ok (.aload_n 0, 1) := by decide +kernel
theorem dX9_save_58 : decode cX9_save 58 = .ok (.getfield 13, 3) := by decide +kernel
theorem dX9_save_61 : decode cX9_save 61 = .ok (.sipush 200, 3) := by decide +kernel
theorem dX9_save_64 : decode cX9_save 64 = .ok (.iaload, 1) := by decide +kernel
theorem dX9_save_65 : decode cX9_save 65 = .ok (.ireturn, 1) := by decide +kernel
theorem dX9_restore_0 : decode cX9_restore 0 = .ok (.aload_n 0, 1) := by decide +kernel
theorem dX9_restore_1 : decode cX9_restore 1 = .ok (.iconst 0, 1) := by decide +kernel
theorem dX9_restore_2 : decode cX9_restore 2 = .ok (.putfield 59, 3) := by decide +kernel
theorem dX9_restore_5 : decode cX9_restore 5 = .ok (.iload_n 1, 1) := by decide +kernel
theorem dX9_restore_6 : decode cX9_restore 6 = .ok (.i2l, 1) := by decide +kernel
theorem dX9_restore_7 : decode cX9_restore 7 = .ok (.lconst 0, 1) := by decide +kernel
theorem dX9_restore_8 : decode cX9_restore 8 = .ok (.lconst 1, 1) := by decide +kernel
theorem dX9_restore_9 : decode cX9_restore 9 = .ok (.invokestatic 114, 3) := by decide +kernel
theorem dX9_restore_12 : decode cX9_restore 12 = .ok (.ifCond .ne 5, 3) := by decide +kernel
theorem dX9_restore_15 : decode cX9_restore 15 = .ok (.iconst (-1), 1) := by decide +kernel
theorem dX9_restore_16 : decode cX9_restore 16 = .ok (.ireturn, 1) := by decide +kernel
theorem dX9_restore_17 : decode cX9_restore 17 = .ok (.aload_n 0, 1) := by decide +kernel
theorem dX9_restore_18 : decode cX9_restore 18 = .ok (.getfield 31, 3) := by decide +kernel
theorem dX9_restore_21 : decode cX9_restore 21 = .ok (.iload_n 1, 1) := by decide +kernel
theorem dX9_restore_22 : decode cX9_restore 22 = .ok (.baload, 1) := by decide +kernel
theorem dX9_restore_23 : decode cX9_restore 23 = .ok (.ifCond .ne 6, 3) := by decide +kernel
theorem dX9_restore_26 : decode cX9_restore 26 = .ok (.bipush (-3), 2) := by decide +kernel
theorem dX9_restore_28 : decode cX9_restore 28 = .ok (.ireturn, 1) := by decide +kernel
theorem dX9_restore_29 : decode cX9_restore 29 = .ok (.aload_n 0, 1) := by decide +kernel
theorem dX9_restore_30 : decode cX9_restore 30 = .ok (.iload_n 1, 1) := by decide +kernel
theorem dX9_restore_31 : decode cX9_restore 31 = .ok (.aload_n 0, 1) := by decide +kernel
theorem dX9_restore_32 : decode cX9_restore 32 = .ok (.getfield 13, 3) := by decide +kernel
theorem dX9_restore_35 : decode cX9_restore 35 = .ok (.invokevirtual 149, 3) := by decide +kernel
theorem dX9_restore_38 : decode cX9_restore 38 = .ok (.aload_n 0, 1) := by decide +kernel
theorem dX9_restore_39 : decode cX9_restore 39 = .ok (.iconst 0, 1) := by decide +kernel
theorem dX9_restore_40 : decode cX9_restore 40 = .ok (.putfield 132, 3) := by decide +kernel
theorem dX9_restore_43 : decode cX9_restore 43 = .ok (.aload_n 0, 1) := by decide +kernel
theorem dX9_restore_44 : decode cX9_restore 44 = .ok (.getfield 13, 3) := by decide +kernel
theorem dX9_restore_47 : decode cX9_restore 47 = .ok (.sipush 200, 3) := by decide +kernel
theorem dX9_restore_50 : decode cX9_restore 50 = .ok (.iaload, 1) := by decide +kernel
theorem dX9_restore_51 : decode cX9_restore 51 = .ok (.ireturn, 1) := by decide +kernel
