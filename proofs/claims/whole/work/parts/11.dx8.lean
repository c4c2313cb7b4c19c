theorem dX8_init_0 : decode cX8_init 0 = .ok (.aload_n 0, 1) := by decide +kernel
theorem dX8_init_1 : decode cX8_init 1 = .ok (.invokespecial 1, 3) := by decide +kernel
theorem dX8_init_4 : decode cX8_init 4 = .ok (.aload_n 0, 1) := by decide +kernel
theorem dX8_init_5 : decode cX8_init 5 = .ok (.new 7, 3) := by decide +kernel
theorem dX8_init_8 : decode cX8_init 8 = .ok (.dup, 1) := by decide +kernel
theorem dX8_init_9 : decode cX8_init 9 = .ok (.invokespecial 9, 3) := by decide +kernel
theorem dX8_init_12 : decode cX8_init 12 = .ok (.putfield 10, 3) := by decide +kernel
theorem dX8_init_15 : decode cX8_init 15 = .ok (.aload_n 0, 1) := by decide +kernel
theorem dX8_init_16 : decode cX8_init 16 = .ok (.new 7, 3) := by decide +kernel
theorem dX8_init_19 : decode cX8_init 19 = .ok (.dup, 1) := by decide +kernel
theorem dX8_init_20 : decode cX8_init 20 = .ok (.invokespecial 9, 3) := by decide +kernel
theorem dX8_init_23 : decode cX8_init 23 = .ok (.putfield 16, 3) := by decide +kernel
theorem dX8_init_26 : decode cX8_init 26 = .ok (.aload_n 0, 1) := by decide +kernel
theorem dX8_init_27 : decode cX8_init 27 = .ok (.new 7, 3) := by decide +kernel
theorem dX8_init_30 : decode cX8_init 30 = .ok (.dup, 1) := by decide +kernel
theorem dX8_init_31 : decode cX8_init 31 = .ok (.invokespecial 9, 3) := by decide +kernel
theorem dX8_init_34 : decode cX8_init 34 = .ok (.putfield 19, 3) := by decide +kernel
theorem dX8_init_37 : decode cX8_init 37 = .ok (.aload_n 0, 1) := by decide +kernel
theorem dX8_init_38 : decode cX8_init 38 = .ok (.new 7, 3) := by decide +kernel
theorem dX8_init_41 : decode cX8_init 41 = .ok (.dup, 1) := by decide +kernel
theorem dX8_init_42 : decode cX8_init 42 = .ok (.invokespecial 9, 3) := by decide +kernel
theorem dX8_init_45 : decode cX8_init 45 = .ok (.putfield 22, 3) := by decide +kernel
theorem dX8_init_48 : decode cX8_init 48 = .ok (.aload_n 0, 1) := by decide +kernel
theorem dX8_init_49 : decode cX8_init 49 = .ok (.new 7, 3) := by decide +kernel
theorem dX8_init_52 : decode cX8_init 52 = .ok (.dup, 1) := by decide +kernel
theorem dX8_init_53 : decode cX8_init 53 = .ok (.invokespecial 9, 3) := by decide +kernel
theorem dX8_init_56 : decode cX8_init 56 = .ok (.putfield 25, 3) := by decide +kernel
theorem dX8_init_59 : decode cX8_init 59 = .ok (.aload_n 0, 1) := by decide +kernel
theorem dX8_init_60 : decode cX8_init 60 = .ok (.new 28, 3) := by decide +kernel
theorem dX8_init_63 : decode cX8_init 63 = .ok (.dup, 1) := by decide +kernel
theorem dX8_init_64 : decode cX8_init 64 = .ok (.invokespecial 30, 3) := by decide +kernel
theorem dX8_init_67 : decode cX8_init 67 = .ok (.putfield 31, 3) := by decide +kernel
theorem dX8_init_70 : decode cX8_init 70 = .ok (.aload_n 0, 1) := by decide +kernel
theorem dX8_init_71 : decode cX8_init 71 = .ok (.new 35, 3) := by decide +kernel
theorem dX8_init_74 : decode cX8_init 74 = .ok (.dup, 1) := by decide +kernel
theorem dX8_init_75 : decode cX8_init 75 = .ok (.invokespecial 37, 3) := by decide +kernel
theorem dX8_init_78 : decode cX8_init 78 = .ok (.putfield 38, 3) := by decide +kernel
theorem dX8_init_81 : decode cX8_init 81 = .ok (.aload_n 0, 1) := by decide +kernel
theorem dX8_init_82 : decode cX8_init 82 = .ok (.new 42, 3) := by decide +kernel
theorem dX8_init_85 : decode cX8_init 85 = .ok (.dup, 1) := by decide +kernel
theorem dX8_init_86 : decode cX8_init 86 = .ok (.invokespecial 44, 3) := by decide +kernel
theorem dX8_init_89 : decode cX8_init 89 = .ok (.putfield 45, 3) := by decide +kernel
theorem dX8_init_92 : decode cX8_init 92 = .ok (.aload_n 0, 1) := by decide +kernel
theorem dX8_init_93 : decode cX8_init 93 = .ok (.new 49, 3) := by decide +kernel
theorem dX8_init_96 : decode cX8_init 96 = .ok (.dup, 1) := by decide +kernel
theorem dX8_init_97 : decode cX8_init 97 = .ok (.invokespecial 51, 3) := by decide +kernel
theorem dX8_init_100 : decode cX8_init 100 = .ok (.putfield 52, 3) := by decide +kernel
theorem dX8_init_103 : decode cX8_init 103 = .ok (.aload_n 0, 1) := by decide +kernel
theorem dX8_init_104 : decode cX8_init 104 = .ok (.new 56, 3) := by decide +kernel
theorem dX8_init_107 : decode cX8_init 107 = .ok (.dup, 1) := by decide +kernel
theorem dX8_init_108 : decode cX8_init 108 = .ok (.invokespecial 58, 3) := by decide +kernel
theorem dX8_init_111 : decode cX8_init 111 = .ok (.putfield 59, 3) := by decide +kernel
theorem dX8_init_114 : decode cX8_init 114 = .ok (.aload_n 0, 1) := by decide +kernel
theorem dX8_init_115 : decode cX8_init 115 = .ok (.new 63, 3) := by decide +kernel
theorem dX8_init_118 : decode cX8_init 118 = .ok (.dup, 1) := by decide +kernel
theorem dX8_init_119 : decode cX8_init 119 = .ok (.invokespecial 65, 3) := by decide +kernel
theorem dX8_init_122 : decode cX8_init 122 = .ok (.putfield 66, 3) := by decide +kernel
theorem dX8_init_125 : decode cX8_init 125 = .ok (.aload_n 0, 1) := by decide +kernel
theorem dX8_init_126 : decode cX8_init 126 = .ok (.lconst 0, 1) := by decide +kernel
theorem dX8_init_127 : decode cX8_init 127 = .ok (.putfield 70, 3) := by decide +kernel
theorem dX8_init_130 : decode cX8_init 130 = .ok (.aload_n 0, 1) := by decide +kernel
theorem dX8_init_131 : decode cX8_init 131 = .ok (.getfield 10, 3) := by decide +kernel
theorem dX8_init_134 : decode cX8_init 134 = .ok (.iconst 0, 1) := by decide +kernel
theorem dX8_init_135 : decode cX8_init 135 = .ok (.invokevirtual 74, 3) := by decide +kernel
theorem dX8_init_138 : decode cX8_init 138 = .ok (.return_, 1) := by decide +kernel
theorem dX8_append_0 : decode cX8_append 0 = .ok (.iload_n 1, 1) := by decide +kernel
theorem dX8_append_1 : decode cX8_append 1 = .ok (.ifCond .lt 10, 3) := by decide +kernel
theorem dX8_append_4 : decode cX8_append 4 = .ok (.iload_n 1, 1) := by decide +kernel
theorem dX8_append_5 : decode cX8_append 5 = .ok (.sipush 255, 3) := by decide +kernel
theorem dX8_append_8 : decode cX8_append 8 = .ok (.if_icmp .le 6, 3) := by decide +kernel
theorem dX8_append_11 : decode cX8_append 11 = .ok (.bipush (-2), 2) := by decide +kernel
theorem dX8_append_13 : decode cX8_append 13 = .ok (.ireturn, 1) := by decide +kernel
theorem dX8_append_14 : decode cX8_append 14 = .ok (.aload_n 0, 1) := by decide +kernel
theorem dX8_append_15 : decode cX8_append 15 = .ok (.getfield 59, 3) := by decide +kernel
theorem dX8_append_18 : decode cX8_append 18 = .ok (.iload_n 1, 1) := by decide +kernel
theorem dX8_append_19 : decode cX8_append 19 = .ok (.invokevirtual 78, 3) := by decide +kernel
theorem dX8_append_22 : decode cX8_append 22 = .ok (.ifCond .eq 13, 3) := by decide +kernel
theorem dX8_append_25 : decode cX8_append 25 = .ok (.aload_n 0, 1) := by decide +kernel
theorem dX8_append_26 : decode cX8_append 26 = .ok (.getfield 59, 3) := by decide +kernel
theorem dX8_append_29 : decode cX8_append 29 = .ok (.invokevirtual 82, 3) := by decide +kernel
theorem dX8_append_32 : decode cX8_append 32 = .ok (.goto 5, 3) := by decide +kernel
theorem dX8_append_35 : decode cX8_append 35 = .ok (.bipush (-4), 2) := by decide +kernel
theorem dX8_append_37 : decode cX8_append 37 = .ok (.ireturn, 1) := by decide +kernel
theorem dX8_clearText_0 : decode cX8_clearText 0 = .ok (.aload_n 0, 1) := by decide +kernel
theorem dX8_clearText_1 : decode cX8_clearText 1 = .ok (.getfield 59, 3) := by decide +kernel
theorem dX8_clearText_4 : decode cX8_clearText 4 = .ok (.invokevirtual 82, 3) := by decide +kernel
theorem dX8_clearText_7 : decode cX8_clearText 7 = .ok (.istore_n 1, 1) := by decide +kernel
theorem dX8_clearText_8 : decode cX8_clearText 8 = .ok (.aload_n 0, 1) := by decide +kernel
theorem dX8_clearText_9 : decode cX8_clearText 9 = .ok (.getfield 59, 3) := by decide +kernel
theorem dX8_clearText_12 : decode cX8_clearText 12 = .ok (.invokevirtual 86, 3) := by decide +kernel
theorem dX8_clearText_15 : decode cX8_clearText 15 = .ok (.iload_n 1, 1) := by decide +kernel
theorem dX8_clearText_16 : decode cX8_clearText 16 = .ok (.ireturn, 1) := by decide +kernel
theorem dX8_errorPosition_0 : decode cX8_errorPosition 0 = .ok (.aload_n 0, 1) := by decide +kernel
theorem dX8_errorPosition_1 : decode cX8_errorPosition 1 = .ok (.getfield 59, 3) := by decide +kernel
theorem dX8_errorPosition_4 : decode cX8_errorPosition 4 = .ok (.invokevirtual 89, 3) := by decide +kernel
theorem dX8_errorPosition_7 : decode cX8_errorPosition 7 = .ok (.ireturn, 1) := by decide +kernel
theorem dX8_load_0 : decode cX8_load 0 = .ok (.aload_n 0, 1) := by decide +kernel
theorem dX8_load_1 : decode cX8_load 1 = .ok (.getfield 59, 3) := by decide +kernel
theorem dX8_load_4 : decode cX8_load 4 = .ok (.invokevirtual 89, 3) := by decide +kernel
theorem dX8_load_7 : decode cX8_load 7 = .ok (.bipush (-9), 2) := by decide +kernel
theorem dX8_load_9 : decode cX8_load 9 = .ok (.if_icmp .eq 6, 3) := by decide +kernel
theorem dX8_load_12 : decode cX8_load 12 = .ok (.bipush (-3), 2) := by decide +kernel
theorem dX8_load_14 : decode cX8_load 14 = .ok (.ireturn, 1) := by decide +kernel
theorem dX8_load_15 : decode cX8_load 15 = .ok (.aload_n 0, 1) := by decide +kernel
theorem dX8_load_16 : decode cX8_load 16 = .ok (.getfield 59, 3) := by decide +kernel
theorem dX8_load_19 : decode cX8_load 19 = .ok (.aload_n 0, 1) := by decide +kernel
theorem dX8_load_20 : decode cX8_load 20 = .ok (.getfield 10, 3) := by decide +kernel
theorem dX8_load_23 : decode cX8_load 23 = .ok (.invokevirtual 92, 3) := by decide +kernel
theorem dX8_load_26 : decode cX8_load 26 = .ok (.aload_n 0, 1) := by decide +kernel
theorem dX8_load_27 : decode cX8_load 27 = .ok (.getfield 52, 3) := by decide +kernel
theorem dX8_load_30 : decode cX8_load 30 = .ok (.invokevirtual 96, 3) := by decide +kernel
theorem dX8_load_33 : decode cX8_load 33 = .ok (.aload_n 0, 1) := by decide +kernel
theorem dX8_load_34 : decode cX8_load 34 = .ok (.getfield 22, 3) := by decide +kernel
theorem dX8_load_37 : decode cX8_load 37 = .ok (.invokevirtual 99, 3) := by decide +kernel
theorem dX8_load_40 : decode cX8_load 40 = .ok (.aload_n 0, 1) := by decide +kernel
theorem dX8_load_41 : decode cX8_load 41 = .ok (.getfield 25, 3) := by decide +kernel
theorem dX8_load_44 : decode cX8_load 44 = .ok (.invokevirtual 99, 3) := by decide +kernel
theorem dX8_load_47 : decode cX8_load 47 = .ok (.aload_n 0, 1) := by decide +kernel
theorem dX8_load_48 : decode cX8_load 48 = .ok (.getfield 10, 3) := by decide +kernel
theorem dX8_load_51 : decode cX8_load 51 = .ok (.invokevirtual 100, 3) := by decide +kernel
theorem dX8_load_54 : decode cX8_load 54 = .ok (.ireturn, 1) := by decide +kernel
theorem dX8_size_0 : decode cX8_size 0 = .ok (.aload_n 0, 1) := by decide +kernel
theorem dX8_size_1 : decode cX8_size 1 = .ok (.getfield 10, 3) := by decide +kernel
theorem dX8_size_4 : decode cX8_size 4 = .ok (.invokevirtual 100, 3) := by decide +kernel
theorem dX8_size_7 : decode cX8_size 7 = .ok (.ireturn, 1) := by decide +kernel
theorem dX8_tokenAt_0 : decode cX8_tokenAt 0 = .ok (.aload_n 0, 1) := by decide +kernel
theorem dX8_tokenAt_1 : decode cX8_tokenAt 1 = .ok (.getfield 10, 3) := by decide +kernel
theorem dX8_tokenAt_4 : decode cX8_tokenAt 4 = .ok (.iload_n 1, 1) := by decide +kernel
theorem dX8_tokenAt_5 : decode cX8_tokenAt 5 = .ok (.invokevirtual 101, 3) := by decide +kernel
theorem dX8_tokenAt_8 : decode cX8_tokenAt 8 = .ok (.ifCond .eq 14, 3) := by decide +kernel
theorem dX8_tokenAt_11 : decode cX8_tokenAt 11 = .ok (.aload_n 0, 1) := by decide +kernel
theorem dX8_tokenAt_12 : decode cX8_tokenAt 12 = .ok (.getfield 10, 3) := by decide +kernel
theorem dX8_tokenAt_15 : decode cX8_tokenAt 15 = .ok (.iload_n 1, 1) := by decide +kernel
theorem dX8_tokenAt_16 : decode cX8_tokenAt 16 = .ok (.invokevirtual 104, 3) := by decide +kernel
theorem dX8_tokenAt_19 : decode cX8_tokenAt 19 = .ok (.goto 4, 3) := by decide +kernel
theorem dX8_tokenAt_22 : decode cX8_tokenAt 22 = .ok (.iconst (-1), 1) := by decide +kernel
theorem dX8_tokenAt_23 : decode cX8_tokenAt 23 = .ok (.ireturn, 1) := by decide +kernel
theorem dX8_nameAt_0 : decode cX8_nameAt 0 = .ok (.aload_n 0, 1) := by decide +kernel
theorem dX8_nameAt_1 : decode cX8_nameAt 1 = .ok (.getfield 10, 3) := by decide +kernel
theorem dX8_nameAt_4 : decode cX8_nameAt 4 = .ok (.iload_n 1, 1) := by decide +kernel
theorem dX8_nameAt_5 : decode cX8_nameAt 5 = .ok (.invokevirtual 101, 3) := by decide +kernel
theorem dX8_nameAt_8 : decode cX8_nameAt 8 = .ok (.ifCond .ne 5, 3) := by decide +kernel
theorem dX8_nameAt_11 : decode cX8_nameAt 11 = .ok (.iconst (-1), 1) := by decide +kernel
theorem dX8_nameAt_12 : decode cX8_nameAt 12 = .ok (.ireturn, 1) := by decide +kernel
theorem dX8_nameAt_13 : decode cX8_nameAt 13 = .ok (.aload_n 0, 1) := by decide +kernel
theorem dX8_nameAt_14 : decode cX8_nameAt 14 = .ok (.getfield 10, 3) := by decide +kernel
theorem dX8_nameAt_17 : decode cX8_nameAt 17 = .ok (.iload_n 1, 1) := by decide +kernel
theorem dX8_nameAt_18 : decode cX8_nameAt 18 = .ok (.invokevirtual 104, 3) := by decide +kernel
theorem dX8_nameAt_21 : decode cX8_nameAt 21 = .ok (.istore_n 2, 1) := by decide +kernel
theorem dX8_nameAt_22 : decode cX8_nameAt 22 = .ok (.iload_n 2, 1) := by decide +kernel
theorem dX8_nameAt_23 : decode cX8_nameAt 23 = .ok (.sipush 1000, 3) := by decide +kernel
theorem dX8_nameAt_26 : decode cX8_nameAt 26 = .ok (.if_icmp .ne 6, 3) := by decide +kernel
theorem dX8_nameAt_29 : decode cX8_nameAt 29 = .ok (.bipush (-9), 2) := by decide +kernel
theorem dX8_nameAt_31 : decode cX8_nameAt 31 = .ok (.ireturn, 1) := by decide +kernel
theorem dX8_nameAt_32 : decode cX8_nameAt 32 = .ok (.aload_n 0, 1) := by decide +kernel
theorem dX8_nameAt_33 : decode cX8_nameAt 33 = .ok (.getfield 31, 3) := by decide +kernel
theorem dX8_nameAt_36 : decode cX8_nameAt 36 = .ok (.aload_n 0, 1) := by decide +kernel
theorem dX8_nameAt_37 : decode cX8_nameAt 37 = .ok (.getfield 10, 3) := by decide +kernel
theorem dX8_nameAt_40 : decode cX8_nameAt 40 = .ok (.invokevirtual 108, 3) := by decide +kernel
theorem dX8_nameAt_43 : decode cX8_nameAt 43 = .ok (.aload_n 0, 1) := by decide +kernel
theorem dX8_nameAt_44 : decode cX8_nameAt 44 = .ok (.getfield 31, 3) := by decide +kernel
theorem dX8_nameAt_47 : decode cX8_nameAt 47 = .ok (.iload_n 1, 1) := by decide +kernel
theorem dX8_nameAt_48 : decode cX8_nameAt 48 = .ok (.invokevirtual 111, 3) := by decide +kernel
theorem dX8_nameAt_51 : decode cX8_nameAt 51 = .ok (.istore_n 3, 1) := by decide +kernel
theorem dX8_nameAt_52 : decode cX8_nameAt 52 = .ok (.iload_n 2, 1) := by decide +kernel
theorem dX8_nameAt_53 : decode cX8_nameAt 53 = .ok (.sipush 1001, 3) := by decide +kernel
theorem dX8_nameAt_56 : decode cX8_nameAt 56 = .ok (.if_icmp .ne 8, 3) := by decide +kernel
theorem dX8_nameAt_59 : decode cX8_nameAt 59 = .ok (.bipush 97, 2) := by decide +kernel
theorem dX8_nameAt_61 : decode cX8_nameAt 61 = .ok (.iload_n 3, 1) := by decide +kernel
theorem dX8_nameAt_62 : decode cX8_nameAt 62 = .ok (.iadd, 1) := by decide +kernel
theorem dX8_nameAt_63 : decode cX8_nameAt 63 = .ok (.ireturn, 1) := by decide +kernel
theorem dX8_nameAt_64 : decode cX8_nameAt 64 = .ok (.iload_n 2, 1) := by decide +kernel
theorem dX8_nameAt_65 : decode cX8_nameAt 65 = .ok (.iload_n 3, 1) := by decide +kernel
theorem dX8_nameAt_66 : decode cX8_nameAt 66 = .ok (.if_icmp .ge 14, 3) := by decide +kernel
theorem dX8_nameAt_69 : decode cX8_nameAt 69 = .ok (.bipush 97, 2) := by decide +kernel
theorem dX8_nameAt_71 : decode cX8_nameAt 71 = .ok (.iload_n 3, 1) := by decide +kernel
theorem dX8_nameAt_72 : decode cX8_nameAt 72 = .ok (.iadd, 1) := by decide +kernel
theorem dX8_nameAt_73 : decode cX8_nameAt 73 = .ok (.iconst 1, 1) := by decide +kernel
theorem dX8_nameAt_74 : decode cX8_nameAt 74 = .ok (.isub, 1) := by decide +kernel
theorem dX8_nameAt_75 : decode cX8_nameAt 75 = .ok (.iload_n 2, 1) := by decide +kernel
theorem dX8_nameAt_76 : decode cX8_nameAt 76 = .ok (.isub, 1) := by decide +kernel
theorem dX8_nameAt_77 : decode cX8_nameAt 77 = .ok (.goto 9, 3) := by decide +kernel
theorem dX8_nameAt_80 : decode cX8_nameAt 80 = .ok (.bipush 65, 2) := by decide +kernel
theorem dX8_nameAt_82 : decode cX8_nameAt 82 = .ok (.iload_n 2, 1) := by decide +kernel
theorem dX8_nameAt_83 : decode cX8_nameAt 83 = .ok (.iadd, 1) := by decide +kernel
theorem dX8_nameAt_84 : decode cX8_nameAt 84 = .ok (.iload_n 3, 1) := by decide +kernel
theorem dX8_nameAt_85 : decode cX8_nameAt 85 = .ok (.isub, 1) := by decide +kernel
theorem dX8_nameAt_86 : decode cX8_nameAt 86 = .ok (.ireturn, 1) := by decide +kernel
theorem dX8_redexCount_0 : decode cX8_redexCount 0 = .ok (.aload_n 0, 1) := by decide +kernel
theorem dX8_redexCount_1 : decode cX8_redexCount 1 = .ok (.getfield 10, 3) := by decide +kernel
theorem dX8_redexCount_4 : decode cX8_redexCount 4 = .ok (.invokestatic 114, 3) := by decide +kernel
theorem dX8_redexCount_7 : decode cX8_redexCount 7 = .ok (.ireturn, 1) := by decide +kernel
theorem dX8_chosenRedex_0 : decode cX8_chosenRedex 0 = .ok (.iload_n 1, 1) := by decide +kernel
theorem dX8_chosenRedex_1 : decode cX8_chosenRedex 1 = .ok (.invokestatic 118, 3) := by decide +kernel
theorem dX8_chosenRedex_4 : decode cX8_chosenRedex 4 = .ok (.ifCond .eq 14, 3) := by decide +kernel
theorem dX8_chosenRedex_7 : decode cX8_chosenRedex 7 = .ok (.aload_n 0, 1) := by decide +kernel
theorem dX8_chosenRedex_8 : decode cX8_chosenRedex 8 = .ok (.getfield 10, 3) := by decide +kernel
theorem dX8_chosenRedex_11 : decode cX8_chosenRedex 11 = .ok (.iload_n 1, 1) := by decide +kernel
theorem dX8_chosenRedex_12 : decode cX8_chosenRedex 12 = .ok (.invokestatic 121, 3) := by decide +kernel
theorem dX8_chosenRedex_15 : decode cX8_chosenRedex 15 = .ok (.goto 5, 3) := by decide +kernel
theorem dX8_chosenRedex_18 : decode cX8_chosenRedex 18 = .ok (.bipush (-2), 2) := by decide +kernel
theorem dX8_chosenRedex_20 : decode cX8_chosenRedex 20 = .ok (.ireturn, 1) := by decide +kernel
theorem dX8_freeVariables_0 : decode cX8_freeVariables 0 = .ok (.aload_n 0, 1) := by decide +kernel
theorem dX8_freeVariables_1 : decode cX8_freeVariables 1 = .ok (.getfield 31, 3) := by decide +kernel
theorem dX8_freeVariables_4 : decode cX8_freeVariables 4 = .ok (.aload_n 0, 1) := by decide +kernel
theorem dX8_freeVariables_5 : decode cX8_freeVariables 5 = .ok (.getfield 10, 3) := by decide +kernel
theorem dX8_freeVariables_8 : decode cX8_freeVariables 8 = .ok (.invokevirtual 108, 3) := by decide +kernel
theorem dX8_freeVariables_11 : decode cX8_freeVariables 11 = .ok (.iconst 0, 1) := by decide +kernel
theorem dX8_freeVariables_12 : decode cX8_freeVariables 12 = .ok (.istore_n 1, 1) := by decide +kernel
theorem dX8_freeVariables_13 : decode cX8_freeVariables 13 = .ok (.iconst 0, 1) := by decide +kernel
theorem dX8_freeVariables_14 : decode cX8_freeVariables 14 = .ok (.istore_n 2, 1) := by decide +kernel
theorem dX8_freeVariables_15 : decode cX8_freeVariables 15 = .ok (.iload_n 2, 1) := by decide +kernel
theorem dX8_freeVariables_16 : decode cX8_freeVariables 16 = .ok (.aload_n 0, 1) := by decide +kernel
theorem dX8_freeVariables_17 : decode cX8_freeVariables 17 = .ok (.getfield 10, 3) := by decide +kernel
theorem dX8_freeVariables_20 : decode cX8_freeVariables 20 = .ok (.invokevirtual 100, 3) := by decide +kernel
theorem dX8_freeVariables_23 : decode cX8_freeVariables 23 = .ok (.if_icmp .ge 51, 3) := by decide +kernel
theorem dX8_freeVariables_26 : decode cX8_freeVariables 26 = .ok (.aload_n 0, 1) := by decide +kernel
theorem dX8_freeVariables_27 : decode cX8_freeVariables 27 = .ok (.getfield 10, 3) := by decide +kernel
theorem dX8_freeVariables_30 : decode cX8_freeVariables 30 = .ok (.iload_n 2, 1) := by decide +kernel
theorem dX8_freeVariables_31 : decode cX8_freeVariables 31 = .ok (.invokevirtual 104, 3) := by decide +kernel
theorem dX8_freeVariables_34 : decode cX8_freeVariables 34 = .ok (.aload_n 0, 1) := by decide +kernel
theorem dX8_freeVariables_35 : decode cX8_freeVariables 35 = .ok (.getfield 31, 3) := by decide +kernel
theorem dX8_freeVariables_38 : decode cX8_freeVariables 38 = .ok (.iload_n 2, 1) := by decide +kernel
theorem dX8_freeVariables_39 : decode cX8_freeVariables 39 = .ok (.invokevirtual 111, 3) := by decide +kernel
theorem dX8_freeVariables_42 : decode cX8_freeVariables 42 = .ok (.isub, 1) := by decide +kernel
theorem dX8_freeVariables_43 : decode cX8_freeVariables 43 = .ok (.istore_n 3, 1) := by decide +kernel
theorem dX8_freeVariables_44 : decode cX8_freeVariables 44 = .ok (.aload_n 0, 1) := by decide +kernel
theorem dX8_freeVariables_45 : decode cX8_freeVariables 45 = .ok (.getfield 10, 3) := by decide +kernel
theorem dX8_freeVariables_48 : decode cX8_freeVariables 48 = .ok (.iload_n 2, 1) := by decide +kernel
theorem dX8_freeVariables_49 : decode cX8_freeVariables 49 = .ok (.invokevirtual 104, 3) := by decide +kernel
theorem dX8_freeVariables_52 : decode cX8_freeVariables 52 = .ok (.invokestatic 125, 3) := by decide +kernel
theorem dX8_freeVariables_55 : decode cX8_freeVariables 55 = .ok (.ifCond .eq 13, 3) := by decide +kernel
theorem dX8_freeVariables_58 : decode cX8_freeVariables 58 = .ok (.iload_n 3, 1) := by decide +kernel
theorem dX8_freeVariables_59 : decode cX8_freeVariables 59 = .ok (.ifCond .lt 9, 3) := by decide +kernel
theorem dX8_freeVariables_62 : decode cX8_freeVariables 62 = .ok (.iload_n 1, 1) := by decide +kernel
theorem dX8_freeVariables_63 : decode cX8_freeVariables 63 = .ok (.iconst 1, 1) := by decide +kernel
theorem dX8_freeVariables_64 : decode cX8_freeVariables 64 = .ok (.iload_n 3, 1) := by decide +kernel
theorem dX8_freeVariables_65 : decode cX8_freeVariables 65 = .ok (.ishl, 1) := by decide +kernel
theorem dX8_freeVariables_66 : decode cX8_freeVariables 66 = .ok (.ior, 1) := by decide +kernel
theorem dX8_freeVariables_67 : decode cX8_freeVariables 67 = .ok (.istore_n 1, 1) := by decide +kernel
theorem dX8_freeVariables_68 : decode cX8_freeVariables 68 = .ok (.iinc 2 1, 3) := by decide +kernel
theorem dX8_freeVariables_71 : decode cX8_freeVariables 71 = .ok (.goto (-56), 3) := by decide +kernel
theorem dX8_freeVariables_74 : decode cX8_freeVariables 74 = .ok (.iload_n 1, 1) := by decide +kernel
theorem dX8_freeVariables_75 : decode cX8_freeVariables 75 = .ok (.ireturn, 1) := by decide +kernel
theorem dX8_step_0 : decode cX8_step 0 = .ok (.iload_n 1, 1) := by decide +kernel
theorem dX8_step_1 : decode cX8_step 1 = .ok (.invokestatic 118, 3) := by decide +kernel
theorem dX8_step_4 : decode cX8_step 4 = .ok (.ifCond .ne 6, 3) := by decide +kernel
theorem dX8_step_7 : decode cX8_step 7 = .ok (.bipush (-2), 2) := by decide +kernel
theorem dX8_step_9 : decode cX8_step 9 = .ok (.ireturn, 1) := by decide +kernel
theorem dX8_step_10 : decode cX8_step 10 = .ok (.aload_n 0, 1) := by decide +kernel
theorem dX8_step_11 : decode cX8_step 11 = .ok (.getfield 10, 3) := by decide +kernel
theorem dX8_step_14 : decode cX8_step 14 = .ok (.iload_n 1, 1) := by decide +kernel
theorem dX8_step_15 : decode cX8_step 15 = .ok (.invokestatic 121, 3) := by decide +kernel
theorem dX8_step_18 : decode cX8_step 18 = .ok (.istore_n 2, 1) := by decide +kernel
theorem dX8_step_19 : decode cX8_step 19 = .ok (.iload_n 2, 1) := by decide +kernel
theorem dX8_step_20 : decode cX8_step 20 = .ok (.bipush (-9), 2) := by decide +kernel
theorem dX8_step_22 : decode cX8_step 22 = .ok (.if_icmp .ne 6, 3) := by decide +kernel
theorem dX8_step_25 : decode cX8_step 25 = .ok (.bipush (-3), 2) := by decide +kernel
theorem dX8_step_27 : decode cX8_step 27 = .ok (.ireturn, 1) := by decide +kernel
theorem dX8_step_28 : decode cX8_step 28 = .ok (.aload_n 0, 1) := by decide +kernel
theorem dX8_step_29 : decode cX8_step 29 = .ok (.getfield 16, 3) := by decide +kernel
theorem dX8_step_32 : decode cX8_step 32 = .ok (.aload_n 0, 1) := by decide +kernel
theorem dX8_step_33 : decode cX8_step 33 = .ok (.getfield 10, 3) := by decide +kernel
theorem dX8_step_36 : decode cX8_step 36 = .ok (.invokevirtual 128, 3) := by decide +kernel
theorem dX8_step_39 : decode cX8_step 39 = .ok (.aload_n 0, 1) := by decide +kernel
theorem dX8_step_40 : decode cX8_step 40 = .ok (.getfield 38, 3) := by decide +kernel
theorem dX8_step_43 : decode cX8_step 43 = .ok (.aload_n 0, 1) := by decide +kernel
theorem dX8_step_44 : decode cX8_step 44 = .ok (.getfield 16, 3) := by decide +kernel
theorem dX8_step_47 : decode cX8_step 47 = .ok (.iload_n 2, 1) := by decide +kernel
theorem dX8_step_48 : decode cX8_step 48 = .ok (.invokevirtual 131, 3) := by decide +kernel
theorem dX8_step_51 : decode cX8_step 51 = .ok (.ifCond .eq 10, 3) := by decide +kernel
theorem dX8_step_54 : decode cX8_step 54 = .ok (.aload_n 0, 1) := by decide +kernel
theorem dX8_step_55 : decode cX8_step 55 = .ok (.invokevirtual 135, 3) := by decide +kernel
theorem dX8_step_58 : decode cX8_step 58 = .ok (.goto 5, 3) := by decide +kernel
theorem dX8_step_61 : decode cX8_step 61 = .ok (.bipush (-4), 2) := by decide +kernel
theorem dX8_step_63 : decode cX8_step 63 = .ok (.ireturn, 1) := by decide +kernel
theorem dX8_run_0 : decode cX8_run 0 = .ok (.iload_n 1, 1) := by decide +kernel
theorem dX8_run_1 : decode cX8_run 1 = .ok (.invokestatic 118, 3) := by decide +kernel
theorem dX8_run_4 : decode cX8_run 4 = .ok (.ifCond .eq 14, 3) := by decide +kernel
theorem dX8_run_7 : decode cX8_run 7 = .ok (.iload_n 2, 1) := by decide +kernel
theorem dX8_run_8 : decode cX8_run 8 = .ok (.iconst 1, 1) := by decide +kernel
theorem dX8_run_9 : decode cX8_run 9 = .ok (.if_icmp .lt 9, 3) := by decide +kernel
theorem dX8_run_12 : decode cX8_run 12 = .ok (.iload_n 2, 1) := by decide +kernel
theorem dX8_run_13 : decode cX8_run 13 = .ok (.bipush 50, 2) := by decide +kernel
theorem dX8_run_15 : decode cX8_run 15 = .ok (.if_icmp .le 6, 3) := by decide +kernel
theorem dX8_run_18 : decode cX8_run 18 = .ok (.bipush (-2), 2) := by decide +kernel
theorem dX8_run_20 : decode cX8_run 20 = .ok (.ireturn, 1) := by decide +kernel
theorem dX8_run_21 : decode cX8_run 21 = .ok (.aload_n 0, 1) := by decide +kernel
theorem dX8_run_22 : decode cX8_run 22 = .ok (.getfield 16, 3) := by decide +kernel
theorem dX8_run_25 : decode cX8_run 25 = .ok (.aload_n 0, 1) := by decide +kernel
theorem dX8_run_26 : decode cX8_run 26 = .ok (.getfield 10, 3) := by decide +kernel
theorem dX8_run_29 : decode cX8_run 29 = .ok (.invokevirtual 128, 3) := by decide +kernel
theorem dX8_run_32 : decode cX8_run 32 = .ok (.aload_n 0, 1) := by decide +kernel
theorem dX8_run_33 : decode cX8_run 33 = .ok (.getfield 38, 3) := by decide +kernel
theorem dX8_run_36 : decode cX8_run 36 = .ok (.aload_n 0, 1) := by decide +kernel
theorem dX8_run_37 : decode cX8_run 37 = .ok (.getfield 16, 3) := by decide +kernel
theorem dX8_run_40 : decode cX8_run 40 = .ok (.iload_n 1, 1) := by decide +kernel
theorem dX8_run_41 : decode cX8_run 41 = .ok (.iload_n 2, 1) := by decide +kernel
theorem dX8_run_42 : decode cX8_run 42 = .ok (.invokevirtual 138, 3) := by decide +kernel
theorem dX8_run_45 : decode cX8_run 45 = .ok (.istore_n 3, 1) := by decide +kernel
theorem dX8_run_46 : decode cX8_run 46 = .ok (.aload_n 0, 1) := by decide +kernel
theorem dX8_run_47 : decode cX8_run 47 = .ok (.invokevirtual 135, 3) := by decide +kernel
theorem dX8_run_50 : decode cX8_run 50 = .ok (.pop, 1) := by decide +kernel
theorem dX8_run_51 : decode cX8_run 51 = .ok (.iload_n 3, 1) := by decide +kernel
theorem dX8_run_52 : decode cX8_run 52 = .ok (.ireturn, 1) := by decide +kernel
theorem dX8_abstractTerm_0 : decode cX8_abstractTerm 0 = .ok (.aload_n 0, 1) := by decide +kernel
theorem dX8_abstractTerm_1 : decode cX8_abstractTerm 1 = .ok (.getfield 16, 3) := by decide +kernel
theorem dX8_abstractTerm_4 : decode cX8_abstractTerm 4 = .ok (.aload_n 0, 1) := by decide +kernel
theorem dX8_abstractTerm_5 : decode cX8_abstractTerm 5 = .ok (.getfield 10, 3) := by decide +kernel
theorem dX8_abstractTerm_8 : decode cX8_abstractTerm 8 = .ok (.invokevirtual 128, 3) := by decide +kernel
theorem dX8_abstractTerm_11 : decode cX8_abstractTerm 11 = .ok (.aload_n 0, 1) := by decide +kernel
theorem dX8_abstractTerm_12 : decode cX8_abstractTerm 12 = .ok (.getfield 16, 3) := by decide +kernel
theorem dX8_abstractTerm_15 : decode cX8_abstractTerm 15 = .ok (.invokevirtual 142, 3) := by decide +kernel
theorem dX8_abstractTerm_18 : decode cX8_abstractTerm 18 = .ok (.ifCond .eq 10, 3) := by decide +kernel
theorem dX8_abstractTerm_21 : decode cX8_abstractTerm 21 = .ok (.aload_n 0, 1) := by decide +kernel
theorem dX8_abstractTerm_22 : decode cX8_abstractTerm 22 = .ok (.invokevirtual 135, 3) := by decide +kernel
theorem dX8_abstractTerm_25 : decode cX8_abstractTerm 25 = .ok (.goto 5, 3) := by decide +kernel
theorem dX8_abstractTerm_28 : decode cX8_abstractTerm 28 = .ok (.bipush (-4), 2) := by decide +kernel
theorem dX8_abstractTerm_30 : decode cX8_abstractTerm 30 = .ok (.ireturn, 1) := by decide +kernel
theorem dX8_applyTo_0 : decode cX8_applyTo 0 = .ok (.iload_n 1, 1) := by decide +kernel
theorem dX8_applyTo_1 : decode cX8_applyTo 1 = .ok (.invokestatic 146, 3) := by decide +kernel
theorem dX8_applyTo_4 : decode cX8_applyTo 4 = .ok (.ifCond .ne 5, 3) := by decide +kernel
theorem dX8_applyTo_7 : decode cX8_applyTo 7 = .ok (.iconst (-1), 1) := by decide +kernel
theorem dX8_applyTo_8 : decode cX8_applyTo 8 = .ok (.ireturn, 1) := by decide +kernel
theorem dX8_applyTo_9 : decode cX8_applyTo 9 = .ok (.aload_n 0, 1) := by decide +kernel
theorem dX8_applyTo_10 : decode cX8_applyTo 10 = .ok (.iload_n 1, 1) := by decide +kernel
theorem dX8_applyTo_11 : decode cX8_applyTo 11 = .ok (.invokevirtual 149, 3) := by decide +kernel
theorem dX8_applyTo_14 : decode cX8_applyTo 14 = .ok (.astore_n 2, 1) := by decide +kernel
theorem dX8_applyTo_15 : decode cX8_applyTo 15 = .ok (.aload_n 2, 1) := by decide +kernel
theorem dX8_applyTo_16 : decode cX8_applyTo 16 = .ok (.invokevirtual 100, 3) := by decide +kernel
theorem dX8_applyTo_19 : decode cX8_applyTo 19 = .ok (.ifCond .ne 6, 3) := by decide +kernel
theorem dX8_applyTo_22 : decode cX8_applyTo 22 = .ok (.bipush (-3), 2) := by decide +kernel
theorem dX8_applyTo_24 : decode cX8_applyTo 24 = .ok (.ireturn, 1) := by decide +kernel
theorem dX8_applyTo_25 : decode cX8_applyTo 25 = .ok (.aload_n 0, 1) := by decide +kernel
theorem dX8_applyTo_26 : decode cX8_applyTo 26 = .ok (.getfield 16, 3) := by decide +kernel
theorem dX8_applyTo_29 : decode cX8_applyTo 29 = .ok (.invokevirtual 99, 3) := by decide +kernel
theorem dX8_applyTo_32 : decode cX8_applyTo 32 = .ok (.aload_n 0, 1) := by decide +kernel
theorem dX8_applyTo_33 : decode cX8_applyTo 33 = .ok (.getfield 16, 3) := by decide +kernel
theorem dX8_applyTo_36 : decode cX8_applyTo 36 = .ok (.sipush 1000, 3) := by decide +kernel
theorem dX8_applyTo_39 : decode cX8_applyTo 39 = .ok (.invokevirtual 74, 3) := by decide +kernel
theorem dX8_applyTo_42 : decode cX8_applyTo 42 = .ok (.aload_n 0, 1) := by decide +kernel
theorem dX8_applyTo_43 : decode cX8_applyTo 43 = .ok (.getfield 16, 3) := by decide +kernel
theorem dX8_applyTo_46 : decode cX8_applyTo 46 = .ok (.aload_n 0, 1) := by decide +kernel
theorem dX8_applyTo_47 : decode cX8_applyTo 47 = .ok (.getfield 10, 3) := by decide +kernel
theorem dX8_applyTo_50 : decode cX8_applyTo 50 = .ok (.iconst 0, 1) := by decide +kernel
theorem dX8_applyTo_51 : decode cX8_applyTo 51 = .ok (.aload_n 0, 1) := by decide +kernel
theorem dX8_applyTo_52 : decode cX8_applyTo 52 = .ok (.getfield 10, 3) := by decide +kernel
theorem dX8_applyTo_55 : decode cX8_applyTo 55 = .ok (.invokevirtual 100, 3) := by decide +kernel
theorem dX8_applyTo_58 : decode cX8_applyTo 58 = .ok (.invokevirtual 153, 3) := by decide +kernel
theorem dX8_applyTo_61 : decode cX8_applyTo 61 = .ok (.aload_n 0, 1) := by decide +kernel
theorem dX8_applyTo_62 : decode cX8_applyTo 62 = .ok (.getfield 16, 3) := by decide +kernel
theorem dX8_applyTo_65 : decode cX8_applyTo 65 = .ok (.aload_n 2, 1) := by decide +kernel
theorem dX8_applyTo_66 : decode cX8_applyTo 66 = .ok (.iconst 0, 1) := by decide +kernel
theorem dX8_applyTo_67 : decode cX8_applyTo 67 = .ok (.aload_n 2, 1) := by decide +kernel
theorem dX8_applyTo_68 : decode cX8_applyTo 68 = .ok (.invokevirtual 100, 3) := by decide +kernel
theorem dX8_applyTo_71 : decode cX8_applyTo 71 = .ok (.invokevirtual 153, 3) := by decide +kernel
theorem dX8_applyTo_74 : decode cX8_applyTo 74 = .ok (.aload_n 0, 1) := by decide +kernel
theorem dX8_applyTo_75 : decode cX8_applyTo 75 = .ok (.getfield 16, 3) := by decide +kernel
theorem dX8_applyTo_78 : decode cX8_applyTo 78 = .ok (.invokevirtual 157, 3) := by decide +kernel
theorem dX8_applyTo_81 : decode cX8_applyTo 81 = .ok (.ifCond .eq 8, 3) := by decide +kernel
theorem dX8_applyTo_84 : decode cX8_applyTo 84 = .ok (.bipush (-4), 2) := by decide +kernel
theorem dX8_applyTo_86 : decode cX8_applyTo 86 = .ok (.goto 7, 3) := by decide +kernel
theorem dX8_applyTo_89 : decode cX8_applyTo 89 = .ok (.aload_n 0, 1) := by decide +kernel
theorem dX8_applyTo_90 : decode cX8_applyTo 90 = .ok (.invokevirtual 135, 3) := by decide +kernel
theorem dX8_applyTo_93 : decode cX8_applyTo 93 = .ok (.ireturn, 1) := by decide +kernel
theorem dX8_substitute_0 : decode cX8_substitute 0 = .ok (.iload_n 2, 1) := by decide +kernel
theorem dX8_substitute_1 : decode cX8_substitute 1 = .ok (.invokestatic 146, 3) := by decide +kernel
theorem dX8_substitute_4 : decode cX8_substitute 4 = .ok (.ifCond .ne 5, 3) := by decide +kernel
theorem dX8_substitute_7 : decode cX8_substitute 7 = .ok (.iconst (-1), 1) := by decide +kernel
theorem dX8_substitute_8 : decode cX8_substitute 8 = .ok (.ireturn, 1) := by decide +kernel
theorem dX8_substitute_9 : decode cX8_substitute 9 = .ok (.iload_n 1, 1) := by decide +kernel
theorem dX8_substitute_10 : decode cX8_substitute 10 = .ok (.ifCond .lt 9, 3) := by decide +kernel
theorem dX8_substitute_13 : decode cX8_substitute 13 = .ok (.iload_n 1, 1) := by decide +kernel
theorem dX8_substitute_14 : decode cX8_substitute 14 = .ok (.bipush 9, 2) := by decide +kernel
theorem dX8_substitute_16 : decode cX8_substitute 16 = .ok (.if_icmp .le 6, 3) := by decide +kernel
theorem dX8_substitute_19 : decode cX8_substitute 19 = .ok (.bipush (-2), 2) := by decide +kernel
theorem dX8_substitute_21 : decode cX8_substitute 21 = .ok (.ireturn, 1) := by decide +kernel
theorem dX8_substitute_22 : decode cX8_substitute 22 = .ok (.aload_n 0, 1) := by decide +kernel
theorem dX8_substitute_23 : decode cX8_substitute 23 = .ok (.iload_n 2, 1) := by decide +kernel
theorem dX8_substitute_24 : decode cX8_substitute 24 = .ok (.invokevirtual 149, 3) := by decide +kernel
theorem dX8_substitute_27 : decode cX8_substitute 27 = .ok (.astore_n 3, 1) := by decide +kernel
theorem dX8_substitute_28 : decode cX8_substitute 28 = .ok (.aload_n 3, 1) := by decide +kernel
theorem dX8_substitute_29 : decode cX8_substitute 29 = .ok (.invokevirtual 100, 3) := by decide +kernel
theorem dX8_substitute_32 : decode cX8_substitute 32 = .ok (.ifCond .ne 6, 3) := by decide +kernel
theorem dX8_substitute_35 : decode cX8_substitute 35 = .ok (.bipush (-3), 2) := by decide +kernel
theorem dX8_substitute_37 : decode cX8_substitute 37 = .ok (.ireturn, 1) := by decide +kernel
theorem dX8_substitute_38 : decode cX8_substitute 38 = .ok (.aload_n 0, 1) := by decide +kernel
theorem dX8_substitute_39 : decode cX8_substitute 39 = .ok (.getfield 16, 3) := by decide +kernel
theorem dX8_substitute_42 : decode cX8_substitute 42 = .ok (.aload_n 0, 1) := by decide +kernel
theorem dX8_substitute_43 : decode cX8_substitute 43 = .ok (.getfield 10, 3) := by decide +kernel
theorem dX8_substitute_46 : decode cX8_substitute 46 = .ok (.invokevirtual 128, 3) := by decide +kernel
theorem dX8_substitute_49 : decode cX8_substitute 49 = .ok (.aload_n 0, 1) := by decide +kernel
theorem dX8_substitute_50 : decode cX8_substitute 50 = .ok (.getfield 38, 3) := by decide +kernel
theorem dX8_substitute_53 : decode cX8_substitute 53 = .ok (.aload_n 0, 1) := by decide +kernel
theorem dX8_substitute_54 : decode cX8_substitute 54 = .ok (.getfield 16, 3) := by decide +kernel
theorem dX8_substitute_57 : decode cX8_substitute 57 = .ok (.iload_n 1, 1) := by decide +kernel
theorem dX8_substitute_58 : decode cX8_substitute 58 = .ok (.aload_n 3, 1) := by decide +kernel
theorem dX8_substitute_59 : decode cX8_substitute 59 = .ok (.invokevirtual 160, 3) := by decide +kernel
theorem dX8_substitute_62 : decode cX8_substitute 62 = .ok (.ifCond .eq 10, 3) := by decide +kernel
theorem dX8_substitute_65 : decode cX8_substitute 65 = .ok (.aload_n 0, 1) := by decide +kernel
theorem dX8_substitute_66 : decode cX8_substitute 66 = .ok (.invokevirtual 135, 3) := by decide +kernel
theorem dX8_substitute_69 : decode cX8_substitute 69 = .ok (.goto 5, 3) := by decide +kernel
theorem dX8_substitute_72 : decode cX8_substitute 72 = .ok (.bipush (-4), 2) := by decide +kernel
theorem dX8_substitute_74 : decode cX8_substitute 74 = .ok (.ireturn, 1) := by decide +kernel
theorem dX8_undo_0 : decode cX8_undo 0 = .ok (.aload_n 0, 1) := by decide +kernel
theorem dX8_undo_1 : decode cX8_undo 1 = .ok (.getfield 52, 3) := by decide +kernel
theorem dX8_undo_4 : decode cX8_undo 4 = .ok (.aload_n 0, 1) := by decide +kernel
theorem dX8_undo_5 : decode cX8_undo 5 = .ok (.getfield 10, 3) := by decide +kernel
theorem dX8_undo_8 : decode cX8_undo 8 = .ok (.invokevirtual 164, 3) := by decide +kernel
theorem dX8_undo_11 : decode cX8_undo 11 = .ok (.ifCond .eq 13, 3) := by decide +kernel
theorem dX8_undo_14 : decode cX8_undo 14 = .ok (.aload_n 0, 1) := by decide +kernel
theorem dX8_undo_15 : decode cX8_undo 15 = .ok (.getfield 52, 3) := by decide +kernel
theorem dX8_undo_18 : decode cX8_undo 18 = .ok (.invokevirtual 168, 3) := by decide +kernel
theorem dX8_undo_21 : decode cX8_undo 21 = .ok (.goto 5, 3) := by decide +kernel
theorem dX8_undo_24 : decode cX8_undo 24 = .ok (.bipush (-3), 2) := by decide +kernel
theorem dX8_undo_26 : decode cX8_undo 26 = .ok (.ireturn, 1) := by decide +kernel
theorem dX8_stepsOfRun_0 : decode cX8_stepsOfRun 0 = .ok (.iload_n 1, 1) := by decide +kernel
theorem dX8_stepsOfRun_1 : decode cX8_stepsOfRun 1 = .ok (.iload_n 2, 1) := by decide +kernel
theorem dX8_stepsOfRun_2 : decode cX8_stepsOfRun 2 = .ok (.invokestatic 171, 3) := by decide +kernel
theorem dX8_stepsOfRun_5 : decode cX8_stepsOfRun 5 = .ok (.ifCond .eq 12, 3) := by decide +kernel
theorem dX8_stepsOfRun_8 : decode cX8_stepsOfRun 8 = .ok (.aload_n 0, 1) := by decide +kernel
theorem dX8_stepsOfRun_9 : decode cX8_stepsOfRun 9 = .ok (.iload_n 1, 1) := by decide +kernel
theorem dX8_stepsOfRun_10 : decode cX8_stepsOfRun 10 = .ok (.iload_n 2, 1) := by decide +kernel
theorem dX8_stepsOfRun_11 : decode cX8_stepsOfRun 11 = .ok (.invokevirtual 175, 3) := by decide +kernel
theorem dX8_stepsOfRun_14 : decode cX8_stepsOfRun 14 = .ok (.goto 5, 3) := by decide +kernel
theorem dX8_stepsOfRun_17 : decode cX8_stepsOfRun 17 = .ok (.bipush (-2), 2) := by decide +kernel
theorem dX8_stepsOfRun_19 : decode cX8_stepsOfRun 19 = .ok (.ireturn, 1) := by decide +kernel
theorem dX8_sizeAfterRun_0 : decode cX8_sizeAfterRun 0 = .ok (.iload_n 1, 1) := by decide +kernel
theorem dX8_sizeAfterRun_1 : decode cX8_sizeAfterRun 1 = .ok (.iload_n 2, 1) := by decide +kernel
theorem dX8_sizeAfterRun_2 : decode cX8_sizeAfterRun 2 = .ok (.invokestatic 171, 3) := by decide +kernel
theorem dX8_sizeAfterRun_5 : decode cX8_sizeAfterRun 5 = .ok (.ifCond .ne 6, 3) := by decide +kernel
theorem dX8_sizeAfterRun_8 : decode cX8_sizeAfterRun 8 = .ok (.bipush (-2), 2) := by decide +kernel
theorem dX8_sizeAfterRun_10 : decode cX8_sizeAfterRun 10 = .ok (.ireturn, 1) := by decide +kernel
theorem dX8_sizeAfterRun_11 : decode cX8_sizeAfterRun 11 = .ok (.aload_n 0, 1) := by decide +kernel
theorem dX8_sizeAfterRun_12 : decode cX8_sizeAfterRun 12 = .ok (.iload_n 1, 1) := by decide +kernel
theorem dX8_sizeAfterRun_13 : decode cX8_sizeAfterRun 13 = .ok (.iload_n 2, 1) := by decide +kernel
theorem dX8_sizeAfterRun_14 : decode cX8_sizeAfterRun 14 = .ok (.invokevirtual 175, 3) := by decide +kernel
theorem dX8_sizeAfterRun_17 : decode cX8_sizeAfterRun 17 = .ok (.pop, 1) := by decide +kernel
theorem dX8_sizeAfterRun_18 : decode cX8_sizeAfterRun 18 = .ok (.aload_n 0, 1) := by decide +kernel
theorem dX8_sizeAfterRun_19 : decode cX8_sizeAfterRun 19 = .ok (.getfield 16, 3) := by decide +kernel
theorem dX8_sizeAfterRun_22 : decode cX8_sizeAfterRun 22 = .ok (.invokevirtual 100, 3) := by decide +kernel
theorem dX8_sizeAfterRun_25 : decode cX8_sizeAfterRun 25 = .ok (.ireturn, 1) := by decide +kernel
theorem dX8_normalSize_0 : decode cX8_normalSize 0 = .ok (.aload_n 0, 1) := by decide +kernel
theorem dX8_normalSize_1 : decode cX8_normalSize 1 = .ok (.aload_n 0, 1) := by decide +kernel
theorem dX8_normalSize_2 : decode cX8_normalSize 2 = .ok (.getfield 16, 3) := by decide +kernel
theorem dX8_normalSize_5 : decode cX8_normalSize 5 = .ok (.aload_n 0, 1) := by decide +kernel
theorem dX8_normalSize_6 : decode cX8_normalSize 6 = .ok (.getfield 10, 3) := by decide +kernel
theorem dX8_normalSize_9 : decode cX8_normalSize 9 = .ok (.invokevirtual 179, 3) := by decide +kernel
theorem dX8_normalSize_12 : decode cX8_normalSize 12 = .ok (.ifCond .eq 13, 3) := by decide +kernel
theorem dX8_normalSize_15 : decode cX8_normalSize 15 = .ok (.aload_n 0, 1) := by decide +kernel
theorem dX8_normalSize_16 : decode cX8_normalSize 16 = .ok (.getfield 16, 3) := by decide +kernel
theorem dX8_normalSize_19 : decode cX8_normalSize 19 = .ok (.invokevirtual 100, 3) := by decide +kernel
theorem dX8_normalSize_22 : decode cX8_normalSize 22 = .ok (.goto 5, 3) := by decide +kernel
theorem dX8_normalSize_25 : decode cX8_normalSize 25 = .ok (.bipush (-9), 2) := by decide +kernel
theorem dX8_normalSize_27 : decode cX8_normalSize 27 = .ok (.ireturn, 1) := by decide +kernel
theorem dX8_normalTokenAt_0 : decode cX8_normalTokenAt 0 = .ok (.aload_n 0, 1) := by decide +kernel
theorem dX8_normalTokenAt_1 : decode cX8_normalTokenAt 1 = .ok (.aload_n 0, 1) := by decide +kernel
theorem dX8_normalTokenAt_2 : decode cX8_normalTokenAt 2 = .ok (.getfield 16, 3) := by decide +kernel
theorem dX8_normalTokenAt_5 : decode cX8_normalTokenAt 5 = .ok (.aload_n 0, 1) := by decide +kernel
theorem dX8_normalTokenAt_6 : decode cX8_normalTokenAt 6 = .ok (.getfield 10, 3) := by decide +kernel
theorem dX8_normalTokenAt_9 : decode cX8_normalTokenAt 9 = .ok (.invokevirtual 179, 3) := by decide +kernel
theorem dX8_normalTokenAt_12 : decode cX8_normalTokenAt 12 = .ok (.ifCond .ne 6, 3) := by decide +kernel
theorem dX8_normalTokenAt_15 : decode cX8_normalTokenAt 15 = .ok (.bipush (-9), 2) := by decide +kernel
theorem dX8_normalTokenAt_17 : decode cX8_normalTokenAt 17 = .ok (.ireturn, 1) := by decide +kernel
theorem dX8_normalTokenAt_18 : decode cX8_normalTokenAt 18 = .ok (.aload_n 0, 1) := by decide +kernel
theorem dX8_normalTokenAt_19 : decode cX8_normalTokenAt 19 = .ok (.getfield 16, 3) := by decide +kernel
theorem dX8_normalTokenAt_22 : decode cX8_normalTokenAt 22 = .ok (.iload_n 1, 1) := by decide +kernel
theorem dX8_normalTokenAt_23 : decode cX8_normalTokenAt 23 = .ok (.invokevirtual 101, 3) := by decide +kernel
theorem dX8_normalTokenAt_26 : decode cX8_normalTokenAt 26 = .ok (.ifCond .eq 14, 3) := by decide +kernel
theorem dX8_normalTokenAt_29 : decode cX8_normalTokenAt 29 = .ok (.aload_n 0, 1) := by decide +kernel
theorem dX8_normalTokenAt_30 : decode cX8_normalTokenAt 30 = .ok (.getfield 16, 3) := by decide +kernel
theorem dX8_normalTokenAt_33 : decode cX8_normalTokenAt 33 = .ok (.iload_n 1, 1) := by decide +kernel
theorem dX8_normalTokenAt_34 : decode cX8_normalTokenAt 34 = .ok (.invokevirtual 104, 3) := by decide +kernel
theorem dX8_normalTokenAt_37 : decode cX8_normalTokenAt 37 = .ok (.goto 4, 3) := by decide +kernel
theorem dX8_normalTokenAt_40 : decode cX8_normalTokenAt 40 = .ok (.iconst (-1), 1) := by decide +kernel
theorem dX8_normalTokenAt_41 : decode cX8_normalTokenAt 41 = .ok (.ireturn, 1) := by decide +kernel
theorem dX8_isEquivalent_0 : decode cX8_isEquivalent 0 = .ok (.iload_n 1, 1) := by decide +kernel
theorem dX8_isEquivalent_1 : decode cX8_isEquivalent 1 = .ok (.invokestatic 146, 3) := by decide +kernel
theorem dX8_isEquivalent_4 : decode cX8_isEquivalent 4 = .ok (.ifCond .ne 5, 3) := by decide +kernel
theorem dX8_isEquivalent_7 : decode cX8_isEquivalent 7 = .ok (.iconst (-1), 1) := by decide +kernel
theorem dX8_isEquivalent_8 : decode cX8_isEquivalent 8 = .ok (.ireturn, 1) := by decide +kernel
theorem dX8_isEquivalent_9 : decode cX8_isEquivalent 9 = .ok (.aload_n 0, 1) := by decide +kernel
theorem dX8_isEquivalent_10 : decode cX8_isEquivalent 10 = .ok (.iload_n 1, 1) := by decide +kernel
theorem dX8_isEquivalent_11 : decode cX8_isEquivalent 11 = .ok (.invokevirtual 149, 3) := by decide +kernel
theorem dX8_isEquivalent_14 : decode cX8_isEquivalent 14 = .ok (.astore_n 2, 1) := by decide +kernel
theorem dX8_isEquivalent_15 : decode cX8_isEquivalent 15 = .ok (.aload_n 2, 1) := by decide +kernel
theorem dX8_isEquivalent_16 : decode cX8_isEquivalent 16 = .ok (.invokevirtual 100, 3) := by decide +kernel
theorem dX8_isEquivalent_19 : decode cX8_isEquivalent 19 = .ok (.ifCond .ne 6, 3) := by decide +kernel
theorem dX8_isEquivalent_22 : decode cX8_isEquivalent 22 = .ok (.bipush (-3), 2) := by decide +kernel
theorem dX8_isEquivalent_24 : decode cX8_isEquivalent 24 = .ok (.ireturn, 1) := by decide +kernel
theorem dX8_isEquivalent_25 : decode cX8_isEquivalent 25 = .ok (.aload_n 0, 1) := by decide +kernel
theorem dX8_isEquivalent_26 : decode cX8_isEquivalent 26 = .ok (.aload_n 0, 1) := by decide +kernel
theorem dX8_isEquivalent_27 : decode cX8_isEquivalent 27 = .ok (.getfield 16, 3) := by decide +kernel
theorem dX8_isEquivalent_30 : decode cX8_isEquivalent 30 = .ok (.aload_n 0, 1) := by decide +kernel
theorem dX8_isEquivalent_31 : decode cX8_isEquivalent 31 = .ok (.getfield 10, 3) := by decide +kernel
theorem dX8_isEquivalent_34 : decode cX8_isEquivalent 34 = .ok (.invokevirtual 179, 3) := by decide +kernel
theorem dX8_isEquivalent_37 : decode cX8_isEquivalent 37 = .ok (.ifCond .eq 15, 3) := by decide +kernel
theorem dX8_isEquivalent_40 : decode cX8_isEquivalent 40 = .ok (.aload_n 0, 1) := by decide +kernel
theorem dX8_isEquivalent_41 : decode cX8_isEquivalent 41 = .ok (.aload_n 0, 1) := by decide +kernel
theorem dX8_isEquivalent_42 : decode cX8_isEquivalent 42 = .ok (.getfield 19, 3) := by decide +kernel
theorem dX8_isEquivalent_45 : decode cX8_isEquivalent 45 = .ok (.aload_n 2, 1) := by decide +kernel
theorem dX8_isEquivalent_46 : decode cX8_isEquivalent 46 = .ok (.invokevirtual 179, 3) := by decide +kernel
theorem dX8_isEquivalent_49 : decode cX8_isEquivalent 49 = .ok (.ifCond .ne 6, 3) := by decide +kernel
theorem dX8_isEquivalent_52 : decode cX8_isEquivalent 52 = .ok (.bipush (-9), 2) := by decide +kernel
theorem dX8_isEquivalent_54 : decode cX8_isEquivalent 54 = .ok (.ireturn, 1) := by decide +kernel
theorem dX8_isEquivalent_55 : decode cX8_isEquivalent 55 = .ok (.aload_n 0, 1) := by decide +kernel
theorem dX8_isEquivalent_56 : decode cX8_isEquivalent 56 = .ok (.getfield 16, 3) := by decide +kernel
theorem dX8_isEquivalent_59 : decode cX8_isEquivalent 59 = .ok (.aload_n 0, 1) := by decide +kernel
theorem dX8_isEquivalent_60 : decode cX8_isEquivalent 60 = .ok (.getfield 19, 3) := by decide +kernel
theorem dX8_isEquivalent_63 : decode cX8_isEquivalent 63 = .ok (.invokevirtual 183, 3) := by decide +kernel
theorem dX8_isEquivalent_66 : decode cX8_isEquivalent 66 = .ok (.ifCond .eq 7, 3) := by decide +kernel
theorem dX8_isEquivalent_69 : decode cX8_isEquivalent 69 = .ok (.iconst 1, 1) := by decide +kernel
theorem dX8_isEquivalent_70 : decode cX8_isEquivalent 70 = .ok (.goto 4, 3) := by decide +kernel
theorem dX8_isEquivalent_73 : decode cX8_isEquivalent 73 = .ok (.iconst 0, 1) := by decide +kernel
theorem dX8_isEquivalent_74 : decode cX8_isEquivalent 74 = .ok (.ireturn, 1) := by decide +kernel
theorem dX8_machineSteps_0 : decode cX8_machineSteps 0 = .ok (.iload_n 1, 1) := by decide +kernel
theorem dX8_machineSteps_1 : decode cX8_machineSteps 1 = .ok (.ifCond .lt 17, 3) := by decide +kernel
theorem dX8_machineSteps_4 : decode cX8_machineSteps 4 = .ok (.iload_n 1, 1) := by decide +kernel
theorem dX8_machineSteps_5 : decode cX8_machineSteps 5 = .ok (.iconst 5, 1) := by decide +kernel
theorem dX8_machineSteps_6 : decode cX8_machineSteps 6 = .ok (.if_icmp .ge 12, 3) := by decide +kernel
theorem dX8_machineSteps_9 : decode cX8_machineSteps 9 = .ok (.iload_n 2, 1) := by decide +kernel
theorem dX8_machineSteps_10 : decode cX8_machineSteps 10 = .ok (.ifCond .lt 8, 3) := by decide +kernel
theorem dX8_machineSteps_13 : decode cX8_machineSteps 13 = .ok (.iload_n 2, 1) := by decide +kernel
theorem dX8_machineSteps_14 : decode cX8_machineSteps 14 = .ok (.iconst 1, 1) := by decide +kernel
theorem dX8_machineSteps_15 : decode cX8_machineSteps 15 = .ok (.if_icmp .le 6, 3) := by decide +kernel
theorem dX8_machineSteps_18 : decode cX8_machineSteps 18 = .ok (.bipush (-2), 2) := by decide +kernel
theorem dX8_machineSteps_20 : decode cX8_machineSteps 20 = .ok (.ireturn, 1) := by decide +kernel
theorem dX8_machineSteps_21 : decode cX8_machineSteps 21 = .ok (.aload_n 0, 1) := by decide +kernel
theorem dX8_machineSteps_22 : decode cX8_machineSteps 22 = .ok (.getfield 45, 3) := by decide +kernel
theorem dX8_machineSteps_25 : decode cX8_machineSteps 25 = .ok (.aload_n 0, 1) := by decide +kernel
theorem dX8_machineSteps_26 : decode cX8_machineSteps 26 = .ok (.getfield 10, 3) := by decide +kernel
theorem dX8_machineSteps_29 : decode cX8_machineSteps 29 = .ok (.iload_n 2, 1) := by decide +kernel
theorem dX8_machineSteps_30 : decode cX8_machineSteps 30 = .ok (.iconst 1, 1) := by decide +kernel
theorem dX8_machineSteps_31 : decode cX8_machineSteps 31 = .ok (.if_icmp .ne 7, 3) := by decide +kernel
theorem dX8_machineSteps_34 : decode cX8_machineSteps 34 = .ok (.iconst 1, 1) := by decide +kernel
theorem dX8_machineSteps_35 : decode cX8_machineSteps 35 = .ok (.goto 4, 3) := by decide +kernel
theorem dX8_machineSteps_38 : decode cX8_machineSteps 38 = .ok (.iconst 0, 1) := by decide +kernel
theorem dX8_machineSteps_39 : decode cX8_machineSteps 39 = .ok (.invokevirtual 186, 3) := by decide +kernel
theorem dX8_machineSteps_42 : decode cX8_machineSteps 42 = .ok (.ifCond .eq 14, 3) := by decide +kernel
theorem dX8_machineSteps_45 : decode cX8_machineSteps 45 = .ok (.aload_n 0, 1) := by decide +kernel
theorem dX8_machineSteps_46 : decode cX8_machineSteps 46 = .ok (.getfield 45, 3) := by decide +kernel
theorem dX8_machineSteps_49 : decode cX8_machineSteps 49 = .ok (.iload_n 1, 1) := by decide +kernel
theorem dX8_machineSteps_50 : decode cX8_machineSteps 50 = .ok (.invokevirtual 190, 3) := by decide +kernel
theorem dX8_machineSteps_53 : decode cX8_machineSteps 53 = .ok (.goto 5, 3) := by decide +kernel
theorem dX8_machineSteps_56 : decode cX8_machineSteps 56 = .ok (.bipush (-9), 2) := by decide +kernel
theorem dX8_machineSteps_58 : decode cX8_machineSteps 58 = .ok (.ireturn, 1) := by decide +kernel
theorem dX8_machinePeak_0 : decode cX8_machinePeak 0 = .ok (.iload_n 1, 1) := by decide +kernel
theorem dX8_machinePeak_1 : decode cX8_machinePeak 1 = .ok (.ifCond .lt 8, 3) := by decide +kernel
theorem dX8_machinePeak_4 : decode cX8_machinePeak 4 = .ok (.iload_n 1, 1) := by decide +kernel
theorem dX8_machinePeak_5 : decode cX8_machinePeak 5 = .ok (.iconst 1, 1) := by decide +kernel
theorem dX8_machinePeak_6 : decode cX8_machinePeak 6 = .ok (.if_icmp .le 6, 3) := by decide +kernel
theorem dX8_machinePeak_9 : decode cX8_machinePeak 9 = .ok (.bipush (-2), 2) := by decide +kernel
theorem dX8_machinePeak_11 : decode cX8_machinePeak 11 = .ok (.ireturn, 1) := by decide +kernel
theorem dX8_machinePeak_12 : decode cX8_machinePeak 12 = .ok (.aload_n 0, 1) := by decide +kernel
theorem dX8_machinePeak_13 : decode cX8_machinePeak 13 = .ok (.getfield 45, 3) := by decide +kernel
theorem dX8_machinePeak_16 : decode cX8_machinePeak 16 = .ok (.aload_n 0, 1) := by decide +kernel
theorem dX8_machinePeak_17 : decode cX8_machinePeak 17 = .ok (.getfield 10, 3) := by decide +kernel
theorem dX8_machinePeak_20 : decode cX8_machinePeak 20 = .ok (.iload_n 1, 1) := by decide +kernel
theorem dX8_machinePeak_21 : decode cX8_machinePeak 21 = .ok (.iconst 1, 1) := by decide +kernel
theorem dX8_machinePeak_22 : decode cX8_machinePeak 22 = .ok (.if_icmp .ne 7, 3) := by decide +kernel
theorem dX8_machinePeak_25 : decode cX8_machinePeak 25 = .ok (.iconst 1, 1) := by decide +kernel
theorem dX8_machinePeak_26 : decode cX8_machinePeak 26 = .ok (.goto 4, 3) := by decide +kernel
theorem dX8_machinePeak_29 : decode cX8_machinePeak 29 = .ok (.iconst 0, 1) := by decide +kernel
theorem dX8_machinePeak_30 : decode cX8_machinePeak 30 = .ok (.invokevirtual 186, 3) := by decide +kernel
theorem dX8_machinePeak_33 : decode cX8_machinePeak 33 = .ok (.ifCond .eq 13, 3) := by decide +kernel
theorem dX8_machinePeak_36 : decode cX8_machinePeak 36 = .ok (.aload_n 0, 1) := by decide +kernel
theorem dX8_machinePeak_37 : decode cX8_machinePeak 37 = .ok (.getfield 45, 3) := by decide +kernel
theorem dX8_machinePeak_40 : decode cX8_machinePeak 40 = .ok (.invokevirtual 193, 3) := by decide +kernel
theorem dX8_machinePeak_43 : decode cX8_machinePeak 43 = .ok (.goto 5, 3) := by decide +kernel
theorem dX8_machinePeak_46 : decode cX8_machinePeak 46 = .ok (.bipush (-9), 2) := by decide +kernel
theorem dX8_machinePeak_48 : decode cX8_machinePeak 48 = .ok (.ireturn, 1) := by decide +kernel
theorem dX8_runScript_0 : decode cX8_runScript 0 = .ok (.iload_n 1, 1) := by decide +kernel
theorem dX8_runScript_1 : decode cX8_runScript 1 = .ok (.iconst 1, 1) := by decide +kernel
theorem dX8_runScript_2 : decode cX8_runScript 2 = .ok (.if_icmp .lt 24, 3) := by decide +kernel
theorem dX8_runScript_5 : decode cX8_runScript 5 = .ok (.iload_n 1, 1) := by decide +kernel
theorem dX8_runScript_6 : decode cX8_runScript 6 = .ok (.iconst 4, 1) := by decide +kernel
theorem dX8_runScript_7 : decode cX8_runScript 7 = .ok (.if_icmp .gt 19, 3) := by decide +kernel
theorem dX8_runScript_10 : decode cX8_runScript 10 = .ok (.lload_n 2, 1) := by decide +kernel
theorem dX8_runScript_11 : decode cX8_runScript 11 = .ok (.lconst 0, 1) := by decide +kernel
theorem dX8_runScript_12 : decode cX8_runScript 12 = .ok (.lcmp, 1) := by decide +kernel
theorem dX8_runScript_13 : decode cX8_runScript 13 = .ok (.ifCond .lt 13, 3) := by decide +kernel
theorem dX8_runScript_16 : decode cX8_runScript 16 = .ok (.lload_n 2, 1) := by decide +kernel
theorem dX8_runScript_17 : decode cX8_runScript 17 = .ok (.iload_n 1, 1) := by decide +kernel
theorem dX8_runScript_18 : decode cX8_runScript 18 = .ok (.invokestatic 196, 3) := by decide +kernel
theorem dX8_runScript_21 : decode cX8_runScript 21 = .ok (.lconst 0, 1) := by decide +kernel
theorem dX8_runScript_22 : decode cX8_runScript 22 = .ok (.lcmp, 1) := by decide +kernel
theorem dX8_runScript_23 : decode cX8_runScript 23 = .ok (.ifCond .eq 6, 3) := by decide +kernel
theorem dX8_runScript_26 : decode cX8_runScript 26 = .ok (.bipush (-2), 2) := by decide +kernel
theorem dX8_runScript_28 : decode cX8_runScript 28 = .ok (.ireturn, 1) := by decide +kernel
theorem dX8_runScript_29 : decode cX8_runScript 29 = .ok (.aload_n 0, 1) := by decide +kernel
theorem dX8_runScript_30 : decode cX8_runScript 30 = .ok (.getfield 16, 3) := by decide +kernel
theorem dX8_runScript_33 : decode cX8_runScript 33 = .ok (.aload_n 0, 1) := by decide +kernel
theorem dX8_runScript_34 : decode cX8_runScript 34 = .ok (.getfield 10, 3) := by decide +kernel
theorem dX8_runScript_37 : decode cX8_runScript 37 = .ok (.invokevirtual 128, 3) := by decide +kernel
theorem dX8_runScript_40 : decode cX8_runScript 40 = .ok (.iconst 0, 1) := by decide +kernel
theorem dX8_runScript_41 : decode cX8_runScript 41 = .ok (.istore 4, 2) := by decide +kernel
theorem dX8_runScript_43 : decode cX8_runScript 43 = .ok (.iload 4, 2) := by decide +kernel
theorem dX8_runScript_45 : decode cX8_runScript 45 = .ok (.iload_n 1, 1) := by decide +kernel
theorem dX8_runScript_46 : decode cX8_runScript 46 = .ok (.if_icmp .ge 38, 3) := by decide +kernel
theorem dX8_runScript_49 : decode cX8_runScript 49 = .ok (.lload_n 2, 1) := by decide +kernel
theorem dX8_runScript_50 : decode cX8_runScript 50 = .ok (.iload_n 1, 1) := by decide +kernel
theorem dX8_runScript_51 : decode cX8_runScript 51 = .ok (.iconst 1, 1) := by decide +kernel
theorem dX8_runScript_52 : decode cX8_runScript 52 = .ok (.isub, 1) := by decide +kernel
theorem dX8_runScript_53 : decode cX8_runScript 53 = .ok (.iload 4, 2) := by decide +kernel
theorem dX8_runScript_55 : decode cX8_runScript 55 = .ok (.isub, 1) := by decide +kernel
theorem dX8_runScript_56 : decode cX8_runScript 56 = .ok (.invokestatic 196, 3) := by decide +kernel
theorem dX8_runScript_59 : decode cX8_runScript 59 = .ok (.ldc2_w 200, 3) := by decide +kernel
theorem dX8_runScript_62 : decode cX8_runScript 62 = .ok (.lrem, 1) := by decide +kernel
theorem dX8_runScript_63 : decode cX8_runScript 63 = .ok (.l2i, 1) := by decide +kernel
theorem dX8_runScript_64 : decode cX8_runScript 64 = .ok (.istore 5, 2) := by decide +kernel
theorem dX8_runScript_66 : decode cX8_runScript 66 = .ok (.aload_n 0, 1) := by decide +kernel
theorem dX8_runScript_67 : decode cX8_runScript 67 = .ok (.iload 5, 2) := by decide +kernel
theorem dX8_runScript_69 : decode cX8_runScript 69 = .ok (.invokevirtual 202, 3) := by decide +kernel
theorem dX8_runScript_72 : decode cX8_runScript 72 = .ok (.ifCond .ne 6, 3) := by decide +kernel
theorem dX8_runScript_75 : decode cX8_runScript 75 = .ok (.iload 4, 2) := by decide +kernel
theorem dX8_runScript_77 : decode cX8_runScript 77 = .ok (.ireturn, 1) := by decide +kernel
theorem dX8_runScript_78 : decode cX8_runScript 78 = .ok (.iinc 4 1, 3) := by decide +kernel
theorem dX8_runScript_81 : decode cX8_runScript 81 = .ok (.goto (-38), 3) := by decide +kernel
theorem dX8_runScript_84 : decode cX8_runScript 84 = .ok (.bipush (-9), 2) := by decide +kernel
theorem dX8_runScript_86 : decode cX8_runScript 86 = .ok (.ireturn, 1) := by decide +kernel
theorem dX8_observe_0 : decode cX8_observe 0 = .ok (.iload_n 1, 1) := by decide +kernel
theorem dX8_observe_1 : decode cX8_observe 1 = .ok (.ifCond .lt 21, 3) := by decide +kernel
theorem dX8_observe_4 : decode cX8_observe 4 = .ok (.iload_n 1, 1) := by decide +kernel
theorem dX8_observe_5 : decode cX8_observe 5 = .ok (.bipush 50, 2) := by decide +kernel
theorem dX8_observe_7 : decode cX8_observe 7 = .ok (.if_icmp .gt 15, 3) := by decide +kernel
theorem dX8_observe_10 : decode cX8_observe 10 = .ok (.iload_n 2, 1) := by decide +kernel
theorem dX8_observe_11 : decode cX8_observe 11 = .ok (.iconst 1, 1) := by decide +kernel
theorem dX8_observe_12 : decode cX8_observe 12 = .ok (.if_icmp .lt 10, 3) := by decide +kernel
theorem dX8_observe_15 : decode cX8_observe 15 = .ok (.iload_n 2, 1) := by decide +kernel
theorem dX8_observe_16 : decode cX8_observe 16 = .ok (.sipush 200, 3) := by decide +kernel
theorem dX8_observe_19 : decode cX8_observe 19 = .ok (.if_icmp .le 6, 3) := by decide +kernel
theorem dX8_observe_22 : decode cX8_observe 22 = .ok (.bipush (-2), 2) := by decide +kernel
theorem dX8_observe_24 : decode cX8_observe 24 = .ok (.ireturn, 1) := by decide +kernel
theorem dX8_observe_25 : decode cX8_observe 25 = .ok (.aload_n 0, 1) := by decide +kernel
theorem dX8_observe_26 : decode cX8_observe 26 = .ok (.getfield 66, 3) := by decide +kernel
theorem dX8_observe_29 : decode cX8_observe 29 = .ok (.iload_n 1, 1) := by decide +kernel
theorem dX8_observe_30 : decode cX8_observe 30 = .ok (.iload_n 2, 1) := by decide +kernel
theorem dX8_observe_31 : decode cX8_observe 31 = .ok (.invokevirtual 205, 3) := by decide +kernel
theorem dX8_observe_34 : decode cX8_observe 34 = .ok (.aload_n 0, 1) := by decide +kernel
theorem dX8_observe_35 : decode cX8_observe 35 = .ok (.getfield 66, 3) := by decide +kernel
theorem dX8_observe_38 : decode cX8_observe 38 = .ok (.invokevirtual 208, 3) := by decide +kernel
theorem dX8_observe_41 : decode cX8_observe 41 = .ok (.ireturn, 1) := by decide +kernel
theorem dX8_forgetAfter_0 : decode cX8_forgetAfter 0 = .ok (.iload_n 1, 1) := by decide +kernel
theorem dX8_forgetAfter_1 : decode cX8_forgetAfter 1 = .ok (.ifCond .lt 9, 3) := by decide +kernel
theorem dX8_forgetAfter_4 : decode cX8_forgetAfter 4 = .ok (.iload_n 1, 1) := by decide +kernel
theorem dX8_forgetAfter_5 : decode cX8_forgetAfter 5 = .ok (.bipush 50, 2) := by decide +kernel
theorem dX8_forgetAfter_7 : decode cX8_forgetAfter 7 = .ok (.if_icmp .le 6, 3) := by decide +kernel
theorem dX8_forgetAfter_10 : decode cX8_forgetAfter 10 = .ok (.bipush (-2), 2) := by decide +kernel
theorem dX8_forgetAfter_12 : decode cX8_forgetAfter 12 = .ok (.ireturn, 1) := by decide +kernel
theorem dX8_forgetAfter_13 : decode cX8_forgetAfter 13 = .ok (.aload_n 0, 1) := by decide +kernel
theorem dX8_forgetAfter_14 : decode cX8_forgetAfter 14 = .ok (.getfield 66, 3) := by decide +kernel
theorem dX8_forgetAfter_17 : decode cX8_forgetAfter 17 = .ok (.iload_n 1, 1) := by decide +kernel
theorem dX8_forgetAfter_18 : decode cX8_forgetAfter 18 = .ok (.invokevirtual 209, 3) := by decide +kernel
theorem dX8_forgetAfter_21 : decode cX8_forgetAfter 21 = .ok (.aload_n 0, 1) := by decide +kernel
theorem dX8_forgetAfter_22 : decode cX8_forgetAfter 22 = .ok (.getfield 66, 3) := by decide +kernel
theorem dX8_forgetAfter_25 : decode cX8_forgetAfter 25 = .ok (.invokevirtual 208, 3) := by decide +kernel
theorem dX8_forgetAfter_28 : decode cX8_forgetAfter 28 = .ok (.ireturn, 1) := by decide +kernel
theorem dX8_possibleStrategies_0 : decode cX8_possibleStrategies 0 = .ok (.iconst 0, 1) := by decide +kernel
theorem dX8_possibleStrategies_1 : decode cX8_possibleStrategies 1 = .ok (.istore_n 1, 1) := by decide +kernel
theorem dX8_possibleStrategies_2 : decode cX8_possibleStrategies 2 = .ok (.iconst 0, 1) := by decide +kernel
theorem dX8_possibleStrategies_3 : decode cX8_possibleStrategies 3 = .ok (.istore_n 2, 1) := by decide +kernel
theorem dX8_possibleStrategies_4 : decode cX8_possibleStrategies 4 = .ok (.iload_n 2, 1) := by decide +kernel
theorem dX8_possibleStrategies_5 : decode cX8_possibleStrategies 5 = .ok (.iconst 4, 1) := by decide +kernel
theorem dX8_possibleStrategies_6 : decode cX8_possibleStrategies 6 = .ok (.if_icmp .ge 23, 3) := by decide +kernel
theorem dX8_possibleStrategies_9 : decode cX8_possibleStrategies 9 = .ok (.aload_n 0, 1) := by decide +kernel
theorem dX8_possibleStrategies_10 : decode cX8_possibleStrategies 10 = .ok (.iload_n 2, 1) := by decide +kernel
theorem dX8_possibleStrategies_11 : decode cX8_possibleStrategies 11 = .ok (.invokevirtual 212, 3) := by decide +kernel
theorem dX8_possibleStrategies_14 : decode cX8_possibleStrategies 14 = .ok (.ifCond .eq 9, 3) := by decide +kernel
theorem dX8_possibleStrategies_17 : decode cX8_possibleStrategies 17 = .ok (.iload_n 1, 1) := by decide +kernel
theorem dX8_possibleStrategies_18 : decode cX8_possibleStrategies 18 = .ok (.iconst 1, 1) := by decide +kernel
theorem dX8_possibleStrategies_19 : decode cX8_possibleStrategies 19 = .ok (.iload_n 2, 1) := by decide +kernel
theorem dX8_possibleStrategies_20 : decode cX8_possibleStrategies 20 = .ok (.ishl, 1) := by decide +kernel
theorem dX8_possibleStrategies_21 : decode cX8_possibleStrategies 21 = .ok (.ior, 1) := by decide +kernel
theorem dX8_possibleStrategies_22 : decode cX8_possibleStrategies 22 = .ok (.istore_n 1, 1) := by decide +kernel
theorem dX8_possibleStrategies_23 : decode cX8_possibleStrategies 23 = .ok (.iinc 2 1, 3) := by decide +kernel
theorem dX8_possibleStrategies_26 : decode cX8_possibleStrategies 26 = .ok (.goto (-22), 3) := by decide +kernel
theorem dX8_possibleStrategies_29 : decode cX8_possibleStrategies 29 = .ok (.iload_n 1, 1) := by decide +kernel
theorem dX8_possibleStrategies_30 : decode cX8_possibleStrategies 30 = .ok (.ireturn, 1) := by decide +kernel
theorem dX8_setSeed_0 : decode cX8_setSeed 0 = .ok (.aload_n 0, 1) := by decide +kernel
theorem dX8_setSeed_1 : decode cX8_setSeed 1 = .ok (.getfield 70, 3) := by decide +kernel
theorem dX8_setSeed_4 : decode cX8_setSeed 4 = .ok (.lstore_n 3, 1) := by decide +kernel
theorem dX8_setSeed_5 : decode cX8_setSeed 5 = .ok (.aload_n 0, 1) := by decide +kernel
theorem dX8_setSeed_6 : decode cX8_setSeed 6 = .ok (.lload_n 1, 1) := by decide +kernel
theorem dX8_setSeed_7 : decode cX8_setSeed 7 = .ok (.putfield 70, 3) := by decide +kernel
theorem dX8_setSeed_10 : decode cX8_setSeed 10 = .ok (.lload_n 3, 1) := by decide +kernel
theorem dX8_setSeed_11 : decode cX8_setSeed 11 = .ok (.lreturn, 1) := by decide +kernel
theorem dX8_randomReduction_0 : decode cX8_randomReduction 0 = .ok (.iload_n 1, 1) := by decide +kernel
theorem dX8_randomReduction_1 : decode cX8_randomReduction 1 = .ok (.iconst 1, 1) := by decide +kernel
theorem dX8_randomReduction_2 : decode cX8_randomReduction 2 = .ok (.if_icmp .lt 9, 3) := by decide +kernel
theorem dX8_randomReduction_5 : decode cX8_randomReduction 5 = .ok (.iload_n 1, 1) := by decide +kernel
theorem dX8_randomReduction_6 : decode cX8_randomReduction 6 = .ok (.bipush 30, 2) := by decide +kernel
theorem dX8_randomReduction_8 : decode cX8_randomReduction 8 = .ok (.if_icmp .le 6, 3) := by decide +kernel
theorem dX8_randomReduction_11 : decode cX8_randomReduction 11 = .ok (.bipush (-2), 2) := by decide +kernel
theorem dX8_randomReduction_13 : decode cX8_randomReduction 13 = .ok (.ireturn, 1) := by decide +kernel
theorem dX8_randomReduction_14 : decode cX8_randomReduction 14 = .ok (.aload_n 0, 1) := by decide +kernel
theorem dX8_randomReduction_15 : decode cX8_randomReduction 15 = .ok (.getfield 16, 3) := by decide +kernel
theorem dX8_randomReduction_18 : decode cX8_randomReduction 18 = .ok (.aload_n 0, 1) := by decide +kernel
theorem dX8_randomReduction_19 : decode cX8_randomReduction 19 = .ok (.getfield 10, 3) := by decide +kernel
theorem dX8_randomReduction_22 : decode cX8_randomReduction 22 = .ok (.invokevirtual 128, 3) := by decide +kernel
theorem dX8_randomReduction_25 : decode cX8_randomReduction 25 = .ok (.iconst 0, 1) := by decide +kernel
theorem dX8_randomReduction_26 : decode cX8_randomReduction 26 = .ok (.istore_n 2, 1) := by decide +kernel
theorem dX8_randomReduction_27 : decode cX8_randomReduction 27 = .ok (.iconst 0, 1) := by decide +kernel
theorem dX8_randomReduction_28 : decode cX8_randomReduction 28 = .ok (.istore_n 3, 1) := by decide +kernel
theorem dX8_randomReduction_29 : decode cX8_randomReduction 29 = .ok (.iload_n 3, 1) := by decide +kernel
theorem dX8_randomReduction_30 : decode cX8_randomReduction 30 = .ok (.iload_n 1, 1) := by decide +kernel
theorem dX8_randomReduction_31 : decode cX8_randomReduction 31 = .ok (.if_icmp .ge 23, 3) := by decide +kernel
theorem dX8_randomReduction_34 : decode cX8_randomReduction 34 = .ok (.aload_n 0, 1) := by decide +kernel
theorem dX8_randomReduction_35 : decode cX8_randomReduction 35 = .ok (.invokevirtual 215, 3) := by decide +kernel
theorem dX8_randomReduction_38 : decode cX8_randomReduction 38 = .ok (.iload_n 2, 1) := by decide +kernel
theorem dX8_randomReduction_39 : decode cX8_randomReduction 39 = .ok (.aload_n 0, 1) := by decide +kernel
theorem dX8_randomReduction_40 : decode cX8_randomReduction 40 = .ok (.getfield 16, 3) := by decide +kernel
theorem dX8_randomReduction_43 : decode cX8_randomReduction 43 = .ok (.invokevirtual 100, 3) := by decide +kernel
theorem dX8_randomReduction_46 : decode cX8_randomReduction 46 = .ok (.iadd, 1) := by decide +kernel
theorem dX8_randomReduction_47 : decode cX8_randomReduction 47 = .ok (.istore_n 2, 1) := by decide +kernel
theorem dX8_randomReduction_48 : decode cX8_randomReduction 48 = .ok (.iinc 3 1, 3) := by decide +kernel
theorem dX8_randomReduction_51 : decode cX8_randomReduction 51 = .ok (.goto (-22), 3) := by decide +kernel
theorem dX8_randomReduction_54 : decode cX8_randomReduction 54 = .ok (.iload_n 2, 1) := by decide +kernel
theorem dX8_randomReduction_55 : decode cX8_randomReduction 55 = .ok (.ireturn, 1) := by decide +kernel
theorem dX8_save_0 : decode cX8_save 0 = .ok (.iload_n 1, 1) := by decide +kernel
theorem dX8_save_1 : decode cX8_save 1 = .ok (.invokestatic 146, 3) := by decide +kernel
theorem dX8_save_4 : decode cX8_save 4 = .ok (.ifCond .ne 5, 3) := by decide +kernel
theorem dX8_save_7 : decode cX8_save 7 = .ok (.iconst (-1), 1) := by decide +kernel
theorem dX8_save_8 : decode cX8_save 8 = .ok (.ireturn, 1) := by decide +kernel
theorem dX8_save_9 : decode cX8_save 9 = .ok (.aload_n 0, 1) := by decide +kernel
theorem dX8_save_10 : decode cX8_save 10 = .ok (.iload_n 1, 1) := by decide +kernel
theorem dX8_save_11 : decode cX8_save 11 = .ok (.invokevirtual 149, 3) := by decide +kernel
theorem dX8_save_14 : decode cX8_save 14 = .ok (.aload_n 0, 1) := by decide +kernel
theorem dX8_save_15 : decode cX8_save 15 = .ok (.getfield 10, 3) := by decide +kernel
theorem dX8_save_18 : decode cX8_save 18 = .ok (.invokevirtual 128, 3) := by decide +kernel
theorem dX8_save_21 : decode cX8_save 21 = .ok (.aload_n 0, 1) := by decide +kernel
theorem dX8_save_22 : decode cX8_save 22 = .ok (.getfield 10, 3) := by decide +kernel
theorem dX8_save_25 : decode cX8_save 25 = .ok (.invokevirtual 100, 3) := by decide +kernel
theorem dX8_save_28 : decode cX8_save 28 = .ok (.ireturn, 1) := by decide +kernel
theorem dX8_restore_0 : decode cX8_restore 0 = .ok (.iload_n 1, 1) := by decide +kernel
theorem dX8_restore_1 : decode cX8_restore 1 = .ok (.invokestatic 146, 3) := by decide +kernel
theorem dX8_restore_4 : decode cX8_restore 4 = .ok (.ifCond .ne 5, 3) := by decide +kernel
theorem dX8_restore_7 : decode cX8_restore 7 = .ok (.iconst (-1), 1) := by decide +kernel
theorem dX8_restore_8 : decode cX8_restore 8 = .ok (.ireturn, 1) := by decide +kernel
theorem dX8_restore_9 : decode cX8_restore 9 = .ok (.aload_n 0, 1) := by decide +kernel
theorem dX8_restore_10 : decode cX8_restore 10 = .ok (.iload_n 1, 1) := by decide +kernel
theorem dX8_restore_11 : decode cX8_restore 11 = .ok (.invokevirtual 149, 3) := by decide +kernel
theorem dX8_restore_14 : decode cX8_restore 14 = .ok (.astore_n 2, 1) := by decide +kernel
theorem dX8_restore_15 : decode cX8_restore 15 = .ok (.aload_n 2, 1) := by decide +kernel
theorem dX8_restore_16 : decode cX8_restore 16 = .ok (.invokevirtual 100, 3) := by decide +kernel
theorem dX8_restore_19 : decode cX8_restore 19 = .ok (.ifCond .ne 6, 3) := by decide +kernel
theorem dX8_restore_22 : decode cX8_restore 22 = .ok (.bipush (-3), 2) := by decide +kernel
theorem dX8_restore_24 : decode cX8_restore 24 = .ok (.ireturn, 1) := by decide +kernel
theorem dX8_restore_25 : decode cX8_restore 25 = .ok (.aload_n 0, 1) := by decide +kernel
theorem dX8_restore_26 : decode cX8_restore 26 = .ok (.getfield 10, 3) := by decide +kernel
theorem dX8_restore_29 : decode cX8_restore 29 = .ok (.aload_n 2, 1) := by decide +kernel
theorem dX8_restore_30 : decode cX8_restore 30 = .ok (.invokevirtual 128, 3) := by decide +kernel
theorem dX8_restore_33 : decode cX8_restore 33 = .ok (.aload_n 0, 1) := by decide +kernel
theorem dX8_restore_34 : decode cX8_restore 34 = .ok (.getfield 52, 3) := by decide +kernel
theorem dX8_restore_37 : decode cX8_restore 37 = .ok (.invokevirtual 96, 3) := by decide +kernel
theorem dX8_restore_40 : decode cX8_restore 40 = .ok (.aload_n 0, 1) := by decide +kernel
theorem dX8_restore_41 : decode cX8_restore 41 = .ok (.getfield 10, 3) := by decide +kernel
theorem dX8_restore_44 : decode cX8_restore 44 = .ok (.invokevirtual 100, 3) := by decide +kernel
theorem dX8_restore_47 : decode cX8_restore 47 = .ok (.ireturn, 1) := by decide +kernel
theorem dX8_isVariable_0 : decode cX8_isVariable 0 = .ok (.iload_n 0, 1) := by decide +kernel
theorem dX8_isVariable_1 : decode cX8_isVariable 1 = .ok (.ifCond .lt 14, 3) := by decide +kernel
theorem dX8_isVariable_4 : decode cX8_isVariable 4 = .ok (.iload_n 0, 1) := by decide +kernel
theorem dX8_isVariable_5 : decode cX8_isVariable 5 = .ok (.sipush 1000, 3) := by decide +kernel
theorem dX8_isVariable_8 : decode cX8_isVariable 8 = .ok (.if_icmp .ge 7, 3) := by decide +kernel
theorem dX8_isVariable_11 : decode cX8_isVariable 11 = .ok (.iconst 1, 1) := by decide +kernel
theorem dX8_isVariable_12 : decode cX8_isVariable 12 = .ok (.goto 4, 3) := by decide +kernel
theorem dX8_isVariable_15 : decode cX8_isVariable 15 = .ok (.iconst 0, 1) := by decide +kernel
theorem dX8_isVariable_16 : decode cX8_isVariable 16 = .ok (.ireturn, 1) := by decide +kernel
theorem dX8_parts_0 : decode cX8_parts 0 = .ok (.iload_n 0, 1) := by decide +kernel
theorem dX8_parts_1 : decode cX8_parts 1 = .ok (.tableswitch 31 1000 1002 #[27, 29, 29], 27) := by decide +kernel
theorem dX8_parts_28 : decode cX8_parts 28 = .ok (.iconst 2, 1) := by decide +kernel
theorem dX8_parts_29 : decode cX8_parts 29 = .ok (.ireturn, 1) := by decide +kernel
theorem dX8_parts_30 : decode cX8_parts 30 = .ok (.iconst 1, 1) := by decide +kernel
theorem dX8_parts_31 : decode cX8_parts 31 = .ok (.ireturn, 1) := by decide +kernel
theorem dX8_parts_32 : decode cX8_parts 32 = .ok (.iconst 0, 1) := by decide +kernel
theorem dX8_parts_33 : decode cX8_parts 33 = .ok (.ireturn, 1) := by decide +kernel
theorem dX8_isStrategy_0 : decode cX8_isStrategy 0 = .ok (.iload_n 0, 1) := by decide +kernel
theorem dX8_isStrategy_1 : decode cX8_isStrategy 1 = .ok (.ifCond .lt 12, 3) := by decide +kernel
theorem dX8_isStrategy_4 : decode cX8_isStrategy 4 = .ok (.iload_n 0, 1) := by decide +kernel
theorem dX8_isStrategy_5 : decode cX8_isStrategy 5 = .ok (.iconst 4, 1) := by decide +kernel
theorem dX8_isStrategy_6 : decode cX8_isStrategy 6 = .ok (.if_icmp .ge 7, 3) := by decide +kernel
theorem dX8_isStrategy_9 : decode cX8_isStrategy 9 = .ok (.iconst 1, 1) := by decide +kernel
theorem dX8_isStrategy_10 : decode cX8_isStrategy 10 = .ok (.goto 4, 3) := by decide +kernel
theorem dX8_isStrategy_13 : decode cX8_isStrategy 13 = .ok (.iconst 0, 1) := by decide +kernel
theorem dX8_isStrategy_14 : decode cX8_isStrategy 14 = .ok (.ireturn, 1) := by decide +kernel
theorem dX8_isSlot_0 : decode cX8_isSlot 0 = .ok (.iload_n 0, 1) := by decide +kernel
theorem dX8_isSlot_1 : decode cX8_isSlot 1 = .ok (.ifCond .eq 8, 3) := by decide +kernel
theorem dX8_isSlot_4 : decode cX8_isSlot 4 = .ok (.iload_n 0, 1) := by decide +kernel
theorem dX8_isSlot_5 : decode cX8_isSlot 5 = .ok (.iconst 1, 1) := by decide +kernel
theorem dX8_isSlot_6 : decode cX8_isSlot 6 = .ok (.if_icmp .ne 7, 3) := by decide +kernel
theorem dX8_isSlot_9 : decode cX8_isSlot 9 = .ok (.iconst 1, 1) := by decide +kernel
theorem dX8_isSlot_10 : decode cX8_isSlot 10 = .ok (.goto 4, 3) := by decide +kernel
theorem dX8_isSlot_13 : decode cX8_isSlot 13 = .ok (.iconst 0, 1) := by decide +kernel
theorem dX8_isSlot_14 : decode cX8_isSlot 14 = .ok (.ireturn, 1) := by decide +kernel
theorem dX8_isPrediction_0 : decode cX8_isPrediction 0 = .ok (.iload_n 0, 1) := by decide +kernel
theorem dX8_isPrediction_1 : decode cX8_isPrediction 1 = .ok (.invokestatic 118, 3) := by decide +kernel
theorem dX8_isPrediction_4 : decode cX8_isPrediction 4 = .ok (.ifCond .eq 18, 3) := by decide +kernel
theorem dX8_isPrediction_7 : decode cX8_isPrediction 7 = .ok (.iload_n 1, 1) := by decide +kernel
theorem dX8_isPrediction_8 : decode cX8_isPrediction 8 = .ok (.ifCond .lt 14, 3) := by decide +kernel
theorem dX8_isPrediction_11 : decode cX8_isPrediction 11 = .ok (.iload_n 1, 1) := by decide +kernel
theorem dX8_isPrediction_12 : decode cX8_isPrediction 12 = .ok (.sipush 200, 3) := by decide +kernel
theorem dX8_isPrediction_15 : decode cX8_isPrediction 15 = .ok (.if_icmp .gt 7, 3) := by decide +kernel
theorem dX8_isPrediction_18 : decode cX8_isPrediction 18 = .ok (.iconst 1, 1) := by decide +kernel
theorem dX8_isPrediction_19 : decode cX8_isPrediction 19 = .ok (.goto 4, 3) := by decide +kernel
theorem dX8_isPrediction_22 : decode cX8_isPrediction 22 = .ok (.iconst 0, 1) := by decide +kernel
theorem dX8_isPrediction_23 : decode cX8_isPrediction 23 = .ok (.ireturn, 1) := by decide +kernel
theorem dX8_slotTerm_0 : decode cX8_slotTerm 0 = .ok (.iload_n 1, 1) := by decide +kernel
theorem dX8_slotTerm_1 : decode cX8_slotTerm 1 = .ok (.ifCond .ne 10, 3) := by decide +kernel
theorem dX8_slotTerm_4 : decode cX8_slotTerm 4 = .ok (.aload_n 0, 1) := by decide +kernel
theorem dX8_slotTerm_5 : decode cX8_slotTerm 5 = .ok (.getfield 22, 3) := by decide +kernel
theorem dX8_slotTerm_8 : decode cX8_slotTerm 8 = .ok (.goto 7, 3) := by decide +kernel
theorem dX8_slotTerm_11 : decode cX8_slotTerm 11 = .ok (.aload_n 0, 1) := by decide +kernel
theorem dX8_slotTerm_12 : decode cX8_slotTerm 12 = .ok (.getfield 25, 3) := by decide +kernel
theorem dX8_slotTerm_15 : decode cX8_slotTerm 15 = .ok (.areturn, 1) := by decide +kernel
theorem dX8_actWithCopy_0 : decode cX8_actWithCopy 0 = .ok (.aload_n 0, 1) := by decide +kernel
theorem dX8_actWithCopy_1 : decode cX8_actWithCopy 1 = .ok (.getfield 52, 3) := by decide +kernel
theorem dX8_actWithCopy_4 : decode cX8_actWithCopy 4 = .ok (.aload_n 0, 1) := by decide +kernel
theorem dX8_actWithCopy_5 : decode cX8_actWithCopy 5 = .ok (.getfield 10, 3) := by decide +kernel
theorem dX8_actWithCopy_8 : decode cX8_actWithCopy 8 = .ok (.invokevirtual 218, 3) := by decide +kernel
theorem dX8_actWithCopy_11 : decode cX8_actWithCopy 11 = .ok (.aload_n 0, 1) := by decide +kernel
theorem dX8_actWithCopy_12 : decode cX8_actWithCopy 12 = .ok (.getfield 10, 3) := by decide +kernel
theorem dX8_actWithCopy_15 : decode cX8_actWithCopy 15 = .ok (.aload_n 0, 1) := by decide +kernel
theorem dX8_actWithCopy_16 : decode cX8_actWithCopy 16 = .ok (.getfield 16, 3) := by decide +kernel
theorem dX8_actWithCopy_19 : decode cX8_actWithCopy 19 = .ok (.invokevirtual 128, 3) := by decide +kernel
theorem dX8_actWithCopy_22 : decode cX8_actWithCopy 22 = .ok (.aload_n 0, 1) := by decide +kernel
theorem dX8_actWithCopy_23 : decode cX8_actWithCopy 23 = .ok (.getfield 10, 3) := by decide +kernel
theorem dX8_actWithCopy_26 : decode cX8_actWithCopy 26 = .ok (.invokevirtual 100, 3) := by decide +kernel
theorem dX8_actWithCopy_29 : decode cX8_actWithCopy 29 = .ok (.ireturn, 1) := by decide +kernel
theorem dX8_performOnCopy_0 : decode cX8_performOnCopy 0 = .ok (.aload_n 0, 1) := by decide +kernel
theorem dX8_performOnCopy_1 : decode cX8_performOnCopy 1 = .ok (.getfield 16, 3) := by decide +kernel
theorem dX8_performOnCopy_4 : decode cX8_performOnCopy 4 = .ok (.aload_n 0, 1) := by decide +kernel
theorem dX8_performOnCopy_5 : decode cX8_performOnCopy 5 = .ok (.getfield 10, 3) := by decide +kernel
theorem dX8_performOnCopy_8 : decode cX8_performOnCopy 8 = .ok (.invokevirtual 128, 3) := by decide +kernel
theorem dX8_performOnCopy_11 : decode cX8_performOnCopy 11 = .ok (.aload_n 0, 1) := by decide +kernel
theorem dX8_performOnCopy_12 : decode cX8_performOnCopy 12 = .ok (.getfield 38, 3) := by decide +kernel
theorem dX8_performOnCopy_15 : decode cX8_performOnCopy 15 = .ok (.aload_n 0, 1) := by decide +kernel
theorem dX8_performOnCopy_16 : decode cX8_performOnCopy 16 = .ok (.getfield 16, 3) := by decide +kernel
theorem dX8_performOnCopy_19 : decode cX8_performOnCopy 19 = .ok (.iload_n 1, 1) := by decide +kernel
theorem dX8_performOnCopy_20 : decode cX8_performOnCopy 20 = .ok (.iload_n 2, 1) := by decide +kernel
theorem dX8_performOnCopy_21 : decode cX8_performOnCopy 21 = .ok (.invokevirtual 138, 3) := by decide +kernel
theorem dX8_performOnCopy_24 : decode cX8_performOnCopy 24 = .ok (.ireturn, 1) := by decide +kernel
theorem dX8_normaliseInto_0 : decode cX8_normaliseInto 0 = .ok (.aload_n 1, 1) := by decide +kernel
theorem dX8_normaliseInto_1 : decode cX8_normaliseInto 1 = .ok (.aload_n 2, 1) := by decide +kernel
theorem dX8_normaliseInto_2 : decode cX8_normaliseInto 2 = .ok (.invokevirtual 128, 3) := by decide +kernel
theorem dX8_normaliseInto_5 : decode cX8_normaliseInto 5 = .ok (.aload_n 0, 1) := by decide +kernel
theorem dX8_normaliseInto_6 : decode cX8_normaliseInto 6 = .ok (.getfield 38, 3) := by decide +kernel
theorem dX8_normaliseInto_9 : decode cX8_normaliseInto 9 = .ok (.aload_n 1, 1) := by decide +kernel
theorem dX8_normaliseInto_10 : decode cX8_normaliseInto 10 = .ok (.iconst 0, 1) := by decide +kernel
theorem dX8_normaliseInto_11 : decode cX8_normaliseInto 11 = .ok (.sipush 200, 3) := by decide +kernel
theorem dX8_normaliseInto_14 : decode cX8_normaliseInto 14 = .ok (.invokevirtual 138, 3) := by decide +kernel
theorem dX8_normaliseInto_17 : decode cX8_normaliseInto 17 = .ok (.pop, 1) := by decide +kernel
theorem dX8_normaliseInto_18 : decode cX8_normaliseInto 18 = .ok (.aload_n 1, 1) := by decide +kernel
theorem dX8_normaliseInto_19 : decode cX8_normaliseInto 19 = .ok (.iconst 0, 1) := by decide +kernel
theorem dX8_normaliseInto_20 : decode cX8_normaliseInto 20 = .ok (.invokestatic 221, 3) := by decide +kernel
theorem dX8_normaliseInto_23 : decode cX8_normaliseInto 23 = .ok (.bipush (-9), 2) := by decide +kernel
theorem dX8_normaliseInto_25 : decode cX8_normaliseInto 25 = .ok (.if_icmp .ne 7, 3) := by decide +kernel
theorem dX8_normaliseInto_28 : decode cX8_normaliseInto 28 = .ok (.iconst 1, 1) := by decide +kernel
theorem dX8_normaliseInto_29 : decode cX8_normaliseInto 29 = .ok (.goto 4, 3) := by decide +kernel
theorem dX8_normaliseInto_32 : decode cX8_normaliseInto 32 = .ok (.iconst 0, 1) := by decide +kernel
theorem dX8_normaliseInto_33 : decode cX8_normaliseInto 33 = .ok (.ireturn, 1) := by decide +kernel
theorem dX8_withoutLowGroups_0 : decode cX8_withoutLowGroups 0 = .ok (.lload_n 0, 1) := by decide +kernel
theorem dX8_withoutLowGroups_1 : decode cX8_withoutLowGroups 1 = .ok (.lstore_n 3, 1) := by decide +kernel
theorem dX8_withoutLowGroups_2 : decode cX8_withoutLowGroups 2 = .ok (.iconst 0, 1) := by decide +kernel
theorem dX8_withoutLowGroups_3 : decode cX8_withoutLowGroups 3 = .ok (.istore 5, 2) := by decide +kernel
theorem dX8_withoutLowGroups_5 : decode cX8_withoutLowGroups 5 = .ok (.iload 5, 2) := by decide +kernel
theorem dX8_withoutLowGroups_7 : decode cX8_withoutLowGroups 7 = .ok (.iload_n 2, 1) := by decide +kernel
theorem dX8_withoutLowGroups_8 : decode cX8_withoutLowGroups 8 = .ok (.if_icmp .ge 15, 3) := by decide +kernel
theorem dX8_withoutLowGroups_11 : decode cX8_withoutLowGroups 11 = .ok (.lload_n 3, 1) := by decide +kernel
theorem dX8_withoutLowGroups_12 : decode cX8_withoutLowGroups 12 = .ok (.ldc2_w 200, 3) := by decide +kernel
theorem dX8_withoutLowGroups_15 : decode cX8_withoutLowGroups 15 = .ok (.ldiv, 1) := by decide +kernel
theorem dX8_withoutLowGroups_16 : decode cX8_withoutLowGroups 16 = .ok (.lstore_n 3, 1) := by decide +kernel
theorem dX8_withoutLowGroups_17 : decode cX8_withoutLowGroups 17 = .ok (.iinc 5 1, 3) := by decide +kernel
theorem dX8_withoutLowGroups_20 : decode cX8_withoutLowGroups 20 = .ok (.goto (-15), 3) := by decide +kernel
theorem dX8_withoutLowGroups_23 : decode cX8_withoutLowGroups 23 = .ok (.lload_n 3, 1) := by decide +kernel
theorem dX8_withoutLowGroups_24 : decode cX8_withoutLowGroups 24 = .ok (.lreturn, 1) := by decide +kernel
theorem dX8_commandSucceeds_0 : decode cX8_commandSucceeds 0 = .ok (.iload_n 1, 1) := by decide +kernel
theorem dX8_commandSucceeds_1 : decode cX8_commandSucceeds 1 = .ok (.bipush 10, 2) := by decide +kernel
theorem dX8_commandSucceeds_3 : decode cX8_commandSucceeds 3 = .ok (.idiv, 1) := by decide +kernel
theorem dX8_commandSucceeds_4 : decode cX8_commandSucceeds 4 = .ok (.bipush 10, 2) := by decide +kernel
theorem dX8_commandSucceeds_6 : decode cX8_commandSucceeds 6 = .ok (.irem, 1) := by decide +kernel
theorem dX8_commandSucceeds_7 : decode cX8_commandSucceeds 7 = .ok (.istore_n 2, 1) := by decide +kernel
theorem dX8_commandSucceeds_8 : decode cX8_commandSucceeds 8 = .ok (.iload_n 1, 1) := by decide +kernel
theorem dX8_commandSucceeds_9 : decode cX8_commandSucceeds 9 = .ok (.bipush 10, 2) := by decide +kernel
theorem dX8_commandSucceeds_11 : decode cX8_commandSucceeds 11 = .ok (.irem, 1) := by decide +kernel
theorem dX8_commandSucceeds_12 : decode cX8_commandSucceeds 12 = .ok (.istore_n 3, 1) := by decide +kernel
theorem dX8_commandSucceeds_13 : decode cX8_commandSucceeds 13 = .ok (.iload_n 1, 1) := by decide +kernel
theorem dX8_commandSucceeds_14 : decode cX8_commandSucceeds 14 = .ok (.bipush 100, 2) := by decide +kernel
theorem dX8_commandSucceeds_16 : decode cX8_commandSucceeds 16 = .ok (.idiv, 1) := by decide +kernel
theorem dX8_commandSucceeds_17 : decode cX8_commandSucceeds 17 = .ok (.tableswitch 167 1 5 #[35, 62, 82, 102, 144], 35) := by decide +kernel
theorem dX8_commandSucceeds_52 : decode cX8_commandSucceeds 52 = .ok (.iload_n 2, 1) := by decide +kernel
theorem dX8_commandSucceeds_53 : decode cX8_commandSucceeds 53 = .ok (.ifCond .ne 24, 3) := by decide +kernel
theorem dX8_commandSucceeds_56 : decode cX8_commandSucceeds 56 = .ok (.aload_n 0, 1) := by decide +kernel
theorem dX8_commandSucceeds_57 : decode cX8_commandSucceeds 57 = .ok (.getfield 38, 3) := by decide +kernel
theorem dX8_commandSucceeds_60 : decode cX8_commandSucceeds 60 = .ok (.aload_n 0, 1) := by decide +kernel
theorem dX8_commandSucceeds_61 : decode cX8_commandSucceeds 61 = .ok (.getfield 16, 3) := by decide +kernel
theorem dX8_commandSucceeds_64 : decode cX8_commandSucceeds 64 = .ok (.iload_n 3, 1) := by decide +kernel
theorem dX8_commandSucceeds_65 : decode cX8_commandSucceeds 65 = .ok (.iconst 1, 1) := by decide +kernel
theorem dX8_commandSucceeds_66 : decode cX8_commandSucceeds 66 = .ok (.invokevirtual 138, 3) := by decide +kernel
theorem dX8_commandSucceeds_69 : decode cX8_commandSucceeds 69 = .ok (.iconst 1, 1) := by decide +kernel
theorem dX8_commandSucceeds_70 : decode cX8_commandSucceeds 70 = .ok (.if_icmp .ne 7, 3) := by decide +kernel
theorem dX8_commandSucceeds_73 : decode cX8_commandSucceeds 73 = .ok (.iconst 1, 1) := by decide +kernel
theorem dX8_commandSucceeds_74 : decode cX8_commandSucceeds 74 = .ok (.goto 4, 3) := by decide +kernel
theorem dX8_commandSucceeds_77 : decode cX8_commandSucceeds 77 = .ok (.iconst 0, 1) := by decide +kernel
theorem dX8_commandSucceeds_78 : decode cX8_commandSucceeds 78 = .ok (.ireturn, 1) := by decide +kernel
theorem dX8_commandSucceeds_79 : decode cX8_commandSucceeds 79 = .ok (.aload_n 0, 1) := by decide +kernel
theorem dX8_commandSucceeds_80 : decode cX8_commandSucceeds 80 = .ok (.getfield 16, 3) := by decide +kernel
theorem dX8_commandSucceeds_83 : decode cX8_commandSucceeds 83 = .ok (.invokevirtual 100, 3) := by decide +kernel
theorem dX8_commandSucceeds_86 : decode cX8_commandSucceeds 86 = .ok (.iload_n 1, 1) := by decide +kernel
theorem dX8_commandSucceeds_87 : decode cX8_commandSucceeds 87 = .ok (.bipush 100, 2) := by decide +kernel
theorem dX8_commandSucceeds_89 : decode cX8_commandSucceeds 89 = .ok (.irem, 1) := by decide +kernel
theorem dX8_commandSucceeds_90 : decode cX8_commandSucceeds 90 = .ok (.if_icmp .ne 7, 3) := by decide +kernel
theorem dX8_commandSucceeds_93 : decode cX8_commandSucceeds 93 = .ok (.iconst 1, 1) := by decide +kernel
theorem dX8_commandSucceeds_94 : decode cX8_commandSucceeds 94 = .ok (.goto 4, 3) := by decide +kernel
theorem dX8_commandSucceeds_97 : decode cX8_commandSucceeds 97 = .ok (.iconst 0, 1) := by decide +kernel
theorem dX8_commandSucceeds_98 : decode cX8_commandSucceeds 98 = .ok (.ireturn, 1) := by decide +kernel
theorem dX8_commandSucceeds_99 : decode cX8_commandSucceeds 99 = .ok (.aload_n 0, 1) := by decide +kernel
theorem dX8_commandSucceeds_100 : decode cX8_commandSucceeds 100 = .ok (.getfield 16, 3) := by decide +kernel
theorem dX8_commandSucceeds_103 : decode cX8_commandSucceeds 103 = .ok (.invokestatic 114, 3) := by decide +kernel
theorem dX8_commandSucceeds_106 : decode cX8_commandSucceeds 106 = .ok (.iload_n 1, 1) := by decide +kernel
theorem dX8_commandSucceeds_107 : decode cX8_commandSucceeds 107 = .ok (.bipush 100, 2) := by decide +kernel
theorem dX8_commandSucceeds_109 : decode cX8_commandSucceeds 109 = .ok (.irem, 1) := by decide +kernel
theorem dX8_commandSucceeds_110 : decode cX8_commandSucceeds 110 = .ok (.if_icmp .ne 7, 3) := by decide +kernel
theorem dX8_commandSucceeds_113 : decode cX8_commandSucceeds 113 = .ok (.iconst 1, 1) := by decide +kernel
theorem dX8_commandSucceeds_114 : decode cX8_commandSucceeds 114 = .ok (.goto 4, 3) := by decide +kernel
theorem dX8_commandSucceeds_117 : decode cX8_commandSucceeds 117 = .ok (.iconst 0, 1) := by decide +kernel
theorem dX8_commandSucceeds_118 : decode cX8_commandSucceeds 118 = .ok (.ireturn, 1) := by decide +kernel
theorem dX8_commandSucceeds_119 : decode cX8_commandSucceeds 119 = .ok (.aload_n 0, 1) := by decide +kernel
theorem dX8_commandSucceeds_120 : decode cX8_commandSucceeds 120 = .ok (.getfield 19, 3) := by decide +kernel
theorem dX8_commandSucceeds_123 : decode cX8_commandSucceeds 123 = .ok (.aload_n 0, 1) := by decide +kernel
theorem dX8_commandSucceeds_124 : decode cX8_commandSucceeds 124 = .ok (.getfield 16, 3) := by decide +kernel
theorem dX8_commandSucceeds_127 : decode cX8_commandSucceeds 127 = .ok (.invokevirtual 128, 3) := by decide +kernel
theorem dX8_commandSucceeds_130 : decode cX8_commandSucceeds 130 = .ok (.iload_n 2, 1) := by decide +kernel
theorem dX8_commandSucceeds_131 : decode cX8_commandSucceeds 131 = .ok (.invokestatic 118, 3) := by decide +kernel
theorem dX8_commandSucceeds_134 : decode cX8_commandSucceeds 134 = .ok (.ifCond .eq 25, 3) := by decide +kernel
theorem dX8_commandSucceeds_137 : decode cX8_commandSucceeds 137 = .ok (.aload_n 0, 1) := by decide +kernel
theorem dX8_commandSucceeds_138 : decode cX8_commandSucceeds 138 = .ok (.getfield 38, 3) := by decide +kernel
theorem dX8_commandSucceeds_141 : decode cX8_commandSucceeds 141 = .ok (.aload_n 0, 1) := by decide +kernel
theorem dX8_commandSucceeds_142 : decode cX8_commandSucceeds 142 = .ok (.getfield 19, 3) := by decide +kernel
theorem dX8_commandSucceeds_145 : decode cX8_commandSucceeds 145 = .ok (.iload_n 2, 1) := by decide +kernel
theorem dX8_commandSucceeds_146 : decode cX8_commandSucceeds 146 = .ok (.bipush 9, 2) := by decide +kernel
theorem dX8_commandSucceeds_148 : decode cX8_commandSucceeds 148 = .ok (.invokevirtual 138, 3) := by decide +kernel
theorem dX8_commandSucceeds_151 : decode cX8_commandSucceeds 151 = .ok (.iload_n 3, 1) := by decide +kernel
theorem dX8_commandSucceeds_152 : decode cX8_commandSucceeds 152 = .ok (.if_icmp .ne 7, 3) := by decide +kernel
theorem dX8_commandSucceeds_155 : decode cX8_commandSucceeds 155 = .ok (.iconst 1, 1) := by decide +kernel
theorem dX8_commandSucceeds_156 : decode cX8_commandSucceeds 156 = .ok (.goto 4, 3) := by decide +kernel
theorem dX8_commandSucceeds_159 : decode cX8_commandSucceeds 159 = .ok (.iconst 0, 1) := by decide +kernel
theorem dX8_commandSucceeds_160 : decode cX8_commandSucceeds 160 = .ok (.ireturn, 1) := by decide +kernel
theorem dX8_commandSucceeds_161 : decode cX8_commandSucceeds 161 = .ok (.iload_n 1, 1) := by decide +kernel
theorem dX8_commandSucceeds_162 : decode cX8_commandSucceeds 162 = .ok (.sipush 500, 3) := by decide +kernel
theorem dX8_commandSucceeds_165 : decode cX8_commandSucceeds 165 = .ok (.if_icmp .ne 17, 3) := by decide +kernel
theorem dX8_commandSucceeds_168 : decode cX8_commandSucceeds 168 = .ok (.aload_n 0, 1) := by decide +kernel
theorem dX8_commandSucceeds_169 : decode cX8_commandSucceeds 169 = .ok (.getfield 16, 3) := by decide +kernel
theorem dX8_commandSucceeds_172 : decode cX8_commandSucceeds 172 = .ok (.invokevirtual 142, 3) := by decide +kernel
theorem dX8_commandSucceeds_175 : decode cX8_commandSucceeds 175 = .ok (.ifCond .eq 7, 3) := by decide +kernel
theorem dX8_commandSucceeds_178 : decode cX8_commandSucceeds 178 = .ok (.iconst 1, 1) := by decide +kernel
theorem dX8_commandSucceeds_179 : decode cX8_commandSucceeds 179 = .ok (.goto 4, 3) := by decide +kernel
theorem dX8_commandSucceeds_182 : decode cX8_commandSucceeds 182 = .ok (.iconst 0, 1) := by decide +kernel
theorem dX8_commandSucceeds_183 : decode cX8_commandSucceeds 183 = .ok (.ireturn, 1) := by decide +kernel
theorem dX8_commandSucceeds_184 : decode cX8_commandSucceeds 184 = .ok (.iconst 0, 1) := by decide +kernel
theorem dX8_commandSucceeds_185 : decode cX8_commandSucceeds 185 = .ok (.ireturn, 1) := by decide +kernel
theorem dX8_observationsHold_0 : decode cX8_observationsHold 0 = .ok (.aload_n 0, 1) := by decide +kernel
theorem dX8_observationsHold_1 : decode cX8_observationsHold 1 = .ok (.getfield 16, 3) := by decide +kernel
theorem dX8_observationsHold_4 : decode cX8_observationsHold 4 = .ok (.aload_n 0, 1) := by decide +kernel
theorem dX8_observationsHold_5 : decode cX8_observationsHold 5 = .ok (.getfield 10, 3) := by decide +kernel
theorem dX8_observationsHold_8 : decode cX8_observationsHold 8 = .ok (.invokevirtual 128, 3) := by decide +kernel
theorem dX8_observationsHold_11 : decode cX8_observationsHold 11 = .ok (.aload_n 0, 1) := by decide +kernel
theorem dX8_observationsHold_12 : decode cX8_observationsHold 12 = .ok (.getfield 66, 3) := by decide +kernel
theorem dX8_observationsHold_15 : decode cX8_observationsHold 15 = .ok (.invokevirtual 224, 3) := by decide +kernel
theorem dX8_observationsHold_18 : decode cX8_observationsHold 18 = .ok (.bipush 50, 2) := by decide +kernel
theorem dX8_observationsHold_20 : decode cX8_observationsHold 20 = .ok (.invokestatic 227, 3) := by decide +kernel
theorem dX8_observationsHold_23 : decode cX8_observationsHold 23 = .ok (.istore_n 2, 1) := by decide +kernel
theorem dX8_observationsHold_24 : decode cX8_observationsHold 24 = .ok (.iconst 0, 1) := by decide +kernel
theorem dX8_observationsHold_25 : decode cX8_observationsHold 25 = .ok (.istore_n 3, 1) := by decide +kernel
theorem dX8_observationsHold_26 : decode cX8_observationsHold 26 = .ok (.iload_n 3, 1) := by decide +kernel
theorem dX8_observationsHold_27 : decode cX8_observationsHold 27 = .ok (.iload_n 2, 1) := by decide +kernel
theorem dX8_observationsHold_28 : decode cX8_observationsHold 28 = .ok (.if_icmp .gt 47, 3) := by decide +kernel
theorem dX8_observationsHold_31 : decode cX8_observationsHold 31 = .ok (.iload_n 3, 1) := by decide +kernel
theorem dX8_observationsHold_32 : decode cX8_observationsHold 32 = .ok (.ifCond .le 17, 3) := by decide +kernel
theorem dX8_observationsHold_35 : decode cX8_observationsHold 35 = .ok (.aload_n 0, 1) := by decide +kernel
theorem dX8_observationsHold_36 : decode cX8_observationsHold 36 = .ok (.getfield 38, 3) := by decide +kernel
theorem dX8_observationsHold_39 : decode cX8_observationsHold 39 = .ok (.aload_n 0, 1) := by decide +kernel
theorem dX8_observationsHold_40 : decode cX8_observationsHold 40 = .ok (.getfield 16, 3) := by decide +kernel
theorem dX8_observationsHold_43 : decode cX8_observationsHold 43 = .ok (.iload_n 1, 1) := by decide +kernel
theorem dX8_observationsHold_44 : decode cX8_observationsHold 44 = .ok (.iconst 1, 1) := by decide +kernel
theorem dX8_observationsHold_45 : decode cX8_observationsHold 45 = .ok (.invokevirtual 138, 3) := by decide +kernel
theorem dX8_observationsHold_48 : decode cX8_observationsHold 48 = .ok (.pop, 1) := by decide +kernel
theorem dX8_observationsHold_49 : decode cX8_observationsHold 49 = .ok (.aload_n 0, 1) := by decide +kernel
theorem dX8_observationsHold_50 : decode cX8_observationsHold 50 = .ok (.getfield 66, 3) := by decide +kernel
theorem dX8_observationsHold_53 : decode cX8_observationsHold 53 = .ok (.iload_n 3, 1) := by decide +kernel
theorem dX8_observationsHold_54 : decode cX8_observationsHold 54 = .ok (.aload_n 0, 1) := by decide +kernel
theorem dX8_observationsHold_55 : decode cX8_observationsHold 55 = .ok (.getfield 16, 3) := by decide +kernel
theorem dX8_observationsHold_58 : decode cX8_observationsHold 58 = .ok (.invokevirtual 100, 3) := by decide +kernel
theorem dX8_observationsHold_61 : decode cX8_observationsHold 61 = .ok (.invokevirtual 232, 3) := by decide +kernel
theorem dX8_observationsHold_64 : decode cX8_observationsHold 64 = .ok (.ifCond .ne 5, 3) := by decide +kernel
theorem dX8_observationsHold_67 : decode cX8_observationsHold 67 = .ok (.iconst 0, 1) := by decide +kernel
theorem dX8_observationsHold_68 : decode cX8_observationsHold 68 = .ok (.ireturn, 1) := by decide +kernel
theorem dX8_observationsHold_69 : decode cX8_observationsHold 69 = .ok (.iinc 3 1, 3) := by decide +kernel
theorem dX8_observationsHold_72 : decode cX8_observationsHold 72 = .ok (.goto (-46), 3) := by decide +kernel
theorem dX8_observationsHold_75 : decode cX8_observationsHold 75 = .ok (.iconst 1, 1) := by decide +kernel
theorem dX8_observationsHold_76 : decode cX8_observationsHold 76 = .ok (.ireturn, 1) := by decide +kernel
theorem dX8_randomStepOnCopy_0 : decode cX8_randomStepOnCopy 0 = .ok (.aload_n 0, 1) := by decide +kernel
theorem dX8_randomStepOnCopy_1 : decode cX8_randomStepOnCopy 1 = .ok (.aload_n 0, 1) := by decide +kernel
theorem dX8_randomStepOnCopy_2 : decode cX8_randomStepOnCopy 2 = .ok (.getfield 70, 3) := by decide +kernel
theorem dX8_randomStepOnCopy_5 : decode cX8_randomStepOnCopy 5 = .ok (.ldc2_w 235, 3) := by decide +kernel
theorem dX8_randomStepOnCopy_8 : decode cX8_randomStepOnCopy 8 = .ok (.lmul, 1) := by decide +kernel
theorem dX8_randomStepOnCopy_9 : decode cX8_randomStepOnCopy 9 = .ok (.ldc2_w 237, 3) := by decide +kernel
theorem dX8_randomStepOnCopy_12 : decode cX8_randomStepOnCopy 12 = .ok (.ladd, 1) := by decide +kernel
theorem dX8_randomStepOnCopy_13 : decode cX8_randomStepOnCopy 13 = .ok (.putfield 70, 3) := by decide +kernel
theorem dX8_randomStepOnCopy_16 : decode cX8_randomStepOnCopy 16 = .ok (.aload_n 0, 1) := by decide +kernel
theorem dX8_randomStepOnCopy_17 : decode cX8_randomStepOnCopy 17 = .ok (.getfield 70, 3) := by decide +kernel
theorem dX8_randomStepOnCopy_20 : decode cX8_randomStepOnCopy 20 = .ok (.bipush 33, 2) := by decide +kernel
theorem dX8_randomStepOnCopy_22 : decode cX8_randomStepOnCopy 22 = .ok (.lushr, 1) := by decide +kernel
theorem dX8_randomStepOnCopy_23 : decode cX8_randomStepOnCopy 23 = .ok (.l2i, 1) := by decide +kernel
theorem dX8_randomStepOnCopy_24 : decode cX8_randomStepOnCopy 24 = .ok (.istore_n 1, 1) := by decide +kernel
theorem dX8_randomStepOnCopy_25 : decode cX8_randomStepOnCopy 25 = .ok (.aload_n 0, 1) := by decide +kernel
theorem dX8_randomStepOnCopy_26 : decode cX8_randomStepOnCopy 26 = .ok (.getfield 16, 3) := by decide +kernel
theorem dX8_randomStepOnCopy_29 : decode cX8_randomStepOnCopy 29 = .ok (.invokestatic 114, 3) := by decide +kernel
theorem dX8_randomStepOnCopy_32 : decode cX8_randomStepOnCopy 32 = .ok (.istore_n 2, 1) := by decide +kernel
theorem dX8_randomStepOnCopy_33 : decode cX8_randomStepOnCopy 33 = .ok (.iload_n 2, 1) := by decide +kernel
theorem dX8_randomStepOnCopy_34 : decode cX8_randomStepOnCopy 34 = .ok (.ifCond .le 25, 3) := by decide +kernel
theorem dX8_randomStepOnCopy_37 : decode cX8_randomStepOnCopy 37 = .ok (.aload_n 0, 1) := by decide +kernel
theorem dX8_randomStepOnCopy_38 : decode cX8_randomStepOnCopy 38 = .ok (.getfield 38, 3) := by decide +kernel
theorem dX8_randomStepOnCopy_41 : decode cX8_randomStepOnCopy 41 = .ok (.aload_n 0, 1) := by decide +kernel
theorem dX8_randomStepOnCopy_42 : decode cX8_randomStepOnCopy 42 = .ok (.getfield 16, 3) := by decide +kernel
theorem dX8_randomStepOnCopy_45 : decode cX8_randomStepOnCopy 45 = .ok (.aload_n 0, 1) := by decide +kernel
theorem dX8_randomStepOnCopy_46 : decode cX8_randomStepOnCopy 46 = .ok (.getfield 16, 3) := by decide +kernel
theorem dX8_randomStepOnCopy_49 : decode cX8_randomStepOnCopy 49 = .ok (.iload_n 1, 1) := by decide +kernel
theorem dX8_randomStepOnCopy_50 : decode cX8_randomStepOnCopy 50 = .ok (.iload_n 2, 1) := by decide +kernel
theorem dX8_randomStepOnCopy_51 : decode cX8_randomStepOnCopy 51 = .ok (.irem, 1) := by decide +kernel
theorem dX8_randomStepOnCopy_52 : decode cX8_randomStepOnCopy 52 = .ok (.invokestatic 239, 3) := by decide +kernel
theorem dX8_randomStepOnCopy_55 : decode cX8_randomStepOnCopy 55 = .ok (.invokevirtual 131, 3) := by decide +kernel
theorem dX8_randomStepOnCopy_58 : decode cX8_randomStepOnCopy 58 = .ok (.pop, 1) := by decide +kernel
theorem dX8_randomStepOnCopy_59 : decode cX8_randomStepOnCopy 59 = .ok (.return_, 1) := by decide +kernel
