theorem dX0_init_0 : decode cX0_init 0 = .ok (.aload_n 0, 1) := by decide +kernel
theorem dX0_init_1 : decode cX0_init 1 = .ok (.invokespecial 3, 3) := by decide +kernel
theorem dX0_init_4 : decode cX0_init 4 = .ok (.aload_n 0, 1) := by decide +kernel
theorem dX0_init_5 : decode cX0_init 5 = .ok (.sipush 300, 3) := by decide +kernel
theorem dX0_init_8 : decode cX0_init 8 = .ok (.newarray .int, 2) := by decide +kernel
theorem dX0_init_10 : decode cX0_init 10 = .ok (.putfield 9, 3) := by decide +kernel
theorem dX0_init_13 : decode cX0_init 13 = .ok (.aload_n 0, 1) := by decide +kernel
theorem dX0_init_14 : decode cX0_init 14 = .ok (.sipush 300, 3) := by decide +kernel
theorem dX0_init_17 : decode cX0_init 17 = .ok (.newarray .int, 2) := by decide +kernel
theorem dX0_init_19 : decode cX0_init 19 = .ok (.putfield 15, 3) := by decide +kernel
theorem dX0_init_22 : decode cX0_init 22 = .ok (.aload_n 0, 1) := by decide +kernel
theorem dX0_init_23 : decode cX0_init 23 = .ok (.sipush 300, 3) := by decide +kernel
theorem dX0_init_26 : decode cX0_init 26 = .ok (.newarray .int, 2) := by decide +kernel
theorem dX0_init_28 : decode cX0_init 28 = .ok (.putfield 18, 3) := by decide +kernel
theorem dX0_init_31 : decode cX0_init 31 = .ok (.aload_n 0, 1) := by decide +kernel
theorem dX0_init_32 : decode cX0_init 32 = .ok (.iconst 0, 1) := by decide +kernel
theorem dX0_init_33 : decode cX0_init 33 = .ok (.putfield 21, 3) := by decide +kernel
theorem dX0_init_36 : decode cX0_init 36 = .ok (.aload_n 0, 1) := by decide +kernel
theorem dX0_init_37 : decode cX0_init 37 = .ok (.iconst 0, 1) := by decide +kernel
theorem dX0_init_38 : decode cX0_init 38 = .ok (.putfield 25, 3) := by decide +kernel
theorem dX0_init_41 : decode cX0_init 41 = .ok (.return_, 1) := by decide +kernel
theorem dX0_length_0 : decode cX0_length 0 = .ok (.aload_n 0, 1) := by decide +kernel
theorem dX0_length_1 : decode cX0_length 1 = .ok (.getfield 21, 3) := by decide +kernel
theorem dX0_length_4 : decode cX0_length 4 = .ok (.ireturn, 1) := by decide +kernel
theorem dX0_isTooLarge_0 : decode cX0_isTooLarge 0 = .ok (.aload_n 0, 1) := by decide +kernel
theorem dX0_isTooLarge_1 : decode cX0_isTooLarge 1 = .ok (.getfield 25, 3) := by decide +kernel
theorem dX0_isTooLarge_4 : decode cX0_isTooLarge 4 = .ok (.ireturn, 1) := by decide +kernel
theorem dX0_token_0 : decode cX0_token 0 = .ok (.iload_n 1, 1) := by decide +kernel
theorem dX0_token_1 : decode cX0_token 1 = .ok (.ifCond .lt 20, 3) := by decide +kernel
theorem dX0_token_4 : decode cX0_token 4 = .ok (.iload_n 1, 1) := by decide +kernel
theorem dX0_token_5 : decode cX0_token 5 = .ok (.aload_n 0, 1) := by decide +kernel
theorem dX0_token_6 : decode cX0_token 6 = .ok (.getfield 21, 3) := by decide +kernel
theorem dX0_token_9 : decode cX0_token 9 = .ok (.if_icmp .ge 12, 3) := by decide +kernel
theorem dX0_token_12 : decode cX0_token 12 = .ok (.aload_n 0, 1) := by decide +kernel
theorem dX0_token_13 : decode cX0_token 13 = .ok (.getfield 9, 3) := by decide +kernel
theorem dX0_token_16 : decode cX0_token 16 = .ok (.iload_n 1, 1) := by decide +kernel
theorem dX0_token_17 : decode cX0_token 17 = .ok (.iaload, 1) := by decide +kernel
theorem dX0_token_18 : decode cX0_token 18 = .ok (.goto 4, 3) := by decide +kernel
theorem dX0_token_21 : decode cX0_token 21 = .ok (.iconst (-1), 1) := by decide +kernel
theorem dX0_token_22 : decode cX0_token 22 = .ok (.ireturn, 1) := by decide +kernel
theorem dX0_entriesAt_0 : decode cX0_entriesAt 0 = .ok (.iload_n 1, 1) := by decide +kernel
theorem dX0_entriesAt_1 : decode cX0_entriesAt 1 = .ok (.ifCond .lt 20, 3) := by decide +kernel
theorem dX0_entriesAt_4 : decode cX0_entriesAt 4 = .ok (.iload_n 1, 1) := by decide +kernel
theorem dX0_entriesAt_5 : decode cX0_entriesAt 5 = .ok (.aload_n 0, 1) := by decide +kernel
theorem dX0_entriesAt_6 : decode cX0_entriesAt 6 = .ok (.getfield 21, 3) := by decide +kernel
theorem dX0_entriesAt_9 : decode cX0_entriesAt 9 = .ok (.if_icmp .ge 12, 3) := by decide +kernel
theorem dX0_entriesAt_12 : decode cX0_entriesAt 12 = .ok (.aload_n 0, 1) := by decide +kernel
theorem dX0_entriesAt_13 : decode cX0_entriesAt 13 = .ok (.getfield 15, 3) := by decide +kernel
theorem dX0_entriesAt_16 : decode cX0_entriesAt 16 = .ok (.iload_n 1, 1) := by decide +kernel
theorem dX0_entriesAt_17 : decode cX0_entriesAt 17 = .ok (.iaload, 1) := by decide +kernel
theorem dX0_entriesAt_18 : decode cX0_entriesAt 18 = .ok (.goto 4, 3) := by decide +kernel
theorem dX0_entriesAt_21 : decode cX0_entriesAt 21 = .ok (.iconst 0, 1) := by decide +kernel
theorem dX0_entriesAt_22 : decode cX0_entriesAt 22 = .ok (.ireturn, 1) := by decide +kernel
theorem dX0_shiftAt_0 : decode cX0_shiftAt 0 = .ok (.iload_n 1, 1) := by decide +kernel
theorem dX0_shiftAt_1 : decode cX0_shiftAt 1 = .ok (.ifCond .lt 20, 3) := by decide +kernel
theorem dX0_shiftAt_4 : decode cX0_shiftAt 4 = .ok (.iload_n 1, 1) := by decide +kernel
theorem dX0_shiftAt_5 : decode cX0_shiftAt 5 = .ok (.aload_n 0, 1) := by decide +kernel
theorem dX0_shiftAt_6 : decode cX0_shiftAt 6 = .ok (.getfield 21, 3) := by decide +kernel
theorem dX0_shiftAt_9 : decode cX0_shiftAt 9 = .ok (.if_icmp .ge 12, 3) := by decide +kernel
theorem dX0_shiftAt_12 : decode cX0_shiftAt 12 = .ok (.aload_n 0, 1) := by decide +kernel
theorem dX0_shiftAt_13 : decode cX0_shiftAt 13 = .ok (.getfield 18, 3) := by decide +kernel
theorem dX0_shiftAt_16 : decode cX0_shiftAt 16 = .ok (.iload_n 1, 1) := by decide +kernel
theorem dX0_shiftAt_17 : decode cX0_shiftAt 17 = .ok (.iaload, 1) := by decide +kernel
theorem dX0_shiftAt_18 : decode cX0_shiftAt 18 = .ok (.goto 4, 3) := by decide +kernel
theorem dX0_shiftAt_21 : decode cX0_shiftAt 21 = .ok (.iconst 0, 1) := by decide +kernel
theorem dX0_shiftAt_22 : decode cX0_shiftAt 22 = .ok (.ireturn, 1) := by decide +kernel
theorem dX0_clear_0 : decode cX0_clear 0 = .ok (.aload_n 0, 1) := by decide +kernel
theorem dX0_clear_1 : decode cX0_clear 1 = .ok (.iconst 0, 1) := by decide +kernel
theorem dX0_clear_2 : decode cX0_clear 2 = .ok (.putfield 21, 3) := by decide +kernel
theorem dX0_clear_5 : decode cX0_clear 5 = .ok (.aload_n 0, 1) := by decide +kernel
theorem dX0_clear_6 : decode cX0_clear 6 = .ok (.iconst 0, 1) := by decide +kernel
theorem dX0_clear_7 : decode cX0_clear 7 = .ok (.putfield 25, 3) := by decide +kernel
theorem dX0_clear_10 : decode cX0_clear 10 = .ok (.return_, 1) := by decide +kernel
theorem dX0_add_0 : decode cX0_add 0 = .ok (.aload_n 0, 1) := by decide +kernel
theorem dX0_add_1 : decode cX0_add 1 = .ok (.iload_n 1, 1) := by decide +kernel
theorem dX0_add_2 : decode cX0_add 2 = .ok (.iconst 0, 1) := by decide +kernel
theorem dX0_add_3 : decode cX0_add 3 = .ok (.iconst 0, 1) := by decide +kernel
theorem dX0_add_4 : decode cX0_add 4 = .ok (.invokevirtual 29, 3) := by decide +kernel
theorem dX0_add_7 : decode cX0_add 7 = .ok (.return_, 1) := by decide +kernel
theorem dX0_addClosure_0 : decode cX0_addClosure 0 = .ok (.aload_n 0, 1) := by decide +kernel
theorem dX0_addClosure_1 : decode cX0_addClosure 1 = .ok (.sipush 1002, 3) := by decide +kernel
theorem dX0_addClosure_4 : decode cX0_addClosure 4 = .ok (.iload_n 1, 1) := by decide +kernel
theorem dX0_addClosure_5 : decode cX0_addClosure 5 = .ok (.iload_n 2, 1) := by decide +kernel
theorem dX0_addClosure_6 : decode cX0_addClosure 6 = .ok (.invokevirtual 29, 3) := by decide +kernel
theorem dX0_addClosure_9 : decode cX0_addClosure 9 = .ok (.return_, 1) := by decide +kernel
theorem dX0_put_0 : decode cX0_put 0 = .ok (.aload_n 0, 1) := by decide +kernel
theorem dX0_put_1 : decode cX0_put 1 = .ok (.getfield 21, 3) := by decide +kernel
theorem dX0_put_4 : decode cX0_put 4 = .ok (.sipush 300, 3) := by decide +kernel
theorem dX0_put_7 : decode cX0_put 7 = .ok (.if_icmp .ge 46, 3) := by decide +kernel
theorem dX0_put_10 : decode cX0_put 10 = .ok (.aload_n 0, 1) := by decide +kernel
theorem dX0_put_11 : decode cX0_put 11 = .ok (.getfield 9, 3) := by decide +kernel
theorem dX0_put_14 : decode cX0_put 14 = .ok (.aload_n 0, 1) := by decide +kernel
theorem dX0_put_15 : decode cX0_put 15 = .ok (.getfield 21, 3) := by decide +kernel
theorem dX0_put_18 : decode cX0_put 18 = .ok (.iload_n 1, 1) := by decide +kernel
theorem dX0_put_19 : decode cX0_put 19 = .ok (.iastore, 1) := by decide +kernel
theorem dX0_put_20 : decode cX0_put 20 = .ok (.aload_n 0, 1) := by decide +kernel
theorem dX0_put_21 : decode cX0_put 21 = .ok (.getfield 15, 3) := by decide +kernel
theorem dX0_put_24 : decode cX0_put 24 = .ok (.aload_n 0, 1) := by decide +kernel
theorem dX0_put_25 : decode cX0_put 25 = .ok (.getfield 21, 3) := by decide +kernel
theorem dX0_put_28 : decode cX0_put 28 = .ok (.iload_n 2, 1) := by decide +kernel
theorem dX0_put_29 : decode cX0_put 29 = .ok (.iastore, 1) := by decide +kernel
theorem dX0_put_30 : decode cX0_put 30 = .ok (.aload_n 0, 1) := by decide +kernel
theorem dX0_put_31 : decode cX0_put 31 = .ok (.getfield 18, 3) := by decide +kernel
theorem dX0_put_34 : decode cX0_put 34 = .ok (.aload_n 0, 1) := by decide +kernel
theorem dX0_put_35 : decode cX0_put 35 = .ok (.getfield 21, 3) := by decide +kernel
theorem dX0_put_38 : decode cX0_put 38 = .ok (.iload_n 3, 1) := by decide +kernel
theorem dX0_put_39 : decode cX0_put 39 = .ok (.iastore, 1) := by decide +kernel
theorem dX0_put_40 : decode cX0_put 40 = .ok (.aload_n 0, 1) := by decide +kernel
theorem dX0_put_41 : decode cX0_put 41 = .ok (.dup, 1) := by decide +kernel
theorem dX0_put_42 : decode cX0_put 42 = .ok (.getfield 21, 3) := by decide +kernel
theorem dX0_put_45 : decode cX0_put 45 = .ok (.iconst 1, 1) := by decide +kernel
theorem dX0_put_46 : decode cX0_put 46 = .ok (.iadd, 1) := by decide +kernel
theorem dX0_put_47 : decode cX0_put 47 = .ok (.putfield 21, 3) := by decide +kernel
theorem dX0_put_50 : decode cX0_put 50 = .ok (.goto 8, 3) := by decide +kernel
theorem dX0_put_53 : decode cX0_put 53 = .ok (.aload_n 0, 1) := by decide +kernel
theorem dX0_put_54 : decode cX0_put 54 = .ok (.iconst 1, 1) := by decide +kernel
theorem dX0_put_55 : decode cX0_put 55 = .ok (.putfield 25, 3) := by decide +kernel
theorem dX0_put_58 : decode cX0_put 58 = .ok (.return_, 1) := by decide +kernel
theorem dX0_addRange_0 : decode cX0_addRange 0 = .ok (.iload_n 2, 1) := by decide +kernel
theorem dX0_addRange_1 : decode cX0_addRange 1 = .ok (.ifCond .lt 16, 3) := by decide +kernel
theorem dX0_addRange_4 : decode cX0_addRange 4 = .ok (.iload_n 2, 1) := by decide +kernel
theorem dX0_addRange_5 : decode cX0_addRange 5 = .ok (.iload_n 3, 1) := by decide +kernel
theorem dX0_addRange_6 : decode cX0_addRange 6 = .ok (.if_icmp .gt 11, 3) := by decide +kernel
theorem dX0_addRange_9 : decode cX0_addRange 9 = .ok (.iload_n 3, 1) := by decide +kernel
theorem dX0_addRange_10 : decode cX0_addRange 10 = .ok (.aload_n 1, 1) := by decide +kernel
theorem dX0_addRange_11 : decode cX0_addRange 11 = .ok (.getfield 21, 3) := by decide +kernel
theorem dX0_addRange_14 : decode cX0_addRange 14 = .ok (.if_icmp .le 4, 3) := by decide +kernel
theorem dX0_addRange_17 : decode cX0_addRange 17 = .ok (.return_, 1) := by decide +kernel
theorem dX0_addRange_18 : decode cX0_addRange 18 = .ok (.iload_n 3, 1) := by decide +kernel
theorem dX0_addRange_19 : decode cX0_addRange 19 = .ok (.iload_n 2, 1) := by decide +kernel
theorem dX0_addRange_20 : decode cX0_addRange 20 = .ok (.isub, 1) := by decide +kernel
theorem dX0_addRange_21 : decode cX0_addRange 21 = .ok (.istore 4, 2) := by decide +kernel
theorem dX0_addRange_23 : decode cX0_addRange 23 = .ok (.iload 4, 2) := by decide +kernel
theorem dX0_addRange_25 : decode cX0_addRange 25 = .ok (.sipush 300, 3) := by decide +kernel
theorem dX0_addRange_28 : decode cX0_addRange 28 = .ok (.aload_n 0, 1) := by decide +kernel
theorem dX0_addRange_29 : decode cX0_addRange 29 = .ok (.getfield 21, 3) := by decide +kernel
theorem dX0_addRange_32 : decode cX0_addRange 32 = .ok (.isub, 1) := by decide +kernel
theorem dX0_addRange_33 : decode cX0_addRange 33 = .ok (.if_icmp .le 9, 3) := by decide +kernel
theorem dX0_addRange_36 : decode cX0_addRange 36 = .ok (.aload_n 0, 1) := by decide +kernel
theorem dX0_addRange_37 : decode cX0_addRange 37 = .ok (.iconst 1, 1) := by decide +kernel
theorem dX0_addRange_38 : decode cX0_addRange 38 = .ok (.putfield 25, 3) := by decide +kernel
theorem dX0_addRange_41 : decode cX0_addRange 41 = .ok (.return_, 1) := by decide +kernel
theorem dX0_addRange_42 : decode cX0_addRange 42 = .ok (.aload_n 1, 1) := by decide +kernel
theorem dX0_addRange_43 : decode cX0_addRange 43 = .ok (.getfield 9, 3) := by decide +kernel
theorem dX0_addRange_46 : decode cX0_addRange 46 = .ok (.iload_n 2, 1) := by decide +kernel
theorem dX0_addRange_47 : decode cX0_addRange 47 = .ok (.aload_n 0, 1) := by decide +kernel
theorem dX0_addRange_48 : decode cX0_addRange 48 = .ok (.getfield 9, 3) := by decide +kernel
theorem dX0_addRange_51 : decode cX0_addRange 51 = .ok (.aload_n 0, 1) := by decide +kernel
theorem dX0_addRange_52 : decode cX0_addRange 52 = .ok (.getfield 21, 3) := by decide +kernel
theorem dX0_addRange_55 : decode cX0_addRange 55 = .ok (.iload 4, 2) := by decide +kernel
theorem dX0_addRange_57 : decode cX0_addRange 57 = .ok (.invokestatic 33, 3) := by decide +kernel
theorem dX0_addRange_60 : decode cX0_addRange 60 = .ok (.aload_n 1, 1) := by decide +kernel
theorem dX0_addRange_61 : decode cX0_addRange 61 = .ok (.getfield 15, 3) := by decide +kernel
theorem dX0_addRange_64 : decode cX0_addRange 64 = .ok (.iload_n 2, 1) := by decide +kernel
theorem dX0_addRange_65 : decode cX0_addRange 65 = .ok (.aload_n 0, 1) := by decide +kernel
theorem dX0_addRange_66 : decode cX0_addRange 66 = .ok (.getfield 15, 3) := by decide +kernel
theorem dX0_addRange_69 : decode cX0_addRange 69 = .ok (.aload_n 0, 1) := by decide +kernel
theorem dX0_addRange_70 : decode cX0_addRange 70 = .ok (.getfield 21, 3) := by decide +kernel
theorem dX0_addRange_73 : decode cX0_addRange 73 = .ok (.iload 4, 2) := by decide +kernel
theorem dX0_addRange_75 : decode cX0_addRange 75 = .ok (.invokestatic 33, 3) := by decide +kernel
theorem dX0_addRange_78 : decode cX0_addRange 78 = .ok (.aload_n 1, 1) := by decide +kernel
theorem dX0_addRange_79 : decode cX0_addRange 79 = .ok (.getfield 18, 3) := by decide +kernel
theorem dX0_addRange_82 : decode cX0_addRange 82 = .ok (.iload_n 2, 1) := by decide +kernel
theorem dX0_addRange_83 : decode cX0_addRange 83 = .ok (.aload_n 0, 1) := by decide +kernel
theorem dX0_addRange_84 : decode cX0_addRange 84 = .ok (.getfield 18, 3) := by decide +kernel
theorem dX0_addRange_87 : decode cX0_addRange 87 = .ok (.aload_n 0, 1) := by decide +kernel
theorem dX0_addRange_88 : decode cX0_addRange 88 = .ok (.getfield 21, 3) := by decide +kernel
theorem dX0_addRange_91 : decode cX0_addRange 91 = .ok (.iload 4, 2) := by decide +kernel
theorem dX0_addRange_93 : decode cX0_addRange 93 = .ok (.invokestatic 33, 3) := by decide +kernel
theorem dX0_addRange_96 : decode cX0_addRange 96 = .ok (.aload_n 0, 1) := by decide +kernel
theorem dX0_addRange_97 : decode cX0_addRange 97 = .ok (.dup, 1) := by decide +kernel
theorem dX0_addRange_98 : decode cX0_addRange 98 = .ok (.getfield 21, 3) := by decide +kernel
theorem dX0_addRange_101 : decode cX0_addRange 101 = .ok (.iload 4, 2) := by decide +kernel
theorem dX0_addRange_103 : decode cX0_addRange 103 = .ok (.iadd, 1) := by decide +kernel
theorem dX0_addRange_104 : decode cX0_addRange 104 = .ok (.putfield 21, 3) := by decide +kernel
theorem dX0_addRange_107 : decode cX0_addRange 107 = .ok (.return_, 1) := by decide +kernel
theorem dX0_behind_0 : decode cX0_behind 0 = .ok (.iload_n 2, 1) := by decide +kernel
theorem dX0_behind_1 : decode cX0_behind 1 = .ok (.istore_n 3, 1) := by decide +kernel
theorem dX0_behind_2 : decode cX0_behind 2 = .ok (.iload_n 1, 1) := by decide +kernel
theorem dX0_behind_3 : decode cX0_behind 3 = .ok (.istore 4, 2) := by decide +kernel
theorem dX0_behind_5 : decode cX0_behind 5 = .ok (.iload_n 3, 1) := by decide +kernel
theorem dX0_behind_6 : decode cX0_behind 6 = .ok (.ifCond .le 39, 3) := by decide +kernel
theorem dX0_behind_9 : decode cX0_behind 9 = .ok (.iload 4, 2) := by decide +kernel
theorem dX0_behind_11 : decode cX0_behind 11 = .ok (.aload_n 0, 1) := by decide +kernel
theorem dX0_behind_12 : decode cX0_behind 12 = .ok (.getfield 21, 3) := by decide +kernel
theorem dX0_behind_15 : decode cX0_behind 15 = .ok (.if_icmp .ge 30, 3) := by decide +kernel
theorem dX0_behind_18 : decode cX0_behind 18 = .ok (.iload_n 3, 1) := by decide +kernel
theorem dX0_behind_19 : decode cX0_behind 19 = .ok (.aload_n 0, 1) := by decide +kernel
theorem dX0_behind_20 : decode cX0_behind 20 = .ok (.iload 4, 2) := by decide +kernel
theorem dX0_behind_22 : decode cX0_behind 22 = .ok (.invokevirtual 39, 3) := by decide +kernel
theorem dX0_behind_25 : decode cX0_behind 25 = .ok (.invokestatic 43, 3) := by decide +kernel
theorem dX0_behind_28 : decode cX0_behind 28 = .ok (.aload_n 0, 1) := by decide +kernel
theorem dX0_behind_29 : decode cX0_behind 29 = .ok (.iload 4, 2) := by decide +kernel
theorem dX0_behind_31 : decode cX0_behind 31 = .ok (.invokevirtual 46, 3) := by decide +kernel
theorem dX0_behind_34 : decode cX0_behind 34 = .ok (.iadd, 1) := by decide +kernel
theorem dX0_behind_35 : decode cX0_behind 35 = .ok (.iconst 1, 1) := by decide +kernel
theorem dX0_behind_36 : decode cX0_behind 36 = .ok (.isub, 1) := by decide +kernel
theorem dX0_behind_37 : decode cX0_behind 37 = .ok (.iadd, 1) := by decide +kernel
theorem dX0_behind_38 : decode cX0_behind 38 = .ok (.istore_n 3, 1) := by decide +kernel
theorem dX0_behind_39 : decode cX0_behind 39 = .ok (.iinc 4 1, 3) := by decide +kernel
theorem dX0_behind_42 : decode cX0_behind 42 = .ok (.goto (-37), 3) := by decide +kernel
theorem dX0_behind_45 : decode cX0_behind 45 = .ok (.iload 4, 2) := by decide +kernel
theorem dX0_behind_47 : decode cX0_behind 47 = .ok (.ireturn, 1) := by decide +kernel
theorem dX1_init_0 : decode cX1_init 0 = .ok (.aload_n 0, 1) := by decide +kernel
theorem dX1_init_1 : decode cX1_init 1 = .ok (.invokespecial 3, 3) := by decide +kernel
theorem dX1_init_4 : decode cX1_init 4 = .ok (.aload_n 0, 1) := by decide +kernel
theorem dX1_init_5 : decode cX1_init 5 = .ok (.bipush 14, 2) := by decide +kernel
theorem dX1_init_7 : decode cX1_init 7 = .ok (.sipush 200, 3) := by decide +kernel
theorem dX1_init_10 : decode cX1_init 10 = .ok (.multianewarray 9 2, 4) := by decide +kernel
theorem dX1_init_14 : decode cX1_init 14 = .ok (.putfield 11, 3) := by decide +kernel
theorem dX1_init_17 : decode cX1_init 17 = .ok (.aload_n 0, 1) := by decide +kernel
theorem dX1_init_18 : decode cX1_init 18 = .ok (.bipush 14, 2) := by decide +kernel
theorem dX1_init_20 : decode cX1_init 20 = .ok (.newarray .int, 2) := by decide +kernel
theorem dX1_init_22 : decode cX1_init 22 = .ok (.putfield 16, 3) := by decide +kernel
theorem dX1_init_25 : decode cX1_init 25 = .ok (.aload_n 0, 1) := by decide +kernel
theorem dX1_init_26 : decode cX1_init 26 = .ok (.iconst 0, 1) := by decide +kernel
theorem dX1_init_27 : decode cX1_init 27 = .ok (.putfield 20, 3) := by decide +kernel
theorem dX1_init_30 : decode cX1_init 30 = .ok (.aload_n 0, 1) := by decide +kernel
theorem dX1_init_31 : decode cX1_init 31 = .ok (.iconst 0, 1) := by decide +kernel
theorem dX1_init_32 : decode cX1_init 32 = .ok (.putfield 24, 3) := by decide +kernel
theorem dX1_init_35 : decode cX1_init 35 = .ok (.return_, 1) := by decide +kernel
theorem dX1_count_0 : decode cX1_count 0 = .ok (.aload_n 0, 1) := by decide +kernel
theorem dX1_count_1 : decode cX1_count 1 = .ok (.getfield 20, 3) := by decide +kernel
theorem dX1_count_4 : decode cX1_count 4 = .ok (.ireturn, 1) := by decide +kernel
theorem dX1_forgetAll_0 : decode cX1_forgetAll 0 = .ok (.aload_n 0, 1) := by decide +kernel
theorem dX1_forgetAll_1 : decode cX1_forgetAll 1 = .ok (.iconst 0, 1) := by decide +kernel
theorem dX1_forgetAll_2 : decode cX1_forgetAll 2 = .ok (.putfield 20, 3) := by decide +kernel
theorem dX1_forgetAll_5 : decode cX1_forgetAll 5 = .ok (.return_, 1) := by decide +kernel
theorem dX1_remember_0 : decode cX1_remember 0 = .ok (.aload_n 0, 1) := by decide +kernel
theorem dX1_remember_1 : decode cX1_remember 1 = .ok (.getfield 24, 3) := by decide +kernel
theorem dX1_remember_4 : decode cX1_remember 4 = .ok (.ifCond .lt 12, 3) := by decide +kernel
theorem dX1_remember_7 : decode cX1_remember 7 = .ok (.aload_n 0, 1) := by decide +kernel
theorem dX1_remember_8 : decode cX1_remember 8 = .ok (.getfield 24, 3) := by decide +kernel
theorem dX1_remember_11 : decode cX1_remember 11 = .ok (.bipush 14, 2) := by decide +kernel
theorem dX1_remember_13 : decode cX1_remember 13 = .ok (.if_icmp .lt 8, 3) := by decide +kernel
theorem dX1_remember_16 : decode cX1_remember 16 = .ok (.aload_n 0, 1) := by decide +kernel
theorem dX1_remember_17 : decode cX1_remember 17 = .ok (.iconst 0, 1) := by decide +kernel
theorem dX1_remember_18 : decode cX1_remember 18 = .ok (.putfield 24, 3) := by decide +kernel
theorem dX1_remember_21 : decode cX1_remember 21 = .ok (.aload_n 1, 1) := by decide +kernel
theorem dX1_remember_22 : decode cX1_remember 22 = .ok (.invokevirtual 27, 3) := by decide +kernel
theorem dX1_remember_25 : decode cX1_remember 25 = .ok (.sipush 200, 3) := by decide +kernel
theorem dX1_remember_28 : decode cX1_remember 28 = .ok (.invokestatic 33, 3) := by decide +kernel
theorem dX1_remember_31 : decode cX1_remember 31 = .ok (.istore_n 2, 1) := by decide +kernel
theorem dX1_remember_32 : decode cX1_remember 32 = .ok (.iconst 0, 1) := by decide +kernel
theorem dX1_remember_33 : decode cX1_remember 33 = .ok (.istore_n 3, 1) := by decide +kernel
theorem dX1_remember_34 : decode cX1_remember 34 = .ok (.iload_n 3, 1) := by decide +kernel
theorem dX1_remember_35 : decode cX1_remember 35 = .ok (.iload_n 2, 1) := by decide +kernel
theorem dX1_remember_36 : decode cX1_remember 36 = .ok (.if_icmp .ge 25, 3) := by decide +kernel
theorem dX1_remember_39 : decode cX1_remember 39 = .ok (.aload_n 0, 1) := by decide +kernel
theorem dX1_remember_40 : decode cX1_remember 40 = .ok (.getfield 11, 3) := by decide +kernel
theorem dX1_remember_43 : decode cX1_remember 43 = .ok (.aload_n 0, 1) := by decide +kernel
theorem dX1_remember_44 : decode cX1_remember 44 = .ok (.getfield 24, 3) := by decide +kernel
theorem dX1_remember_47 : decode cX1_remember 47 = .ok (.aaload, 1) := by decide +kernel
theorem dX1_remember_48 : decode cX1_remember 48 = .ok (.iload_n 3, 1) := by decide +kernel
theorem dX1_remember_49 : decode cX1_remember 49 = .ok (.aload_n 1, 1) := by decide +kernel
theorem dX1_remember_50 : decode cX1_remember 50 = .ok (.iload_n 3, 1) := by decide +kernel
theorem dX1_remember_51 : decode cX1_remember 51 = .ok (.invokevirtual 39, 3) := by decide +kernel
theorem dX1_remember_54 : decode cX1_remember 54 = .ok (.iastore, 1) := by decide +kernel
theorem dX1_remember_55 : decode cX1_remember 55 = .ok (.iinc 3 1, 3) := by decide +kernel
theorem dX1_remember_58 : decode cX1_remember 58 = .ok (.goto (-24), 3) := by decide +kernel
theorem dX1_remember_61 : decode cX1_remember 61 = .ok (.aload_n 0, 1) := by decide +kernel
theorem dX1_remember_62 : decode cX1_remember 62 = .ok (.getfield 16, 3) := by decide +kernel
theorem dX1_remember_65 : decode cX1_remember 65 = .ok (.aload_n 0, 1) := by decide +kernel
theorem dX1_remember_66 : decode cX1_remember 66 = .ok (.getfield 24, 3) := by decide +kernel
theorem dX1_remember_69 : decode cX1_remember 69 = .ok (.iload_n 2, 1) := by decide +kernel
theorem dX1_remember_70 : decode cX1_remember 70 = .ok (.iastore, 1) := by decide +kernel
theorem dX1_remember_71 : decode cX1_remember 71 = .ok (.aload_n 0, 1) := by decide +kernel
theorem dX1_remember_72 : decode cX1_remember 72 = .ok (.aload_n 0, 1) := by decide +kernel
theorem dX1_remember_73 : decode cX1_remember 73 = .ok (.getfield 24, 3) := by decide +kernel
theorem dX1_remember_76 : decode cX1_remember 76 = .ok (.iconst 1, 1) := by decide +kernel
theorem dX1_remember_77 : decode cX1_remember 77 = .ok (.iadd, 1) := by decide +kernel
theorem dX1_remember_78 : decode cX1_remember 78 = .ok (.bipush 14, 2) := by decide +kernel
theorem dX1_remember_80 : decode cX1_remember 80 = .ok (.irem, 1) := by decide +kernel
theorem dX1_remember_81 : decode cX1_remember 81 = .ok (.putfield 24, 3) := by decide +kernel
theorem dX1_remember_84 : decode cX1_remember 84 = .ok (.aload_n 0, 1) := by decide +kernel
theorem dX1_remember_85 : decode cX1_remember 85 = .ok (.aload_n 0, 1) := by decide +kernel
theorem dX1_remember_86 : decode cX1_remember 86 = .ok (.getfield 20, 3) := by decide +kernel
theorem dX1_remember_89 : decode cX1_remember 89 = .ok (.iconst 1, 1) := by decide +kernel
theorem dX1_remember_90 : decode cX1_remember 90 = .ok (.iadd, 1) := by decide +kernel
theorem dX1_remember_91 : decode cX1_remember 91 = .ok (.bipush 14, 2) := by decide +kernel
theorem dX1_remember_93 : decode cX1_remember 93 = .ok (.invokestatic 33, 3) := by decide +kernel
theorem dX1_remember_96 : decode cX1_remember 96 = .ok (.putfield 20, 3) := by decide +kernel
theorem dX1_remember_99 : decode cX1_remember 99 = .ok (.return_, 1) := by decide +kernel
theorem dX1_takeBack_0 : decode cX1_takeBack 0 = .ok (.aload_n 0, 1) := by decide +kernel
theorem dX1_takeBack_1 : decode cX1_takeBack 1 = .ok (.getfield 20, 3) := by decide +kernel
theorem dX1_takeBack_4 : decode cX1_takeBack 4 = .ok (.ifCond .gt 5, 3) := by decide +kernel
theorem dX1_takeBack_7 : decode cX1_takeBack 7 = .ok (.iconst 0, 1) := by decide +kernel
theorem dX1_takeBack_8 : decode cX1_takeBack 8 = .ok (.ireturn, 1) := by decide +kernel
theorem dX1_takeBack_9 : decode cX1_takeBack 9 = .ok (.aload_n 0, 1) := by decide +kernel
theorem dX1_takeBack_10 : decode cX1_takeBack 10 = .ok (.aload_n 0, 1) := by decide +kernel
theorem dX1_takeBack_11 : decode cX1_takeBack 11 = .ok (.getfield 24, 3) := by decide +kernel
theorem dX1_takeBack_14 : decode cX1_takeBack 14 = .ok (.ifCond .le 21, 3) := by decide +kernel
theorem dX1_takeBack_17 : decode cX1_takeBack 17 = .ok (.aload_n 0, 1) := by decide +kernel
theorem dX1_takeBack_18 : decode cX1_takeBack 18 = .ok (.getfield 24, 3) := by decide +kernel
theorem dX1_takeBack_21 : decode cX1_takeBack 21 = .ok (.bipush 14, 2) := by decide +kernel
theorem dX1_takeBack_23 : decode cX1_takeBack 23 = .ok (.if_icmp .ge 12, 3) := by decide +kernel
theorem dX1_takeBack_26 : decode cX1_takeBack 26 = .ok (.aload_n 0, 1) := by decide +kernel
theorem dX1_takeBack_27 : decode cX1_takeBack 27 = .ok (.getfield 24, 3) := by decide +kernel
theorem dX1_takeBack_30 : decode cX1_takeBack 30 = .ok (.iconst 1, 1) := by decide +kernel
theorem dX1_takeBack_31 : decode cX1_takeBack 31 = .ok (.isub, 1) := by decide +kernel
theorem dX1_takeBack_32 : decode cX1_takeBack 32 = .ok (.goto 5, 3) := by decide +kernel
theorem dX1_takeBack_35 : decode cX1_takeBack 35 = .ok (.bipush 13, 2) := by decide +kernel
theorem dX1_takeBack_37 : decode cX1_takeBack 37 = .ok (.putfield 24, 3) := by decide +kernel
theorem dX1_takeBack_40 : decode cX1_takeBack 40 = .ok (.aload_n 0, 1) := by decide +kernel
theorem dX1_takeBack_41 : decode cX1_takeBack 41 = .ok (.dup, 1) := by decide +kernel
theorem dX1_takeBack_42 : decode cX1_takeBack 42 = .ok (.getfield 20, 3) := by decide +kernel
theorem dX1_takeBack_45 : decode cX1_takeBack 45 = .ok (.iconst 1, 1) := by decide +kernel
theorem dX1_takeBack_46 : decode cX1_takeBack 46 = .ok (.isub, 1) := by decide +kernel
theorem dX1_takeBack_47 : decode cX1_takeBack 47 = .ok (.putfield 20, 3) := by decide +kernel
theorem dX1_takeBack_50 : decode cX1_takeBack 50 = .ok (.aload_n 1, 1) := by decide +kernel
theorem dX1_takeBack_51 : decode cX1_takeBack 51 = .ok (.invokevirtual 43, 3) := by decide +kernel
theorem dX1_takeBack_54 : decode cX1_takeBack 54 = .ok (.aload_n 0, 1) := by decide +kernel
theorem dX1_takeBack_55 : decode cX1_takeBack 55 = .ok (.getfield 16, 3) := by decide +kernel
theorem dX1_takeBack_58 : decode cX1_takeBack 58 = .ok (.aload_n 0, 1) := by decide +kernel
theorem dX1_takeBack_59 : decode cX1_takeBack 59 = .ok (.getfield 24, 3) := by decide +kernel
theorem dX1_takeBack_62 : decode cX1_takeBack 62 = .ok (.iaload, 1) := by decide +kernel
theorem dX1_takeBack_63 : decode cX1_takeBack 63 = .ok (.sipush 200, 3) := by decide +kernel
theorem dX1_takeBack_66 : decode cX1_takeBack 66 = .ok (.invokestatic 33, 3) := by decide +kernel
theorem dX1_takeBack_69 : decode cX1_takeBack 69 = .ok (.istore_n 2, 1) := by decide +kernel
theorem dX1_takeBack_70 : decode cX1_takeBack 70 = .ok (.iconst 0, 1) := by decide +kernel
theorem dX1_takeBack_71 : decode cX1_takeBack 71 = .ok (.istore_n 3, 1) := by decide +kernel
theorem dX1_takeBack_72 : decode cX1_takeBack 72 = .ok (.iload_n 3, 1) := by decide +kernel
theorem dX1_takeBack_73 : decode cX1_takeBack 73 = .ok (.iload_n 2, 1) := by decide +kernel
theorem dX1_takeBack_74 : decode cX1_takeBack 74 = .ok (.if_icmp .ge 24, 3) := by decide +kernel
theorem dX1_takeBack_77 : decode cX1_takeBack 77 = .ok (.aload_n 1, 1) := by decide +kernel
theorem dX1_takeBack_78 : decode cX1_takeBack 78 = .ok (.aload_n 0, 1) := by decide +kernel
theorem dX1_takeBack_79 : decode cX1_takeBack 79 = .ok (.getfield 11, 3) := by decide +kernel
theorem dX1_takeBack_82 : decode cX1_takeBack 82 = .ok (.aload_n 0, 1) := by decide +kernel
theorem dX1_takeBack_83 : decode cX1_takeBack 83 = .ok (.getfield 24, 3) := by decide +kernel
theorem dX1_takeBack_86 : decode cX1_takeBack 86 = .ok (.aaload, 1) := by decide +kernel
theorem dX1_takeBack_87 : decode cX1_takeBack 87 = .ok (.iload_n 3, 1) := by decide +kernel
theorem dX1_takeBack_88 : decode cX1_takeBack 88 = .ok (.iaload, 1) := by decide +kernel
theorem dX1_takeBack_89 : decode cX1_takeBack 89 = .ok (.invokevirtual 46, 3) := by decide +kernel
theorem dX1_takeBack_92 : decode cX1_takeBack 92 = .ok (.iinc 3 1, 3) := by decide +kernel
theorem dX1_takeBack_95 : decode cX1_takeBack 95 = .ok (.goto (-23), 3) := by decide +kernel
theorem dX1_takeBack_98 : decode cX1_takeBack 98 = .ok (.iconst 1, 1) := by decide +kernel
theorem dX1_takeBack_99 : decode cX1_takeBack 99 = .ok (.ireturn, 1) := by decide +kernel
theorem dX2_init_0 : decode cX2_init 0 = .ok (.aload_n 0, 1) := by decide +kernel
theorem dX2_init_1 : decode cX2_init 1 = .ok (.invokespecial 3, 3) := by decide +kernel
theorem dX2_init_4 : decode cX2_init 4 = .ok (.aload_n 0, 1) := by decide +kernel
theorem dX2_init_5 : decode cX2_init 5 = .ok (.new 9, 3) := by decide +kernel
theorem dX2_init_8 : decode cX2_init 8 = .ok (.dup, 1) := by decide +kernel
theorem dX2_init_9 : decode cX2_init 9 = .ok (.invokespecial 11, 3) := by decide +kernel
theorem dX2_init_12 : decode cX2_init 12 = .ok (.putfield 12, 3) := by decide +kernel
theorem dX2_init_15 : decode cX2_init 15 = .ok (.aload_n 0, 1) := by decide +kernel
theorem dX2_init_16 : decode cX2_init 16 = .ok (.new 9, 3) := by decide +kernel
theorem dX2_init_19 : decode cX2_init 19 = .ok (.dup, 1) := by decide +kernel
theorem dX2_init_20 : decode cX2_init 20 = .ok (.invokespecial 11, 3) := by decide +kernel
theorem dX2_init_23 : decode cX2_init 23 = .ok (.putfield 18, 3) := by decide +kernel
theorem dX2_init_26 : decode cX2_init 26 = .ok (.aload_n 0, 1) := by decide +kernel
theorem dX2_init_27 : decode cX2_init 27 = .ok (.iconst 5, 1) := by decide +kernel
theorem dX2_init_28 : decode cX2_init 28 = .ok (.newarray .int, 2) := by decide +kernel
theorem dX2_init_30 : decode cX2_init 30 = .ok (.putfield 21, 3) := by decide +kernel
theorem dX2_init_33 : decode cX2_init 33 = .ok (.aload_n 0, 1) := by decide +kernel
theorem dX2_init_34 : decode cX2_init 34 = .ok (.iconst 0, 1) := by decide +kernel
theorem dX2_init_35 : decode cX2_init 35 = .ok (.putfield 25, 3) := by decide +kernel
theorem dX2_init_38 : decode cX2_init 38 = .ok (.return_, 1) := by decide +kernel
theorem dX2_peak_0 : decode cX2_peak 0 = .ok (.aload_n 0, 1) := by decide +kernel
theorem dX2_peak_1 : decode cX2_peak 1 = .ok (.getfield 25, 3) := by decide +kernel
theorem dX2_peak_4 : decode cX2_peak 4 = .ok (.ireturn, 1) := by decide +kernel
theorem dX2_applications_0 : decode cX2_applications 0 = .ok (.iload_n 1, 1) := by decide +kernel
theorem dX2_applications_1 : decode cX2_applications 1 = .ok (.ifCond .lt 17, 3) := by decide +kernel
theorem dX2_applications_4 : decode cX2_applications 4 = .ok (.iload_n 1, 1) := by decide +kernel
theorem dX2_applications_5 : decode cX2_applications 5 = .ok (.iconst 5, 1) := by decide +kernel
theorem dX2_applications_6 : decode cX2_applications 6 = .ok (.if_icmp .ge 12, 3) := by decide +kernel
theorem dX2_applications_9 : decode cX2_applications 9 = .ok (.aload_n 0, 1) := by decide +kernel
theorem dX2_applications_10 : decode cX2_applications 10 = .ok (.getfield 21, 3) := by decide +kernel
theorem dX2_applications_13 : decode cX2_applications 13 = .ok (.iload_n 1, 1) := by decide +kernel
theorem dX2_applications_14 : decode cX2_applications 14 = .ok (.iaload, 1) := by decide +kernel
theorem dX2_applications_15 : decode cX2_applications 15 = .ok (.goto 4, 3) := by decide +kernel
theorem dX2_applications_18 : decode cX2_applications 18 = .ok (.iconst 0, 1) := by decide +kernel
theorem dX2_applications_19 : decode cX2_applications 19 = .ok (.ireturn, 1) := by decide +kernel
theorem dX2_work_0 : decode cX2_work 0 = .ok (.aload_n 0, 1) := by decide +kernel
theorem dX2_work_1 : decode cX2_work 1 = .ok (.aload_n 1, 1) := by decide +kernel
theorem dX2_work_2 : decode cX2_work 2 = .ok (.invokevirtual 29, 3) := by decide +kernel
theorem dX2_work_5 : decode cX2_work 5 = .ok (.iconst 0, 1) := by decide +kernel
theorem dX2_work_6 : decode cX2_work 6 = .ok (.istore_n 3, 1) := by decide +kernel
theorem dX2_work_7 : decode cX2_work 7 = .ok (.iload_n 3, 1) := by decide +kernel
theorem dX2_work_8 : decode cX2_work 8 = .ok (.sipush 600, 3) := by decide +kernel
theorem dX2_work_11 : decode cX2_work 11 = .ok (.if_icmp .ge 68, 3) := by decide +kernel
theorem dX2_work_14 : decode cX2_work 14 = .ok (.aload_n 0, 1) := by decide +kernel
theorem dX2_work_15 : decode cX2_work 15 = .ok (.iload_n 2, 1) := by decide +kernel
theorem dX2_work_16 : decode cX2_work 16 = .ok (.invokevirtual 33, 3) := by decide +kernel
theorem dX2_work_19 : decode cX2_work 19 = .ok (.istore 4, 2) := by decide +kernel
theorem dX2_work_21 : decode cX2_work 21 = .ok (.iload 4, 2) := by decide +kernel
theorem dX2_work_23 : decode cX2_work 23 = .ok (.bipush (-9), 2) := by decide +kernel
theorem dX2_work_25 : decode cX2_work 25 = .ok (.if_icmp .ne 5, 3) := by decide +kernel
theorem dX2_work_28 : decode cX2_work 28 = .ok (.iconst 1, 1) := by decide +kernel
theorem dX2_work_29 : decode cX2_work 29 = .ok (.ireturn, 1) := by decide +kernel
theorem dX2_work_30 : decode cX2_work 30 = .ok (.aload_n 0, 1) := by decide +kernel
theorem dX2_work_31 : decode cX2_work 31 = .ok (.iload 4, 2) := by decide +kernel
theorem dX2_work_33 : decode cX2_work 33 = .ok (.aload_n 0, 1) := by decide +kernel
theorem dX2_work_34 : decode cX2_work 34 = .ok (.iload 4, 2) := by decide +kernel
theorem dX2_work_36 : decode cX2_work 36 = .ok (.iload_n 2, 1) := by decide +kernel
theorem dX2_work_37 : decode cX2_work 37 = .ok (.invokevirtual 37, 3) := by decide +kernel
theorem dX2_work_40 : decode cX2_work 40 = .ok (.invokevirtual 41, 3) := by decide +kernel
theorem dX2_work_43 : decode cX2_work 43 = .ok (.aload_n 0, 1) := by decide +kernel
theorem dX2_work_44 : decode cX2_work 44 = .ok (.getfield 12, 3) := by decide +kernel
theorem dX2_work_47 : decode cX2_work 47 = .ok (.invokevirtual 45, 3) := by decide +kernel
theorem dX2_work_50 : decode cX2_work 50 = .ok (.ifCond .eq 5, 3) := by decide +kernel
theorem dX2_work_53 : decode cX2_work 53 = .ok (.iconst 0, 1) := by decide +kernel
theorem dX2_work_54 : decode cX2_work 54 = .ok (.ireturn, 1) := by decide +kernel
theorem dX2_work_55 : decode cX2_work 55 = .ok (.aload_n 0, 1) := by decide +kernel
theorem dX2_work_56 : decode cX2_work 56 = .ok (.aload_n 0, 1) := by decide +kernel
theorem dX2_work_57 : decode cX2_work 57 = .ok (.getfield 25, 3) := by decide +kernel
theorem dX2_work_60 : decode cX2_work 60 = .ok (.aload_n 0, 1) := by decide +kernel
theorem dX2_work_61 : decode cX2_work 61 = .ok (.getfield 12, 3) := by decide +kernel
theorem dX2_work_64 : decode cX2_work 64 = .ok (.invokevirtual 49, 3) := by decide +kernel
theorem dX2_work_67 : decode cX2_work 67 = .ok (.invokestatic 53, 3) := by decide +kernel
theorem dX2_work_70 : decode cX2_work 70 = .ok (.putfield 25, 3) := by decide +kernel
theorem dX2_work_73 : decode cX2_work 73 = .ok (.iinc 3 1, 3) := by decide +kernel
theorem dX2_work_76 : decode cX2_work 76 = .ok (.goto (-69), 3) := by decide +kernel
theorem dX2_work_79 : decode cX2_work 79 = .ok (.aload_n 0, 1) := by decide +kernel
theorem dX2_work_80 : decode cX2_work 80 = .ok (.iload_n 2, 1) := by decide +kernel
theorem dX2_work_81 : decode cX2_work 81 = .ok (.invokevirtual 33, 3) := by decide +kernel
theorem dX2_work_84 : decode cX2_work 84 = .ok (.bipush (-9), 2) := by decide +kernel
theorem dX2_work_86 : decode cX2_work 86 = .ok (.if_icmp .ne 7, 3) := by decide +kernel
theorem dX2_work_89 : decode cX2_work 89 = .ok (.iconst 1, 1) := by decide +kernel
theorem dX2_work_90 : decode cX2_work 90 = .ok (.goto 4, 3) := by decide +kernel
theorem dX2_work_93 : decode cX2_work 93 = .ok (.iconst 0, 1) := by decide +kernel
theorem dX2_work_94 : decode cX2_work 94 = .ok (.ireturn, 1) := by decide +kernel
theorem dX2_start_0 : decode cX2_start 0 = .ok (.aload_n 0, 1) := by decide +kernel
theorem dX2_start_1 : decode cX2_start 1 = .ok (.getfield 12, 3) := by decide +kernel
theorem dX2_start_4 : decode cX2_start 4 = .ok (.invokevirtual 59, 3) := by decide +kernel
theorem dX2_start_7 : decode cX2_start 7 = .ok (.iconst 0, 1) := by decide +kernel
theorem dX2_start_8 : decode cX2_start 8 = .ok (.istore_n 2, 1) := by decide +kernel
theorem dX2_start_9 : decode cX2_start 9 = .ok (.iload_n 2, 1) := by decide +kernel
theorem dX2_start_10 : decode cX2_start 10 = .ok (.aload_n 1, 1) := by decide +kernel
theorem dX2_start_11 : decode cX2_start 11 = .ok (.invokevirtual 62, 3) := by decide +kernel
theorem dX2_start_14 : decode cX2_start 14 = .ok (.if_icmp .ge 21, 3) := by decide +kernel
theorem dX2_start_17 : decode cX2_start 17 = .ok (.aload_n 0, 1) := by decide +kernel
theorem dX2_start_18 : decode cX2_start 18 = .ok (.getfield 12, 3) := by decide +kernel
theorem dX2_start_21 : decode cX2_start 21 = .ok (.aload_n 1, 1) := by decide +kernel
theorem dX2_start_22 : decode cX2_start 22 = .ok (.iload_n 2, 1) := by decide +kernel
theorem dX2_start_23 : decode cX2_start 23 = .ok (.invokevirtual 65, 3) := by decide +kernel
theorem dX2_start_26 : decode cX2_start 26 = .ok (.invokevirtual 69, 3) := by decide +kernel
theorem dX2_start_29 : decode cX2_start 29 = .ok (.iinc 2 1, 3) := by decide +kernel
theorem dX2_start_32 : decode cX2_start 32 = .ok (.goto (-23), 3) := by decide +kernel
theorem dX2_start_35 : decode cX2_start 35 = .ok (.aload_n 0, 1) := by decide +kernel
theorem dX2_start_36 : decode cX2_start 36 = .ok (.aload_n 0, 1) := by decide +kernel
theorem dX2_start_37 : decode cX2_start 37 = .ok (.getfield 12, 3) := by decide +kernel
theorem dX2_start_40 : decode cX2_start 40 = .ok (.invokevirtual 49, 3) := by decide +kernel
theorem dX2_start_43 : decode cX2_start 43 = .ok (.putfield 25, 3) := by decide +kernel
theorem dX2_start_46 : decode cX2_start 46 = .ok (.iconst 0, 1) := by decide +kernel
theorem dX2_start_47 : decode cX2_start 47 = .ok (.istore_n 2, 1) := by decide +kernel
theorem dX2_start_48 : decode cX2_start 48 = .ok (.iload_n 2, 1) := by decide +kernel
theorem dX2_start_49 : decode cX2_start 49 = .ok (.iconst 5, 1) := by decide +kernel
theorem dX2_start_50 : decode cX2_start 50 = .ok (.if_icmp .ge 16, 3) := by decide +kernel
theorem dX2_start_53 : decode cX2_start 53 = .ok (.aload_n 0, 1) := by decide +kernel
theorem dX2_start_54 : decode cX2_start 54 = .ok (.getfield 21, 3) := by decide +kernel
theorem dX2_start_57 : decode cX2_start 57 = .ok (.iload_n 2, 1) := by decide +kernel
theorem dX2_start_58 : decode cX2_start 58 = .ok (.iconst 0, 1) := by decide +kernel
theorem dX2_start_59 : decode cX2_start 59 = .ok (.iastore, 1) := by decide +kernel
theorem dX2_start_60 : decode cX2_start 60 = .ok (.iinc 2 1, 3) := by decide +kernel
theorem dX2_start_63 : decode cX2_start 63 = .ok (.goto (-15), 3) := by decide +kernel
theorem dX2_start_66 : decode cX2_start 66 = .ok (.return_, 1) := by decide +kernel
theorem dX2_firstPlace_0 : decode cX2_firstPlace 0 = .ok (.iconst 0, 1) := by decide +kernel
theorem dX2_firstPlace_1 : decode cX2_firstPlace 1 = .ok (.istore_n 2, 1) := by decide +kernel
theorem dX2_firstPlace_2 : decode cX2_firstPlace 2 = .ok (.iload_n 2, 1) := by decide +kernel
theorem dX2_firstPlace_3 : decode cX2_firstPlace 3 = .ok (.aload_n 0, 1) := by decide +kernel
theorem dX2_firstPlace_4 : decode cX2_firstPlace 4 = .ok (.getfield 12, 3) := by decide +kernel
theorem dX2_firstPlace_7 : decode cX2_firstPlace 7 = .ok (.invokevirtual 49, 3) := by decide +kernel
theorem dX2_firstPlace_10 : decode cX2_firstPlace 10 = .ok (.if_icmp .ge 22, 3) := by decide +kernel
theorem dX2_firstPlace_13 : decode cX2_firstPlace 13 = .ok (.aload_n 0, 1) := by decide +kernel
theorem dX2_firstPlace_14 : decode cX2_firstPlace 14 = .ok (.iload_n 2, 1) := by decide +kernel
theorem dX2_firstPlace_15 : decode cX2_firstPlace 15 = .ok (.iload_n 1, 1) := by decide +kernel
theorem dX2_firstPlace_16 : decode cX2_firstPlace 16 = .ok (.invokevirtual 37, 3) := by decide +kernel
theorem dX2_firstPlace_19 : decode cX2_firstPlace 19 = .ok (.bipush (-9), 2) := by decide +kernel
theorem dX2_firstPlace_21 : decode cX2_firstPlace 21 = .ok (.if_icmp .eq 5, 3) := by decide +kernel
theorem dX2_firstPlace_24 : decode cX2_firstPlace 24 = .ok (.iload_n 2, 1) := by decide +kernel
theorem dX2_firstPlace_25 : decode cX2_firstPlace 25 = .ok (.ireturn, 1) := by decide +kernel
theorem dX2_firstPlace_26 : decode cX2_firstPlace 26 = .ok (.iinc 2 1, 3) := by decide +kernel
theorem dX2_firstPlace_29 : decode cX2_firstPlace 29 = .ok (.goto (-27), 3) := by decide +kernel
theorem dX2_firstPlace_32 : decode cX2_firstPlace 32 = .ok (.bipush (-9), 2) := by decide +kernel
theorem dX2_firstPlace_34 : decode cX2_firstPlace 34 = .ok (.ireturn, 1) := by decide +kernel
theorem dX2_ruleAt_0 : decode cX2_ruleAt 0 = .ok (.aload_n 0, 1) := by decide +kernel
theorem dX2_ruleAt_1 : decode cX2_ruleAt 1 = .ok (.getfield 12, 3) := by decide +kernel
theorem dX2_ruleAt_4 : decode cX2_ruleAt 4 = .ok (.iload_n 1, 1) := by decide +kernel
theorem dX2_ruleAt_5 : decode cX2_ruleAt 5 = .ok (.invokevirtual 73, 3) := by decide +kernel
theorem dX2_ruleAt_8 : decode cX2_ruleAt 8 = .ok (.istore_n 3, 1) := by decide +kernel
theorem dX2_ruleAt_9 : decode cX2_ruleAt 9 = .ok (.aload_n 0, 1) := by decide +kernel
theorem dX2_ruleAt_10 : decode cX2_ruleAt 10 = .ok (.getfield 12, 3) := by decide +kernel
theorem dX2_ruleAt_13 : decode cX2_ruleAt 13 = .ok (.iload_n 1, 1) := by decide +kernel
theorem dX2_ruleAt_14 : decode cX2_ruleAt 14 = .ok (.iconst 1, 1) := by decide +kernel
theorem dX2_ruleAt_15 : decode cX2_ruleAt 15 = .ok (.iadd, 1) := by decide +kernel
theorem dX2_ruleAt_16 : decode cX2_ruleAt 16 = .ok (.invokevirtual 73, 3) := by decide +kernel
theorem dX2_ruleAt_19 : decode cX2_ruleAt 19 = .ok (.istore 4, 2) := by decide +kernel
theorem dX2_ruleAt_21 : decode cX2_ruleAt 21 = .ok (.iload_n 3, 1) := by decide +kernel
theorem dX2_ruleAt_22 : decode cX2_ruleAt 22 = .ok (.sipush 1000, 3) := by decide +kernel
theorem dX2_ruleAt_25 : decode cX2_ruleAt 25 = .ok (.if_icmp .ne 18, 3) := by decide +kernel
theorem dX2_ruleAt_28 : decode cX2_ruleAt 28 = .ok (.iload 4, 2) := by decide +kernel
theorem dX2_ruleAt_30 : decode cX2_ruleAt 30 = .ok (.sipush 1001, 3) := by decide +kernel
theorem dX2_ruleAt_33 : decode cX2_ruleAt 33 = .ok (.if_icmp .ne 7, 3) := by decide +kernel
theorem dX2_ruleAt_36 : decode cX2_ruleAt 36 = .ok (.iconst 0, 1) := by decide +kernel
theorem dX2_ruleAt_37 : decode cX2_ruleAt 37 = .ok (.goto 5, 3) := by decide +kernel
theorem dX2_ruleAt_40 : decode cX2_ruleAt 40 = .ok (.bipush (-9), 2) := by decide +kernel
theorem dX2_ruleAt_42 : decode cX2_ruleAt 42 = .ok (.ireturn, 1) := by decide +kernel
theorem dX2_ruleAt_43 : decode cX2_ruleAt 43 = .ok (.iload_n 3, 1) := by decide +kernel
theorem dX2_ruleAt_44 : decode cX2_ruleAt 44 = .ok (.sipush 1002, 3) := by decide +kernel
theorem dX2_ruleAt_47 : decode cX2_ruleAt 47 = .ok (.if_icmp .eq 6, 3) := by decide +kernel
theorem dX2_ruleAt_50 : decode cX2_ruleAt 50 = .ok (.bipush (-9), 2) := by decide +kernel
theorem dX2_ruleAt_52 : decode cX2_ruleAt 52 = .ok (.ireturn, 1) := by decide +kernel
theorem dX2_ruleAt_53 : decode cX2_ruleAt 53 = .ok (.iload 4, 2) := by decide +kernel
theorem dX2_ruleAt_55 : decode cX2_ruleAt 55 = .ok (.tableswitch 40 1000 1002 #[25, 27, 29], 25) := by decide +kernel
theorem dX2_ruleAt_80 : decode cX2_ruleAt 80 = .ok (.iconst 1, 1) := by decide +kernel
theorem dX2_ruleAt_81 : decode cX2_ruleAt 81 = .ok (.ireturn, 1) := by decide +kernel
theorem dX2_ruleAt_82 : decode cX2_ruleAt 82 = .ok (.iconst 2, 1) := by decide +kernel
theorem dX2_ruleAt_83 : decode cX2_ruleAt 83 = .ok (.ireturn, 1) := by decide +kernel
theorem dX2_ruleAt_84 : decode cX2_ruleAt 84 = .ok (.iload_n 2, 1) := by decide +kernel
theorem dX2_ruleAt_85 : decode cX2_ruleAt 85 = .ok (.ifCond .eq 7, 3) := by decide +kernel
theorem dX2_ruleAt_88 : decode cX2_ruleAt 88 = .ok (.iconst 4, 1) := by decide +kernel
theorem dX2_ruleAt_89 : decode cX2_ruleAt 89 = .ok (.goto 5, 3) := by decide +kernel
theorem dX2_ruleAt_92 : decode cX2_ruleAt 92 = .ok (.bipush (-9), 2) := by decide +kernel
theorem dX2_ruleAt_94 : decode cX2_ruleAt 94 = .ok (.ireturn, 1) := by decide +kernel
theorem dX2_ruleAt_95 : decode cX2_ruleAt 95 = .ok (.iconst 3, 1) := by decide +kernel
theorem dX2_ruleAt_96 : decode cX2_ruleAt 96 = .ok (.ireturn, 1) := by decide +kernel
theorem dX2_rewrite_0 : decode cX2_rewrite 0 = .ok (.aload_n 0, 1) := by decide +kernel
theorem dX2_rewrite_1 : decode cX2_rewrite 1 = .ok (.getfield 18, 3) := by decide +kernel
theorem dX2_rewrite_4 : decode cX2_rewrite 4 = .ok (.invokevirtual 59, 3) := by decide +kernel
theorem dX2_rewrite_7 : decode cX2_rewrite 7 = .ok (.aload_n 0, 1) := by decide +kernel
theorem dX2_rewrite_8 : decode cX2_rewrite 8 = .ok (.getfield 18, 3) := by decide +kernel
theorem dX2_rewrite_11 : decode cX2_rewrite 11 = .ok (.aload_n 0, 1) := by decide +kernel
theorem dX2_rewrite_12 : decode cX2_rewrite 12 = .ok (.getfield 12, 3) := by decide +kernel
theorem dX2_rewrite_15 : decode cX2_rewrite 15 = .ok (.iconst 0, 1) := by decide +kernel
theorem dX2_rewrite_16 : decode cX2_rewrite 16 = .ok (.iload_n 1, 1) := by decide +kernel
theorem dX2_rewrite_17 : decode cX2_rewrite 17 = .ok (.invokevirtual 74, 3) := by decide +kernel
theorem dX2_rewrite_20 : decode cX2_rewrite 20 = .ok (.iload_n 2, 1) := by decide +kernel
theorem dX2_rewrite_21 : decode cX2_rewrite 21 = .ok (.tableswitch 75 0 4 #[35, 43, 51, 59, 67], 35) := by decide +kernel
theorem dX2_rewrite_56 : decode cX2_rewrite 56 = .ok (.aload_n 0, 1) := by decide +kernel
theorem dX2_rewrite_57 : decode cX2_rewrite 57 = .ok (.iload_n 1, 1) := by decide +kernel
theorem dX2_rewrite_58 : decode cX2_rewrite 58 = .ok (.invokevirtual 78, 3) := by decide +kernel
theorem dX2_rewrite_61 : decode cX2_rewrite 61 = .ok (.goto 35, 3) := by decide +kernel
theorem dX2_rewrite_64 : decode cX2_rewrite 64 = .ok (.aload_n 0, 1) := by decide +kernel
theorem dX2_rewrite_65 : decode cX2_rewrite 65 = .ok (.iload_n 1, 1) := by decide +kernel
theorem dX2_rewrite_66 : decode cX2_rewrite 66 = .ok (.invokevirtual 81, 3) := by decide +kernel
theorem dX2_rewrite_69 : decode cX2_rewrite 69 = .ok (.goto 27, 3) := by decide +kernel
theorem dX2_rewrite_72 : decode cX2_rewrite 72 = .ok (.aload_n 0, 1) := by decide +kernel
theorem dX2_rewrite_73 : decode cX2_rewrite 73 = .ok (.iload_n 1, 1) := by decide +kernel
theorem dX2_rewrite_74 : decode cX2_rewrite 74 = .ok (.invokevirtual 84, 3) := by decide +kernel
theorem dX2_rewrite_77 : decode cX2_rewrite 77 = .ok (.goto 19, 3) := by decide +kernel
theorem dX2_rewrite_80 : decode cX2_rewrite 80 = .ok (.aload_n 0, 1) := by decide +kernel
theorem dX2_rewrite_81 : decode cX2_rewrite 81 = .ok (.iload_n 1, 1) := by decide +kernel
theorem dX2_rewrite_82 : decode cX2_rewrite 82 = .ok (.invokevirtual 87, 3) := by decide +kernel
theorem dX2_rewrite_85 : decode cX2_rewrite 85 = .ok (.goto 11, 3) := by decide +kernel
theorem dX2_rewrite_88 : decode cX2_rewrite 88 = .ok (.aload_n 0, 1) := by decide +kernel
theorem dX2_rewrite_89 : decode cX2_rewrite 89 = .ok (.iload_n 1, 1) := by decide +kernel
theorem dX2_rewrite_90 : decode cX2_rewrite 90 = .ok (.invokevirtual 90, 3) := by decide +kernel
theorem dX2_rewrite_93 : decode cX2_rewrite 93 = .ok (.goto 3, 3) := by decide +kernel
theorem dX2_rewrite_96 : decode cX2_rewrite 96 = .ok (.aload_n 0, 1) := by decide +kernel
theorem dX2_rewrite_97 : decode cX2_rewrite 97 = .ok (.getfield 18, 3) := by decide +kernel
theorem dX2_rewrite_100 : decode cX2_rewrite 100 = .ok (.aload_n 0, 1) := by decide +kernel
theorem dX2_rewrite_101 : decode cX2_rewrite 101 = .ok (.getfield 12, 3) := by decide +kernel
theorem dX2_rewrite_104 : decode cX2_rewrite 104 = .ok (.aload_n 0, 1) := by decide +kernel
theorem dX2_rewrite_105 : decode cX2_rewrite 105 = .ok (.getfield 12, 3) := by decide +kernel
theorem dX2_rewrite_108 : decode cX2_rewrite 108 = .ok (.iload_n 1, 1) := by decide +kernel
theorem dX2_rewrite_109 : decode cX2_rewrite 109 = .ok (.iconst 1, 1) := by decide +kernel
theorem dX2_rewrite_110 : decode cX2_rewrite 110 = .ok (.invokevirtual 93, 3) := by decide +kernel
theorem dX2_rewrite_113 : decode cX2_rewrite 113 = .ok (.aload_n 0, 1) := by decide +kernel
theorem dX2_rewrite_114 : decode cX2_rewrite 114 = .ok (.getfield 12, 3) := by decide +kernel
theorem dX2_rewrite_117 : decode cX2_rewrite 117 = .ok (.invokevirtual 49, 3) := by decide +kernel
theorem dX2_rewrite_120 : decode cX2_rewrite 120 = .ok (.invokevirtual 74, 3) := by decide +kernel
theorem dX2_rewrite_123 : decode cX2_rewrite 123 = .ok (.aload_n 0, 1) := by decide +kernel
theorem dX2_rewrite_124 : decode cX2_rewrite 124 = .ok (.getfield 12, 3) := by decide +kernel
theorem dX2_rewrite_127 : decode cX2_rewrite 127 = .ok (.astore_n 3, 1) := by decide +kernel
theorem dX2_rewrite_128 : decode cX2_rewrite 128 = .ok (.aload_n 0, 1) := by decide +kernel
theorem dX2_rewrite_129 : decode cX2_rewrite 129 = .ok (.aload_n 0, 1) := by decide +kernel
theorem dX2_rewrite_130 : decode cX2_rewrite 130 = .ok (.getfield 18, 3) := by decide +kernel
theorem dX2_rewrite_133 : decode cX2_rewrite 133 = .ok (.putfield 12, 3) := by decide +kernel
theorem dX2_rewrite_136 : decode cX2_rewrite 136 = .ok (.aload_n 0, 1) := by decide +kernel
theorem dX2_rewrite_137 : decode cX2_rewrite 137 = .ok (.aload_n 3, 1) := by decide +kernel
theorem dX2_rewrite_138 : decode cX2_rewrite 138 = .ok (.putfield 18, 3) := by decide +kernel
theorem dX2_rewrite_141 : decode cX2_rewrite 141 = .ok (.iload_n 2, 1) := by decide +kernel
theorem dX2_rewrite_142 : decode cX2_rewrite 142 = .ok (.ifCond .lt 18, 3) := by decide +kernel
theorem dX2_rewrite_145 : decode cX2_rewrite 145 = .ok (.iload_n 2, 1) := by decide +kernel
theorem dX2_rewrite_146 : decode cX2_rewrite 146 = .ok (.iconst 5, 1) := by decide +kernel
theorem dX2_rewrite_147 : decode cX2_rewrite 147 = .ok (.if_icmp .ge 13, 3) := by decide +kernel
theorem dX2_rewrite_150 : decode cX2_rewrite 150 = .ok (.aload_n 0, 1) := by decide +kernel
theorem dX2_rewrite_151 : decode cX2_rewrite 151 = .ok (.getfield 21, 3) := by decide +kernel
theorem dX2_rewrite_154 : decode cX2_rewrite 154 = .ok (.iload_n 2, 1) := by decide +kernel
theorem dX2_rewrite_155 : decode cX2_rewrite 155 = .ok (.dup2, 1) := by decide +kernel
theorem dX2_rewrite_156 : decode cX2_rewrite 156 = .ok (.iaload, 1) := by decide +kernel
theorem dX2_rewrite_157 : decode cX2_rewrite 157 = .ok (.iconst 1, 1) := by decide +kernel
theorem dX2_rewrite_158 : decode cX2_rewrite 158 = .ok (.iadd, 1) := by decide +kernel
theorem dX2_rewrite_159 : decode cX2_rewrite 159 = .ok (.iastore, 1) := by decide +kernel
theorem dX2_rewrite_160 : decode cX2_rewrite 160 = .ok (.return_, 1) := by decide +kernel
theorem dX2_writeBeta_0 : decode cX2_writeBeta 0 = .ok (.aload_n 0, 1) := by decide +kernel
theorem dX2_writeBeta_1 : decode cX2_writeBeta 1 = .ok (.getfield 18, 3) := by decide +kernel
theorem dX2_writeBeta_4 : decode cX2_writeBeta 4 = .ok (.iconst 1, 1) := by decide +kernel
theorem dX2_writeBeta_5 : decode cX2_writeBeta 5 = .ok (.iconst 0, 1) := by decide +kernel
theorem dX2_writeBeta_6 : decode cX2_writeBeta 6 = .ok (.invokevirtual 96, 3) := by decide +kernel
theorem dX2_writeBeta_9 : decode cX2_writeBeta 9 = .ok (.aload_n 0, 1) := by decide +kernel
theorem dX2_writeBeta_10 : decode cX2_writeBeta 10 = .ok (.getfield 18, 3) := by decide +kernel
theorem dX2_writeBeta_13 : decode cX2_writeBeta 13 = .ok (.aload_n 0, 1) := by decide +kernel
theorem dX2_writeBeta_14 : decode cX2_writeBeta 14 = .ok (.getfield 12, 3) := by decide +kernel
theorem dX2_writeBeta_17 : decode cX2_writeBeta 17 = .ok (.iload_n 1, 1) := by decide +kernel
theorem dX2_writeBeta_18 : decode cX2_writeBeta 18 = .ok (.iconst 2, 1) := by decide +kernel
theorem dX2_writeBeta_19 : decode cX2_writeBeta 19 = .ok (.iadd, 1) := by decide +kernel
theorem dX2_writeBeta_20 : decode cX2_writeBeta 20 = .ok (.aload_n 0, 1) := by decide +kernel
theorem dX2_writeBeta_21 : decode cX2_writeBeta 21 = .ok (.getfield 12, 3) := by decide +kernel
theorem dX2_writeBeta_24 : decode cX2_writeBeta 24 = .ok (.iload_n 1, 1) := by decide +kernel
theorem dX2_writeBeta_25 : decode cX2_writeBeta 25 = .ok (.iconst 1, 1) := by decide +kernel
theorem dX2_writeBeta_26 : decode cX2_writeBeta 26 = .ok (.invokevirtual 93, 3) := by decide +kernel
theorem dX2_writeBeta_29 : decode cX2_writeBeta 29 = .ok (.invokevirtual 74, 3) := by decide +kernel
theorem dX2_writeBeta_32 : decode cX2_writeBeta 32 = .ok (.return_, 1) := by decide +kernel
theorem dX2_writeApply_0 : decode cX2_writeApply 0 = .ok (.aload_n 0, 1) := by decide +kernel
theorem dX2_writeApply_1 : decode cX2_writeApply 1 = .ok (.getfield 12, 3) := by decide +kernel
theorem dX2_writeApply_4 : decode cX2_writeApply 4 = .ok (.iload_n 1, 1) := by decide +kernel
theorem dX2_writeApply_5 : decode cX2_writeApply 5 = .ok (.invokevirtual 99, 3) := by decide +kernel
theorem dX2_writeApply_8 : decode cX2_writeApply 8 = .ok (.istore_n 2, 1) := by decide +kernel
theorem dX2_writeApply_9 : decode cX2_writeApply 9 = .ok (.aload_n 0, 1) := by decide +kernel
theorem dX2_writeApply_10 : decode cX2_writeApply 10 = .ok (.getfield 12, 3) := by decide +kernel
theorem dX2_writeApply_13 : decode cX2_writeApply 13 = .ok (.iload_n 1, 1) := by decide +kernel
theorem dX2_writeApply_14 : decode cX2_writeApply 14 = .ok (.invokevirtual 102, 3) := by decide +kernel
theorem dX2_writeApply_17 : decode cX2_writeApply 17 = .ok (.istore_n 3, 1) := by decide +kernel
theorem dX2_writeApply_18 : decode cX2_writeApply 18 = .ok (.aload_n 0, 1) := by decide +kernel
theorem dX2_writeApply_19 : decode cX2_writeApply 19 = .ok (.getfield 12, 3) := by decide +kernel
theorem dX2_writeApply_22 : decode cX2_writeApply 22 = .ok (.iload_n 1, 1) := by decide +kernel
theorem dX2_writeApply_23 : decode cX2_writeApply 23 = .ok (.iconst 2, 1) := by decide +kernel
theorem dX2_writeApply_24 : decode cX2_writeApply 24 = .ok (.iadd, 1) := by decide +kernel
theorem dX2_writeApply_25 : decode cX2_writeApply 25 = .ok (.iconst 1, 1) := by decide +kernel
theorem dX2_writeApply_26 : decode cX2_writeApply 26 = .ok (.invokevirtual 93, 3) := by decide +kernel
theorem dX2_writeApply_29 : decode cX2_writeApply 29 = .ok (.istore 4, 2) := by decide +kernel
theorem dX2_writeApply_31 : decode cX2_writeApply 31 = .ok (.aload_n 0, 1) := by decide +kernel
theorem dX2_writeApply_32 : decode cX2_writeApply 32 = .ok (.getfield 12, 3) := by decide +kernel
theorem dX2_writeApply_35 : decode cX2_writeApply 35 = .ok (.iload 4, 2) := by decide +kernel
theorem dX2_writeApply_37 : decode cX2_writeApply 37 = .ok (.iconst 1, 1) := by decide +kernel
theorem dX2_writeApply_38 : decode cX2_writeApply 38 = .ok (.invokevirtual 93, 3) := by decide +kernel
theorem dX2_writeApply_41 : decode cX2_writeApply 41 = .ok (.istore 5, 2) := by decide +kernel
theorem dX2_writeApply_43 : decode cX2_writeApply 43 = .ok (.aload_n 0, 1) := by decide +kernel
theorem dX2_writeApply_44 : decode cX2_writeApply 44 = .ok (.getfield 12, 3) := by decide +kernel
theorem dX2_writeApply_47 : decode cX2_writeApply 47 = .ok (.iload 5, 2) := by decide +kernel
theorem dX2_writeApply_49 : decode cX2_writeApply 49 = .ok (.iload_n 2, 1) := by decide +kernel
theorem dX2_writeApply_50 : decode cX2_writeApply 50 = .ok (.invokevirtual 93, 3) := by decide +kernel
theorem dX2_writeApply_53 : decode cX2_writeApply 53 = .ok (.istore 6, 2) := by decide +kernel
theorem dX2_writeApply_55 : decode cX2_writeApply 55 = .ok (.aload_n 0, 1) := by decide +kernel
theorem dX2_writeApply_56 : decode cX2_writeApply 56 = .ok (.getfield 18, 3) := by decide +kernel
theorem dX2_writeApply_59 : decode cX2_writeApply 59 = .ok (.sipush 1000, 3) := by decide +kernel
theorem dX2_writeApply_62 : decode cX2_writeApply 62 = .ok (.invokevirtual 69, 3) := by decide +kernel
theorem dX2_writeApply_65 : decode cX2_writeApply 65 = .ok (.aload_n 0, 1) := by decide +kernel
theorem dX2_writeApply_66 : decode cX2_writeApply 66 = .ok (.getfield 18, 3) := by decide +kernel
theorem dX2_writeApply_69 : decode cX2_writeApply 69 = .ok (.iload_n 2, 1) := by decide +kernel
theorem dX2_writeApply_70 : decode cX2_writeApply 70 = .ok (.iload_n 3, 1) := by decide +kernel
theorem dX2_writeApply_71 : decode cX2_writeApply 71 = .ok (.invokevirtual 96, 3) := by decide +kernel
theorem dX2_writeApply_74 : decode cX2_writeApply 74 = .ok (.aload_n 0, 1) := by decide +kernel
theorem dX2_writeApply_75 : decode cX2_writeApply 75 = .ok (.getfield 18, 3) := by decide +kernel
theorem dX2_writeApply_78 : decode cX2_writeApply 78 = .ok (.aload_n 0, 1) := by decide +kernel
theorem dX2_writeApply_79 : decode cX2_writeApply 79 = .ok (.getfield 12, 3) := by decide +kernel
theorem dX2_writeApply_82 : decode cX2_writeApply 82 = .ok (.iload_n 1, 1) := by decide +kernel
theorem dX2_writeApply_83 : decode cX2_writeApply 83 = .ok (.iconst 2, 1) := by decide +kernel
theorem dX2_writeApply_84 : decode cX2_writeApply 84 = .ok (.iadd, 1) := by decide +kernel
theorem dX2_writeApply_85 : decode cX2_writeApply 85 = .ok (.iload 4, 2) := by decide +kernel
theorem dX2_writeApply_87 : decode cX2_writeApply 87 = .ok (.invokevirtual 74, 3) := by decide +kernel
theorem dX2_writeApply_90 : decode cX2_writeApply 90 = .ok (.aload_n 0, 1) := by decide +kernel
theorem dX2_writeApply_91 : decode cX2_writeApply 91 = .ok (.getfield 18, 3) := by decide +kernel
theorem dX2_writeApply_94 : decode cX2_writeApply 94 = .ok (.aload_n 0, 1) := by decide +kernel
theorem dX2_writeApply_95 : decode cX2_writeApply 95 = .ok (.getfield 12, 3) := by decide +kernel
theorem dX2_writeApply_98 : decode cX2_writeApply 98 = .ok (.iload 5, 2) := by decide +kernel
theorem dX2_writeApply_100 : decode cX2_writeApply 100 = .ok (.iload 6, 2) := by decide +kernel
theorem dX2_writeApply_102 : decode cX2_writeApply 102 = .ok (.invokevirtual 74, 3) := by decide +kernel
theorem dX2_writeApply_105 : decode cX2_writeApply 105 = .ok (.aload_n 0, 1) := by decide +kernel
theorem dX2_writeApply_106 : decode cX2_writeApply 106 = .ok (.getfield 18, 3) := by decide +kernel
theorem dX2_writeApply_109 : decode cX2_writeApply 109 = .ok (.iload_n 2, 1) := by decide +kernel
theorem dX2_writeApply_110 : decode cX2_writeApply 110 = .ok (.iload_n 3, 1) := by decide +kernel
theorem dX2_writeApply_111 : decode cX2_writeApply 111 = .ok (.invokevirtual 96, 3) := by decide +kernel
theorem dX2_writeApply_114 : decode cX2_writeApply 114 = .ok (.aload_n 0, 1) := by decide +kernel
theorem dX2_writeApply_115 : decode cX2_writeApply 115 = .ok (.getfield 18, 3) := by decide +kernel
theorem dX2_writeApply_118 : decode cX2_writeApply 118 = .ok (.aload_n 0, 1) := by decide +kernel
theorem dX2_writeApply_119 : decode cX2_writeApply 119 = .ok (.getfield 12, 3) := by decide +kernel
theorem dX2_writeApply_122 : decode cX2_writeApply 122 = .ok (.iload 4, 2) := by decide +kernel
theorem dX2_writeApply_124 : decode cX2_writeApply 124 = .ok (.iload 6, 2) := by decide +kernel
theorem dX2_writeApply_126 : decode cX2_writeApply 126 = .ok (.invokevirtual 74, 3) := by decide +kernel
theorem dX2_writeApply_129 : decode cX2_writeApply 129 = .ok (.return_, 1) := by decide +kernel
theorem dX2_writeAbstract_0 : decode cX2_writeAbstract 0 = .ok (.aload_n 0, 1) := by decide +kernel
theorem dX2_writeAbstract_1 : decode cX2_writeAbstract 1 = .ok (.getfield 12, 3) := by decide +kernel
theorem dX2_writeAbstract_4 : decode cX2_writeAbstract 4 = .ok (.iload_n 1, 1) := by decide +kernel
theorem dX2_writeAbstract_5 : decode cX2_writeAbstract 5 = .ok (.invokevirtual 99, 3) := by decide +kernel
theorem dX2_writeAbstract_8 : decode cX2_writeAbstract 8 = .ok (.istore_n 2, 1) := by decide +kernel
theorem dX2_writeAbstract_9 : decode cX2_writeAbstract 9 = .ok (.aload_n 0, 1) := by decide +kernel
theorem dX2_writeAbstract_10 : decode cX2_writeAbstract 10 = .ok (.getfield 12, 3) := by decide +kernel
theorem dX2_writeAbstract_13 : decode cX2_writeAbstract 13 = .ok (.iload_n 1, 1) := by decide +kernel
theorem dX2_writeAbstract_14 : decode cX2_writeAbstract 14 = .ok (.iconst 2, 1) := by decide +kernel
theorem dX2_writeAbstract_15 : decode cX2_writeAbstract 15 = .ok (.iadd, 1) := by decide +kernel
theorem dX2_writeAbstract_16 : decode cX2_writeAbstract 16 = .ok (.iconst 1, 1) := by decide +kernel
theorem dX2_writeAbstract_17 : decode cX2_writeAbstract 17 = .ok (.invokevirtual 93, 3) := by decide +kernel
theorem dX2_writeAbstract_20 : decode cX2_writeAbstract 20 = .ok (.istore_n 3, 1) := by decide +kernel
theorem dX2_writeAbstract_21 : decode cX2_writeAbstract 21 = .ok (.aload_n 0, 1) := by decide +kernel
theorem dX2_writeAbstract_22 : decode cX2_writeAbstract 22 = .ok (.getfield 18, 3) := by decide +kernel
theorem dX2_writeAbstract_25 : decode cX2_writeAbstract 25 = .ok (.sipush 1001, 3) := by decide +kernel
theorem dX2_writeAbstract_28 : decode cX2_writeAbstract 28 = .ok (.invokevirtual 69, 3) := by decide +kernel
theorem dX2_writeAbstract_31 : decode cX2_writeAbstract 31 = .ok (.aload_n 0, 1) := by decide +kernel
theorem dX2_writeAbstract_32 : decode cX2_writeAbstract 32 = .ok (.getfield 18, 3) := by decide +kernel
theorem dX2_writeAbstract_35 : decode cX2_writeAbstract 35 = .ok (.iload_n 2, 1) := by decide +kernel
theorem dX2_writeAbstract_36 : decode cX2_writeAbstract 36 = .ok (.iconst 1, 1) := by decide +kernel
theorem dX2_writeAbstract_37 : decode cX2_writeAbstract 37 = .ok (.iadd, 1) := by decide +kernel
theorem dX2_writeAbstract_38 : decode cX2_writeAbstract 38 = .ok (.aload_n 0, 1) := by decide +kernel
theorem dX2_writeAbstract_39 : decode cX2_writeAbstract 39 = .ok (.getfield 12, 3) := by decide +kernel
theorem dX2_writeAbstract_42 : decode cX2_writeAbstract 42 = .ok (.iload_n 1, 1) := by decide +kernel
theorem dX2_writeAbstract_43 : decode cX2_writeAbstract 43 = .ok (.invokevirtual 102, 3) := by decide +kernel
theorem dX2_writeAbstract_46 : decode cX2_writeAbstract 46 = .ok (.iconst 1, 1) := by decide +kernel
theorem dX2_writeAbstract_47 : decode cX2_writeAbstract 47 = .ok (.iadd, 1) := by decide +kernel
theorem dX2_writeAbstract_48 : decode cX2_writeAbstract 48 = .ok (.invokevirtual 96, 3) := by decide +kernel
theorem dX2_writeAbstract_51 : decode cX2_writeAbstract 51 = .ok (.aload_n 0, 1) := by decide +kernel
theorem dX2_writeAbstract_52 : decode cX2_writeAbstract 52 = .ok (.getfield 18, 3) := by decide +kernel
theorem dX2_writeAbstract_55 : decode cX2_writeAbstract 55 = .ok (.aload_n 0, 1) := by decide +kernel
theorem dX2_writeAbstract_56 : decode cX2_writeAbstract 56 = .ok (.getfield 12, 3) := by decide +kernel
theorem dX2_writeAbstract_59 : decode cX2_writeAbstract 59 = .ok (.iload_n 1, 1) := by decide +kernel
theorem dX2_writeAbstract_60 : decode cX2_writeAbstract 60 = .ok (.iconst 2, 1) := by decide +kernel
theorem dX2_writeAbstract_61 : decode cX2_writeAbstract 61 = .ok (.iadd, 1) := by decide +kernel
theorem dX2_writeAbstract_62 : decode cX2_writeAbstract 62 = .ok (.iload_n 3, 1) := by decide +kernel
theorem dX2_writeAbstract_63 : decode cX2_writeAbstract 63 = .ok (.invokevirtual 74, 3) := by decide +kernel
theorem dX2_writeAbstract_66 : decode cX2_writeAbstract 66 = .ok (.aload_n 0, 1) := by decide +kernel
theorem dX2_writeAbstract_67 : decode cX2_writeAbstract 67 = .ok (.getfield 18, 3) := by decide +kernel
theorem dX2_writeAbstract_70 : decode cX2_writeAbstract 70 = .ok (.iconst 0, 1) := by decide +kernel
theorem dX2_writeAbstract_71 : decode cX2_writeAbstract 71 = .ok (.invokevirtual 69, 3) := by decide +kernel
theorem dX2_writeAbstract_74 : decode cX2_writeAbstract 74 = .ok (.iconst 0, 1) := by decide +kernel
theorem dX2_writeAbstract_75 : decode cX2_writeAbstract 75 = .ok (.istore 4, 2) := by decide +kernel
theorem dX2_writeAbstract_77 : decode cX2_writeAbstract 77 = .ok (.iload 4, 2) := by decide +kernel
theorem dX2_writeAbstract_79 : decode cX2_writeAbstract 79 = .ok (.iload_n 2, 1) := by decide +kernel
theorem dX2_writeAbstract_80 : decode cX2_writeAbstract 80 = .ok (.if_icmp .ge 56, 3) := by decide +kernel
theorem dX2_writeAbstract_83 : decode cX2_writeAbstract 83 = .ok (.aload_n 0, 1) := by decide +kernel
theorem dX2_writeAbstract_84 : decode cX2_writeAbstract 84 = .ok (.getfield 18, 3) := by decide +kernel
theorem dX2_writeAbstract_87 : decode cX2_writeAbstract 87 = .ok (.invokevirtual 45, 3) := by decide +kernel
theorem dX2_writeAbstract_90 : decode cX2_writeAbstract 90 = .ok (.ifCond .ne 46, 3) := by decide +kernel
theorem dX2_writeAbstract_93 : decode cX2_writeAbstract 93 = .ok (.aload_n 0, 1) := by decide +kernel
theorem dX2_writeAbstract_94 : decode cX2_writeAbstract 94 = .ok (.getfield 12, 3) := by decide +kernel
theorem dX2_writeAbstract_97 : decode cX2_writeAbstract 97 = .ok (.iload_n 3, 1) := by decide +kernel
theorem dX2_writeAbstract_98 : decode cX2_writeAbstract 98 = .ok (.iconst 1, 1) := by decide +kernel
theorem dX2_writeAbstract_99 : decode cX2_writeAbstract 99 = .ok (.invokevirtual 93, 3) := by decide +kernel
theorem dX2_writeAbstract_102 : decode cX2_writeAbstract 102 = .ok (.istore 5, 2) := by decide +kernel
theorem dX2_writeAbstract_104 : decode cX2_writeAbstract 104 = .ok (.aload_n 0, 1) := by decide +kernel
theorem dX2_writeAbstract_105 : decode cX2_writeAbstract 105 = .ok (.getfield 18, 3) := by decide +kernel
theorem dX2_writeAbstract_108 : decode cX2_writeAbstract 108 = .ok (.iconst 0, 1) := by decide +kernel
theorem dX2_writeAbstract_109 : decode cX2_writeAbstract 109 = .ok (.iconst 1, 1) := by decide +kernel
theorem dX2_writeAbstract_110 : decode cX2_writeAbstract 110 = .ok (.invokevirtual 96, 3) := by decide +kernel
theorem dX2_writeAbstract_113 : decode cX2_writeAbstract 113 = .ok (.aload_n 0, 1) := by decide +kernel
theorem dX2_writeAbstract_114 : decode cX2_writeAbstract 114 = .ok (.getfield 18, 3) := by decide +kernel
theorem dX2_writeAbstract_117 : decode cX2_writeAbstract 117 = .ok (.aload_n 0, 1) := by decide +kernel
theorem dX2_writeAbstract_118 : decode cX2_writeAbstract 118 = .ok (.getfield 12, 3) := by decide +kernel
theorem dX2_writeAbstract_121 : decode cX2_writeAbstract 121 = .ok (.iload_n 3, 1) := by decide +kernel
theorem dX2_writeAbstract_122 : decode cX2_writeAbstract 122 = .ok (.iload 5, 2) := by decide +kernel
theorem dX2_writeAbstract_124 : decode cX2_writeAbstract 124 = .ok (.invokevirtual 74, 3) := by decide +kernel
theorem dX2_writeAbstract_127 : decode cX2_writeAbstract 127 = .ok (.iload 5, 2) := by decide +kernel
theorem dX2_writeAbstract_129 : decode cX2_writeAbstract 129 = .ok (.istore_n 3, 1) := by decide +kernel
theorem dX2_writeAbstract_130 : decode cX2_writeAbstract 130 = .ok (.iinc 4 1, 3) := by decide +kernel
theorem dX2_writeAbstract_133 : decode cX2_writeAbstract 133 = .ok (.goto (-56), 3) := by decide +kernel
theorem dX2_writeAbstract_136 : decode cX2_writeAbstract 136 = .ok (.return_, 1) := by decide +kernel
theorem dX2_writeLookup_0 : decode cX2_writeLookup 0 = .ok (.aload_n 0, 1) := by decide +kernel
theorem dX2_writeLookup_1 : decode cX2_writeLookup 1 = .ok (.getfield 12, 3) := by decide +kernel
theorem dX2_writeLookup_4 : decode cX2_writeLookup 4 = .ok (.iload_n 1, 1) := by decide +kernel
theorem dX2_writeLookup_5 : decode cX2_writeLookup 5 = .ok (.invokevirtual 99, 3) := by decide +kernel
theorem dX2_writeLookup_8 : decode cX2_writeLookup 8 = .ok (.istore_n 2, 1) := by decide +kernel
theorem dX2_writeLookup_9 : decode cX2_writeLookup 9 = .ok (.aload_n 0, 1) := by decide +kernel
theorem dX2_writeLookup_10 : decode cX2_writeLookup 10 = .ok (.getfield 12, 3) := by decide +kernel
theorem dX2_writeLookup_13 : decode cX2_writeLookup 13 = .ok (.iload_n 1, 1) := by decide +kernel
theorem dX2_writeLookup_14 : decode cX2_writeLookup 14 = .ok (.iconst 1, 1) := by decide +kernel
theorem dX2_writeLookup_15 : decode cX2_writeLookup 15 = .ok (.iadd, 1) := by decide +kernel
theorem dX2_writeLookup_16 : decode cX2_writeLookup 16 = .ok (.invokevirtual 73, 3) := by decide +kernel
theorem dX2_writeLookup_19 : decode cX2_writeLookup 19 = .ok (.istore_n 3, 1) := by decide +kernel
theorem dX2_writeLookup_20 : decode cX2_writeLookup 20 = .ok (.iload_n 3, 1) := by decide +kernel
theorem dX2_writeLookup_21 : decode cX2_writeLookup 21 = .ok (.iload_n 2, 1) := by decide +kernel
theorem dX2_writeLookup_22 : decode cX2_writeLookup 22 = .ok (.if_icmp .ge 42, 3) := by decide +kernel
theorem dX2_writeLookup_25 : decode cX2_writeLookup 25 = .ok (.aload_n 0, 1) := by decide +kernel
theorem dX2_writeLookup_26 : decode cX2_writeLookup 26 = .ok (.getfield 12, 3) := by decide +kernel
theorem dX2_writeLookup_29 : decode cX2_writeLookup 29 = .ok (.iload_n 1, 1) := by decide +kernel
theorem dX2_writeLookup_30 : decode cX2_writeLookup 30 = .ok (.iconst 2, 1) := by decide +kernel
theorem dX2_writeLookup_31 : decode cX2_writeLookup 31 = .ok (.iadd, 1) := by decide +kernel
theorem dX2_writeLookup_32 : decode cX2_writeLookup 32 = .ok (.iload_n 3, 1) := by decide +kernel
theorem dX2_writeLookup_33 : decode cX2_writeLookup 33 = .ok (.invokevirtual 93, 3) := by decide +kernel
theorem dX2_writeLookup_36 : decode cX2_writeLookup 36 = .ok (.istore 4, 2) := by decide +kernel
theorem dX2_writeLookup_38 : decode cX2_writeLookup 38 = .ok (.aload_n 0, 1) := by decide +kernel
theorem dX2_writeLookup_39 : decode cX2_writeLookup 39 = .ok (.getfield 18, 3) := by decide +kernel
theorem dX2_writeLookup_42 : decode cX2_writeLookup 42 = .ok (.aload_n 0, 1) := by decide +kernel
theorem dX2_writeLookup_43 : decode cX2_writeLookup 43 = .ok (.getfield 12, 3) := by decide +kernel
theorem dX2_writeLookup_46 : decode cX2_writeLookup 46 = .ok (.iload 4, 2) := by decide +kernel
theorem dX2_writeLookup_48 : decode cX2_writeLookup 48 = .ok (.aload_n 0, 1) := by decide +kernel
theorem dX2_writeLookup_49 : decode cX2_writeLookup 49 = .ok (.getfield 12, 3) := by decide +kernel
theorem dX2_writeLookup_52 : decode cX2_writeLookup 52 = .ok (.iload 4, 2) := by decide +kernel
theorem dX2_writeLookup_54 : decode cX2_writeLookup 54 = .ok (.iconst 1, 1) := by decide +kernel
theorem dX2_writeLookup_55 : decode cX2_writeLookup 55 = .ok (.invokevirtual 93, 3) := by decide +kernel
theorem dX2_writeLookup_58 : decode cX2_writeLookup 58 = .ok (.invokevirtual 74, 3) := by decide +kernel
theorem dX2_writeLookup_61 : decode cX2_writeLookup 61 = .ok (.goto 22, 3) := by decide +kernel
theorem dX2_writeLookup_64 : decode cX2_writeLookup 64 = .ok (.aload_n 0, 1) := by decide +kernel
theorem dX2_writeLookup_65 : decode cX2_writeLookup 65 = .ok (.getfield 18, 3) := by decide +kernel
theorem dX2_writeLookup_68 : decode cX2_writeLookup 68 = .ok (.iload_n 3, 1) := by decide +kernel
theorem dX2_writeLookup_69 : decode cX2_writeLookup 69 = .ok (.iload_n 2, 1) := by decide +kernel
theorem dX2_writeLookup_70 : decode cX2_writeLookup 70 = .ok (.isub, 1) := by decide +kernel
theorem dX2_writeLookup_71 : decode cX2_writeLookup 71 = .ok (.aload_n 0, 1) := by decide +kernel
theorem dX2_writeLookup_72 : decode cX2_writeLookup 72 = .ok (.getfield 12, 3) := by decide +kernel
theorem dX2_writeLookup_75 : decode cX2_writeLookup 75 = .ok (.iload_n 1, 1) := by decide +kernel
theorem dX2_writeLookup_76 : decode cX2_writeLookup 76 = .ok (.invokevirtual 102, 3) := by decide +kernel
theorem dX2_writeLookup_79 : decode cX2_writeLookup 79 = .ok (.iadd, 1) := by decide +kernel
theorem dX2_writeLookup_80 : decode cX2_writeLookup 80 = .ok (.invokevirtual 69, 3) := by decide +kernel
theorem dX2_writeLookup_83 : decode cX2_writeLookup 83 = .ok (.return_, 1) := by decide +kernel
theorem dX2_writeMerge_0 : decode cX2_writeMerge 0 = .ok (.aload_n 0, 1) := by decide +kernel
theorem dX2_writeMerge_1 : decode cX2_writeMerge 1 = .ok (.getfield 12, 3) := by decide +kernel
theorem dX2_writeMerge_4 : decode cX2_writeMerge 4 = .ok (.iload_n 1, 1) := by decide +kernel
theorem dX2_writeMerge_5 : decode cX2_writeMerge 5 = .ok (.invokevirtual 99, 3) := by decide +kernel
theorem dX2_writeMerge_8 : decode cX2_writeMerge 8 = .ok (.istore_n 2, 1) := by decide +kernel
theorem dX2_writeMerge_9 : decode cX2_writeMerge 9 = .ok (.aload_n 0, 1) := by decide +kernel
theorem dX2_writeMerge_10 : decode cX2_writeMerge 10 = .ok (.getfield 12, 3) := by decide +kernel
theorem dX2_writeMerge_13 : decode cX2_writeMerge 13 = .ok (.iload_n 1, 1) := by decide +kernel
theorem dX2_writeMerge_14 : decode cX2_writeMerge 14 = .ok (.invokevirtual 102, 3) := by decide +kernel
theorem dX2_writeMerge_17 : decode cX2_writeMerge 17 = .ok (.istore_n 3, 1) := by decide +kernel
theorem dX2_writeMerge_18 : decode cX2_writeMerge 18 = .ok (.aload_n 0, 1) := by decide +kernel
theorem dX2_writeMerge_19 : decode cX2_writeMerge 19 = .ok (.getfield 12, 3) := by decide +kernel
theorem dX2_writeMerge_22 : decode cX2_writeMerge 22 = .ok (.iload_n 1, 1) := by decide +kernel
theorem dX2_writeMerge_23 : decode cX2_writeMerge 23 = .ok (.iconst 1, 1) := by decide +kernel
theorem dX2_writeMerge_24 : decode cX2_writeMerge 24 = .ok (.iadd, 1) := by decide +kernel
theorem dX2_writeMerge_25 : decode cX2_writeMerge 25 = .ok (.invokevirtual 99, 3) := by decide +kernel
theorem dX2_writeMerge_28 : decode cX2_writeMerge 28 = .ok (.istore 4, 2) := by decide +kernel
theorem dX2_writeMerge_30 : decode cX2_writeMerge 30 = .ok (.aload_n 0, 1) := by decide +kernel
theorem dX2_writeMerge_31 : decode cX2_writeMerge 31 = .ok (.getfield 12, 3) := by decide +kernel
theorem dX2_writeMerge_34 : decode cX2_writeMerge 34 = .ok (.iload_n 1, 1) := by decide +kernel
theorem dX2_writeMerge_35 : decode cX2_writeMerge 35 = .ok (.iconst 1, 1) := by decide +kernel
theorem dX2_writeMerge_36 : decode cX2_writeMerge 36 = .ok (.iadd, 1) := by decide +kernel
theorem dX2_writeMerge_37 : decode cX2_writeMerge 37 = .ok (.invokevirtual 102, 3) := by decide +kernel
theorem dX2_writeMerge_40 : decode cX2_writeMerge 40 = .ok (.istore 5, 2) := by decide +kernel
theorem dX2_writeMerge_42 : decode cX2_writeMerge 42 = .ok (.aload_n 0, 1) := by decide +kernel
theorem dX2_writeMerge_43 : decode cX2_writeMerge 43 = .ok (.getfield 12, 3) := by decide +kernel
theorem dX2_writeMerge_46 : decode cX2_writeMerge 46 = .ok (.iload_n 1, 1) := by decide +kernel
theorem dX2_writeMerge_47 : decode cX2_writeMerge 47 = .ok (.iconst 2, 1) := by decide +kernel
theorem dX2_writeMerge_48 : decode cX2_writeMerge 48 = .ok (.iadd, 1) := by decide +kernel
theorem dX2_writeMerge_49 : decode cX2_writeMerge 49 = .ok (.iconst 1, 1) := by decide +kernel
theorem dX2_writeMerge_50 : decode cX2_writeMerge 50 = .ok (.invokevirtual 93, 3) := by decide +kernel
theorem dX2_writeMerge_53 : decode cX2_writeMerge 53 = .ok (.istore 6, 2) := by decide +kernel
theorem dX2_writeMerge_55 : decode cX2_writeMerge 55 = .ok (.aload_n 0, 1) := by decide +kernel
theorem dX2_writeMerge_56 : decode cX2_writeMerge 56 = .ok (.getfield 12, 3) := by decide +kernel
theorem dX2_writeMerge_59 : decode cX2_writeMerge 59 = .ok (.iload 6, 2) := by decide +kernel
theorem dX2_writeMerge_61 : decode cX2_writeMerge 61 = .ok (.iload 4, 2) := by decide +kernel
theorem dX2_writeMerge_63 : decode cX2_writeMerge 63 = .ok (.invokevirtual 93, 3) := by decide +kernel
theorem dX2_writeMerge_66 : decode cX2_writeMerge 66 = .ok (.istore 7, 2) := by decide +kernel
theorem dX2_writeMerge_68 : decode cX2_writeMerge 68 = .ok (.aload_n 0, 1) := by decide +kernel
theorem dX2_writeMerge_69 : decode cX2_writeMerge 69 = .ok (.getfield 12, 3) := by decide +kernel
theorem dX2_writeMerge_72 : decode cX2_writeMerge 72 = .ok (.iload 7, 2) := by decide +kernel
theorem dX2_writeMerge_74 : decode cX2_writeMerge 74 = .ok (.iload_n 2, 1) := by decide +kernel
theorem dX2_writeMerge_75 : decode cX2_writeMerge 75 = .ok (.invokevirtual 93, 3) := by decide +kernel
theorem dX2_writeMerge_78 : decode cX2_writeMerge 78 = .ok (.istore 8, 2) := by decide +kernel
theorem dX2_writeMerge_80 : decode cX2_writeMerge 80 = .ok (.iload 5, 2) := by decide +kernel
theorem dX2_writeMerge_82 : decode cX2_writeMerge 82 = .ok (.iload_n 2, 1) := by decide +kernel
theorem dX2_writeMerge_83 : decode cX2_writeMerge 83 = .ok (.invokestatic 105, 3) := by decide +kernel
theorem dX2_writeMerge_86 : decode cX2_writeMerge 86 = .ok (.istore 9, 2) := by decide +kernel
theorem dX2_writeMerge_88 : decode cX2_writeMerge 88 = .ok (.aload_n 0, 1) := by decide +kernel
theorem dX2_writeMerge_89 : decode cX2_writeMerge 89 = .ok (.getfield 18, 3) := by decide +kernel
theorem dX2_writeMerge_92 : decode cX2_writeMerge 92 = .ok (.iload 4, 2) := by decide +kernel
theorem dX2_writeMerge_94 : decode cX2_writeMerge 94 = .ok (.iload_n 2, 1) := by decide +kernel
theorem dX2_writeMerge_95 : decode cX2_writeMerge 95 = .ok (.iadd, 1) := by decide +kernel
theorem dX2_writeMerge_96 : decode cX2_writeMerge 96 = .ok (.iload 9, 2) := by decide +kernel
theorem dX2_writeMerge_98 : decode cX2_writeMerge 98 = .ok (.isub, 1) := by decide +kernel
theorem dX2_writeMerge_99 : decode cX2_writeMerge 99 = .ok (.iload 5, 2) := by decide +kernel
theorem dX2_writeMerge_101 : decode cX2_writeMerge 101 = .ok (.iload 9, 2) := by decide +kernel
theorem dX2_writeMerge_103 : decode cX2_writeMerge 103 = .ok (.isub, 1) := by decide +kernel
theorem dX2_writeMerge_104 : decode cX2_writeMerge 104 = .ok (.iload_n 3, 1) := by decide +kernel
theorem dX2_writeMerge_105 : decode cX2_writeMerge 105 = .ok (.iadd, 1) := by decide +kernel
theorem dX2_writeMerge_106 : decode cX2_writeMerge 106 = .ok (.invokevirtual 96, 3) := by decide +kernel
theorem dX2_writeMerge_109 : decode cX2_writeMerge 109 = .ok (.aload_n 0, 1) := by decide +kernel
theorem dX2_writeMerge_110 : decode cX2_writeMerge 110 = .ok (.getfield 18, 3) := by decide +kernel
theorem dX2_writeMerge_113 : decode cX2_writeMerge 113 = .ok (.aload_n 0, 1) := by decide +kernel
theorem dX2_writeMerge_114 : decode cX2_writeMerge 114 = .ok (.getfield 12, 3) := by decide +kernel
theorem dX2_writeMerge_117 : decode cX2_writeMerge 117 = .ok (.iload_n 1, 1) := by decide +kernel
theorem dX2_writeMerge_118 : decode cX2_writeMerge 118 = .ok (.iconst 2, 1) := by decide +kernel
theorem dX2_writeMerge_119 : decode cX2_writeMerge 119 = .ok (.iadd, 1) := by decide +kernel
theorem dX2_writeMerge_120 : decode cX2_writeMerge 120 = .ok (.iload 6, 2) := by decide +kernel
theorem dX2_writeMerge_122 : decode cX2_writeMerge 122 = .ok (.invokevirtual 74, 3) := by decide +kernel
theorem dX2_writeMerge_125 : decode cX2_writeMerge 125 = .ok (.iconst 0, 1) := by decide +kernel
theorem dX2_writeMerge_126 : decode cX2_writeMerge 126 = .ok (.istore 10, 2) := by decide +kernel
theorem dX2_writeMerge_128 : decode cX2_writeMerge 128 = .ok (.iload 10, 2) := by decide +kernel
theorem dX2_writeMerge_130 : decode cX2_writeMerge 130 = .ok (.iload 4, 2) := by decide +kernel
theorem dX2_writeMerge_132 : decode cX2_writeMerge 132 = .ok (.if_icmp .ge 74, 3) := by decide +kernel
theorem dX2_writeMerge_135 : decode cX2_writeMerge 135 = .ok (.aload_n 0, 1) := by decide +kernel
theorem dX2_writeMerge_136 : decode cX2_writeMerge 136 = .ok (.getfield 18, 3) := by decide +kernel
theorem dX2_writeMerge_139 : decode cX2_writeMerge 139 = .ok (.invokevirtual 45, 3) := by decide +kernel
theorem dX2_writeMerge_142 : decode cX2_writeMerge 142 = .ok (.ifCond .ne 64, 3) := by decide +kernel
theorem dX2_writeMerge_145 : decode cX2_writeMerge 145 = .ok (.aload_n 0, 1) := by decide +kernel
theorem dX2_writeMerge_146 : decode cX2_writeMerge 146 = .ok (.getfield 12, 3) := by decide +kernel
theorem dX2_writeMerge_149 : decode cX2_writeMerge 149 = .ok (.iload 6, 2) := by decide +kernel
theorem dX2_writeMerge_151 : decode cX2_writeMerge 151 = .ok (.iconst 1, 1) := by decide +kernel
theorem dX2_writeMerge_152 : decode cX2_writeMerge 152 = .ok (.invokevirtual 93, 3) := by decide +kernel
theorem dX2_writeMerge_155 : decode cX2_writeMerge 155 = .ok (.istore 11, 2) := by decide +kernel
theorem dX2_writeMerge_157 : decode cX2_writeMerge 157 = .ok (.aload_n 0, 1) := by decide +kernel
theorem dX2_writeMerge_158 : decode cX2_writeMerge 158 = .ok (.getfield 18, 3) := by decide +kernel
theorem dX2_writeMerge_161 : decode cX2_writeMerge 161 = .ok (.iload_n 2, 1) := by decide +kernel
theorem dX2_writeMerge_162 : decode cX2_writeMerge 162 = .ok (.iload_n 3, 1) := by decide +kernel
theorem dX2_writeMerge_163 : decode cX2_writeMerge 163 = .ok (.invokevirtual 96, 3) := by decide +kernel
theorem dX2_writeMerge_166 : decode cX2_writeMerge 166 = .ok (.aload_n 0, 1) := by decide +kernel
theorem dX2_writeMerge_167 : decode cX2_writeMerge 167 = .ok (.getfield 18, 3) := by decide +kernel
theorem dX2_writeMerge_170 : decode cX2_writeMerge 170 = .ok (.aload_n 0, 1) := by decide +kernel
theorem dX2_writeMerge_171 : decode cX2_writeMerge 171 = .ok (.getfield 12, 3) := by decide +kernel
theorem dX2_writeMerge_174 : decode cX2_writeMerge 174 = .ok (.iload 6, 2) := by decide +kernel
theorem dX2_writeMerge_176 : decode cX2_writeMerge 176 = .ok (.iload 11, 2) := by decide +kernel
theorem dX2_writeMerge_178 : decode cX2_writeMerge 178 = .ok (.invokevirtual 74, 3) := by decide +kernel
theorem dX2_writeMerge_181 : decode cX2_writeMerge 181 = .ok (.aload_n 0, 1) := by decide +kernel
theorem dX2_writeMerge_182 : decode cX2_writeMerge 182 = .ok (.getfield 18, 3) := by decide +kernel
theorem dX2_writeMerge_185 : decode cX2_writeMerge 185 = .ok (.aload_n 0, 1) := by decide +kernel
theorem dX2_writeMerge_186 : decode cX2_writeMerge 186 = .ok (.getfield 12, 3) := by decide +kernel
theorem dX2_writeMerge_189 : decode cX2_writeMerge 189 = .ok (.iload 7, 2) := by decide +kernel
theorem dX2_writeMerge_191 : decode cX2_writeMerge 191 = .ok (.iload 8, 2) := by decide +kernel
theorem dX2_writeMerge_193 : decode cX2_writeMerge 193 = .ok (.invokevirtual 74, 3) := by decide +kernel
theorem dX2_writeMerge_196 : decode cX2_writeMerge 196 = .ok (.iload 11, 2) := by decide +kernel
theorem dX2_writeMerge_198 : decode cX2_writeMerge 198 = .ok (.istore 6, 2) := by decide +kernel
theorem dX2_writeMerge_200 : decode cX2_writeMerge 200 = .ok (.iinc 10 1, 3) := by decide +kernel
theorem dX2_writeMerge_203 : decode cX2_writeMerge 203 = .ok (.goto (-75), 3) := by decide +kernel
theorem dX2_writeMerge_206 : decode cX2_writeMerge 206 = .ok (.aload_n 0, 1) := by decide +kernel
theorem dX2_writeMerge_207 : decode cX2_writeMerge 207 = .ok (.getfield 18, 3) := by decide +kernel
theorem dX2_writeMerge_210 : decode cX2_writeMerge 210 = .ok (.aload_n 0, 1) := by decide +kernel
theorem dX2_writeMerge_211 : decode cX2_writeMerge 211 = .ok (.getfield 12, 3) := by decide +kernel
theorem dX2_writeMerge_214 : decode cX2_writeMerge 214 = .ok (.aload_n 0, 1) := by decide +kernel
theorem dX2_writeMerge_215 : decode cX2_writeMerge 215 = .ok (.getfield 12, 3) := by decide +kernel
theorem dX2_writeMerge_218 : decode cX2_writeMerge 218 = .ok (.iload 7, 2) := by decide +kernel
theorem dX2_writeMerge_220 : decode cX2_writeMerge 220 = .ok (.iload 9, 2) := by decide +kernel
theorem dX2_writeMerge_222 : decode cX2_writeMerge 222 = .ok (.invokevirtual 93, 3) := by decide +kernel
theorem dX2_writeMerge_225 : decode cX2_writeMerge 225 = .ok (.iload 8, 2) := by decide +kernel
theorem dX2_writeMerge_227 : decode cX2_writeMerge 227 = .ok (.invokevirtual 74, 3) := by decide +kernel
theorem dX2_writeMerge_230 : decode cX2_writeMerge 230 = .ok (.return_, 1) := by decide +kernel
theorem dX3_init_0 : decode cX3_init 0 = .ok (.aload_n 0, 1) := by decide +kernel
theorem dX3_init_1 : decode cX3_init 1 = .ok (.invokespecial 3, 3) := by decide +kernel
theorem dX3_init_4 : decode cX3_init 4 = .ok (.aload_n 0, 1) := by decide +kernel
theorem dX3_init_5 : decode cX3_init 5 = .ok (.bipush 6, 2) := by decide +kernel
theorem dX3_init_7 : decode cX3_init 7 = .ok (.newarray .int, 2) := by decide +kernel
theorem dX3_init_9 : decode cX3_init 9 = .ok (.putfield 9, 3) := by decide +kernel
theorem dX3_init_12 : decode cX3_init 12 = .ok (.aload_n 0, 1) := by decide +kernel
theorem dX3_init_13 : decode cX3_init 13 = .ok (.bipush 6, 2) := by decide +kernel
theorem dX3_init_15 : decode cX3_init 15 = .ok (.newarray .int, 2) := by decide +kernel
theorem dX3_init_17 : decode cX3_init 17 = .ok (.putfield 15, 3) := by decide +kernel
theorem dX3_init_20 : decode cX3_init 20 = .ok (.aload_n 0, 1) := by decide +kernel
theorem dX3_init_21 : decode cX3_init 21 = .ok (.iconst 0, 1) := by decide +kernel
theorem dX3_init_22 : decode cX3_init 22 = .ok (.putfield 18, 3) := by decide +kernel
theorem dX3_init_25 : decode cX3_init 25 = .ok (.return_, 1) := by decide +kernel
theorem dX3_count_0 : decode cX3_count 0 = .ok (.aload_n 0, 1) := by decide +kernel
theorem dX3_count_1 : decode cX3_count 1 = .ok (.getfield 18, 3) := by decide +kernel
theorem dX3_count_4 : decode cX3_count 4 = .ok (.ireturn, 1) := by decide +kernel
theorem dX3_add_0 : decode cX3_add 0 = .ok (.aload_n 0, 1) := by decide +kernel
theorem dX3_add_1 : decode cX3_add 1 = .ok (.getfield 18, 3) := by decide +kernel
theorem dX3_add_4 : decode cX3_add 4 = .ok (.bipush 6, 2) := by decide +kernel
theorem dX3_add_6 : decode cX3_add 6 = .ok (.if_icmp .lt 7, 3) := by decide +kernel
theorem dX3_add_9 : decode cX3_add 9 = .ok (.aload_n 0, 1) := by decide +kernel
theorem dX3_add_10 : decode cX3_add 10 = .ok (.invokevirtual 22, 3) := by decide +kernel
theorem dX3_add_13 : decode cX3_add 13 = .ok (.aload_n 0, 1) := by decide +kernel
theorem dX3_add_14 : decode cX3_add 14 = .ok (.getfield 18, 3) := by decide +kernel
theorem dX3_add_17 : decode cX3_add 17 = .ok (.ifCond .lt 42, 3) := by decide +kernel
theorem dX3_add_20 : decode cX3_add 20 = .ok (.aload_n 0, 1) := by decide +kernel
theorem dX3_add_21 : decode cX3_add 21 = .ok (.getfield 18, 3) := by decide +kernel
theorem dX3_add_24 : decode cX3_add 24 = .ok (.bipush 6, 2) := by decide +kernel
theorem dX3_add_26 : decode cX3_add 26 = .ok (.if_icmp .ge 33, 3) := by decide +kernel
theorem dX3_add_29 : decode cX3_add 29 = .ok (.aload_n 0, 1) := by decide +kernel
theorem dX3_add_30 : decode cX3_add 30 = .ok (.getfield 9, 3) := by decide +kernel
theorem dX3_add_33 : decode cX3_add 33 = .ok (.aload_n 0, 1) := by decide +kernel
theorem dX3_add_34 : decode cX3_add 34 = .ok (.getfield 18, 3) := by decide +kernel
theorem dX3_add_37 : decode cX3_add 37 = .ok (.iload_n 1, 1) := by decide +kernel
theorem dX3_add_38 : decode cX3_add 38 = .ok (.iastore, 1) := by decide +kernel
theorem dX3_add_39 : decode cX3_add 39 = .ok (.aload_n 0, 1) := by decide +kernel
theorem dX3_add_40 : decode cX3_add 40 = .ok (.getfield 15, 3) := by decide +kernel
theorem dX3_add_43 : decode cX3_add 43 = .ok (.aload_n 0, 1) := by decide +kernel
theorem dX3_add_44 : decode cX3_add 44 = .ok (.getfield 18, 3) := by decide +kernel
theorem dX3_add_47 : decode cX3_add 47 = .ok (.iload_n 2, 1) := by decide +kernel
theorem dX3_add_48 : decode cX3_add 48 = .ok (.iastore, 1) := by decide +kernel
theorem dX3_add_49 : decode cX3_add 49 = .ok (.aload_n 0, 1) := by decide +kernel
theorem dX3_add_50 : decode cX3_add 50 = .ok (.dup, 1) := by decide +kernel
theorem dX3_add_51 : decode cX3_add 51 = .ok (.getfield 18, 3) := by decide +kernel
theorem dX3_add_54 : decode cX3_add 54 = .ok (.iconst 1, 1) := by decide +kernel
theorem dX3_add_55 : decode cX3_add 55 = .ok (.iadd, 1) := by decide +kernel
theorem dX3_add_56 : decode cX3_add 56 = .ok (.putfield 18, 3) := by decide +kernel
theorem dX3_add_59 : decode cX3_add 59 = .ok (.return_, 1) := by decide +kernel
theorem dX3_dropOldest_0 : decode cX3_dropOldest 0 = .ok (.iconst 1, 1) := by decide +kernel
theorem dX3_dropOldest_1 : decode cX3_dropOldest 1 = .ok (.istore_n 1, 1) := by decide +kernel
theorem dX3_dropOldest_2 : decode cX3_dropOldest 2 = .ok (.iload_n 1, 1) := by decide +kernel
theorem dX3_dropOldest_3 : decode cX3_dropOldest 3 = .ok (.bipush 6, 2) := by decide +kernel
theorem dX3_dropOldest_5 : decode cX3_dropOldest 5 = .ok (.if_icmp .ge 37, 3) := by decide +kernel
theorem dX3_dropOldest_8 : decode cX3_dropOldest 8 = .ok (.aload_n 0, 1) := by decide +kernel
theorem dX3_dropOldest_9 : decode cX3_dropOldest 9 = .ok (.getfield 9, 3) := by decide +kernel
theorem dX3_dropOldest_12 : decode cX3_dropOldest 12 = .ok (.iload_n 1, 1) := by decide +kernel
theorem dX3_dropOldest_13 : decode cX3_dropOldest 13 = .ok (.iconst 1, 1) := by decide +kernel
theorem dX3_dropOldest_14 : decode cX3_dropOldest 14 = .ok (.isub, 1) := by decide +kernel
theorem dX3_dropOldest_15 : decode cX3_dropOldest 15 = .ok (.aload_n 0, 1) := by decide +kernel
theorem dX3_dropOldest_16 : decode cX3_dropOldest 16 = .ok (.getfield 9, 3) := by decide +kernel
theorem dX3_dropOldest_19 : decode cX3_dropOldest 19 = .ok (.iload_n 1, 1) := by decide +kernel
theorem dX3_dropOldest_20 : decode cX3_dropOldest 20 = .ok (.iaload, 1) := by decide +kernel
theorem dX3_dropOldest_21 : decode cX3_dropOldest 21 = .ok (.iastore, 1) := by decide +kernel
theorem dX3_dropOldest_22 : decode cX3_dropOldest 22 = .ok (.aload_n 0, 1) := by decide +kernel
theorem dX3_dropOldest_23 : decode cX3_dropOldest 23 = .ok (.getfield 15, 3) := by decide +kernel
theorem dX3_dropOldest_26 : decode cX3_dropOldest 26 = .ok (.iload_n 1, 1) := by decide +kernel
theorem dX3_dropOldest_27 : decode cX3_dropOldest 27 = .ok (.iconst 1, 1) := by decide +kernel
theorem dX3_dropOldest_28 : decode cX3_dropOldest 28 = .ok (.isub, 1) := by decide +kernel
theorem dX3_dropOldest_29 : decode cX3_dropOldest 29 = .ok (.aload_n 0, 1) := by decide +kernel
theorem dX3_dropOldest_30 : decode cX3_dropOldest 30 = .ok (.getfield 15, 3) := by decide +kernel
theorem dX3_dropOldest_33 : decode cX3_dropOldest 33 = .ok (.iload_n 1, 1) := by decide +kernel
theorem dX3_dropOldest_34 : decode cX3_dropOldest 34 = .ok (.iaload, 1) := by decide +kernel
theorem dX3_dropOldest_35 : decode cX3_dropOldest 35 = .ok (.iastore, 1) := by decide +kernel
theorem dX3_dropOldest_36 : decode cX3_dropOldest 36 = .ok (.iinc 1 1, 3) := by decide +kernel
theorem dX3_dropOldest_39 : decode cX3_dropOldest 39 = .ok (.goto (-37), 3) := by decide +kernel
theorem dX3_dropOldest_42 : decode cX3_dropOldest 42 = .ok (.aload_n 0, 1) := by decide +kernel
theorem dX3_dropOldest_43 : decode cX3_dropOldest 43 = .ok (.iconst 5, 1) := by decide +kernel
theorem dX3_dropOldest_44 : decode cX3_dropOldest 44 = .ok (.putfield 18, 3) := by decide +kernel
theorem dX3_dropOldest_47 : decode cX3_dropOldest 47 = .ok (.return_, 1) := by decide +kernel
theorem dX3_keepUpTo_0 : decode cX3_keepUpTo 0 = .ok (.iconst 0, 1) := by decide +kernel
theorem dX3_keepUpTo_1 : decode cX3_keepUpTo 1 = .ok (.istore_n 2, 1) := by decide +kernel
theorem dX3_keepUpTo_2 : decode cX3_keepUpTo 2 = .ok (.iconst 0, 1) := by decide +kernel
theorem dX3_keepUpTo_3 : decode cX3_keepUpTo 3 = .ok (.istore_n 3, 1) := by decide +kernel
theorem dX3_keepUpTo_4 : decode cX3_keepUpTo 4 = .ok (.iload_n 3, 1) := by decide +kernel
theorem dX3_keepUpTo_5 : decode cX3_keepUpTo 5 = .ok (.aload_n 0, 1) := by decide +kernel
theorem dX3_keepUpTo_6 : decode cX3_keepUpTo 6 = .ok (.getfield 18, 3) := by decide +kernel
theorem dX3_keepUpTo_9 : decode cX3_keepUpTo 9 = .ok (.if_icmp .ge 46, 3) := by decide +kernel
theorem dX3_keepUpTo_12 : decode cX3_keepUpTo 12 = .ok (.aload_n 0, 1) := by decide +kernel
theorem dX3_keepUpTo_13 : decode cX3_keepUpTo 13 = .ok (.getfield 9, 3) := by decide +kernel
theorem dX3_keepUpTo_16 : decode cX3_keepUpTo 16 = .ok (.iload_n 3, 1) := by decide +kernel
theorem dX3_keepUpTo_17 : decode cX3_keepUpTo 17 = .ok (.iaload, 1) := by decide +kernel
theorem dX3_keepUpTo_18 : decode cX3_keepUpTo 18 = .ok (.iload_n 1, 1) := by decide +kernel
theorem dX3_keepUpTo_19 : decode cX3_keepUpTo 19 = .ok (.if_icmp .gt 30, 3) := by decide +kernel
theorem dX3_keepUpTo_22 : decode cX3_keepUpTo 22 = .ok (.aload_n 0, 1) := by decide +kernel
theorem dX3_keepUpTo_23 : decode cX3_keepUpTo 23 = .ok (.getfield 9, 3) := by decide +kernel
theorem dX3_keepUpTo_26 : decode cX3_keepUpTo 26 = .ok (.iload_n 2, 1) := by decide +kernel
theorem dX3_keepUpTo_27 : decode cX3_keepUpTo 27 = .ok (.aload_n 0, 1) := by decide +kernel
theorem dX3_keepUpTo_28 : decode cX3_keepUpTo 28 = .ok (.getfield 9, 3) := by decide +kernel
theorem dX3_keepUpTo_31 : decode cX3_keepUpTo 31 = .ok (.iload_n 3, 1) := by decide +kernel
theorem dX3_keepUpTo_32 : decode cX3_keepUpTo 32 = .ok (.iaload, 1) := by decide +kernel
theorem dX3_keepUpTo_33 : decode cX3_keepUpTo 33 = .ok (.iastore, 1) := by decide +kernel
theorem dX3_keepUpTo_34 : decode cX3_keepUpTo 34 = .ok (.aload_n 0, 1) := by decide +kernel
theorem dX3_keepUpTo_35 : decode cX3_keepUpTo 35 = .ok (.getfield 15, 3) := by decide +kernel
theorem dX3_keepUpTo_38 : decode cX3_keepUpTo 38 = .ok (.iload_n 2, 1) := by decide +kernel
theorem dX3_keepUpTo_39 : decode cX3_keepUpTo 39 = .ok (.aload_n 0, 1) := by decide +kernel
theorem dX3_keepUpTo_40 : decode cX3_keepUpTo 40 = .ok (.getfield 15, 3) := by decide +kernel
theorem dX3_keepUpTo_43 : decode cX3_keepUpTo 43 = .ok (.iload_n 3, 1) := by decide +kernel
theorem dX3_keepUpTo_44 : decode cX3_keepUpTo 44 = .ok (.iaload, 1) := by decide +kernel
theorem dX3_keepUpTo_45 : decode cX3_keepUpTo 45 = .ok (.iastore, 1) := by decide +kernel
theorem dX3_keepUpTo_46 : decode cX3_keepUpTo 46 = .ok (.iinc 2 1, 3) := by decide +kernel
theorem dX3_keepUpTo_49 : decode cX3_keepUpTo 49 = .ok (.iinc 3 1, 3) := by decide +kernel
theorem dX3_keepUpTo_52 : decode cX3_keepUpTo 52 = .ok (.goto (-48), 3) := by decide +kernel
theorem dX3_keepUpTo_55 : decode cX3_keepUpTo 55 = .ok (.aload_n 0, 1) := by decide +kernel
theorem dX3_keepUpTo_56 : decode cX3_keepUpTo 56 = .ok (.iload_n 2, 1) := by decide +kernel
theorem dX3_keepUpTo_57 : decode cX3_keepUpTo 57 = .ok (.putfield 18, 3) := by decide +kernel
theorem dX3_keepUpTo_60 : decode cX3_keepUpTo 60 = .ok (.return_, 1) := by decide +kernel
theorem dX3_greatestLimit_0 : decode cX3_greatestLimit 0 = .ok (.iconst 0, 1) := by decide +kernel
theorem dX3_greatestLimit_1 : decode cX3_greatestLimit 1 = .ok (.istore_n 1, 1) := by decide +kernel
theorem dX3_greatestLimit_2 : decode cX3_greatestLimit 2 = .ok (.iconst 0, 1) := by decide +kernel
theorem dX3_greatestLimit_3 : decode cX3_greatestLimit 3 = .ok (.istore_n 2, 1) := by decide +kernel
theorem dX3_greatestLimit_4 : decode cX3_greatestLimit 4 = .ok (.iload_n 2, 1) := by decide +kernel
theorem dX3_greatestLimit_5 : decode cX3_greatestLimit 5 = .ok (.aload_n 0, 1) := by decide +kernel
theorem dX3_greatestLimit_6 : decode cX3_greatestLimit 6 = .ok (.getfield 18, 3) := by decide +kernel
theorem dX3_greatestLimit_9 : decode cX3_greatestLimit 9 = .ok (.if_icmp .ge 20, 3) := by decide +kernel
theorem dX3_greatestLimit_12 : decode cX3_greatestLimit 12 = .ok (.iload_n 1, 1) := by decide +kernel
theorem dX3_greatestLimit_13 : decode cX3_greatestLimit 13 = .ok (.aload_n 0, 1) := by decide +kernel
theorem dX3_greatestLimit_14 : decode cX3_greatestLimit 14 = .ok (.getfield 9, 3) := by decide +kernel
theorem dX3_greatestLimit_17 : decode cX3_greatestLimit 17 = .ok (.iload_n 2, 1) := by decide +kernel
theorem dX3_greatestLimit_18 : decode cX3_greatestLimit 18 = .ok (.iaload, 1) := by decide +kernel
theorem dX3_greatestLimit_19 : decode cX3_greatestLimit 19 = .ok (.invokestatic 25, 3) := by decide +kernel
theorem dX3_greatestLimit_22 : decode cX3_greatestLimit 22 = .ok (.istore_n 1, 1) := by decide +kernel
theorem dX3_greatestLimit_23 : decode cX3_greatestLimit 23 = .ok (.iinc 2 1, 3) := by decide +kernel
theorem dX3_greatestLimit_26 : decode cX3_greatestLimit 26 = .ok (.goto (-22), 3) := by decide +kernel
theorem dX3_greatestLimit_29 : decode cX3_greatestLimit 29 = .ok (.iload_n 1, 1) := by decide +kernel
theorem dX3_greatestLimit_30 : decode cX3_greatestLimit 30 = .ok (.ireturn, 1) := by decide +kernel
theorem dX3_allow_0 : decode cX3_allow 0 = .ok (.iconst 0, 1) := by decide +kernel
theorem dX3_allow_1 : decode cX3_allow 1 = .ok (.istore_n 3, 1) := by decide +kernel
theorem dX3_allow_2 : decode cX3_allow 2 = .ok (.iload_n 3, 1) := by decide +kernel
theorem dX3_allow_3 : decode cX3_allow 3 = .ok (.aload_n 0, 1) := by decide +kernel
theorem dX3_allow_4 : decode cX3_allow 4 = .ok (.getfield 18, 3) := by decide +kernel
theorem dX3_allow_7 : decode cX3_allow 7 = .ok (.if_icmp .ge 31, 3) := by decide +kernel
theorem dX3_allow_10 : decode cX3_allow 10 = .ok (.aload_n 0, 1) := by decide +kernel
theorem dX3_allow_11 : decode cX3_allow 11 = .ok (.getfield 9, 3) := by decide +kernel
theorem dX3_allow_14 : decode cX3_allow 14 = .ok (.iload_n 3, 1) := by decide +kernel
theorem dX3_allow_15 : decode cX3_allow 15 = .ok (.iaload, 1) := by decide +kernel
theorem dX3_allow_16 : decode cX3_allow 16 = .ok (.iload_n 1, 1) := by decide +kernel
theorem dX3_allow_17 : decode cX3_allow 17 = .ok (.if_icmp .ne 15, 3) := by decide +kernel
theorem dX3_allow_20 : decode cX3_allow 20 = .ok (.aload_n 0, 1) := by decide +kernel
theorem dX3_allow_21 : decode cX3_allow 21 = .ok (.getfield 15, 3) := by decide +kernel
theorem dX3_allow_24 : decode cX3_allow 24 = .ok (.iload_n 3, 1) := by decide +kernel
theorem dX3_allow_25 : decode cX3_allow 25 = .ok (.iaload, 1) := by decide +kernel
theorem dX3_allow_26 : decode cX3_allow 26 = .ok (.iload_n 2, 1) := by decide +kernel
theorem dX3_allow_27 : decode cX3_allow 27 = .ok (.if_icmp .eq 5, 3) := by decide +kernel
theorem dX3_allow_30 : decode cX3_allow 30 = .ok (.iconst 0, 1) := by decide +kernel
theorem dX3_allow_31 : decode cX3_allow 31 = .ok (.ireturn, 1) := by decide +kernel
theorem dX3_allow_32 : decode cX3_allow 32 = .ok (.iinc 3 1, 3) := by decide +kernel
theorem dX3_allow_35 : decode cX3_allow 35 = .ok (.goto (-33), 3) := by decide +kernel
theorem dX3_allow_38 : decode cX3_allow 38 = .ok (.iconst 1, 1) := by decide +kernel
theorem dX3_allow_39 : decode cX3_allow 39 = .ok (.ireturn, 1) := by decide +kernel
theorem dX4_init_0 : decode cX4_init 0 = .ok (.aload_n 0, 1) := by decide +kernel
theorem dX4_init_1 : decode cX4_init 1 = .ok (.invokespecial 3, 3) := by decide +kernel
theorem dX4_init_4 : decode cX4_init 4 = .ok (.aload_n 0, 1) := by decide +kernel
theorem dX4_init_5 : decode cX4_init 5 = .ok (.sipush 200, 3) := by decide +kernel
theorem dX4_init_8 : decode cX4_init 8 = .ok (.newarray .int, 2) := by decide +kernel
theorem dX4_init_10 : decode cX4_init 10 = .ok (.putfield 9, 3) := by decide +kernel
theorem dX4_init_13 : decode cX4_init 13 = .ok (.aload_n 0, 1) := by decide +kernel
theorem dX4_init_14 : decode cX4_init 14 = .ok (.sipush 200, 3) := by decide +kernel
theorem dX4_init_17 : decode cX4_init 17 = .ok (.newarray .int, 2) := by decide +kernel
theorem dX4_init_19 : decode cX4_init 19 = .ok (.putfield 15, 3) := by decide +kernel
theorem dX4_init_22 : decode cX4_init 22 = .ok (.aload_n 0, 1) := by decide +kernel
theorem dX4_init_23 : decode cX4_init 23 = .ok (.iconst 0, 1) := by decide +kernel
theorem dX4_init_24 : decode cX4_init 24 = .ok (.putfield 18, 3) := by decide +kernel
theorem dX4_init_27 : decode cX4_init 27 = .ok (.return_, 1) := by decide +kernel
theorem dX4_measure_0 : decode cX4_measure 0 = .ok (.aload_n 0, 1) := by decide +kernel
theorem dX4_measure_1 : decode cX4_measure 1 = .ok (.aload_n 1, 1) := by decide +kernel
theorem dX4_measure_2 : decode cX4_measure 2 = .ok (.invokevirtual 22, 3) := by decide +kernel
theorem dX4_measure_5 : decode cX4_measure 5 = .ok (.sipush 200, 3) := by decide +kernel
theorem dX4_measure_8 : decode cX4_measure 8 = .ok (.invokestatic 27, 3) := by decide +kernel
theorem dX4_measure_11 : decode cX4_measure 11 = .ok (.putfield 18, 3) := by decide +kernel
theorem dX4_measure_14 : decode cX4_measure 14 = .ok (.aload_n 0, 1) := by decide +kernel
theorem dX4_measure_15 : decode cX4_measure 15 = .ok (.aload_n 1, 1) := by decide +kernel
theorem dX4_measure_16 : decode cX4_measure 16 = .ok (.invokevirtual 33, 3) := by decide +kernel
theorem dX4_measure_19 : decode cX4_measure 19 = .ok (.aload_n 0, 1) := by decide +kernel
theorem dX4_measure_20 : decode cX4_measure 20 = .ok (.aload_n 1, 1) := by decide +kernel
theorem dX4_measure_21 : decode cX4_measure 21 = .ok (.invokevirtual 37, 3) := by decide +kernel
theorem dX4_measure_24 : decode cX4_measure 24 = .ok (.return_, 1) := by decide +kernel
theorem dX4_endAt_0 : decode cX4_endAt 0 = .ok (.iload_n 1, 1) := by decide +kernel
theorem dX4_endAt_1 : decode cX4_endAt 1 = .ok (.ifCond .lt 20, 3) := by decide +kernel
theorem dX4_endAt_4 : decode cX4_endAt 4 = .ok (.iload_n 1, 1) := by decide +kernel
theorem dX4_endAt_5 : decode cX4_endAt 5 = .ok (.aload_n 0, 1) := by decide +kernel
theorem dX4_endAt_6 : decode cX4_endAt 6 = .ok (.getfield 18, 3) := by decide +kernel
theorem dX4_endAt_9 : decode cX4_endAt 9 = .ok (.if_icmp .ge 12, 3) := by decide +kernel
theorem dX4_endAt_12 : decode cX4_endAt 12 = .ok (.aload_n 0, 1) := by decide +kernel
theorem dX4_endAt_13 : decode cX4_endAt 13 = .ok (.getfield 9, 3) := by decide +kernel
theorem dX4_endAt_16 : decode cX4_endAt 16 = .ok (.iload_n 1, 1) := by decide +kernel
theorem dX4_endAt_17 : decode cX4_endAt 17 = .ok (.iaload, 1) := by decide +kernel
theorem dX4_endAt_18 : decode cX4_endAt 18 = .ok (.goto 7, 3) := by decide +kernel
theorem dX4_endAt_21 : decode cX4_endAt 21 = .ok (.aload_n 0, 1) := by decide +kernel
theorem dX4_endAt_22 : decode cX4_endAt 22 = .ok (.getfield 18, 3) := by decide +kernel
theorem dX4_endAt_25 : decode cX4_endAt 25 = .ok (.ireturn, 1) := by decide +kernel
theorem dX4_depthAt_0 : decode cX4_depthAt 0 = .ok (.iload_n 1, 1) := by decide +kernel
theorem dX4_depthAt_1 : decode cX4_depthAt 1 = .ok (.ifCond .lt 20, 3) := by decide +kernel
theorem dX4_depthAt_4 : decode cX4_depthAt 4 = .ok (.iload_n 1, 1) := by decide +kernel
theorem dX4_depthAt_5 : decode cX4_depthAt 5 = .ok (.aload_n 0, 1) := by decide +kernel
theorem dX4_depthAt_6 : decode cX4_depthAt 6 = .ok (.getfield 18, 3) := by decide +kernel
theorem dX4_depthAt_9 : decode cX4_depthAt 9 = .ok (.if_icmp .ge 12, 3) := by decide +kernel
theorem dX4_depthAt_12 : decode cX4_depthAt 12 = .ok (.aload_n 0, 1) := by decide +kernel
theorem dX4_depthAt_13 : decode cX4_depthAt 13 = .ok (.getfield 15, 3) := by decide +kernel
theorem dX4_depthAt_16 : decode cX4_depthAt 16 = .ok (.iload_n 1, 1) := by decide +kernel
theorem dX4_depthAt_17 : decode cX4_depthAt 17 = .ok (.iaload, 1) := by decide +kernel
theorem dX4_depthAt_18 : decode cX4_depthAt 18 = .ok (.goto 4, 3) := by decide +kernel
theorem dX4_depthAt_21 : decode cX4_depthAt 21 = .ok (.iconst 0, 1) := by decide +kernel
theorem dX4_depthAt_22 : decode cX4_depthAt 22 = .ok (.ireturn, 1) := by decide +kernel
theorem dX4_measureEnds_0 : decode cX4_measureEnds 0 = .ok (.aload_n 0, 1) := by decide +kernel
theorem dX4_measureEnds_1 : decode cX4_measureEnds 1 = .ok (.getfield 18, 3) := by decide +kernel
theorem dX4_measureEnds_4 : decode cX4_measureEnds 4 = .ok (.iconst 1, 1) := by decide +kernel
theorem dX4_measureEnds_5 : decode cX4_measureEnds 5 = .ok (.isub, 1) := by decide +kernel
theorem dX4_measureEnds_6 : decode cX4_measureEnds 6 = .ok (.istore_n 2, 1) := by decide +kernel
theorem dX4_measureEnds_7 : decode cX4_measureEnds 7 = .ok (.iload_n 2, 1) := by decide +kernel
theorem dX4_measureEnds_8 : decode cX4_measureEnds 8 = .ok (.ifCond .lt 74, 3) := by decide +kernel
theorem dX4_measureEnds_11 : decode cX4_measureEnds 11 = .ok (.aload_n 1, 1) := by decide +kernel
theorem dX4_measureEnds_12 : decode cX4_measureEnds 12 = .ok (.iload_n 2, 1) := by decide +kernel
theorem dX4_measureEnds_13 : decode cX4_measureEnds 13 = .ok (.invokevirtual 40, 3) := by decide +kernel
theorem dX4_measureEnds_16 : decode cX4_measureEnds 16 = .ok (.istore_n 3, 1) := by decide +kernel
theorem dX4_measureEnds_17 : decode cX4_measureEnds 17 = .ok (.iload_n 3, 1) := by decide +kernel
theorem dX4_measureEnds_18 : decode cX4_measureEnds 18 = .ok (.sipush 1001, 3) := by decide +kernel
theorem dX4_measureEnds_21 : decode cX4_measureEnds 21 = .ok (.if_icmp .ne 19, 3) := by decide +kernel
theorem dX4_measureEnds_24 : decode cX4_measureEnds 24 = .ok (.aload_n 0, 1) := by decide +kernel
theorem dX4_measureEnds_25 : decode cX4_measureEnds 25 = .ok (.getfield 9, 3) := by decide +kernel
theorem dX4_measureEnds_28 : decode cX4_measureEnds 28 = .ok (.iload_n 2, 1) := by decide +kernel
theorem dX4_measureEnds_29 : decode cX4_measureEnds 29 = .ok (.aload_n 0, 1) := by decide +kernel
theorem dX4_measureEnds_30 : decode cX4_measureEnds 30 = .ok (.iload_n 2, 1) := by decide +kernel
theorem dX4_measureEnds_31 : decode cX4_measureEnds 31 = .ok (.iconst 1, 1) := by decide +kernel
theorem dX4_measureEnds_32 : decode cX4_measureEnds 32 = .ok (.iadd, 1) := by decide +kernel
theorem dX4_measureEnds_33 : decode cX4_measureEnds 33 = .ok (.invokevirtual 44, 3) := by decide +kernel
theorem dX4_measureEnds_36 : decode cX4_measureEnds 36 = .ok (.iastore, 1) := by decide +kernel
theorem dX4_measureEnds_37 : decode cX4_measureEnds 37 = .ok (.goto 39, 3) := by decide +kernel
theorem dX4_measureEnds_40 : decode cX4_measureEnds 40 = .ok (.iload_n 3, 1) := by decide +kernel
theorem dX4_measureEnds_41 : decode cX4_measureEnds 41 = .ok (.sipush 1000, 3) := by decide +kernel
theorem dX4_measureEnds_44 : decode cX4_measureEnds 44 = .ok (.if_icmp .ne 23, 3) := by decide +kernel
theorem dX4_measureEnds_47 : decode cX4_measureEnds 47 = .ok (.aload_n 0, 1) := by decide +kernel
theorem dX4_measureEnds_48 : decode cX4_measureEnds 48 = .ok (.getfield 9, 3) := by decide +kernel
theorem dX4_measureEnds_51 : decode cX4_measureEnds 51 = .ok (.iload_n 2, 1) := by decide +kernel
theorem dX4_measureEnds_52 : decode cX4_measureEnds 52 = .ok (.aload_n 0, 1) := by decide +kernel
theorem dX4_measureEnds_53 : decode cX4_measureEnds 53 = .ok (.aload_n 0, 1) := by decide +kernel
theorem dX4_measureEnds_54 : decode cX4_measureEnds 54 = .ok (.iload_n 2, 1) := by decide +kernel
theorem dX4_measureEnds_55 : decode cX4_measureEnds 55 = .ok (.iconst 1, 1) := by decide +kernel
theorem dX4_measureEnds_56 : decode cX4_measureEnds 56 = .ok (.iadd, 1) := by decide +kernel
theorem dX4_measureEnds_57 : decode cX4_measureEnds 57 = .ok (.invokevirtual 44, 3) := by decide +kernel
theorem dX4_measureEnds_60 : decode cX4_measureEnds 60 = .ok (.invokevirtual 44, 3) := by decide +kernel
theorem dX4_measureEnds_63 : decode cX4_measureEnds 63 = .ok (.iastore, 1) := by decide +kernel
theorem dX4_measureEnds_64 : decode cX4_measureEnds 64 = .ok (.goto 12, 3) := by decide +kernel
theorem dX4_measureEnds_67 : decode cX4_measureEnds 67 = .ok (.aload_n 0, 1) := by decide +kernel
theorem dX4_measureEnds_68 : decode cX4_measureEnds 68 = .ok (.getfield 9, 3) := by decide +kernel
theorem dX4_measureEnds_71 : decode cX4_measureEnds 71 = .ok (.iload_n 2, 1) := by decide +kernel
theorem dX4_measureEnds_72 : decode cX4_measureEnds 72 = .ok (.iload_n 2, 1) := by decide +kernel
theorem dX4_measureEnds_73 : decode cX4_measureEnds 73 = .ok (.iconst 1, 1) := by decide +kernel
theorem dX4_measureEnds_74 : decode cX4_measureEnds 74 = .ok (.iadd, 1) := by decide +kernel
theorem dX4_measureEnds_75 : decode cX4_measureEnds 75 = .ok (.iastore, 1) := by decide +kernel
theorem dX4_measureEnds_76 : decode cX4_measureEnds 76 = .ok (.iinc 2 (-1), 3) := by decide +kernel
theorem dX4_measureEnds_79 : decode cX4_measureEnds 79 = .ok (.goto (-72), 3) := by decide +kernel
theorem dX4_measureEnds_82 : decode cX4_measureEnds 82 = .ok (.return_, 1) := by decide +kernel
theorem dX4_measureDepths_0 : decode cX4_measureDepths 0 = .ok (.aload_n 0, 1) := by decide +kernel
theorem dX4_measureDepths_1 : decode cX4_measureDepths 1 = .ok (.iconst 0, 1) := by decide +kernel
theorem dX4_measureDepths_2 : decode cX4_measureDepths 2 = .ok (.iconst 0, 1) := by decide +kernel
theorem dX4_measureDepths_3 : decode cX4_measureDepths 3 = .ok (.invokevirtual 47, 3) := by decide +kernel
theorem dX4_measureDepths_6 : decode cX4_measureDepths 6 = .ok (.iconst 0, 1) := by decide +kernel
theorem dX4_measureDepths_7 : decode cX4_measureDepths 7 = .ok (.istore_n 2, 1) := by decide +kernel
theorem dX4_measureDepths_8 : decode cX4_measureDepths 8 = .ok (.iload_n 2, 1) := by decide +kernel
theorem dX4_measureDepths_9 : decode cX4_measureDepths 9 = .ok (.aload_n 0, 1) := by decide +kernel
theorem dX4_measureDepths_10 : decode cX4_measureDepths 10 = .ok (.getfield 18, 3) := by decide +kernel
theorem dX4_measureDepths_13 : decode cX4_measureDepths 13 = .ok (.if_icmp .ge 77, 3) := by decide +kernel
theorem dX4_measureDepths_16 : decode cX4_measureDepths 16 = .ok (.aload_n 1, 1) := by decide +kernel
theorem dX4_measureDepths_17 : decode cX4_measureDepths 17 = .ok (.iload_n 2, 1) := by decide +kernel
theorem dX4_measureDepths_18 : decode cX4_measureDepths 18 = .ok (.invokevirtual 40, 3) := by decide +kernel
theorem dX4_measureDepths_21 : decode cX4_measureDepths 21 = .ok (.istore_n 3, 1) := by decide +kernel
theorem dX4_measureDepths_22 : decode cX4_measureDepths 22 = .ok (.iload_n 3, 1) := by decide +kernel
theorem dX4_measureDepths_23 : decode cX4_measureDepths 23 = .ok (.sipush 1001, 3) := by decide +kernel
theorem dX4_measureDepths_26 : decode cX4_measureDepths 26 = .ok (.if_icmp .ne 21, 3) := by decide +kernel
theorem dX4_measureDepths_29 : decode cX4_measureDepths 29 = .ok (.aload_n 0, 1) := by decide +kernel
theorem dX4_measureDepths_30 : decode cX4_measureDepths 30 = .ok (.iload_n 2, 1) := by decide +kernel
theorem dX4_measureDepths_31 : decode cX4_measureDepths 31 = .ok (.iconst 1, 1) := by decide +kernel
theorem dX4_measureDepths_32 : decode cX4_measureDepths 32 = .ok (.iadd, 1) := by decide +kernel
theorem dX4_measureDepths_33 : decode cX4_measureDepths 33 = .ok (.aload_n 0, 1) := by decide +kernel
theorem dX4_measureDepths_34 : decode cX4_measureDepths 34 = .ok (.getfield 15, 3) := by decide +kernel
theorem dX4_measureDepths_37 : decode cX4_measureDepths 37 = .ok (.iload_n 2, 1) := by decide +kernel
theorem dX4_measureDepths_38 : decode cX4_measureDepths 38 = .ok (.iaload, 1) := by decide +kernel
theorem dX4_measureDepths_39 : decode cX4_measureDepths 39 = .ok (.iconst 1, 1) := by decide +kernel
theorem dX4_measureDepths_40 : decode cX4_measureDepths 40 = .ok (.iadd, 1) := by decide +kernel
theorem dX4_measureDepths_41 : decode cX4_measureDepths 41 = .ok (.invokevirtual 47, 3) := by decide +kernel
theorem dX4_measureDepths_44 : decode cX4_measureDepths 44 = .ok (.goto 40, 3) := by decide +kernel
theorem dX4_measureDepths_47 : decode cX4_measureDepths 47 = .ok (.iload_n 3, 1) := by decide +kernel
theorem dX4_measureDepths_48 : decode cX4_measureDepths 48 = .ok (.sipush 1000, 3) := by decide +kernel
theorem dX4_measureDepths_51 : decode cX4_measureDepths 51 = .ok (.if_icmp .ne 33, 3) := by decide +kernel
theorem dX4_measureDepths_54 : decode cX4_measureDepths 54 = .ok (.aload_n 0, 1) := by decide +kernel
theorem dX4_measureDepths_55 : decode cX4_measureDepths 55 = .ok (.iload_n 2, 1) := by decide +kernel
theorem dX4_measureDepths_56 : decode cX4_measureDepths 56 = .ok (.iconst 1, 1) := by decide +kernel
theorem dX4_measureDepths_57 : decode cX4_measureDepths 57 = .ok (.iadd, 1) := by decide +kernel
theorem dX4_measureDepths_58 : decode cX4_measureDepths 58 = .ok (.aload_n 0, 1) := by decide +kernel
theorem dX4_measureDepths_59 : decode cX4_measureDepths 59 = .ok (.getfield 15, 3) := by decide +kernel
theorem dX4_measureDepths_62 : decode cX4_measureDepths 62 = .ok (.iload_n 2, 1) := by decide +kernel
theorem dX4_measureDepths_63 : decode cX4_measureDepths 63 = .ok (.iaload, 1) := by decide +kernel
theorem dX4_measureDepths_64 : decode cX4_measureDepths 64 = .ok (.invokevirtual 47, 3) := by decide +kernel
theorem dX4_measureDepths_67 : decode cX4_measureDepths 67 = .ok (.aload_n 0, 1) := by decide +kernel
theorem dX4_measureDepths_68 : decode cX4_measureDepths 68 = .ok (.aload_n 0, 1) := by decide +kernel
theorem dX4_measureDepths_69 : decode cX4_measureDepths 69 = .ok (.iload_n 2, 1) := by decide +kernel
theorem dX4_measureDepths_70 : decode cX4_measureDepths 70 = .ok (.iconst 1, 1) := by decide +kernel
theorem dX4_measureDepths_71 : decode cX4_measureDepths 71 = .ok (.iadd, 1) := by decide +kernel
theorem dX4_measureDepths_72 : decode cX4_measureDepths 72 = .ok (.invokevirtual 44, 3) := by decide +kernel
theorem dX4_measureDepths_75 : decode cX4_measureDepths 75 = .ok (.aload_n 0, 1) := by decide +kernel
theorem dX4_measureDepths_76 : decode cX4_measureDepths 76 = .ok (.getfield 15, 3) := by decide +kernel
theorem dX4_measureDepths_79 : decode cX4_measureDepths 79 = .ok (.iload_n 2, 1) := by decide +kernel
theorem dX4_measureDepths_80 : decode cX4_measureDepths 80 = .ok (.iaload, 1) := by decide +kernel
theorem dX4_measureDepths_81 : decode cX4_measureDepths 81 = .ok (.invokevirtual 47, 3) := by decide +kernel
theorem dX4_measureDepths_84 : decode cX4_measureDepths 84 = .ok (.iinc 2 1, 3) := by decide +kernel
theorem dX4_measureDepths_87 : decode cX4_measureDepths 87 = .ok (.goto (-79), 3) := by decide +kernel
theorem dX4_measureDepths_90 : decode cX4_measureDepths 90 = .ok (.return_, 1) := by decide +kernel
theorem dX4_setDepth_0 : decode cX4_setDepth 0 = .ok (.iload_n 1, 1) := by decide +kernel
theorem dX4_setDepth_1 : decode cX4_setDepth 1 = .ok (.ifCond .lt 18, 3) := by decide +kernel
theorem dX4_setDepth_4 : decode cX4_setDepth 4 = .ok (.iload_n 1, 1) := by decide +kernel
theorem dX4_setDepth_5 : decode cX4_setDepth 5 = .ok (.aload_n 0, 1) := by decide +kernel
theorem dX4_setDepth_6 : decode cX4_setDepth 6 = .ok (.getfield 18, 3) := by decide +kernel
theorem dX4_setDepth_9 : decode cX4_setDepth 9 = .ok (.if_icmp .ge 10, 3) := by decide +kernel
theorem dX4_setDepth_12 : decode cX4_setDepth 12 = .ok (.aload_n 0, 1) := by decide +kernel
theorem dX4_setDepth_13 : decode cX4_setDepth 13 = .ok (.getfield 15, 3) := by decide +kernel
theorem dX4_setDepth_16 : decode cX4_setDepth 16 = .ok (.iload_n 1, 1) := by decide +kernel
theorem dX4_setDepth_17 : decode cX4_setDepth 17 = .ok (.iload_n 2, 1) := by decide +kernel
theorem dX4_setDepth_18 : decode cX4_setDepth 18 = .ok (.iastore, 1) := by decide +kernel
theorem dX4_setDepth_19 : decode cX4_setDepth 19 = .ok (.return_, 1) := by decide +kernel
theorem dX5_init_0 : decode cX5_init 0 = .ok (.aload_n 0, 1) := by decide +kernel
theorem dX5_init_1 : decode cX5_init 1 = .ok (.invokespecial 3, 3) := by decide +kernel
theorem dX5_init_4 : decode cX5_init 4 = .ok (.aload_n 0, 1) := by decide +kernel
theorem dX5_init_5 : decode cX5_init 5 = .ok (.new 9, 3) := by decide +kernel
theorem dX5_init_8 : decode cX5_init 8 = .ok (.dup, 1) := by decide +kernel
theorem dX5_init_9 : decode cX5_init 9 = .ok (.invokespecial 11, 3) := by decide +kernel
theorem dX5_init_12 : decode cX5_init 12 = .ok (.putfield 12, 3) := by decide +kernel
theorem dX5_init_15 : decode cX5_init 15 = .ok (.aload_n 0, 1) := by decide +kernel
theorem dX5_init_16 : decode cX5_init 16 = .ok (.new 9, 3) := by decide +kernel
theorem dX5_init_19 : decode cX5_init 19 = .ok (.dup, 1) := by decide +kernel
theorem dX5_init_20 : decode cX5_init 20 = .ok (.invokespecial 11, 3) := by decide +kernel
theorem dX5_init_23 : decode cX5_init 23 = .ok (.putfield 18, 3) := by decide +kernel
theorem dX5_init_26 : decode cX5_init 26 = .ok (.aload_n 0, 1) := by decide +kernel
theorem dX5_init_27 : decode cX5_init 27 = .ok (.new 21, 3) := by decide +kernel
theorem dX5_init_30 : decode cX5_init 30 = .ok (.dup, 1) := by decide +kernel
theorem dX5_init_31 : decode cX5_init 31 = .ok (.invokespecial 23, 3) := by decide +kernel
theorem dX5_init_34 : decode cX5_init 34 = .ok (.putfield 24, 3) := by decide +kernel
theorem dX5_init_37 : decode cX5_init 37 = .ok (.return_, 1) := by decide +kernel
theorem dX5_isRedex_0 : decode cX5_isRedex 0 = .ok (.aload_n 0, 1) := by decide +kernel
theorem dX5_isRedex_1 : decode cX5_isRedex 1 = .ok (.iload_n 1, 1) := by decide +kernel
theorem dX5_isRedex_2 : decode cX5_isRedex 2 = .ok (.invokevirtual 28, 3) := by decide +kernel
theorem dX5_isRedex_5 : decode cX5_isRedex 5 = .ok (.sipush 1000, 3) := by decide +kernel
theorem dX5_isRedex_8 : decode cX5_isRedex 8 = .ok (.if_icmp .ne 20, 3) := by decide +kernel
theorem dX5_isRedex_11 : decode cX5_isRedex 11 = .ok (.aload_n 0, 1) := by decide +kernel
theorem dX5_isRedex_12 : decode cX5_isRedex 12 = .ok (.iload_n 1, 1) := by decide +kernel
theorem dX5_isRedex_13 : decode cX5_isRedex 13 = .ok (.iconst 1, 1) := by decide +kernel
theorem dX5_isRedex_14 : decode cX5_isRedex 14 = .ok (.iadd, 1) := by decide +kernel
theorem dX5_isRedex_15 : decode cX5_isRedex 15 = .ok (.invokevirtual 28, 3) := by decide +kernel
theorem dX5_isRedex_18 : decode cX5_isRedex 18 = .ok (.sipush 1001, 3) := by decide +kernel
theorem dX5_isRedex_21 : decode cX5_isRedex 21 = .ok (.if_icmp .ne 7, 3) := by decide +kernel
theorem dX5_isRedex_24 : decode cX5_isRedex 24 = .ok (.iconst 1, 1) := by decide +kernel
theorem dX5_isRedex_25 : decode cX5_isRedex 25 = .ok (.goto 4, 3) := by decide +kernel
theorem dX5_isRedex_28 : decode cX5_isRedex 28 = .ok (.iconst 0, 1) := by decide +kernel
theorem dX5_isRedex_29 : decode cX5_isRedex 29 = .ok (.ireturn, 1) := by decide +kernel
theorem dX5_countRedexes_0 : decode cX5_countRedexes 0 = .ok (.iconst 0, 1) := by decide +kernel
theorem dX5_countRedexes_1 : decode cX5_countRedexes 1 = .ok (.istore_n 1, 1) := by decide +kernel
theorem dX5_countRedexes_2 : decode cX5_countRedexes 2 = .ok (.iconst 0, 1) := by decide +kernel
theorem dX5_countRedexes_3 : decode cX5_countRedexes 3 = .ok (.istore_n 2, 1) := by decide +kernel
theorem dX5_countRedexes_4 : decode cX5_countRedexes 4 = .ok (.iload_n 2, 1) := by decide +kernel
theorem dX5_countRedexes_5 : decode cX5_countRedexes 5 = .ok (.aload_n 0, 1) := by decide +kernel
theorem dX5_countRedexes_6 : decode cX5_countRedexes 6 = .ok (.invokevirtual 32, 3) := by decide +kernel
theorem dX5_countRedexes_9 : decode cX5_countRedexes 9 = .ok (.if_icmp .ge 20, 3) := by decide +kernel
theorem dX5_countRedexes_12 : decode cX5_countRedexes 12 = .ok (.aload_n 0, 1) := by decide +kernel
theorem dX5_countRedexes_13 : decode cX5_countRedexes 13 = .ok (.iload_n 2, 1) := by decide +kernel
theorem dX5_countRedexes_14 : decode cX5_countRedexes 14 = .ok (.invokestatic 36, 3) := by decide +kernel
theorem dX5_countRedexes_17 : decode cX5_countRedexes 17 = .ok (.ifCond .eq 6, 3) := by decide +kernel
theorem dX5_countRedexes_20 : decode cX5_countRedexes 20 = .ok (.iinc 1 1, 3) := by decide +kernel
theorem dX5_countRedexes_23 : decode cX5_countRedexes 23 = .ok (.iinc 2 1, 3) := by decide +kernel
theorem dX5_countRedexes_26 : decode cX5_countRedexes 26 = .ok (.goto (-22), 3) := by decide +kernel
theorem dX5_countRedexes_29 : decode cX5_countRedexes 29 = .ok (.iload_n 1, 1) := by decide +kernel
theorem dX5_countRedexes_30 : decode cX5_countRedexes 30 = .ok (.ireturn, 1) := by decide +kernel
theorem dX5_nextRedex_0 : decode cX5_nextRedex 0 = .ok (.iload_n 1, 1) := by decide +kernel
theorem dX5_nextRedex_1 : decode cX5_nextRedex 1 = .ok (.istore_n 2, 1) := by decide +kernel
theorem dX5_nextRedex_2 : decode cX5_nextRedex 2 = .ok (.iload_n 2, 1) := by decide +kernel
theorem dX5_nextRedex_3 : decode cX5_nextRedex 3 = .ok (.aload_n 0, 1) := by decide +kernel
theorem dX5_nextRedex_4 : decode cX5_nextRedex 4 = .ok (.invokevirtual 32, 3) := by decide +kernel
theorem dX5_nextRedex_7 : decode cX5_nextRedex 7 = .ok (.if_icmp .ge 19, 3) := by decide +kernel
theorem dX5_nextRedex_10 : decode cX5_nextRedex 10 = .ok (.aload_n 0, 1) := by decide +kernel
theorem dX5_nextRedex_11 : decode cX5_nextRedex 11 = .ok (.iload_n 2, 1) := by decide +kernel
theorem dX5_nextRedex_12 : decode cX5_nextRedex 12 = .ok (.invokestatic 36, 3) := by decide +kernel
theorem dX5_nextRedex_15 : decode cX5_nextRedex 15 = .ok (.ifCond .eq 5, 3) := by decide +kernel
theorem dX5_nextRedex_18 : decode cX5_nextRedex 18 = .ok (.iload_n 2, 1) := by decide +kernel
theorem dX5_nextRedex_19 : decode cX5_nextRedex 19 = .ok (.ireturn, 1) := by decide +kernel
theorem dX5_nextRedex_20 : decode cX5_nextRedex 20 = .ok (.iinc 2 1, 3) := by decide +kernel
theorem dX5_nextRedex_23 : decode cX5_nextRedex 23 = .ok (.goto (-21), 3) := by decide +kernel
theorem dX5_nextRedex_26 : decode cX5_nextRedex 26 = .ok (.bipush (-9), 2) := by decide +kernel
theorem dX5_nextRedex_28 : decode cX5_nextRedex 28 = .ok (.ireturn, 1) := by decide +kernel
theorem dX5_numberedRedex_0 : decode cX5_numberedRedex 0 = .ok (.iconst 0, 1) := by decide +kernel
theorem dX5_numberedRedex_1 : decode cX5_numberedRedex 1 = .ok (.istore_n 2, 1) := by decide +kernel
theorem dX5_numberedRedex_2 : decode cX5_numberedRedex 2 = .ok (.iconst 0, 1) := by decide +kernel
theorem dX5_numberedRedex_3 : decode cX5_numberedRedex 3 = .ok (.istore_n 3, 1) := by decide +kernel
theorem dX5_numberedRedex_4 : decode cX5_numberedRedex 4 = .ok (.iload_n 3, 1) := by decide +kernel
theorem dX5_numberedRedex_5 : decode cX5_numberedRedex 5 = .ok (.aload_n 0, 1) := by decide +kernel
theorem dX5_numberedRedex_6 : decode cX5_numberedRedex 6 = .ok (.invokevirtual 32, 3) := by decide +kernel
theorem dX5_numberedRedex_9 : decode cX5_numberedRedex 9 = .ok (.if_icmp .ge 27, 3) := by decide +kernel
theorem dX5_numberedRedex_12 : decode cX5_numberedRedex 12 = .ok (.aload_n 0, 1) := by decide +kernel
theorem dX5_numberedRedex_13 : decode cX5_numberedRedex 13 = .ok (.iload_n 3, 1) := by decide +kernel
theorem dX5_numberedRedex_14 : decode cX5_numberedRedex 14 = .ok (.invokestatic 36, 3) := by decide +kernel
theorem dX5_numberedRedex_17 : decode cX5_numberedRedex 17 = .ok (.ifCond .eq 13, 3) := by decide +kernel
theorem dX5_numberedRedex_20 : decode cX5_numberedRedex 20 = .ok (.iload_n 2, 1) := by decide +kernel
theorem dX5_numberedRedex_21 : decode cX5_numberedRedex 21 = .ok (.iload_n 1, 1) := by decide +kernel
theorem dX5_numberedRedex_22 : decode cX5_numberedRedex 22 = .ok (.if_icmp .ne 5, 3) := by decide +kernel
theorem dX5_numberedRedex_25 : decode cX5_numberedRedex 25 = .ok (.iload_n 3, 1) := by decide +kernel
theorem dX5_numberedRedex_26 : decode cX5_numberedRedex 26 = .ok (.ireturn, 1) := by decide +kernel
theorem dX5_numberedRedex_27 : decode cX5_numberedRedex 27 = .ok (.iinc 2 1, 3) := by decide +kernel
theorem dX5_numberedRedex_30 : decode cX5_numberedRedex 30 = .ok (.iinc 3 1, 3) := by decide +kernel
theorem dX5_numberedRedex_33 : decode cX5_numberedRedex 33 = .ok (.goto (-29), 3) := by decide +kernel
theorem dX5_numberedRedex_36 : decode cX5_numberedRedex 36 = .ok (.bipush (-9), 2) := by decide +kernel
theorem dX5_numberedRedex_38 : decode cX5_numberedRedex 38 = .ok (.ireturn, 1) := by decide +kernel
theorem dX5_choose_0 : decode cX5_choose 0 = .ok (.iload_n 1, 1) := by decide +kernel
theorem dX5_choose_1 : decode cX5_choose 1 = .ok (.tableswitch 52 0 3 #[31, 37, 42, 47], 31) := by decide +kernel
theorem dX5_choose_32 : decode cX5_choose 32 = .ok (.aload_n 0, 1) := by decide +kernel
theorem dX5_choose_33 : decode cX5_choose 33 = .ok (.iconst 0, 1) := by decide +kernel
theorem dX5_choose_34 : decode cX5_choose 34 = .ok (.invokestatic 40, 3) := by decide +kernel
theorem dX5_choose_37 : decode cX5_choose 37 = .ok (.ireturn, 1) := by decide +kernel
theorem dX5_choose_38 : decode cX5_choose 38 = .ok (.aload_n 0, 1) := by decide +kernel
theorem dX5_choose_39 : decode cX5_choose 39 = .ok (.invokestatic 44, 3) := by decide +kernel
theorem dX5_choose_42 : decode cX5_choose 42 = .ok (.ireturn, 1) := by decide +kernel
theorem dX5_choose_43 : decode cX5_choose 43 = .ok (.aload_n 0, 1) := by decide +kernel
theorem dX5_choose_44 : decode cX5_choose 44 = .ok (.invokestatic 48, 3) := by decide +kernel
theorem dX5_choose_47 : decode cX5_choose 47 = .ok (.ireturn, 1) := by decide +kernel
theorem dX5_choose_48 : decode cX5_choose 48 = .ok (.aload_n 0, 1) := by decide +kernel
theorem dX5_choose_49 : decode cX5_choose 49 = .ok (.invokestatic 51, 3) := by decide +kernel
theorem dX5_choose_52 : decode cX5_choose 52 = .ok (.ireturn, 1) := by decide +kernel
theorem dX5_choose_53 : decode cX5_choose 53 = .ok (.bipush (-9), 2) := by decide +kernel
theorem dX5_choose_55 : decode cX5_choose 55 = .ok (.ireturn, 1) := by decide +kernel
theorem dX5_leftmostInnermost_0 : decode cX5_leftmostInnermost 0 = .ok (.bipush (-9), 2) := by decide +kernel
theorem dX5_leftmostInnermost_2 : decode cX5_leftmostInnermost 2 = .ok (.istore_n 1, 1) := by decide +kernel
theorem dX5_leftmostInnermost_3 : decode cX5_leftmostInnermost 3 = .ok (.iconst 0, 1) := by decide +kernel
theorem dX5_leftmostInnermost_4 : decode cX5_leftmostInnermost 4 = .ok (.istore_n 2, 1) := by decide +kernel
theorem dX5_leftmostInnermost_5 : decode cX5_leftmostInnermost 5 = .ok (.iconst 0, 1) := by decide +kernel
theorem dX5_leftmostInnermost_6 : decode cX5_leftmostInnermost 6 = .ok (.istore_n 3, 1) := by decide +kernel
theorem dX5_leftmostInnermost_7 : decode cX5_leftmostInnermost 7 = .ok (.iload_n 3, 1) := by decide +kernel
theorem dX5_leftmostInnermost_8 : decode cX5_leftmostInnermost 8 = .ok (.aload_n 0, 1) := by decide +kernel
theorem dX5_leftmostInnermost_9 : decode cX5_leftmostInnermost 9 = .ok (.invokevirtual 32, 3) := by decide +kernel
theorem dX5_leftmostInnermost_12 : decode cX5_leftmostInnermost 12 = .ok (.if_icmp .ge 46, 3) := by decide +kernel
theorem dX5_leftmostInnermost_15 : decode cX5_leftmostInnermost 15 = .ok (.aload_n 0, 1) := by decide +kernel
theorem dX5_leftmostInnermost_16 : decode cX5_leftmostInnermost 16 = .ok (.iload_n 3, 1) := by decide +kernel
theorem dX5_leftmostInnermost_17 : decode cX5_leftmostInnermost 17 = .ok (.invokestatic 36, 3) := by decide +kernel
theorem dX5_leftmostInnermost_20 : decode cX5_leftmostInnermost 20 = .ok (.ifCond .eq 7, 3) := by decide +kernel
theorem dX5_leftmostInnermost_23 : decode cX5_leftmostInnermost 23 = .ok (.iload_n 3, 1) := by decide +kernel
theorem dX5_leftmostInnermost_24 : decode cX5_leftmostInnermost 24 = .ok (.istore_n 1, 1) := by decide +kernel
theorem dX5_leftmostInnermost_25 : decode cX5_leftmostInnermost 25 = .ok (.iconst 1, 1) := by decide +kernel
theorem dX5_leftmostInnermost_26 : decode cX5_leftmostInnermost 26 = .ok (.istore_n 2, 1) := by decide +kernel
theorem dX5_leftmostInnermost_27 : decode cX5_leftmostInnermost 27 = .ok (.iload_n 2, 1) := by decide +kernel
theorem dX5_leftmostInnermost_28 : decode cX5_leftmostInnermost 28 = .ok (.aload_n 0, 1) := by decide +kernel
theorem dX5_leftmostInnermost_29 : decode cX5_leftmostInnermost 29 = .ok (.iload_n 3, 1) := by decide +kernel
theorem dX5_leftmostInnermost_30 : decode cX5_leftmostInnermost 30 = .ok (.invokevirtual 28, 3) := by decide +kernel
theorem dX5_leftmostInnermost_33 : decode cX5_leftmostInnermost 33 = .ok (.invokestatic 54, 3) := by decide +kernel
theorem dX5_leftmostInnermost_36 : decode cX5_leftmostInnermost 36 = .ok (.iconst 1, 1) := by decide +kernel
theorem dX5_leftmostInnermost_37 : decode cX5_leftmostInnermost 37 = .ok (.isub, 1) := by decide +kernel
theorem dX5_leftmostInnermost_38 : decode cX5_leftmostInnermost 38 = .ok (.iadd, 1) := by decide +kernel
theorem dX5_leftmostInnermost_39 : decode cX5_leftmostInnermost 39 = .ok (.istore_n 2, 1) := by decide +kernel
theorem dX5_leftmostInnermost_40 : decode cX5_leftmostInnermost 40 = .ok (.iload_n 1, 1) := by decide +kernel
theorem dX5_leftmostInnermost_41 : decode cX5_leftmostInnermost 41 = .ok (.bipush (-9), 2) := by decide +kernel
theorem dX5_leftmostInnermost_43 : decode cX5_leftmostInnermost 43 = .ok (.if_icmp .eq 9, 3) := by decide +kernel
theorem dX5_leftmostInnermost_46 : decode cX5_leftmostInnermost 46 = .ok (.iload_n 2, 1) := by decide +kernel
theorem dX5_leftmostInnermost_47 : decode cX5_leftmostInnermost 47 = .ok (.ifCond .ne 5, 3) := by decide +kernel
theorem dX5_leftmostInnermost_50 : decode cX5_leftmostInnermost 50 = .ok (.iload_n 1, 1) := by decide +kernel
theorem dX5_leftmostInnermost_51 : decode cX5_leftmostInnermost 51 = .ok (.ireturn, 1) := by decide +kernel
theorem dX5_leftmostInnermost_52 : decode cX5_leftmostInnermost 52 = .ok (.iinc 3 1, 3) := by decide +kernel
theorem dX5_leftmostInnermost_55 : decode cX5_leftmostInnermost 55 = .ok (.goto (-48), 3) := by decide +kernel
theorem dX5_leftmostInnermost_58 : decode cX5_leftmostInnermost 58 = .ok (.iload_n 1, 1) := by decide +kernel
theorem dX5_leftmostInnermost_59 : decode cX5_leftmostInnermost 59 = .ok (.ireturn, 1) := by decide +kernel
theorem dX5_lastRedex_0 : decode cX5_lastRedex 0 = .ok (.aload_n 0, 1) := by decide +kernel
theorem dX5_lastRedex_1 : decode cX5_lastRedex 1 = .ok (.invokevirtual 32, 3) := by decide +kernel
theorem dX5_lastRedex_4 : decode cX5_lastRedex 4 = .ok (.iconst 1, 1) := by decide +kernel
theorem dX5_lastRedex_5 : decode cX5_lastRedex 5 = .ok (.isub, 1) := by decide +kernel
theorem dX5_lastRedex_6 : decode cX5_lastRedex 6 = .ok (.istore_n 1, 1) := by decide +kernel
theorem dX5_lastRedex_7 : decode cX5_lastRedex 7 = .ok (.iload_n 1, 1) := by decide +kernel
theorem dX5_lastRedex_8 : decode cX5_lastRedex 8 = .ok (.ifCond .lt 19, 3) := by decide +kernel
theorem dX5_lastRedex_11 : decode cX5_lastRedex 11 = .ok (.aload_n 0, 1) := by decide +kernel
theorem dX5_lastRedex_12 : decode cX5_lastRedex 12 = .ok (.iload_n 1, 1) := by decide +kernel
theorem dX5_lastRedex_13 : decode cX5_lastRedex 13 = .ok (.invokestatic 36, 3) := by decide +kernel
theorem dX5_lastRedex_16 : decode cX5_lastRedex 16 = .ok (.ifCond .eq 5, 3) := by decide +kernel
theorem dX5_lastRedex_19 : decode cX5_lastRedex 19 = .ok (.iload_n 1, 1) := by decide +kernel
theorem dX5_lastRedex_20 : decode cX5_lastRedex 20 = .ok (.ireturn, 1) := by decide +kernel
theorem dX5_lastRedex_21 : decode cX5_lastRedex 21 = .ok (.iinc 1 (-1), 3) := by decide +kernel
theorem dX5_lastRedex_24 : decode cX5_lastRedex 24 = .ok (.goto (-17), 3) := by decide +kernel
theorem dX5_lastRedex_27 : decode cX5_lastRedex 27 = .ok (.bipush (-9), 2) := by decide +kernel
theorem dX5_lastRedex_29 : decode cX5_lastRedex 29 = .ok (.ireturn, 1) := by decide +kernel
theorem dX5_weakHead_0 : decode cX5_weakHead 0 = .ok (.iconst 0, 1) := by decide +kernel
theorem dX5_weakHead_1 : decode cX5_weakHead 1 = .ok (.istore_n 1, 1) := by decide +kernel
theorem dX5_weakHead_2 : decode cX5_weakHead 2 = .ok (.iload_n 1, 1) := by decide +kernel
theorem dX5_weakHead_3 : decode cX5_weakHead 3 = .ok (.aload_n 0, 1) := by decide +kernel
theorem dX5_weakHead_4 : decode cX5_weakHead 4 = .ok (.invokevirtual 32, 3) := by decide +kernel
theorem dX5_weakHead_7 : decode cX5_weakHead 7 = .ok (.if_icmp .ge 30, 3) := by decide +kernel
theorem dX5_weakHead_10 : decode cX5_weakHead 10 = .ok (.aload_n 0, 1) := by decide +kernel
theorem dX5_weakHead_11 : decode cX5_weakHead 11 = .ok (.iload_n 1, 1) := by decide +kernel
theorem dX5_weakHead_12 : decode cX5_weakHead 12 = .ok (.invokevirtual 28, 3) := by decide +kernel
theorem dX5_weakHead_15 : decode cX5_weakHead 15 = .ok (.sipush 1000, 3) := by decide +kernel
theorem dX5_weakHead_18 : decode cX5_weakHead 18 = .ok (.if_icmp .ne 19, 3) := by decide +kernel
theorem dX5_weakHead_21 : decode cX5_weakHead 21 = .ok (.aload_n 0, 1) := by decide +kernel
theorem dX5_weakHead_22 : decode cX5_weakHead 22 = .ok (.iload_n 1, 1) := by decide +kernel
theorem dX5_weakHead_23 : decode cX5_weakHead 23 = .ok (.invokestatic 36, 3) := by decide +kernel
theorem dX5_weakHead_26 : decode cX5_weakHead 26 = .ok (.ifCond .eq 5, 3) := by decide +kernel
theorem dX5_weakHead_29 : decode cX5_weakHead 29 = .ok (.iload_n 1, 1) := by decide +kernel
theorem dX5_weakHead_30 : decode cX5_weakHead 30 = .ok (.ireturn, 1) := by decide +kernel
theorem dX5_weakHead_31 : decode cX5_weakHead 31 = .ok (.iinc 1 1, 3) := by decide +kernel
theorem dX5_weakHead_34 : decode cX5_weakHead 34 = .ok (.goto (-32), 3) := by decide +kernel
theorem dX5_weakHead_37 : decode cX5_weakHead 37 = .ok (.bipush (-9), 2) := by decide +kernel
theorem dX5_weakHead_39 : decode cX5_weakHead 39 = .ok (.ireturn, 1) := by decide +kernel
theorem dX5_perform_0 : decode cX5_perform 0 = .ok (.iconst 0, 1) := by decide +kernel
theorem dX5_perform_1 : decode cX5_perform 1 = .ok (.istore 4, 2) := by decide +kernel
theorem dX5_perform_3 : decode cX5_perform 3 = .ok (.iload 4, 2) := by decide +kernel
theorem dX5_perform_5 : decode cX5_perform 5 = .ok (.iload_n 3, 1) := by decide +kernel
theorem dX5_perform_6 : decode cX5_perform 6 = .ok (.if_icmp .ge 22, 3) := by decide +kernel
theorem dX5_perform_9 : decode cX5_perform 9 = .ok (.aload_n 0, 1) := by decide +kernel
theorem dX5_perform_10 : decode cX5_perform 10 = .ok (.aload_n 1, 1) := by decide +kernel
theorem dX5_perform_11 : decode cX5_perform 11 = .ok (.aload_n 1, 1) := by decide +kernel
theorem dX5_perform_12 : decode cX5_perform 12 = .ok (.iload_n 2, 1) := by decide +kernel
theorem dX5_perform_13 : decode cX5_perform 13 = .ok (.invokestatic 57, 3) := by decide +kernel
theorem dX5_perform_16 : decode cX5_perform 16 = .ok (.invokevirtual 60, 3) := by decide +kernel
theorem dX5_perform_19 : decode cX5_perform 19 = .ok (.ifCond .eq 9, 3) := by decide +kernel
theorem dX5_perform_22 : decode cX5_perform 22 = .ok (.iinc 4 1, 3) := by decide +kernel
theorem dX5_perform_25 : decode cX5_perform 25 = .ok (.goto (-22), 3) := by decide +kernel
theorem dX5_perform_28 : decode cX5_perform 28 = .ok (.iload 4, 2) := by decide +kernel
theorem dX5_perform_30 : decode cX5_perform 30 = .ok (.ireturn, 1) := by decide +kernel
theorem dX5_contract_0 : decode cX5_contract 0 = .ok (.aload_n 1, 1) := by decide +kernel
theorem dX5_contract_1 : decode cX5_contract 1 = .ok (.iload_n 2, 1) := by decide +kernel
theorem dX5_contract_2 : decode cX5_contract 2 = .ok (.invokestatic 36, 3) := by decide +kernel
theorem dX5_contract_5 : decode cX5_contract 5 = .ok (.ifCond .ne 5, 3) := by decide +kernel
theorem dX5_contract_8 : decode cX5_contract 8 = .ok (.iconst 0, 1) := by decide +kernel
theorem dX5_contract_9 : decode cX5_contract 9 = .ok (.ireturn, 1) := by decide +kernel
theorem dX5_contract_10 : decode cX5_contract 10 = .ok (.aload_n 0, 1) := by decide +kernel
theorem dX5_contract_11 : decode cX5_contract 11 = .ok (.getfield 12, 3) := by decide +kernel
theorem dX5_contract_14 : decode cX5_contract 14 = .ok (.aload_n 1, 1) := by decide +kernel
theorem dX5_contract_15 : decode cX5_contract 15 = .ok (.invokevirtual 63, 3) := by decide +kernel
theorem dX5_contract_18 : decode cX5_contract 18 = .ok (.aload_n 0, 1) := by decide +kernel
theorem dX5_contract_19 : decode cX5_contract 19 = .ok (.getfield 12, 3) := by decide +kernel
theorem dX5_contract_22 : decode cX5_contract 22 = .ok (.iload_n 2, 1) := by decide +kernel
theorem dX5_contract_23 : decode cX5_contract 23 = .ok (.iconst 1, 1) := by decide +kernel
theorem dX5_contract_24 : decode cX5_contract 24 = .ok (.iadd, 1) := by decide +kernel
theorem dX5_contract_25 : decode cX5_contract 25 = .ok (.invokevirtual 67, 3) := by decide +kernel
theorem dX5_contract_28 : decode cX5_contract 28 = .ok (.istore_n 3, 1) := by decide +kernel
theorem dX5_contract_29 : decode cX5_contract 29 = .ok (.aload_n 0, 1) := by decide +kernel
theorem dX5_contract_30 : decode cX5_contract 30 = .ok (.getfield 12, 3) := by decide +kernel
theorem dX5_contract_33 : decode cX5_contract 33 = .ok (.iload_n 3, 1) := by decide +kernel
theorem dX5_contract_34 : decode cX5_contract 34 = .ok (.invokevirtual 67, 3) := by decide +kernel
theorem dX5_contract_37 : decode cX5_contract 37 = .ok (.istore 4, 2) := by decide +kernel
theorem dX5_contract_39 : decode cX5_contract 39 = .ok (.aload_n 0, 1) := by decide +kernel
theorem dX5_contract_40 : decode cX5_contract 40 = .ok (.getfield 24, 3) := by decide +kernel
theorem dX5_contract_43 : decode cX5_contract 43 = .ok (.invokevirtual 70, 3) := by decide +kernel
theorem dX5_contract_46 : decode cX5_contract 46 = .ok (.aload_n 0, 1) := by decide +kernel
theorem dX5_contract_47 : decode cX5_contract 47 = .ok (.getfield 24, 3) := by decide +kernel
theorem dX5_contract_50 : decode cX5_contract 50 = .ok (.aload_n 1, 1) := by decide +kernel
theorem dX5_contract_51 : decode cX5_contract 51 = .ok (.iconst 0, 1) := by decide +kernel
theorem dX5_contract_52 : decode cX5_contract 52 = .ok (.iload_n 2, 1) := by decide +kernel
theorem dX5_contract_53 : decode cX5_contract 53 = .ok (.invokevirtual 73, 3) := by decide +kernel
theorem dX5_contract_56 : decode cX5_contract 56 = .ok (.aload_n 0, 1) := by decide +kernel
theorem dX5_contract_57 : decode cX5_contract 57 = .ok (.aload_n 1, 1) := by decide +kernel
theorem dX5_contract_58 : decode cX5_contract 58 = .ok (.iload_n 2, 1) := by decide +kernel
theorem dX5_contract_59 : decode cX5_contract 59 = .ok (.iconst 2, 1) := by decide +kernel
theorem dX5_contract_60 : decode cX5_contract 60 = .ok (.iadd, 1) := by decide +kernel
theorem dX5_contract_61 : decode cX5_contract 61 = .ok (.iload_n 3, 1) := by decide +kernel
theorem dX5_contract_62 : decode cX5_contract 62 = .ok (.iload 4, 2) := by decide +kernel
theorem dX5_contract_64 : decode cX5_contract 64 = .ok (.invokevirtual 77, 3) := by decide +kernel
theorem dX5_contract_67 : decode cX5_contract 67 = .ok (.aload_n 0, 1) := by decide +kernel
theorem dX5_contract_68 : decode cX5_contract 68 = .ok (.getfield 24, 3) := by decide +kernel
theorem dX5_contract_71 : decode cX5_contract 71 = .ok (.aload_n 1, 1) := by decide +kernel
theorem dX5_contract_72 : decode cX5_contract 72 = .ok (.iload 4, 2) := by decide +kernel
theorem dX5_contract_74 : decode cX5_contract 74 = .ok (.aload_n 1, 1) := by decide +kernel
theorem dX5_contract_75 : decode cX5_contract 75 = .ok (.invokevirtual 32, 3) := by decide +kernel
theorem dX5_contract_78 : decode cX5_contract 78 = .ok (.invokevirtual 73, 3) := by decide +kernel
theorem dX5_contract_81 : decode cX5_contract 81 = .ok (.aload_n 0, 1) := by decide +kernel
theorem dX5_contract_82 : decode cX5_contract 82 = .ok (.aload_n 1, 1) := by decide +kernel
theorem dX5_contract_83 : decode cX5_contract 83 = .ok (.invokevirtual 81, 3) := by decide +kernel
theorem dX5_contract_86 : decode cX5_contract 86 = .ok (.ireturn, 1) := by decide +kernel
theorem dX5_addContracted_0 : decode cX5_addContracted 0 = .ok (.aload_n 0, 1) := by decide +kernel
theorem dX5_addContracted_1 : decode cX5_addContracted 1 = .ok (.getfield 12, 3) := by decide +kernel
theorem dX5_addContracted_4 : decode cX5_addContracted 4 = .ok (.iload_n 2, 1) := by decide +kernel
theorem dX5_addContracted_5 : decode cX5_addContracted 5 = .ok (.invokevirtual 85, 3) := by decide +kernel
theorem dX5_addContracted_8 : decode cX5_addContracted 8 = .ok (.istore 5, 2) := by decide +kernel
theorem dX5_addContracted_10 : decode cX5_addContracted 10 = .ok (.iload_n 2, 1) := by decide +kernel
theorem dX5_addContracted_11 : decode cX5_addContracted 11 = .ok (.istore 6, 2) := by decide +kernel
theorem dX5_addContracted_13 : decode cX5_addContracted 13 = .ok (.iload 6, 2) := by decide +kernel
theorem dX5_addContracted_15 : decode cX5_addContracted 15 = .ok (.iload_n 3, 1) := by decide +kernel
theorem dX5_addContracted_16 : decode cX5_addContracted 16 = .ok (.if_icmp .ge 103, 3) := by decide +kernel
theorem dX5_addContracted_19 : decode cX5_addContracted 19 = .ok (.aload_n 0, 1) := by decide +kernel
theorem dX5_addContracted_20 : decode cX5_addContracted 20 = .ok (.getfield 24, 3) := by decide +kernel
theorem dX5_addContracted_23 : decode cX5_addContracted 23 = .ok (.invokevirtual 88, 3) := by decide +kernel
theorem dX5_addContracted_26 : decode cX5_addContracted 26 = .ok (.ifCond .ne 93, 3) := by decide +kernel
theorem dX5_addContracted_29 : decode cX5_addContracted 29 = .ok (.aload_n 1, 1) := by decide +kernel
theorem dX5_addContracted_30 : decode cX5_addContracted 30 = .ok (.iload 6, 2) := by decide +kernel
theorem dX5_addContracted_32 : decode cX5_addContracted 32 = .ok (.invokevirtual 28, 3) := by decide +kernel
theorem dX5_addContracted_35 : decode cX5_addContracted 35 = .ok (.istore 7, 2) := by decide +kernel
theorem dX5_addContracted_37 : decode cX5_addContracted 37 = .ok (.aload_n 0, 1) := by decide +kernel
theorem dX5_addContracted_38 : decode cX5_addContracted 38 = .ok (.getfield 12, 3) := by decide +kernel
theorem dX5_addContracted_41 : decode cX5_addContracted 41 = .ok (.iload 6, 2) := by decide +kernel
theorem dX5_addContracted_43 : decode cX5_addContracted 43 = .ok (.invokevirtual 85, 3) := by decide +kernel
theorem dX5_addContracted_46 : decode cX5_addContracted 46 = .ok (.iload 5, 2) := by decide +kernel
theorem dX5_addContracted_48 : decode cX5_addContracted 48 = .ok (.isub, 1) := by decide +kernel
theorem dX5_addContracted_49 : decode cX5_addContracted 49 = .ok (.istore 8, 2) := by decide +kernel
theorem dX5_addContracted_51 : decode cX5_addContracted 51 = .ok (.iload 7, 2) := by decide +kernel
theorem dX5_addContracted_53 : decode cX5_addContracted 53 = .ok (.invokestatic 92, 3) := by decide +kernel
theorem dX5_addContracted_56 : decode cX5_addContracted 56 = .ok (.ifCond .eq 10, 3) := by decide +kernel
theorem dX5_addContracted_59 : decode cX5_addContracted 59 = .ok (.iload 7, 2) := by decide +kernel
theorem dX5_addContracted_61 : decode cX5_addContracted 61 = .ok (.iload 8, 2) := by decide +kernel
theorem dX5_addContracted_63 : decode cX5_addContracted 63 = .ok (.if_icmp .ge 15, 3) := by decide +kernel
theorem dX5_addContracted_66 : decode cX5_addContracted 66 = .ok (.aload_n 0, 1) := by decide +kernel
theorem dX5_addContracted_67 : decode cX5_addContracted 67 = .ok (.getfield 24, 3) := by decide +kernel
theorem dX5_addContracted_70 : decode cX5_addContracted 70 = .ok (.iload 7, 2) := by decide +kernel
theorem dX5_addContracted_72 : decode cX5_addContracted 72 = .ok (.invokevirtual 96, 3) := by decide +kernel
theorem dX5_addContracted_75 : decode cX5_addContracted 75 = .ok (.goto 38, 3) := by decide +kernel
theorem dX5_addContracted_78 : decode cX5_addContracted 78 = .ok (.iload 7, 2) := by decide +kernel
theorem dX5_addContracted_80 : decode cX5_addContracted 80 = .ok (.iload 8, 2) := by decide +kernel
theorem dX5_addContracted_82 : decode cX5_addContracted 82 = .ok (.if_icmp .ne 20, 3) := by decide +kernel
theorem dX5_addContracted_85 : decode cX5_addContracted 85 = .ok (.aload_n 0, 1) := by decide +kernel
theorem dX5_addContracted_86 : decode cX5_addContracted 86 = .ok (.aload_n 1, 1) := by decide +kernel
theorem dX5_addContracted_87 : decode cX5_addContracted 87 = .ok (.aload_n 0, 1) := by decide +kernel
theorem dX5_addContracted_88 : decode cX5_addContracted 88 = .ok (.getfield 12, 3) := by decide +kernel
theorem dX5_addContracted_91 : decode cX5_addContracted 91 = .ok (.iload_n 3, 1) := by decide +kernel
theorem dX5_addContracted_92 : decode cX5_addContracted 92 = .ok (.iload 4, 2) := by decide +kernel
theorem dX5_addContracted_94 : decode cX5_addContracted 94 = .ok (.iload 8, 2) := by decide +kernel
theorem dX5_addContracted_96 : decode cX5_addContracted 96 = .ok (.invokevirtual 100, 3) := by decide +kernel
theorem dX5_addContracted_99 : decode cX5_addContracted 99 = .ok (.goto 14, 3) := by decide +kernel
theorem dX5_addContracted_102 : decode cX5_addContracted 102 = .ok (.aload_n 0, 1) := by decide +kernel
theorem dX5_addContracted_103 : decode cX5_addContracted 103 = .ok (.getfield 24, 3) := by decide +kernel
theorem dX5_addContracted_106 : decode cX5_addContracted 106 = .ok (.iload 7, 2) := by decide +kernel
theorem dX5_addContracted_108 : decode cX5_addContracted 108 = .ok (.iconst 1, 1) := by decide +kernel
theorem dX5_addContracted_109 : decode cX5_addContracted 109 = .ok (.isub, 1) := by decide +kernel
theorem dX5_addContracted_110 : decode cX5_addContracted 110 = .ok (.invokevirtual 96, 3) := by decide +kernel
theorem dX5_addContracted_113 : decode cX5_addContracted 113 = .ok (.iinc 6 1, 3) := by decide +kernel
theorem dX5_addContracted_116 : decode cX5_addContracted 116 = .ok (.goto (-103), 3) := by decide +kernel
theorem dX5_addContracted_119 : decode cX5_addContracted 119 = .ok (.return_, 1) := by decide +kernel
theorem dX5_replaceFree_0 : decode cX5_replaceFree 0 = .ok (.aload_n 0, 1) := by decide +kernel
theorem dX5_replaceFree_1 : decode cX5_replaceFree 1 = .ok (.getfield 12, 3) := by decide +kernel
theorem dX5_replaceFree_4 : decode cX5_replaceFree 4 = .ok (.aload_n 1, 1) := by decide +kernel
theorem dX5_replaceFree_5 : decode cX5_replaceFree 5 = .ok (.invokevirtual 63, 3) := by decide +kernel
theorem dX5_replaceFree_8 : decode cX5_replaceFree 8 = .ok (.aload_n 0, 1) := by decide +kernel
theorem dX5_replaceFree_9 : decode cX5_replaceFree 9 = .ok (.getfield 18, 3) := by decide +kernel
theorem dX5_replaceFree_12 : decode cX5_replaceFree 12 = .ok (.aload_n 3, 1) := by decide +kernel
theorem dX5_replaceFree_13 : decode cX5_replaceFree 13 = .ok (.invokevirtual 63, 3) := by decide +kernel
theorem dX5_replaceFree_16 : decode cX5_replaceFree 16 = .ok (.aload_n 0, 1) := by decide +kernel
theorem dX5_replaceFree_17 : decode cX5_replaceFree 17 = .ok (.getfield 24, 3) := by decide +kernel
theorem dX5_replaceFree_20 : decode cX5_replaceFree 20 = .ok (.invokevirtual 70, 3) := by decide +kernel
theorem dX5_replaceFree_23 : decode cX5_replaceFree 23 = .ok (.iconst 0, 1) := by decide +kernel
theorem dX5_replaceFree_24 : decode cX5_replaceFree 24 = .ok (.istore 4, 2) := by decide +kernel
theorem dX5_replaceFree_26 : decode cX5_replaceFree 26 = .ok (.iload 4, 2) := by decide +kernel
theorem dX5_replaceFree_28 : decode cX5_replaceFree 28 = .ok (.aload_n 1, 1) := by decide +kernel
theorem dX5_replaceFree_29 : decode cX5_replaceFree 29 = .ok (.invokevirtual 32, 3) := by decide +kernel
theorem dX5_replaceFree_32 : decode cX5_replaceFree 32 = .ok (.if_icmp .ge 83, 3) := by decide +kernel
theorem dX5_replaceFree_35 : decode cX5_replaceFree 35 = .ok (.aload_n 0, 1) := by decide +kernel
theorem dX5_replaceFree_36 : decode cX5_replaceFree 36 = .ok (.getfield 24, 3) := by decide +kernel
theorem dX5_replaceFree_39 : decode cX5_replaceFree 39 = .ok (.invokevirtual 88, 3) := by decide +kernel
theorem dX5_replaceFree_42 : decode cX5_replaceFree 42 = .ok (.ifCond .ne 73, 3) := by decide +kernel
theorem dX5_replaceFree_45 : decode cX5_replaceFree 45 = .ok (.aload_n 1, 1) := by decide +kernel
theorem dX5_replaceFree_46 : decode cX5_replaceFree 46 = .ok (.iload 4, 2) := by decide +kernel
theorem dX5_replaceFree_48 : decode cX5_replaceFree 48 = .ok (.invokevirtual 28, 3) := by decide +kernel
theorem dX5_replaceFree_51 : decode cX5_replaceFree 51 = .ok (.istore 5, 2) := by decide +kernel
theorem dX5_replaceFree_53 : decode cX5_replaceFree 53 = .ok (.aload_n 0, 1) := by decide +kernel
theorem dX5_replaceFree_54 : decode cX5_replaceFree 54 = .ok (.getfield 12, 3) := by decide +kernel
theorem dX5_replaceFree_57 : decode cX5_replaceFree 57 = .ok (.iload 4, 2) := by decide +kernel
theorem dX5_replaceFree_59 : decode cX5_replaceFree 59 = .ok (.invokevirtual 85, 3) := by decide +kernel
theorem dX5_replaceFree_62 : decode cX5_replaceFree 62 = .ok (.istore 6, 2) := by decide +kernel
theorem dX5_replaceFree_64 : decode cX5_replaceFree 64 = .ok (.iload 5, 2) := by decide +kernel
theorem dX5_replaceFree_66 : decode cX5_replaceFree 66 = .ok (.invokestatic 92, 3) := by decide +kernel
theorem dX5_replaceFree_69 : decode cX5_replaceFree 69 = .ok (.ifCond .eq 31, 3) := by decide +kernel
theorem dX5_replaceFree_72 : decode cX5_replaceFree 72 = .ok (.iload 5, 2) := by decide +kernel
theorem dX5_replaceFree_74 : decode cX5_replaceFree 74 = .ok (.iload 6, 2) := by decide +kernel
theorem dX5_replaceFree_76 : decode cX5_replaceFree 76 = .ok (.isub, 1) := by decide +kernel
theorem dX5_replaceFree_77 : decode cX5_replaceFree 77 = .ok (.iload_n 2, 1) := by decide +kernel
theorem dX5_replaceFree_78 : decode cX5_replaceFree 78 = .ok (.if_icmp .ne 22, 3) := by decide +kernel
theorem dX5_replaceFree_81 : decode cX5_replaceFree 81 = .ok (.aload_n 0, 1) := by decide +kernel
theorem dX5_replaceFree_82 : decode cX5_replaceFree 82 = .ok (.aload_n 3, 1) := by decide +kernel
theorem dX5_replaceFree_83 : decode cX5_replaceFree 83 = .ok (.aload_n 0, 1) := by decide +kernel
theorem dX5_replaceFree_84 : decode cX5_replaceFree 84 = .ok (.getfield 18, 3) := by decide +kernel
theorem dX5_replaceFree_87 : decode cX5_replaceFree 87 = .ok (.iconst 0, 1) := by decide +kernel
theorem dX5_replaceFree_88 : decode cX5_replaceFree 88 = .ok (.aload_n 3, 1) := by decide +kernel
theorem dX5_replaceFree_89 : decode cX5_replaceFree 89 = .ok (.invokevirtual 32, 3) := by decide +kernel
theorem dX5_replaceFree_92 : decode cX5_replaceFree 92 = .ok (.iload 6, 2) := by decide +kernel
theorem dX5_replaceFree_94 : decode cX5_replaceFree 94 = .ok (.invokevirtual 100, 3) := by decide +kernel
theorem dX5_replaceFree_97 : decode cX5_replaceFree 97 = .ok (.goto 12, 3) := by decide +kernel
theorem dX5_replaceFree_100 : decode cX5_replaceFree 100 = .ok (.aload_n 0, 1) := by decide +kernel
theorem dX5_replaceFree_101 : decode cX5_replaceFree 101 = .ok (.getfield 24, 3) := by decide +kernel
theorem dX5_replaceFree_104 : decode cX5_replaceFree 104 = .ok (.iload 5, 2) := by decide +kernel
theorem dX5_replaceFree_106 : decode cX5_replaceFree 106 = .ok (.invokevirtual 96, 3) := by decide +kernel
theorem dX5_replaceFree_109 : decode cX5_replaceFree 109 = .ok (.iinc 4 1, 3) := by decide +kernel
theorem dX5_replaceFree_112 : decode cX5_replaceFree 112 = .ok (.goto (-86), 3) := by decide +kernel
theorem dX5_replaceFree_115 : decode cX5_replaceFree 115 = .ok (.aload_n 0, 1) := by decide +kernel
theorem dX5_replaceFree_116 : decode cX5_replaceFree 116 = .ok (.aload_n 1, 1) := by decide +kernel
theorem dX5_replaceFree_117 : decode cX5_replaceFree 117 = .ok (.invokevirtual 81, 3) := by decide +kernel
theorem dX5_replaceFree_120 : decode cX5_replaceFree 120 = .ok (.ireturn, 1) := by decide +kernel
theorem dX5_addShifted_0 : decode cX5_addShifted 0 = .ok (.aload_n 2, 1) := by decide +kernel
theorem dX5_addShifted_1 : decode cX5_addShifted 1 = .ok (.iload_n 3, 1) := by decide +kernel
theorem dX5_addShifted_2 : decode cX5_addShifted 2 = .ok (.invokevirtual 85, 3) := by decide +kernel
theorem dX5_addShifted_5 : decode cX5_addShifted 5 = .ok (.istore 6, 2) := by decide +kernel
theorem dX5_addShifted_7 : decode cX5_addShifted 7 = .ok (.iload_n 3, 1) := by decide +kernel
theorem dX5_addShifted_8 : decode cX5_addShifted 8 = .ok (.istore 7, 2) := by decide +kernel
theorem dX5_addShifted_10 : decode cX5_addShifted 10 = .ok (.iload 7, 2) := by decide +kernel
theorem dX5_addShifted_12 : decode cX5_addShifted 12 = .ok (.iload 4, 2) := by decide +kernel
theorem dX5_addShifted_14 : decode cX5_addShifted 14 = .ok (.if_icmp .ge 78, 3) := by decide +kernel
theorem dX5_addShifted_17 : decode cX5_addShifted 17 = .ok (.aload_n 0, 1) := by decide +kernel
theorem dX5_addShifted_18 : decode cX5_addShifted 18 = .ok (.getfield 24, 3) := by decide +kernel
theorem dX5_addShifted_21 : decode cX5_addShifted 21 = .ok (.invokevirtual 88, 3) := by decide +kernel
theorem dX5_addShifted_24 : decode cX5_addShifted 24 = .ok (.ifCond .ne 68, 3) := by decide +kernel
theorem dX5_addShifted_27 : decode cX5_addShifted 27 = .ok (.aload_n 1, 1) := by decide +kernel
theorem dX5_addShifted_28 : decode cX5_addShifted 28 = .ok (.iload 7, 2) := by decide +kernel
theorem dX5_addShifted_30 : decode cX5_addShifted 30 = .ok (.invokevirtual 28, 3) := by decide +kernel
theorem dX5_addShifted_33 : decode cX5_addShifted 33 = .ok (.istore 8, 2) := by decide +kernel
theorem dX5_addShifted_35 : decode cX5_addShifted 35 = .ok (.iload 8, 2) := by decide +kernel
theorem dX5_addShifted_37 : decode cX5_addShifted 37 = .ok (.invokestatic 92, 3) := by decide +kernel
theorem dX5_addShifted_40 : decode cX5_addShifted 40 = .ok (.ifCond .eq 21, 3) := by decide +kernel
theorem dX5_addShifted_43 : decode cX5_addShifted 43 = .ok (.iload 8, 2) := by decide +kernel
theorem dX5_addShifted_45 : decode cX5_addShifted 45 = .ok (.aload_n 2, 1) := by decide +kernel
theorem dX5_addShifted_46 : decode cX5_addShifted 46 = .ok (.iload 7, 2) := by decide +kernel
theorem dX5_addShifted_48 : decode cX5_addShifted 48 = .ok (.invokevirtual 85, 3) := by decide +kernel
theorem dX5_addShifted_51 : decode cX5_addShifted 51 = .ok (.iload 6, 2) := by decide +kernel
theorem dX5_addShifted_53 : decode cX5_addShifted 53 = .ok (.isub, 1) := by decide +kernel
theorem dX5_addShifted_54 : decode cX5_addShifted 54 = .ok (.if_icmp .lt 7, 3) := by decide +kernel
theorem dX5_addShifted_57 : decode cX5_addShifted 57 = .ok (.iconst 1, 1) := by decide +kernel
theorem dX5_addShifted_58 : decode cX5_addShifted 58 = .ok (.goto 4, 3) := by decide +kernel
theorem dX5_addShifted_61 : decode cX5_addShifted 61 = .ok (.iconst 0, 1) := by decide +kernel
theorem dX5_addShifted_62 : decode cX5_addShifted 62 = .ok (.istore 9, 2) := by decide +kernel
theorem dX5_addShifted_64 : decode cX5_addShifted 64 = .ok (.aload_n 0, 1) := by decide +kernel
theorem dX5_addShifted_65 : decode cX5_addShifted 65 = .ok (.getfield 24, 3) := by decide +kernel
theorem dX5_addShifted_68 : decode cX5_addShifted 68 = .ok (.iload 9, 2) := by decide +kernel
theorem dX5_addShifted_70 : decode cX5_addShifted 70 = .ok (.ifCond .eq 11, 3) := by decide +kernel
theorem dX5_addShifted_73 : decode cX5_addShifted 73 = .ok (.iload 8, 2) := by decide +kernel
theorem dX5_addShifted_75 : decode cX5_addShifted 75 = .ok (.iload 5, 2) := by decide +kernel
theorem dX5_addShifted_77 : decode cX5_addShifted 77 = .ok (.iadd, 1) := by decide +kernel
theorem dX5_addShifted_78 : decode cX5_addShifted 78 = .ok (.goto 5, 3) := by decide +kernel
theorem dX5_addShifted_81 : decode cX5_addShifted 81 = .ok (.iload 8, 2) := by decide +kernel
theorem dX5_addShifted_83 : decode cX5_addShifted 83 = .ok (.invokevirtual 96, 3) := by decide +kernel
theorem dX5_addShifted_86 : decode cX5_addShifted 86 = .ok (.iinc 7 1, 3) := by decide +kernel
theorem dX5_addShifted_89 : decode cX5_addShifted 89 = .ok (.goto (-79), 3) := by decide +kernel
theorem dX5_addShifted_92 : decode cX5_addShifted 92 = .ok (.return_, 1) := by decide +kernel
theorem dX5_takeResult_0 : decode cX5_takeResult 0 = .ok (.aload_n 0, 1) := by decide +kernel
theorem dX5_takeResult_1 : decode cX5_takeResult 1 = .ok (.getfield 24, 3) := by decide +kernel
theorem dX5_takeResult_4 : decode cX5_takeResult 4 = .ok (.invokevirtual 88, 3) := by decide +kernel
theorem dX5_takeResult_7 : decode cX5_takeResult 7 = .ok (.ifCond .eq 5, 3) := by decide +kernel
theorem dX5_takeResult_10 : decode cX5_takeResult 10 = .ok (.iconst 0, 1) := by decide +kernel
theorem dX5_takeResult_11 : decode cX5_takeResult 11 = .ok (.ireturn, 1) := by decide +kernel
theorem dX5_takeResult_12 : decode cX5_takeResult 12 = .ok (.aload_n 1, 1) := by decide +kernel
theorem dX5_takeResult_13 : decode cX5_takeResult 13 = .ok (.aload_n 0, 1) := by decide +kernel
theorem dX5_takeResult_14 : decode cX5_takeResult 14 = .ok (.getfield 24, 3) := by decide +kernel
theorem dX5_takeResult_17 : decode cX5_takeResult 17 = .ok (.invokevirtual 104, 3) := by decide +kernel
theorem dX5_takeResult_20 : decode cX5_takeResult 20 = .ok (.iconst 1, 1) := by decide +kernel
theorem dX5_takeResult_21 : decode cX5_takeResult 21 = .ok (.ireturn, 1) := by decide +kernel
theorem dX6_init_0 : decode cX6_init 0 = .ok (.aload_n 0, 1) := by decide +kernel
theorem dX6_init_1 : decode cX6_init 1 = .ok (.invokespecial 3, 3) := by decide +kernel
theorem dX6_init_4 : decode cX6_init 4 = .ok (.aload_n 0, 1) := by decide +kernel
theorem dX6_init_5 : decode cX6_init 5 = .ok (.sipush 200, 3) := by decide +kernel
theorem dX6_init_8 : decode cX6_init 8 = .ok (.newarray .int, 2) := by decide +kernel
theorem dX6_init_10 : decode cX6_init 10 = .ok (.putfield 9, 3) := by decide +kernel
theorem dX6_init_13 : decode cX6_init 13 = .ok (.aload_n 0, 1) := by decide +kernel
theorem dX6_init_14 : decode cX6_init 14 = .ok (.iconst 0, 1) := by decide +kernel
theorem dX6_init_15 : decode cX6_init 15 = .ok (.putfield 15, 3) := by decide +kernel
theorem dX6_init_18 : decode cX6_init 18 = .ok (.aload_n 0, 1) := by decide +kernel
theorem dX6_init_19 : decode cX6_init 19 = .ok (.iconst 0, 1) := by decide +kernel
theorem dX6_init_20 : decode cX6_init 20 = .ok (.putfield 19, 3) := by decide +kernel
theorem dX6_init_23 : decode cX6_init 23 = .ok (.return_, 1) := by decide +kernel
theorem dX6_length_0 : decode cX6_length 0 = .ok (.aload_n 0, 1) := by decide +kernel
theorem dX6_length_1 : decode cX6_length 1 = .ok (.getfield 15, 3) := by decide +kernel
theorem dX6_length_4 : decode cX6_length 4 = .ok (.ireturn, 1) := by decide +kernel
theorem dX6_isTooLarge_0 : decode cX6_isTooLarge 0 = .ok (.aload_n 0, 1) := by decide +kernel
theorem dX6_isTooLarge_1 : decode cX6_isTooLarge 1 = .ok (.getfield 19, 3) := by decide +kernel
theorem dX6_isTooLarge_4 : decode cX6_isTooLarge 4 = .ok (.ireturn, 1) := by decide +kernel
theorem dX6_has_0 : decode cX6_has 0 = .ok (.iload_n 1, 1) := by decide +kernel
theorem dX6_has_1 : decode cX6_has 1 = .ok (.ifCond .lt 15, 3) := by decide +kernel
theorem dX6_has_4 : decode cX6_has 4 = .ok (.iload_n 1, 1) := by decide +kernel
theorem dX6_has_5 : decode cX6_has 5 = .ok (.aload_n 0, 1) := by decide +kernel
theorem dX6_has_6 : decode cX6_has 6 = .ok (.getfield 15, 3) := by decide +kernel
theorem dX6_has_9 : decode cX6_has 9 = .ok (.if_icmp .ge 7, 3) := by decide +kernel
theorem dX6_has_12 : decode cX6_has 12 = .ok (.iconst 1, 1) := by decide +kernel
theorem dX6_has_13 : decode cX6_has 13 = .ok (.goto 4, 3) := by decide +kernel
theorem dX6_has_16 : decode cX6_has 16 = .ok (.iconst 0, 1) := by decide +kernel
theorem dX6_has_17 : decode cX6_has 17 = .ok (.ireturn, 1) := by decide +kernel
theorem dX6_token_0 : decode cX6_token 0 = .ok (.iload_n 1, 1) := by decide +kernel
theorem dX6_token_1 : decode cX6_token 1 = .ok (.ifCond .lt 20, 3) := by decide +kernel
theorem dX6_token_4 : decode cX6_token 4 = .ok (.iload_n 1, 1) := by decide +kernel
theorem dX6_token_5 : decode cX6_token 5 = .ok (.aload_n 0, 1) := by decide +kernel
theorem dX6_token_6 : decode cX6_token 6 = .ok (.getfield 15, 3) := by decide +kernel
theorem dX6_token_9 : decode cX6_token 9 = .ok (.if_icmp .ge 12, 3) := by decide +kernel
theorem dX6_token_12 : decode cX6_token 12 = .ok (.aload_n 0, 1) := by decide +kernel
theorem dX6_token_13 : decode cX6_token 13 = .ok (.getfield 9, 3) := by decide +kernel
theorem dX6_token_16 : decode cX6_token 16 = .ok (.iload_n 1, 1) := by decide +kernel
theorem dX6_token_17 : decode cX6_token 17 = .ok (.iaload, 1) := by decide +kernel
theorem dX6_token_18 : decode cX6_token 18 = .ok (.goto 4, 3) := by decide +kernel
theorem dX6_token_21 : decode cX6_token 21 = .ok (.iconst (-1), 1) := by decide +kernel
theorem dX6_token_22 : decode cX6_token 22 = .ok (.ireturn, 1) := by decide +kernel
theorem dX6_clear_0 : decode cX6_clear 0 = .ok (.aload_n 0, 1) := by decide +kernel
theorem dX6_clear_1 : decode cX6_clear 1 = .ok (.iconst 0, 1) := by decide +kernel
theorem dX6_clear_2 : decode cX6_clear 2 = .ok (.putfield 15, 3) := by decide +kernel
theorem dX6_clear_5 : decode cX6_clear 5 = .ok (.aload_n 0, 1) := by decide +kernel
theorem dX6_clear_6 : decode cX6_clear 6 = .ok (.iconst 0, 1) := by decide +kernel
theorem dX6_clear_7 : decode cX6_clear 7 = .ok (.putfield 19, 3) := by decide +kernel
theorem dX6_clear_10 : decode cX6_clear 10 = .ok (.return_, 1) := by decide +kernel
theorem dX6_add_0 : decode cX6_add 0 = .ok (.aload_n 0, 1) := by decide +kernel
theorem dX6_add_1 : decode cX6_add 1 = .ok (.getfield 15, 3) := by decide +kernel
theorem dX6_add_4 : decode cX6_add 4 = .ok (.sipush 200, 3) := by decide +kernel
theorem dX6_add_7 : decode cX6_add 7 = .ok (.if_icmp .ge 26, 3) := by decide +kernel
theorem dX6_add_10 : decode cX6_add 10 = .ok (.aload_n 0, 1) := by decide +kernel
theorem dX6_add_11 : decode cX6_add 11 = .ok (.getfield 9, 3) := by decide +kernel
theorem dX6_add_14 : decode cX6_add 14 = .ok (.aload_n 0, 1) := by decide +kernel
theorem dX6_add_15 : decode cX6_add 15 = .ok (.getfield 15, 3) := by decide +kernel
theorem dX6_add_18 : decode cX6_add 18 = .ok (.iload_n 1, 1) := by decide +kernel
theorem dX6_add_19 : decode cX6_add 19 = .ok (.iastore, 1) := by decide +kernel
theorem dX6_add_20 : decode cX6_add 20 = .ok (.aload_n 0, 1) := by decide +kernel
theorem dX6_add_21 : decode cX6_add 21 = .ok (.dup, 1) := by decide +kernel
theorem dX6_add_22 : decode cX6_add 22 = .ok (.getfield 15, 3) := by decide +kernel
theorem dX6_add_25 : decode cX6_add 25 = .ok (.iconst 1, 1) := by decide +kernel
theorem dX6_add_26 : decode cX6_add 26 = .ok (.iadd, 1) := by decide +kernel
theorem dX6_add_27 : decode cX6_add 27 = .ok (.putfield 15, 3) := by decide +kernel
theorem dX6_add_30 : decode cX6_add 30 = .ok (.goto 8, 3) := by decide +kernel
theorem dX6_add_33 : decode cX6_add 33 = .ok (.aload_n 0, 1) := by decide +kernel
theorem dX6_add_34 : decode cX6_add 34 = .ok (.iconst 1, 1) := by decide +kernel
theorem dX6_add_35 : decode cX6_add 35 = .ok (.putfield 19, 3) := by decide +kernel
theorem dX6_add_38 : decode cX6_add 38 = .ok (.return_, 1) := by decide +kernel
theorem dX6_addRange_0 : decode cX6_addRange 0 = .ok (.iload_n 2, 1) := by decide +kernel
theorem dX6_addRange_1 : decode cX6_addRange 1 = .ok (.ifCond .lt 16, 3) := by decide +kernel
theorem dX6_addRange_4 : decode cX6_addRange 4 = .ok (.iload_n 2, 1) := by decide +kernel
theorem dX6_addRange_5 : decode cX6_addRange 5 = .ok (.iload_n 3, 1) := by decide +kernel
theorem dX6_addRange_6 : decode cX6_addRange 6 = .ok (.if_icmp .gt 11, 3) := by decide +kernel
theorem dX6_addRange_9 : decode cX6_addRange 9 = .ok (.iload_n 3, 1) := by decide +kernel
theorem dX6_addRange_10 : decode cX6_addRange 10 = .ok (.aload_n 1, 1) := by decide +kernel
theorem dX6_addRange_11 : decode cX6_addRange 11 = .ok (.getfield 15, 3) := by decide +kernel
theorem dX6_addRange_14 : decode cX6_addRange 14 = .ok (.if_icmp .le 4, 3) := by decide +kernel
theorem dX6_addRange_17 : decode cX6_addRange 17 = .ok (.return_, 1) := by decide +kernel
theorem dX6_addRange_18 : decode cX6_addRange 18 = .ok (.iload_n 3, 1) := by decide +kernel
theorem dX6_addRange_19 : decode cX6_addRange 19 = .ok (.iload_n 2, 1) := by decide +kernel
theorem dX6_addRange_20 : decode cX6_addRange 20 = .ok (.isub, 1) := by decide +kernel
theorem dX6_addRange_21 : decode cX6_addRange 21 = .ok (.istore 4, 2) := by decide +kernel
theorem dX6_addRange_23 : decode cX6_addRange 23 = .ok (.iload 4, 2) := by decide +kernel
theorem dX6_addRange_25 : decode cX6_addRange 25 = .ok (.sipush 200, 3) := by decide +kernel
theorem dX6_addRange_28 : decode cX6_addRange 28 = .ok (.aload_n 0, 1) := by decide +kernel
theorem dX6_addRange_29 : decode cX6_addRange 29 = .ok (.getfield 15, 3) := by decide +kernel
theorem dX6_addRange_32 : decode cX6_addRange 32 = .ok (.isub, 1) := by decide +kernel
theorem dX6_addRange_33 : decode cX6_addRange 33 = .ok (.if_icmp .le 9, 3) := by decide +kernel
theorem dX6_addRange_36 : decode cX6_addRange 36 = .ok (.aload_n 0, 1) := by decide +kernel
theorem dX6_addRange_37 : decode cX6_addRange 37 = .ok (.iconst 1, 1) := by decide +kernel
theorem dX6_addRange_38 : decode cX6_addRange 38 = .ok (.putfield 19, 3) := by decide +kernel
theorem dX6_addRange_41 : decode cX6_addRange 41 = .ok (.return_, 1) := by decide +kernel
theorem dX6_addRange_42 : decode cX6_addRange 42 = .ok (.aload_n 1, 1) := by decide +kernel
theorem dX6_addRange_43 : decode cX6_addRange 43 = .ok (.getfield 9, 3) := by decide +kernel
theorem dX6_addRange_46 : decode cX6_addRange 46 = .ok (.iload_n 2, 1) := by decide +kernel
theorem dX6_addRange_47 : decode cX6_addRange 47 = .ok (.aload_n 0, 1) := by decide +kernel
theorem dX6_addRange_48 : decode cX6_addRange 48 = .ok (.getfield 9, 3) := by decide +kernel
theorem dX6_addRange_51 : decode cX6_addRange 51 = .ok (.aload_n 0, 1) := by decide +kernel
theorem dX6_addRange_52 : decode cX6_addRange 52 = .ok (.getfield 15, 3) := by decide +kernel
theorem dX6_addRange_55 : decode cX6_addRange 55 = .ok (.iload 4, 2) := by decide +kernel
theorem dX6_addRange_57 : decode cX6_addRange 57 = .ok (.invokestatic 23, 3) := by decide +kernel
theorem dX6_addRange_60 : decode cX6_addRange 60 = .ok (.aload_n 0, 1) := by decide +kernel
theorem dX6_addRange_61 : decode cX6_addRange 61 = .ok (.dup, 1) := by decide +kernel
theorem dX6_addRange_62 : decode cX6_addRange 62 = .ok (.getfield 15, 3) := by decide +kernel
theorem dX6_addRange_65 : decode cX6_addRange 65 = .ok (.iload 4, 2) := by decide +kernel
theorem dX6_addRange_67 : decode cX6_addRange 67 = .ok (.iadd, 1) := by decide +kernel
theorem dX6_addRange_68 : decode cX6_addRange 68 = .ok (.putfield 15, 3) := by decide +kernel
theorem dX6_addRange_71 : decode cX6_addRange 71 = .ok (.return_, 1) := by decide +kernel
theorem dX6_copyFrom_0 : decode cX6_copyFrom 0 = .ok (.aload_n 1, 1) := by decide +kernel
theorem dX6_copyFrom_1 : decode cX6_copyFrom 1 = .ok (.getfield 9, 3) := by decide +kernel
theorem dX6_copyFrom_4 : decode cX6_copyFrom 4 = .ok (.iconst 0, 1) := by decide +kernel
theorem dX6_copyFrom_5 : decode cX6_copyFrom 5 = .ok (.aload_n 0, 1) := by decide +kernel
theorem dX6_copyFrom_6 : decode cX6_copyFrom 6 = .ok (.getfield 9, 3) := by decide +kernel
theorem dX6_copyFrom_9 : decode cX6_copyFrom 9 = .ok (.iconst 0, 1) := by decide +kernel
theorem dX6_copyFrom_10 : decode cX6_copyFrom 10 = .ok (.aload_n 1, 1) := by decide +kernel
theorem dX6_copyFrom_11 : decode cX6_copyFrom 11 = .ok (.getfield 15, 3) := by decide +kernel
theorem dX6_copyFrom_14 : decode cX6_copyFrom 14 = .ok (.invokestatic 23, 3) := by decide +kernel
theorem dX6_copyFrom_17 : decode cX6_copyFrom 17 = .ok (.aload_n 0, 1) := by decide +kernel
theorem dX6_copyFrom_18 : decode cX6_copyFrom 18 = .ok (.aload_n 1, 1) := by decide +kernel
theorem dX6_copyFrom_19 : decode cX6_copyFrom 19 = .ok (.getfield 15, 3) := by decide +kernel
theorem dX6_copyFrom_22 : decode cX6_copyFrom 22 = .ok (.putfield 15, 3) := by decide +kernel
theorem dX6_copyFrom_25 : decode cX6_copyFrom 25 = .ok (.aload_n 0, 1) := by decide +kernel
theorem dX6_copyFrom_26 : decode cX6_copyFrom 26 = .ok (.aload_n 1, 1) := by decide +kernel
theorem dX6_copyFrom_27 : decode cX6_copyFrom 27 = .ok (.getfield 19, 3) := by decide +kernel
theorem dX6_copyFrom_30 : decode cX6_copyFrom 30 = .ok (.putfield 19, 3) := by decide +kernel
theorem dX6_copyFrom_33 : decode cX6_copyFrom 33 = .ok (.return_, 1) := by decide +kernel
theorem dX6_wrapInAbstraction_0 : decode cX6_wrapInAbstraction 0 = .ok (.aload_n 0, 1) := by decide +kernel
theorem dX6_wrapInAbstraction_1 : decode cX6_wrapInAbstraction 1 = .ok (.getfield 15, 3) := by decide +kernel
theorem dX6_wrapInAbstraction_4 : decode cX6_wrapInAbstraction 4 = .ok (.sipush 200, 3) := by decide +kernel
theorem dX6_wrapInAbstraction_7 : decode cX6_wrapInAbstraction 7 = .ok (.if_icmp .lt 5, 3) := by decide +kernel
theorem dX6_wrapInAbstraction_10 : decode cX6_wrapInAbstraction 10 = .ok (.iconst 0, 1) := by decide +kernel
theorem dX6_wrapInAbstraction_11 : decode cX6_wrapInAbstraction 11 = .ok (.ireturn, 1) := by decide +kernel
theorem dX6_wrapInAbstraction_12 : decode cX6_wrapInAbstraction 12 = .ok (.aload_n 0, 1) := by decide +kernel
theorem dX6_wrapInAbstraction_13 : decode cX6_wrapInAbstraction 13 = .ok (.getfield 9, 3) := by decide +kernel
theorem dX6_wrapInAbstraction_16 : decode cX6_wrapInAbstraction 16 = .ok (.iconst 0, 1) := by decide +kernel
theorem dX6_wrapInAbstraction_17 : decode cX6_wrapInAbstraction 17 = .ok (.aload_n 0, 1) := by decide +kernel
theorem dX6_wrapInAbstraction_18 : decode cX6_wrapInAbstraction 18 = .ok (.getfield 9, 3) := by decide +kernel
theorem dX6_wrapInAbstraction_21 : decode cX6_wrapInAbstraction 21 = .ok (.iconst 1, 1) := by decide +kernel
theorem dX6_wrapInAbstraction_22 : decode cX6_wrapInAbstraction 22 = .ok (.aload_n 0, 1) := by decide +kernel
theorem dX6_wrapInAbstraction_23 : decode cX6_wrapInAbstraction 23 = .ok (.getfield 15, 3) := by decide +kernel
theorem dX6_wrapInAbstraction_26 : decode cX6_wrapInAbstraction 26 = .ok (.invokestatic 23, 3) := by decide +kernel
theorem dX6_wrapInAbstraction_29 : decode cX6_wrapInAbstraction 29 = .ok (.aload_n 0, 1) := by decide +kernel
theorem dX6_wrapInAbstraction_30 : decode cX6_wrapInAbstraction 30 = .ok (.getfield 9, 3) := by decide +kernel
theorem dX6_wrapInAbstraction_33 : decode cX6_wrapInAbstraction 33 = .ok (.iconst 0, 1) := by decide +kernel
theorem dX6_wrapInAbstraction_34 : decode cX6_wrapInAbstraction 34 = .ok (.sipush 1001, 3) := by decide +kernel
theorem dX6_wrapInAbstraction_37 : decode cX6_wrapInAbstraction 37 = .ok (.iastore, 1) := by decide +kernel
theorem dX6_wrapInAbstraction_38 : decode cX6_wrapInAbstraction 38 = .ok (.aload_n 0, 1) := by decide +kernel
theorem dX6_wrapInAbstraction_39 : decode cX6_wrapInAbstraction 39 = .ok (.dup, 1) := by decide +kernel
theorem dX6_wrapInAbstraction_40 : decode cX6_wrapInAbstraction 40 = .ok (.getfield 15, 3) := by decide +kernel
theorem dX6_wrapInAbstraction_43 : decode cX6_wrapInAbstraction 43 = .ok (.iconst 1, 1) := by decide +kernel
theorem dX6_wrapInAbstraction_44 : decode cX6_wrapInAbstraction 44 = .ok (.iadd, 1) := by decide +kernel
theorem dX6_wrapInAbstraction_45 : decode cX6_wrapInAbstraction 45 = .ok (.putfield 15, 3) := by decide +kernel
theorem dX6_wrapInAbstraction_48 : decode cX6_wrapInAbstraction 48 = .ok (.iconst 1, 1) := by decide +kernel
theorem dX6_wrapInAbstraction_49 : decode cX6_wrapInAbstraction 49 = .ok (.ireturn, 1) := by decide +kernel
theorem dX6_hasSameTokens_0 : decode cX6_hasSameTokens 0 = .ok (.aload_n 0, 1) := by decide +kernel
theorem dX6_hasSameTokens_1 : decode cX6_hasSameTokens 1 = .ok (.getfield 15, 3) := by decide +kernel
theorem dX6_hasSameTokens_4 : decode cX6_hasSameTokens 4 = .ok (.aload_n 1, 1) := by decide +kernel
theorem dX6_hasSameTokens_5 : decode cX6_hasSameTokens 5 = .ok (.getfield 15, 3) := by decide +kernel
theorem dX6_hasSameTokens_8 : decode cX6_hasSameTokens 8 = .ok (.if_icmp .eq 5, 3) := by decide +kernel
theorem dX6_hasSameTokens_11 : decode cX6_hasSameTokens 11 = .ok (.iconst 0, 1) := by decide +kernel
theorem dX6_hasSameTokens_12 : decode cX6_hasSameTokens 12 = .ok (.ireturn, 1) := by decide +kernel
theorem dX6_hasSameTokens_13 : decode cX6_hasSameTokens 13 = .ok (.iconst 0, 1) := by decide +kernel
theorem dX6_hasSameTokens_14 : decode cX6_hasSameTokens 14 = .ok (.istore_n 2, 1) := by decide +kernel
theorem dX6_hasSameTokens_15 : decode cX6_hasSameTokens 15 = .ok (.iload_n 2, 1) := by decide +kernel
theorem dX6_hasSameTokens_16 : decode cX6_hasSameTokens 16 = .ok (.aload_n 0, 1) := by decide +kernel
theorem dX6_hasSameTokens_17 : decode cX6_hasSameTokens 17 = .ok (.getfield 15, 3) := by decide +kernel
theorem dX6_hasSameTokens_20 : decode cX6_hasSameTokens 20 = .ok (.if_icmp .ge 26, 3) := by decide +kernel
theorem dX6_hasSameTokens_23 : decode cX6_hasSameTokens 23 = .ok (.aload_n 0, 1) := by decide +kernel
theorem dX6_hasSameTokens_24 : decode cX6_hasSameTokens 24 = .ok (.getfield 9, 3) := by decide +kernel
theorem dX6_hasSameTokens_27 : decode cX6_hasSameTokens 27 = .ok (.iload_n 2, 1) := by decide +kernel
theorem dX6_hasSameTokens_28 : decode cX6_hasSameTokens 28 = .ok (.iaload, 1) := by decide +kernel
theorem dX6_hasSameTokens_29 : decode cX6_hasSameTokens 29 = .ok (.aload_n 1, 1) := by decide +kernel
theorem dX6_hasSameTokens_30 : decode cX6_hasSameTokens 30 = .ok (.getfield 9, 3) := by decide +kernel
theorem dX6_hasSameTokens_33 : decode cX6_hasSameTokens 33 = .ok (.iload_n 2, 1) := by decide +kernel
theorem dX6_hasSameTokens_34 : decode cX6_hasSameTokens 34 = .ok (.iaload, 1) := by decide +kernel
theorem dX6_hasSameTokens_35 : decode cX6_hasSameTokens 35 = .ok (.if_icmp .eq 5, 3) := by decide +kernel
theorem dX6_hasSameTokens_38 : decode cX6_hasSameTokens 38 = .ok (.iconst 0, 1) := by decide +kernel
theorem dX6_hasSameTokens_39 : decode cX6_hasSameTokens 39 = .ok (.ireturn, 1) := by decide +kernel
theorem dX6_hasSameTokens_40 : decode cX6_hasSameTokens 40 = .ok (.iinc 2 1, 3) := by decide +kernel
theorem dX6_hasSameTokens_43 : decode cX6_hasSameTokens 43 = .ok (.goto (-28), 3) := by decide +kernel
theorem dX6_hasSameTokens_46 : decode cX6_hasSameTokens 46 = .ok (.iconst 1, 1) := by decide +kernel
theorem dX6_hasSameTokens_47 : decode cX6_hasSameTokens 47 = .ok (.ireturn, 1) := by decide +kernel
theorem dX7_init_0 : decode cX7_init 0 = .ok (.aload_n 0, 1) := by decide +kernel
theorem dX7_init_1 : decode cX7_init 1 = .ok (.invokespecial 3, 3) := by decide +kernel
theorem dX7_init_4 : decode cX7_init 4 = .ok (.aload_n 0, 1) := by decide +kernel
theorem dX7_init_5 : decode cX7_init 5 = .ok (.bipush 60, 2) := by decide +kernel
theorem dX7_init_7 : decode cX7_init 7 = .ok (.newarray .int, 2) := by decide +kernel
theorem dX7_init_9 : decode cX7_init 9 = .ok (.putfield 9, 3) := by decide +kernel
theorem dX7_init_12 : decode cX7_init 12 = .ok (.aload_n 0, 1) := by decide +kernel
theorem dX7_init_13 : decode cX7_init 13 = .ok (.iconst 0, 1) := by decide +kernel
theorem dX7_init_14 : decode cX7_init 14 = .ok (.putfield 15, 3) := by decide +kernel
theorem dX7_init_17 : decode cX7_init 17 = .ok (.return_, 1) := by decide +kernel
theorem dX7_length_0 : decode cX7_length 0 = .ok (.aload_n 0, 1) := by decide +kernel
theorem dX7_length_1 : decode cX7_length 1 = .ok (.getfield 15, 3) := by decide +kernel
theorem dX7_length_4 : decode cX7_length 4 = .ok (.ireturn, 1) := by decide +kernel
theorem dX7_put_0 : decode cX7_put 0 = .ok (.aload_n 0, 1) := by decide +kernel
theorem dX7_put_1 : decode cX7_put 1 = .ok (.getfield 15, 3) := by decide +kernel
theorem dX7_put_4 : decode cX7_put 4 = .ok (.bipush 60, 2) := by decide +kernel
theorem dX7_put_6 : decode cX7_put 6 = .ok (.if_icmp .lt 5, 3) := by decide +kernel
theorem dX7_put_9 : decode cX7_put 9 = .ok (.iconst 0, 1) := by decide +kernel
theorem dX7_put_10 : decode cX7_put 10 = .ok (.ireturn, 1) := by decide +kernel
theorem dX7_put_11 : decode cX7_put 11 = .ok (.aload_n 0, 1) := by decide +kernel
theorem dX7_put_12 : decode cX7_put 12 = .ok (.getfield 9, 3) := by decide +kernel
theorem dX7_put_15 : decode cX7_put 15 = .ok (.aload_n 0, 1) := by decide +kernel
theorem dX7_put_16 : decode cX7_put 16 = .ok (.getfield 15, 3) := by decide +kernel
theorem dX7_put_19 : decode cX7_put 19 = .ok (.iload_n 1, 1) := by decide +kernel
theorem dX7_put_20 : decode cX7_put 20 = .ok (.iastore, 1) := by decide +kernel
theorem dX7_put_21 : decode cX7_put 21 = .ok (.aload_n 0, 1) := by decide +kernel
theorem dX7_put_22 : decode cX7_put 22 = .ok (.dup, 1) := by decide +kernel
theorem dX7_put_23 : decode cX7_put 23 = .ok (.getfield 15, 3) := by decide +kernel
theorem dX7_put_26 : decode cX7_put 26 = .ok (.iconst 1, 1) := by decide +kernel
theorem dX7_put_27 : decode cX7_put 27 = .ok (.iadd, 1) := by decide +kernel
theorem dX7_put_28 : decode cX7_put 28 = .ok (.putfield 15, 3) := by decide +kernel
theorem dX7_put_31 : decode cX7_put 31 = .ok (.iconst 1, 1) := by decide +kernel
theorem dX7_put_32 : decode cX7_put 32 = .ok (.ireturn, 1) := by decide +kernel
theorem dX7_clear_0 : decode cX7_clear 0 = .ok (.aload_n 0, 1) := by decide +kernel
theorem dX7_clear_1 : decode cX7_clear 1 = .ok (.iconst 0, 1) := by decide +kernel
theorem dX7_clear_2 : decode cX7_clear 2 = .ok (.putfield 15, 3) := by decide +kernel
theorem dX7_clear_5 : decode cX7_clear 5 = .ok (.return_, 1) := by decide +kernel
theorem dX7_firstError_0 : decode cX7_firstError 0 = .ok (.iconst 1, 1) := by decide +kernel
theorem dX7_firstError_1 : decode cX7_firstError 1 = .ok (.istore_n 1, 1) := by decide +kernel
theorem dX7_firstError_2 : decode cX7_firstError 2 = .ok (.iconst 0, 1) := by decide +kernel
theorem dX7_firstError_3 : decode cX7_firstError 3 = .ok (.istore_n 2, 1) := by decide +kernel
theorem dX7_firstError_4 : decode cX7_firstError 4 = .ok (.iload_n 2, 1) := by decide +kernel
theorem dX7_firstError_5 : decode cX7_firstError 5 = .ok (.aload_n 0, 1) := by decide +kernel
theorem dX7_firstError_6 : decode cX7_firstError 6 = .ok (.getfield 15, 3) := by decide +kernel
theorem dX7_firstError_9 : decode cX7_firstError 9 = .ok (.if_icmp .ge 39, 3) := by decide +kernel
theorem dX7_firstError_12 : decode cX7_firstError 12 = .ok (.aload_n 0, 1) := by decide +kernel
theorem dX7_firstError_13 : decode cX7_firstError 13 = .ok (.getfield 9, 3) := by decide +kernel
theorem dX7_firstError_16 : decode cX7_firstError 16 = .ok (.iload_n 2, 1) := by decide +kernel
theorem dX7_firstError_17 : decode cX7_firstError 17 = .ok (.iaload, 1) := by decide +kernel
theorem dX7_firstError_18 : decode cX7_firstError 18 = .ok (.invokestatic 19, 3) := by decide +kernel
theorem dX7_firstError_21 : decode cX7_firstError 21 = .ok (.istore_n 3, 1) := by decide +kernel
theorem dX7_firstError_22 : decode cX7_firstError 22 = .ok (.iload_n 1, 1) := by decide +kernel
theorem dX7_firstError_23 : decode cX7_firstError 23 = .ok (.ifCond .eq 8, 3) := by decide +kernel
theorem dX7_firstError_26 : decode cX7_firstError 26 = .ok (.iload_n 3, 1) := by decide +kernel
theorem dX7_firstError_27 : decode cX7_firstError 27 = .ok (.iconst (-1), 1) := by decide +kernel
theorem dX7_firstError_28 : decode cX7_firstError 28 = .ok (.if_icmp .ne 5, 3) := by decide +kernel
theorem dX7_firstError_31 : decode cX7_firstError 31 = .ok (.iload_n 2, 1) := by decide +kernel
theorem dX7_firstError_32 : decode cX7_firstError 32 = .ok (.ireturn, 1) := by decide +kernel
theorem dX7_firstError_33 : decode cX7_firstError 33 = .ok (.iload_n 1, 1) := by decide +kernel
theorem dX7_firstError_34 : decode cX7_firstError 34 = .ok (.iload_n 3, 1) := by decide +kernel
theorem dX7_firstError_35 : decode cX7_firstError 35 = .ok (.invokestatic 23, 3) := by decide +kernel
theorem dX7_firstError_38 : decode cX7_firstError 38 = .ok (.iconst 1, 1) := by decide +kernel
theorem dX7_firstError_39 : decode cX7_firstError 39 = .ok (.isub, 1) := by decide +kernel
theorem dX7_firstError_40 : decode cX7_firstError 40 = .ok (.iadd, 1) := by decide +kernel
theorem dX7_firstError_41 : decode cX7_firstError 41 = .ok (.istore_n 1, 1) := by decide +kernel
theorem dX7_firstError_42 : decode cX7_firstError 42 = .ok (.iinc 2 1, 3) := by decide +kernel
theorem dX7_firstError_45 : decode cX7_firstError 45 = .ok (.goto (-41), 3) := by decide +kernel
theorem dX7_firstError_48 : decode cX7_firstError 48 = .ok (.iload_n 1, 1) := by decide +kernel
theorem dX7_firstError_49 : decode cX7_firstError 49 = .ok (.ifCond .ne 8, 3) := by decide +kernel
theorem dX7_firstError_52 : decode cX7_firstError 52 = .ok (.bipush (-9), 2) := by decide +kernel
theorem dX7_firstError_54 : decode cX7_firstError 54 = .ok (.goto 7, 3) := by decide +kernel
theorem dX7_firstError_57 : decode cX7_firstError 57 = .ok (.aload_n 0, 1) := by decide +kernel
theorem dX7_firstError_58 : decode cX7_firstError 58 = .ok (.getfield 15, 3) := by decide +kernel
theorem dX7_firstError_61 : decode cX7_firstError 61 = .ok (.ireturn, 1) := by decide +kernel
theorem dX7_writeTo_0 : decode cX7_writeTo 0 = .ok (.aload_n 1, 1) := by decide +kernel
theorem dX7_writeTo_1 : decode cX7_writeTo 1 = .ok (.invokevirtual 26, 3) := by decide +kernel
theorem dX7_writeTo_4 : decode cX7_writeTo 4 = .ok (.iconst 0, 1) := by decide +kernel
theorem dX7_writeTo_5 : decode cX7_writeTo 5 = .ok (.istore_n 2, 1) := by decide +kernel
theorem dX7_writeTo_6 : decode cX7_writeTo 6 = .ok (.iload_n 2, 1) := by decide +kernel
theorem dX7_writeTo_7 : decode cX7_writeTo 7 = .ok (.aload_n 0, 1) := by decide +kernel
theorem dX7_writeTo_8 : decode cX7_writeTo 8 = .ok (.getfield 15, 3) := by decide +kernel
theorem dX7_writeTo_11 : decode cX7_writeTo 11 = .ok (.if_icmp .ge 22, 3) := by decide +kernel
theorem dX7_writeTo_14 : decode cX7_writeTo 14 = .ok (.aload_n 1, 1) := by decide +kernel
theorem dX7_writeTo_15 : decode cX7_writeTo 15 = .ok (.aload_n 0, 1) := by decide +kernel
theorem dX7_writeTo_16 : decode cX7_writeTo 16 = .ok (.getfield 9, 3) := by decide +kernel
theorem dX7_writeTo_19 : decode cX7_writeTo 19 = .ok (.iload_n 2, 1) := by decide +kernel
theorem dX7_writeTo_20 : decode cX7_writeTo 20 = .ok (.iaload, 1) := by decide +kernel
theorem dX7_writeTo_21 : decode cX7_writeTo 21 = .ok (.invokestatic 19, 3) := by decide +kernel
theorem dX7_writeTo_24 : decode cX7_writeTo 24 = .ok (.invokevirtual 31, 3) := by decide +kernel
theorem dX7_writeTo_27 : decode cX7_writeTo 27 = .ok (.iinc 2 1, 3) := by decide +kernel
theorem dX7_writeTo_30 : decode cX7_writeTo 30 = .ok (.goto (-24), 3) := by decide +kernel
theorem dX7_writeTo_33 : decode cX7_writeTo 33 = .ok (.return_, 1) := by decide +kernel
theorem dX7_tokenOf_0 : decode cX7_tokenOf 0 = .ok (.iload_n 0, 1) := by decide +kernel
theorem dX7_tokenOf_1 : decode cX7_tokenOf 1 = .ok (.bipush 76, 2) := by decide +kernel
theorem dX7_tokenOf_3 : decode cX7_tokenOf 3 = .ok (.if_icmp .ne 7, 3) := by decide +kernel
theorem dX7_tokenOf_6 : decode cX7_tokenOf 6 = .ok (.sipush 1001, 3) := by decide +kernel
theorem dX7_tokenOf_9 : decode cX7_tokenOf 9 = .ok (.ireturn, 1) := by decide +kernel
theorem dX7_tokenOf_10 : decode cX7_tokenOf 10 = .ok (.iload_n 0, 1) := by decide +kernel
theorem dX7_tokenOf_11 : decode cX7_tokenOf 11 = .ok (.bipush 64, 2) := by decide +kernel
theorem dX7_tokenOf_13 : decode cX7_tokenOf 13 = .ok (.if_icmp .ne 7, 3) := by decide +kernel
theorem dX7_tokenOf_16 : decode cX7_tokenOf 16 = .ok (.sipush 1000, 3) := by decide +kernel
theorem dX7_tokenOf_19 : decode cX7_tokenOf 19 = .ok (.ireturn, 1) := by decide +kernel
theorem dX7_tokenOf_20 : decode cX7_tokenOf 20 = .ok (.iload_n 0, 1) := by decide +kernel
theorem dX7_tokenOf_21 : decode cX7_tokenOf 21 = .ok (.bipush 48, 2) := by decide +kernel
theorem dX7_tokenOf_23 : decode cX7_tokenOf 23 = .ok (.if_icmp .lt 16, 3) := by decide +kernel
theorem dX7_tokenOf_26 : decode cX7_tokenOf 26 = .ok (.iload_n 0, 1) := by decide +kernel
theorem dX7_tokenOf_27 : decode cX7_tokenOf 27 = .ok (.bipush 57, 2) := by decide +kernel
theorem dX7_tokenOf_29 : decode cX7_tokenOf 29 = .ok (.if_icmp .gt 10, 3) := by decide +kernel
theorem dX7_tokenOf_32 : decode cX7_tokenOf 32 = .ok (.iload_n 0, 1) := by decide +kernel
theorem dX7_tokenOf_33 : decode cX7_tokenOf 33 = .ok (.bipush 48, 2) := by decide +kernel
theorem dX7_tokenOf_35 : decode cX7_tokenOf 35 = .ok (.isub, 1) := by decide +kernel
theorem dX7_tokenOf_36 : decode cX7_tokenOf 36 = .ok (.goto 4, 3) := by decide +kernel
theorem dX7_tokenOf_39 : decode cX7_tokenOf 39 = .ok (.iconst (-1), 1) := by decide +kernel
theorem dX7_tokenOf_40 : decode cX7_tokenOf 40 = .ok (.ireturn, 1) := by decide +kernel
