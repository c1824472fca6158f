theorem dX11_thoughtOf_26 : decode cX11_thoughtOf 26 = .ok (.i2l, 1) := by decide +kernel
theorem dX11_thoughtOf_27 : decode cX11_thoughtOf 27 = .ok (.iload_n 1, 1) := by decide +kernel
theorem dX11_thoughtOf_28 : decode cX11_thoughtOf 28 = .ok (.iconst (-1), 1) := by decide +kernel
theorem dX11_thoughtOf_29 : decode cX11_thoughtOf 29 = .ok (.invokevirtual 214, 3) := by decide +kernel
theorem dX11_thoughtOf_32 : decode cX11_thoughtOf 32 = .ok (.lreturn, 1) := by decide +kernel
theorem dX11_allThought_0 : decode cX11_allThought 0 = .ok (.aload_n 0, 1) := by decide +kernel
theorem dX11_allThought_1 : decode cX11_allThought 1 = .ok (.invokevirtual 218, 3) := by decide +kernel
theorem dX11_allThought_4 : decode cX11_allThought 4 = .ok (.istore_n 1, 1) := by decide +kernel
theorem dX11_allThought_5 : decode cX11_allThought 5 = .ok (.aload_n 0, 1) := by decide +kernel
theorem dX11_allThought_6 : decode cX11_allThought 6 = .ok (.iconst (-1), 1) := by decide +kernel
theorem dX11_allThought_7 : decode cX11_allThought 7 = .ok (.invokevirtual 221, 3) := by decide +kernel
theorem dX11_allThought_10 : decode cX11_allThought 10 = .ok (.lstore_n 2, 1) := by decide +kernel
theorem dX11_allThought_11 : decode cX11_allThought 11 = .ok (.iconst 0, 1) := by decide +kernel
theorem dX11_allThought_12 : decode cX11_allThought 12 = .ok (.istore 4, 2) := by decide +kernel
theorem dX11_allThought_14 : decode cX11_allThought 14 = .ok (.iload 4, 2) := by decide +kernel
theorem dX11_allThought_16 : decode cX11_allThought 16 = .ok (.bipush 12, 2) := by decide +kernel
theorem dX11_allThought_18 : decode cX11_allThought 18 = .ok (.if_icmp .ge 31, 3) := by decide +kernel
theorem dX11_allThought_21 : decode cX11_allThought 21 = .ok (.lload_n 2, 1) := by decide +kernel
theorem dX11_allThought_22 : decode cX11_allThought 22 = .ok (.iload_n 1, 1) := by decide +kernel
theorem dX11_allThought_23 : decode cX11_allThought 23 = .ok (.iload 4, 2) := by decide +kernel
theorem dX11_allThought_25 : decode cX11_allThought 25 = .ok (.invokestatic 87, 3) := by decide +kernel
theorem dX11_allThought_28 : decode cX11_allThought 28 = .ok (.ifCond .eq 12, 3) := by decide +kernel
theorem dX11_allThought_31 : decode cX11_allThought 31 = .ok (.aload_n 0, 1) := by decide +kernel
theorem dX11_allThought_32 : decode cX11_allThought 32 = .ok (.iload 4, 2) := by decide +kernel
theorem dX11_allThought_34 : decode cX11_allThought 34 = .ok (.invokevirtual 221, 3) := by decide +kernel
theorem dX11_allThought_37 : decode cX11_allThought 37 = .ok (.goto 4, 3) := by decide +kernel
theorem dX11_allThought_40 : decode cX11_allThought 40 = .ok (.lconst 0, 1) := by decide +kernel
theorem dX11_allThought_41 : decode cX11_allThought 41 = .ok (.ladd, 1) := by decide +kernel
theorem dX11_allThought_42 : decode cX11_allThought 42 = .ok (.lstore_n 2, 1) := by decide +kernel
theorem dX11_allThought_43 : decode cX11_allThought 43 = .ok (.iinc 4 1, 3) := by decide +kernel
theorem dX11_allThought_46 : decode cX11_allThought 46 = .ok (.goto (-32), 3) := by decide +kernel
theorem dX11_allThought_49 : decode cX11_allThought 49 = .ok (.lload_n 2, 1) := by decide +kernel
theorem dX11_allThought_50 : decode cX11_allThought 50 = .ok (.lreturn, 1) := by decide +kernel
theorem dX11_divisor_0 : decode cX11_divisor 0 = .ok (.lload_n 0, 1) := by decide +kernel
theorem dX11_divisor_1 : decode cX11_divisor 1 = .ok (.lstore 4, 2) := by decide +kernel
theorem dX11_divisor_3 : decode cX11_divisor 3 = .ok (.lload_n 2, 1) := by decide +kernel
theorem dX11_divisor_4 : decode cX11_divisor 4 = .ok (.lstore 6, 2) := by decide +kernel
theorem dX11_divisor_6 : decode cX11_divisor 6 = .ok (.lload 6, 2) := by decide +kernel
theorem dX11_divisor_8 : decode cX11_divisor 8 = .ok (.lconst 0, 1) := by decide +kernel
theorem dX11_divisor_9 : decode cX11_divisor 9 = .ok (.lcmp, 1) := by decide +kernel
theorem dX11_divisor_10 : decode cX11_divisor 10 = .ok (.ifCond .eq 21, 3) := by decide +kernel
theorem dX11_divisor_13 : decode cX11_divisor 13 = .ok (.lload 4, 2) := by decide +kernel
theorem dX11_divisor_15 : decode cX11_divisor 15 = .ok (.lload 6, 2) := by decide +kernel
theorem dX11_divisor_17 : decode cX11_divisor 17 = .ok (.lrem, 1) := by decide +kernel
theorem dX11_divisor_18 : decode cX11_divisor 18 = .ok (.lstore 8, 2) := by decide +kernel
theorem dX11_divisor_20 : decode cX11_divisor 20 = .ok (.lload 6, 2) := by decide +kernel
theorem dX11_divisor_22 : decode cX11_divisor 22 = .ok (.lstore 4, 2) := by decide +kernel
theorem dX11_divisor_24 : decode cX11_divisor 24 = .ok (.lload 8, 2) := by decide +kernel
theorem dX11_divisor_26 : decode cX11_divisor 26 = .ok (.lstore 6, 2) := by decide +kernel
theorem dX11_divisor_28 : decode cX11_divisor 28 = .ok (.goto (-22), 3) := by decide +kernel
theorem dX11_divisor_31 : decode cX11_divisor 31 = .ok (.lload 4, 2) := by decide +kernel
theorem dX11_divisor_33 : decode cX11_divisor 33 = .ok (.lreturn, 1) := by decide +kernel
theorem dX11_lowest_0 : decode cX11_lowest 0 = .ok (.lload_n 0, 1) := by decide +kernel
theorem dX11_lowest_1 : decode cX11_lowest 1 = .ok (.lload_n 2, 1) := by decide +kernel
theorem dX11_lowest_2 : decode cX11_lowest 2 = .ok (.invokestatic 225, 3) := by decide +kernel
theorem dX11_lowest_5 : decode cX11_lowest 5 = .ok (.lstore 5, 2) := by decide +kernel
theorem dX11_lowest_7 : decode cX11_lowest 7 = .ok (.iload 4, 2) := by decide +kernel
theorem dX11_lowest_9 : decode cX11_lowest 9 = .ok (.ifCond .ne 10, 3) := by decide +kernel
theorem dX11_lowest_12 : decode cX11_lowest 12 = .ok (.lload_n 0, 1) := by decide +kernel
theorem dX11_lowest_13 : decode cX11_lowest 13 = .ok (.lload 5, 2) := by decide +kernel
theorem dX11_lowest_15 : decode cX11_lowest 15 = .ok (.ldiv, 1) := by decide +kernel
theorem dX11_lowest_16 : decode cX11_lowest 16 = .ok (.goto 7, 3) := by decide +kernel
theorem dX11_lowest_19 : decode cX11_lowest 19 = .ok (.lload_n 2, 1) := by decide +kernel
theorem dX11_lowest_20 : decode cX11_lowest 20 = .ok (.lload 5, 2) := by decide +kernel
theorem dX11_lowest_22 : decode cX11_lowest 22 = .ok (.ldiv, 1) := by decide +kernel
theorem dX11_lowest_23 : decode cX11_lowest 23 = .ok (.lreturn, 1) := by decide +kernel
theorem dX11_isPart_0 : decode cX11_isPart 0 = .ok (.iload_n 0, 1) := by decide +kernel
theorem dX11_isPart_1 : decode cX11_isPart 1 = .ok (.i2l, 1) := by decide +kernel
theorem dX11_isPart_2 : decode cX11_isPart 2 = .ok (.lconst 0, 1) := by decide +kernel
theorem dX11_isPart_3 : decode cX11_isPart 3 = .ok (.lconst 1, 1) := by decide +kernel
theorem dX11_isPart_4 : decode cX11_isPart 4 = .ok (.invokestatic 83, 3) := by decide +kernel
theorem dX11_isPart_7 : decode cX11_isPart 7 = .ok (.ireturn, 1) := by decide +kernel
theorem dX11_isSource_0 : decode cX11_isSource 0 = .ok (.iload_n 1, 1) := by decide +kernel
theorem dX11_isSource_1 : decode cX11_isSource 1 = .ok (.i2l, 1) := by decide +kernel
theorem dX11_isSource_2 : decode cX11_isSource 2 = .ok (.lconst 0, 1) := by decide +kernel
theorem dX11_isSource_3 : decode cX11_isSource 3 = .ok (.ldc2_w 81, 3) := by decide +kernel
theorem dX11_isSource_6 : decode cX11_isSource 6 = .ok (.invokestatic 83, 3) := by decide +kernel
theorem dX11_isSource_9 : decode cX11_isSource 9 = .ok (.ifCond .eq 18, 3) := by decide +kernel
theorem dX11_isSource_12 : decode cX11_isSource 12 = .ok (.aload_n 0, 1) := by decide +kernel
theorem dX11_isSource_13 : decode cX11_isSource 13 = .ok (.invokevirtual 218, 3) := by decide +kernel
theorem dX11_isSource_16 : decode cX11_isSource 16 = .ok (.iload_n 1, 1) := by decide +kernel
theorem dX11_isSource_17 : decode cX11_isSource 17 = .ok (.invokestatic 87, 3) := by decide +kernel
theorem dX11_isSource_20 : decode cX11_isSource 20 = .ok (.ifCond .eq 7, 3) := by decide +kernel
theorem dX11_isSource_23 : decode cX11_isSource 23 = .ok (.iconst 1, 1) := by decide +kernel
theorem dX11_isSource_24 : decode cX11_isSource 24 = .ok (.goto 4, 3) := by decide +kernel
theorem dX11_isSource_27 : decode cX11_isSource 27 = .ok (.iconst 0, 1) := by decide +kernel
theorem dX11_isSource_28 : decode cX11_isSource 28 = .ok (.ireturn, 1) := by decide +kernel
theorem dX11_chance_0 : decode cX11_chance 0 = .ok (.iload_n 1, 1) := by decide +kernel
theorem dX11_chance_1 : decode cX11_chance 1 = .ok (.iconst (-1), 1) := by decide +kernel
theorem dX11_chance_2 : decode cX11_chance 2 = .ok (.if_icmp .eq 15, 3) := by decide +kernel
theorem dX11_chance_5 : decode cX11_chance 5 = .ok (.aload_n 0, 1) := by decide +kernel
theorem dX11_chance_6 : decode cX11_chance 6 = .ok (.iload_n 1, 1) := by decide +kernel
theorem dX11_chance_7 : decode cX11_chance 7 = .ok (.invokevirtual 229, 3) := by decide +kernel
theorem dX11_chance_10 : decode cX11_chance 10 = .ok (.ifCond .ne 7, 3) := by decide +kernel
theorem dX11_chance_13 : decode cX11_chance 13 = .ok (.ldc2_w 232, 3) := by decide +kernel
theorem dX11_chance_16 : decode cX11_chance 16 = .ok (.lreturn, 1) := by decide +kernel
theorem dX11_chance_17 : decode cX11_chance 17 = .ok (.iload_n 2, 1) := by decide +kernel
theorem dX11_chance_18 : decode cX11_chance 18 = .ok (.invokestatic 234, 3) := by decide +kernel
theorem dX11_chance_21 : decode cX11_chance 21 = .ok (.ifCond .ne 7, 3) := by decide +kernel
theorem dX11_chance_24 : decode cX11_chance 24 = .ok (.ldc2_w 237, 3) := by decide +kernel
theorem dX11_chance_27 : decode cX11_chance 27 = .ok (.lreturn, 1) := by decide +kernel
theorem dX11_chance_28 : decode cX11_chance 28 = .ok (.aload_n 0, 1) := by decide +kernel
theorem dX11_chance_29 : decode cX11_chance 29 = .ok (.invokevirtual 239, 3) := by decide +kernel
theorem dX11_chance_32 : decode cX11_chance 32 = .ok (.lstore_n 3, 1) := by decide +kernel
theorem dX11_chance_33 : decode cX11_chance 33 = .ok (.lload_n 3, 1) := by decide +kernel
theorem dX11_chance_34 : decode cX11_chance 34 = .ok (.lconst 0, 1) := by decide +kernel
theorem dX11_chance_35 : decode cX11_chance 35 = .ok (.lcmp, 1) := by decide +kernel
theorem dX11_chance_36 : decode cX11_chance 36 = .ok (.ifCond .ne 9, 3) := by decide +kernel
theorem dX11_chance_39 : decode cX11_chance 39 = .ok (.ldc2_w 243, 3) := by decide +kernel
theorem dX11_chance_42 : decode cX11_chance 42 = .ok (.goto 13, 3) := by decide +kernel
theorem dX11_chance_45 : decode cX11_chance 45 = .ok (.aload_n 0, 1) := by decide +kernel
theorem dX11_chance_46 : decode cX11_chance 46 = .ok (.iload_n 1, 1) := by decide +kernel
theorem dX11_chance_47 : decode cX11_chance 47 = .ok (.invokevirtual 221, 3) := by decide +kernel
theorem dX11_chance_50 : decode cX11_chance 50 = .ok (.lload_n 3, 1) := by decide +kernel
theorem dX11_chance_51 : decode cX11_chance 51 = .ok (.iload_n 2, 1) := by decide +kernel
theorem dX11_chance_52 : decode cX11_chance 52 = .ok (.invokestatic 245, 3) := by decide +kernel
theorem dX11_chance_55 : decode cX11_chance 55 = .ok (.lreturn, 1) := by decide +kernel
theorem dX11_pair_0 : decode cX11_pair 0 = .ok (.aload_n 0, 1) := by decide +kernel
theorem dX11_pair_1 : decode cX11_pair 1 = .ok (.aload_n 0, 1) := by decide +kernel
theorem dX11_pair_2 : decode cX11_pair 2 = .ok (.getfield 35, 3) := by decide +kernel
theorem dX11_pair_5 : decode cX11_pair 5 = .ok (.iload_n 1, 1) := by decide +kernel
theorem dX11_pair_6 : decode cX11_pair 6 = .ok (.iaload, 1) := by decide +kernel
theorem dX11_pair_7 : decode cX11_pair 7 = .ok (.i2l, 1) := by decide +kernel
theorem dX11_pair_8 : decode cX11_pair 8 = .ok (.aload_n 0, 1) := by decide +kernel
theorem dX11_pair_9 : decode cX11_pair 9 = .ok (.getfield 35, 3) := by decide +kernel
theorem dX11_pair_12 : decode cX11_pair 12 = .ok (.iload_n 2, 1) := by decide +kernel
theorem dX11_pair_13 : decode cX11_pair 13 = .ok (.iaload, 1) := by decide +kernel
theorem dX11_pair_14 : decode cX11_pair 14 = .ok (.i2l, 1) := by decide +kernel
theorem dX11_pair_15 : decode cX11_pair 15 = .ok (.lmul, 1) := by decide +kernel
theorem dX11_pair_16 : decode cX11_pair 16 = .ok (.iload_n 1, 1) := by decide +kernel
theorem dX11_pair_17 : decode cX11_pair 17 = .ok (.iload_n 2, 1) := by decide +kernel
theorem dX11_pair_18 : decode cX11_pair 18 = .ok (.invokevirtual 214, 3) := by decide +kernel
theorem dX11_pair_21 : decode cX11_pair 21 = .ok (.lreturn, 1) := by decide +kernel
theorem dX11_two_0 : decode cX11_two 0 = .ok (.aload_n 0, 1) := by decide +kernel
theorem dX11_two_1 : decode cX11_two 1 = .ok (.iload_n 1, 1) := by decide +kernel
theorem dX11_two_2 : decode cX11_two 2 = .ok (.invokevirtual 229, 3) := by decide +kernel
theorem dX11_two_5 : decode cX11_two 5 = .ok (.ifCond .eq 16, 3) := by decide +kernel
theorem dX11_two_8 : decode cX11_two 8 = .ok (.aload_n 0, 1) := by decide +kernel
theorem dX11_two_9 : decode cX11_two 9 = .ok (.iload_n 2, 1) := by decide +kernel
theorem dX11_two_10 : decode cX11_two 10 = .ok (.invokevirtual 229, 3) := by decide +kernel
theorem dX11_two_13 : decode cX11_two 13 = .ok (.ifCond .eq 8, 3) := by decide +kernel
theorem dX11_two_16 : decode cX11_two 16 = .ok (.iload_n 1, 1) := by decide +kernel
theorem dX11_two_17 : decode cX11_two 17 = .ok (.iload_n 2, 1) := by decide +kernel
theorem dX11_two_18 : decode cX11_two 18 = .ok (.if_icmp .ne 7, 3) := by decide +kernel
theorem dX11_two_21 : decode cX11_two 21 = .ok (.ldc2_w 232, 3) := by decide +kernel
theorem dX11_two_24 : decode cX11_two 24 = .ok (.lreturn, 1) := by decide +kernel
theorem dX11_two_25 : decode cX11_two 25 = .ok (.iload_n 3, 1) := by decide +kernel
theorem dX11_two_26 : decode cX11_two 26 = .ok (.invokestatic 234, 3) := by decide +kernel
theorem dX11_two_29 : decode cX11_two 29 = .ok (.ifCond .ne 7, 3) := by decide +kernel
theorem dX11_two_32 : decode cX11_two 32 = .ok (.ldc2_w 237, 3) := by decide +kernel
theorem dX11_two_35 : decode cX11_two 35 = .ok (.lreturn, 1) := by decide +kernel
theorem dX11_two_36 : decode cX11_two 36 = .ok (.aload_n 0, 1) := by decide +kernel
theorem dX11_two_37 : decode cX11_two 37 = .ok (.invokevirtual 218, 3) := by decide +kernel
theorem dX11_two_40 : decode cX11_two 40 = .ok (.istore 4, 2) := by decide +kernel
theorem dX11_two_42 : decode cX11_two 42 = .ok (.lconst 0, 1) := by decide +kernel
theorem dX11_two_43 : decode cX11_two 43 = .ok (.lstore 5, 2) := by decide +kernel
theorem dX11_two_45 : decode cX11_two 45 = .ok (.iconst 0, 1) := by decide +kernel
theorem dX11_two_46 : decode cX11_two 46 = .ok (.istore 7, 2) := by decide +kernel
theorem dX11_two_48 : decode cX11_two 48 = .ok (.iload 7, 2) := by decide +kernel
theorem dX11_two_50 : decode cX11_two 50 = .ok (.sipush 144, 3) := by decide +kernel
theorem dX11_two_53 : decode cX11_two 53 = .ok (.if_icmp .ge 67, 3) := by decide +kernel
theorem dX11_two_56 : decode cX11_two 56 = .ok (.iload 7, 2) := by decide +kernel
theorem dX11_two_58 : decode cX11_two 58 = .ok (.bipush 12, 2) := by decide +kernel
theorem dX11_two_60 : decode cX11_two 60 = .ok (.idiv, 1) := by decide +kernel
theorem dX11_two_61 : decode cX11_two 61 = .ok (.istore 8, 2) := by decide +kernel
theorem dX11_two_63 : decode cX11_two 63 = .ok (.iload 7, 2) := by decide +kernel
theorem dX11_two_65 : decode cX11_two 65 = .ok (.bipush 12, 2) := by decide +kernel
theorem dX11_two_67 : decode cX11_two 67 = .ok (.irem, 1) := by decide +kernel
theorem dX11_two_68 : decode cX11_two 68 = .ok (.istore 9, 2) := by decide +kernel
theorem dX11_two_70 : decode cX11_two 70 = .ok (.lload 5, 2) := by decide +kernel
theorem dX11_two_72 : decode cX11_two 72 = .ok (.iload 8, 2) := by decide +kernel
theorem dX11_two_74 : decode cX11_two 74 = .ok (.iload 9, 2) := by decide +kernel
theorem dX11_two_76 : decode cX11_two 76 = .ok (.if_icmp .ge 34, 3) := by decide +kernel
theorem dX11_two_79 : decode cX11_two 79 = .ok (.iload 4, 2) := by decide +kernel
theorem dX11_two_81 : decode cX11_two 81 = .ok (.iload 8, 2) := by decide +kernel
theorem dX11_two_83 : decode cX11_two 83 = .ok (.invokestatic 87, 3) := by decide +kernel
theorem dX11_two_86 : decode cX11_two 86 = .ok (.ifCond .eq 24, 3) := by decide +kernel
theorem dX11_two_89 : decode cX11_two 89 = .ok (.iload 4, 2) := by decide +kernel
theorem dX11_two_91 : decode cX11_two 91 = .ok (.iload 9, 2) := by decide +kernel
theorem dX11_two_93 : decode cX11_two 93 = .ok (.invokestatic 87, 3) := by decide +kernel
theorem dX11_two_96 : decode cX11_two 96 = .ok (.ifCond .eq 14, 3) := by decide +kernel
theorem dX11_two_99 : decode cX11_two 99 = .ok (.aload_n 0, 1) := by decide +kernel
theorem dX11_two_100 : decode cX11_two 100 = .ok (.iload 8, 2) := by decide +kernel
theorem dX11_two_102 : decode cX11_two 102 = .ok (.iload 9, 2) := by decide +kernel
theorem dX11_two_104 : decode cX11_two 104 = .ok (.invokevirtual 249, 3) := by decide +kernel
theorem dX11_two_107 : decode cX11_two 107 = .ok (.goto 4, 3) := by decide +kernel
theorem dX11_two_110 : decode cX11_two 110 = .ok (.lconst 0, 1) := by decide +kernel
theorem dX11_two_111 : decode cX11_two 111 = .ok (.ladd, 1) := by decide +kernel
theorem dX11_two_112 : decode cX11_two 112 = .ok (.lstore 5, 2) := by decide +kernel
theorem dX11_two_114 : decode cX11_two 114 = .ok (.iinc 7 1, 3) := by decide +kernel
theorem dX11_two_117 : decode cX11_two 117 = .ok (.goto (-69), 3) := by decide +kernel
theorem dX11_two_120 : decode cX11_two 120 = .ok (.lload 5, 2) := by decide +kernel
theorem dX11_two_122 : decode cX11_two 122 = .ok (.lconst 0, 1) := by decide +kernel
theorem dX11_two_123 : decode cX11_two 123 = .ok (.lcmp, 1) := by decide +kernel
theorem dX11_two_124 : decode cX11_two 124 = .ok (.ifCond .ne 9, 3) := by decide +kernel
theorem dX11_two_127 : decode cX11_two 127 = .ok (.ldc2_w 243, 3) := by decide +kernel
theorem dX11_two_130 : decode cX11_two 130 = .ok (.goto 15, 3) := by decide +kernel
theorem dX11_two_133 : decode cX11_two 133 = .ok (.aload_n 0, 1) := by decide +kernel
theorem dX11_two_134 : decode cX11_two 134 = .ok (.iload_n 1, 1) := by decide +kernel
theorem dX11_two_135 : decode cX11_two 135 = .ok (.iload_n 2, 1) := by decide +kernel
theorem dX11_two_136 : decode cX11_two 136 = .ok (.invokevirtual 249, 3) := by decide +kernel
theorem dX11_two_139 : decode cX11_two 139 = .ok (.lload 5, 2) := by decide +kernel
theorem dX11_two_141 : decode cX11_two 141 = .ok (.iload_n 3, 1) := by decide +kernel
theorem dX11_two_142 : decode cX11_two 142 = .ok (.invokestatic 245, 3) := by decide +kernel
theorem dX11_two_145 : decode cX11_two 145 = .ok (.lreturn, 1) := by decide +kernel
theorem dX11_worth_0 : decode cX11_worth 0 = .ok (.iload_n 1, 1) := by decide +kernel
theorem dX11_worth_1 : decode cX11_worth 1 = .ok (.invokestatic 162, 3) := by decide +kernel
theorem dX11_worth_4 : decode cX11_worth 4 = .ok (.ifCond .ne 7, 3) := by decide +kernel
theorem dX11_worth_7 : decode cX11_worth 7 = .ok (.ldc2_w 232, 3) := by decide +kernel
theorem dX11_worth_10 : decode cX11_worth 10 = .ok (.lreturn, 1) := by decide +kernel
theorem dX11_worth_11 : decode cX11_worth 11 = .ok (.aload_n 0, 1) := by decide +kernel
theorem dX11_worth_12 : decode cX11_worth 12 = .ok (.iload_n 2, 1) := by decide +kernel
theorem dX11_worth_13 : decode cX11_worth 13 = .ok (.iload_n 3, 1) := by decide +kernel
theorem dX11_worth_14 : decode cX11_worth 14 = .ok (.iload 4, 2) := by decide +kernel
theorem dX11_worth_16 : decode cX11_worth 16 = .ok (.invokevirtual 200, 3) := by decide +kernel
theorem dX11_worth_19 : decode cX11_worth 19 = .ok (.ifCond .eq 11, 3) := by decide +kernel
theorem dX11_worth_22 : decode cX11_worth 22 = .ok (.iload 5, 2) := by decide +kernel
theorem dX11_worth_24 : decode cX11_worth 24 = .ok (.invokestatic 234, 3) := by decide +kernel
theorem dX11_worth_27 : decode cX11_worth 27 = .ok (.ifCond .ne 7, 3) := by decide +kernel
theorem dX11_worth_30 : decode cX11_worth 30 = .ok (.ldc2_w 237, 3) := by decide +kernel
theorem dX11_worth_33 : decode cX11_worth 33 = .ok (.lreturn, 1) := by decide +kernel
theorem dX11_worth_34 : decode cX11_worth 34 = .ok (.aload_n 0, 1) := by decide +kernel
theorem dX11_worth_35 : decode cX11_worth 35 = .ok (.invokevirtual 239, 3) := by decide +kernel
theorem dX11_worth_38 : decode cX11_worth 38 = .ok (.lstore 6, 2) := by decide +kernel
theorem dX11_worth_40 : decode cX11_worth 40 = .ok (.lload 6, 2) := by decide +kernel
theorem dX11_worth_42 : decode cX11_worth 42 = .ok (.lconst 0, 1) := by decide +kernel
theorem dX11_worth_43 : decode cX11_worth 43 = .ok (.lcmp, 1) := by decide +kernel
theorem dX11_worth_44 : decode cX11_worth 44 = .ok (.ifCond .ne 7, 3) := by decide +kernel
theorem dX11_worth_47 : decode cX11_worth 47 = .ok (.ldc2_w 243, 3) := by decide +kernel
theorem dX11_worth_50 : decode cX11_worth 50 = .ok (.lreturn, 1) := by decide +kernel
theorem dX11_worth_51 : decode cX11_worth 51 = .ok (.aload_n 0, 1) := by decide +kernel
theorem dX11_worth_52 : decode cX11_worth 52 = .ok (.invokevirtual 218, 3) := by decide +kernel
theorem dX11_worth_55 : decode cX11_worth 55 = .ok (.istore 8, 2) := by decide +kernel
theorem dX11_worth_57 : decode cX11_worth 57 = .ok (.aload_n 0, 1) := by decide +kernel
theorem dX11_worth_58 : decode cX11_worth 58 = .ok (.iconst (-1), 1) := by decide +kernel
theorem dX11_worth_59 : decode cX11_worth 59 = .ok (.invokevirtual 221, 3) := by decide +kernel
theorem dX11_worth_62 : decode cX11_worth 62 = .ok (.aload_n 0, 1) := by decide +kernel
theorem dX11_worth_63 : decode cX11_worth 63 = .ok (.iload_n 1, 1) := by decide +kernel
theorem dX11_worth_64 : decode cX11_worth 64 = .ok (.iconst 0, 1) := by decide +kernel
theorem dX11_worth_65 : decode cX11_worth 65 = .ok (.invokevirtual 210, 3) := by decide +kernel
theorem dX11_worth_68 : decode cX11_worth 68 = .ok (.i2l, 1) := by decide +kernel
theorem dX11_worth_69 : decode cX11_worth 69 = .ok (.lmul, 1) := by decide +kernel
theorem dX11_worth_70 : decode cX11_worth 70 = .ok (.lstore 9, 2) := by decide +kernel
theorem dX11_worth_72 : decode cX11_worth 72 = .ok (.iconst 0, 1) := by decide +kernel
theorem dX11_worth_73 : decode cX11_worth 73 = .ok (.istore 11, 2) := by decide +kernel
theorem dX11_worth_75 : decode cX11_worth 75 = .ok (.iload 11, 2) := by decide +kernel
theorem dX11_worth_77 : decode cX11_worth 77 = .ok (.bipush 12, 2) := by decide +kernel
theorem dX11_worth_79 : decode cX11_worth 79 = .ok (.if_icmp .ge 54, 3) := by decide +kernel
theorem dX11_worth_82 : decode cX11_worth 82 = .ok (.lload 9, 2) := by decide +kernel
theorem dX11_worth_84 : decode cX11_worth 84 = .ok (.iload 8, 2) := by decide +kernel
theorem dX11_worth_86 : decode cX11_worth 86 = .ok (.iload 11, 2) := by decide +kernel
theorem dX11_worth_88 : decode cX11_worth 88 = .ok (.invokestatic 87, 3) := by decide +kernel
theorem dX11_worth_91 : decode cX11_worth 91 = .ok (.ifCond .eq 32, 3) := by decide +kernel
theorem dX11_worth_94 : decode cX11_worth 94 = .ok (.aload_n 0, 1) := by decide +kernel
theorem dX11_worth_95 : decode cX11_worth 95 = .ok (.iload 11, 2) := by decide +kernel
theorem dX11_worth_97 : decode cX11_worth 97 = .ok (.invokevirtual 221, 3) := by decide +kernel
theorem dX11_worth_100 : decode cX11_worth 100 = .ok (.aload_n 0, 1) := by decide +kernel
theorem dX11_worth_101 : decode cX11_worth 101 = .ok (.iload_n 1, 1) := by decide +kernel
theorem dX11_worth_102 : decode cX11_worth 102 = .ok (.aload_n 0, 1) := by decide +kernel
theorem dX11_worth_103 : decode cX11_worth 103 = .ok (.iload 11, 2) := by decide +kernel
theorem dX11_worth_105 : decode cX11_worth 105 = .ok (.iconst (-1), 1) := by decide +kernel
theorem dX11_worth_106 : decode cX11_worth 106 = .ok (.iconst (-1), 1) := by decide +kernel
theorem dX11_worth_107 : decode cX11_worth 107 = .ok (.iload_n 1, 1) := by decide +kernel
theorem dX11_worth_108 : decode cX11_worth 108 = .ok (.iload_n 2, 1) := by decide +kernel
theorem dX11_worth_109 : decode cX11_worth 109 = .ok (.iload_n 3, 1) := by decide +kernel
theorem dX11_worth_110 : decode cX11_worth 110 = .ok (.iload 4, 2) := by decide +kernel
theorem dX11_worth_112 : decode cX11_worth 112 = .ok (.invokevirtual 203, 3) := by decide +kernel
theorem dX11_worth_115 : decode cX11_worth 115 = .ok (.invokevirtual 210, 3) := by decide +kernel
theorem dX11_worth_118 : decode cX11_worth 118 = .ok (.i2l, 1) := by decide +kernel
theorem dX11_worth_119 : decode cX11_worth 119 = .ok (.lmul, 1) := by decide +kernel
theorem dX11_worth_120 : decode cX11_worth 120 = .ok (.goto 4, 3) := by decide +kernel
theorem dX11_worth_123 : decode cX11_worth 123 = .ok (.lconst 0, 1) := by decide +kernel
theorem dX11_worth_124 : decode cX11_worth 124 = .ok (.ladd, 1) := by decide +kernel
theorem dX11_worth_125 : decode cX11_worth 125 = .ok (.lstore 9, 2) := by decide +kernel
theorem dX11_worth_127 : decode cX11_worth 127 = .ok (.iinc 11 1, 3) := by decide +kernel
theorem dX11_worth_130 : decode cX11_worth 130 = .ok (.goto (-55), 3) := by decide +kernel
theorem dX11_worth_133 : decode cX11_worth 133 = .ok (.lload 9, 2) := by decide +kernel
theorem dX11_worth_135 : decode cX11_worth 135 = .ok (.ldc2_w 253, 3) := by decide +kernel
theorem dX11_worth_138 : decode cX11_worth 138 = .ok (.lload 6, 2) := by decide +kernel
theorem dX11_worth_140 : decode cX11_worth 140 = .ok (.lmul, 1) := by decide +kernel
theorem dX11_worth_141 : decode cX11_worth 141 = .ok (.iload 5, 2) := by decide +kernel
theorem dX11_worth_143 : decode cX11_worth 143 = .ok (.invokestatic 245, 3) := by decide +kernel
theorem dX11_worth_146 : decode cX11_worth 146 = .ok (.lreturn, 1) := by decide +kernel
theorem dX11_likeliest_0 : decode cX11_likeliest 0 = .ok (.aload_n 0, 1) := by decide +kernel
theorem dX11_likeliest_1 : decode cX11_likeliest 1 = .ok (.invokevirtual 218, 3) := by decide +kernel
theorem dX11_likeliest_4 : decode cX11_likeliest 4 = .ok (.istore_n 1, 1) := by decide +kernel
theorem dX11_likeliest_5 : decode cX11_likeliest 5 = .ok (.iconst (-1), 1) := by decide +kernel
theorem dX11_likeliest_6 : decode cX11_likeliest 6 = .ok (.istore_n 2, 1) := by decide +kernel
theorem dX11_likeliest_7 : decode cX11_likeliest 7 = .ok (.aload_n 0, 1) := by decide +kernel
theorem dX11_likeliest_8 : decode cX11_likeliest 8 = .ok (.iconst (-1), 1) := by decide +kernel
theorem dX11_likeliest_9 : decode cX11_likeliest 9 = .ok (.invokevirtual 221, 3) := by decide +kernel
theorem dX11_likeliest_12 : decode cX11_likeliest 12 = .ok (.lstore_n 3, 1) := by decide +kernel
theorem dX11_likeliest_13 : decode cX11_likeliest 13 = .ok (.iconst 0, 1) := by decide +kernel
theorem dX11_likeliest_14 : decode cX11_likeliest 14 = .ok (.istore 5, 2) := by decide +kernel
theorem dX11_likeliest_16 : decode cX11_likeliest 16 = .ok (.iload 5, 2) := by decide +kernel
theorem dX11_likeliest_18 : decode cX11_likeliest 18 = .ok (.bipush 12, 2) := by decide +kernel
theorem dX11_likeliest_20 : decode cX11_likeliest 20 = .ok (.if_icmp .ge 39, 3) := by decide +kernel
theorem dX11_likeliest_23 : decode cX11_likeliest 23 = .ok (.iload_n 1, 1) := by decide +kernel
theorem dX11_likeliest_24 : decode cX11_likeliest 24 = .ok (.iload 5, 2) := by decide +kernel
theorem dX11_likeliest_26 : decode cX11_likeliest 26 = .ok (.invokestatic 87, 3) := by decide +kernel
theorem dX11_likeliest_29 : decode cX11_likeliest 29 = .ok (.ifCond .eq 24, 3) := by decide +kernel
theorem dX11_likeliest_32 : decode cX11_likeliest 32 = .ok (.aload_n 0, 1) := by decide +kernel
theorem dX11_likeliest_33 : decode cX11_likeliest 33 = .ok (.iload 5, 2) := by decide +kernel
theorem dX11_likeliest_35 : decode cX11_likeliest 35 = .ok (.invokevirtual 221, 3) := by decide +kernel
theorem dX11_likeliest_38 : decode cX11_likeliest 38 = .ok (.lload_n 3, 1) := by decide +kernel
theorem dX11_likeliest_39 : decode cX11_likeliest 39 = .ok (.lcmp, 1) := by decide +kernel
theorem dX11_likeliest_40 : decode cX11_likeliest 40 = .ok (.ifCond .le 13, 3) := by decide +kernel
theorem dX11_likeliest_43 : decode cX11_likeliest 43 = .ok (.iload 5, 2) := by decide +kernel
theorem dX11_likeliest_45 : decode cX11_likeliest 45 = .ok (.istore_n 2, 1) := by decide +kernel
theorem dX11_likeliest_46 : decode cX11_likeliest 46 = .ok (.aload_n 0, 1) := by decide +kernel
theorem dX11_likeliest_47 : decode cX11_likeliest 47 = .ok (.iload 5, 2) := by decide +kernel
theorem dX11_likeliest_49 : decode cX11_likeliest 49 = .ok (.invokevirtual 221, 3) := by decide +kernel
theorem dX11_likeliest_52 : decode cX11_likeliest 52 = .ok (.lstore_n 3, 1) := by decide +kernel
theorem dX11_likeliest_53 : decode cX11_likeliest 53 = .ok (.iinc 5 1, 3) := by decide +kernel
theorem dX11_likeliest_56 : decode cX11_likeliest 56 = .ok (.goto (-40), 3) := by decide +kernel
theorem dX11_likeliest_59 : decode cX11_likeliest 59 = .ok (.iload_n 2, 1) := by decide +kernel
theorem dX11_likeliest_60 : decode cX11_likeliest 60 = .ok (.ireturn, 1) := by decide +kernel
theorem dX11_lacks_0 : decode cX11_lacks 0 = .ok (.iload_n 1, 1) := by decide +kernel
theorem dX11_lacks_1 : decode cX11_lacks 1 = .ok (.i2l, 1) := by decide +kernel
theorem dX11_lacks_2 : decode cX11_lacks 2 = .ok (.lconst 0, 1) := by decide +kernel
theorem dX11_lacks_3 : decode cX11_lacks 3 = .ok (.ldc2_w 255, 3) := by decide +kernel
theorem dX11_lacks_6 : decode cX11_lacks 6 = .ok (.invokestatic 83, 3) := by decide +kernel
theorem dX11_lacks_9 : decode cX11_lacks 9 = .ok (.ifCond .ne 6, 3) := by decide +kernel
theorem dX11_lacks_12 : decode cX11_lacks 12 = .ok (.bipush (-3), 2) := by decide +kernel
theorem dX11_lacks_14 : decode cX11_lacks 14 = .ok (.ireturn, 1) := by decide +kernel
theorem dX11_lacks_15 : decode cX11_lacks 15 = .ok (.iconst 0, 1) := by decide +kernel
theorem dX11_lacks_16 : decode cX11_lacks 16 = .ok (.istore_n 2, 1) := by decide +kernel
theorem dX11_lacks_17 : decode cX11_lacks 17 = .ok (.iconst 0, 1) := by decide +kernel
theorem dX11_lacks_18 : decode cX11_lacks 18 = .ok (.istore_n 3, 1) := by decide +kernel
theorem dX11_lacks_19 : decode cX11_lacks 19 = .ok (.iload_n 3, 1) := by decide +kernel
theorem dX11_lacks_20 : decode cX11_lacks 20 = .ok (.bipush 12, 2) := by decide +kernel
theorem dX11_lacks_22 : decode cX11_lacks 22 = .ok (.if_icmp .ge 128, 3) := by decide +kernel
theorem dX11_lacks_25 : decode cX11_lacks 25 = .ok (.aload_n 0, 1) := by decide +kernel
theorem dX11_lacks_26 : decode cX11_lacks 26 = .ok (.getfield 16, 3) := by decide +kernel
theorem dX11_lacks_29 : decode cX11_lacks 29 = .ok (.iload_n 3, 1) := by decide +kernel
theorem dX11_lacks_30 : decode cX11_lacks 30 = .ok (.invokestatic 87, 3) := by decide +kernel
theorem dX11_lacks_33 : decode cX11_lacks 33 = .ok (.istore 4, 2) := by decide +kernel
theorem dX11_lacks_35 : decode cX11_lacks 35 = .ok (.iconst 0, 1) := by decide +kernel
theorem dX11_lacks_36 : decode cX11_lacks 36 = .ok (.istore 5, 2) := by decide +kernel
theorem dX11_lacks_38 : decode cX11_lacks 38 = .ok (.iload 5, 2) := by decide +kernel
theorem dX11_lacks_40 : decode cX11_lacks 40 = .ok (.iconst 5, 1) := by decide +kernel
theorem dX11_lacks_41 : decode cX11_lacks 41 = .ok (.aload_n 0, 1) := by decide +kernel
theorem dX11_lacks_42 : decode cX11_lacks 42 = .ok (.getfield 207, 3) := by decide +kernel
theorem dX11_lacks_45 : decode cX11_lacks 45 = .ok (.imul, 1) := by decide +kernel
theorem dX11_lacks_46 : decode cX11_lacks 46 = .ok (.if_icmp .ge 83, 3) := by decide +kernel
theorem dX11_lacks_49 : decode cX11_lacks 49 = .ok (.iload 4, 2) := by decide +kernel
theorem dX11_lacks_51 : decode cX11_lacks 51 = .ok (.ifCond .eq 78, 3) := by decide +kernel
theorem dX11_lacks_54 : decode cX11_lacks 54 = .ok (.aload_n 0, 1) := by decide +kernel
theorem dX11_lacks_55 : decode cX11_lacks 55 = .ok (.iload_n 3, 1) := by decide +kernel
theorem dX11_lacks_56 : decode cX11_lacks 56 = .ok (.iconst (-1), 1) := by decide +kernel
theorem dX11_lacks_57 : decode cX11_lacks 57 = .ok (.iload_n 1, 1) := by decide +kernel
theorem dX11_lacks_58 : decode cX11_lacks 58 = .ok (.aload_n 0, 1) := by decide +kernel
theorem dX11_lacks_59 : decode cX11_lacks 59 = .ok (.getfield 59, 3) := by decide +kernel
theorem dX11_lacks_62 : decode cX11_lacks 62 = .ok (.iload 5, 2) := by decide +kernel
theorem dX11_lacks_64 : decode cX11_lacks 64 = .ok (.iaload, 1) := by decide +kernel
theorem dX11_lacks_65 : decode cX11_lacks 65 = .ok (.aload_n 0, 1) := by decide +kernel
theorem dX11_lacks_66 : decode cX11_lacks 66 = .ok (.getfield 59, 3) := by decide +kernel
theorem dX11_lacks_69 : decode cX11_lacks 69 = .ok (.iload 5, 2) := by decide +kernel
theorem dX11_lacks_71 : decode cX11_lacks 71 = .ok (.iconst 1, 1) := by decide +kernel
theorem dX11_lacks_72 : decode cX11_lacks 72 = .ok (.iadd, 1) := by decide +kernel
theorem dX11_lacks_73 : decode cX11_lacks 73 = .ok (.iaload, 1) := by decide +kernel
theorem dX11_lacks_74 : decode cX11_lacks 74 = .ok (.aload_n 0, 1) := by decide +kernel
theorem dX11_lacks_75 : decode cX11_lacks 75 = .ok (.getfield 59, 3) := by decide +kernel
theorem dX11_lacks_78 : decode cX11_lacks 78 = .ok (.iload 5, 2) := by decide +kernel
theorem dX11_lacks_80 : decode cX11_lacks 80 = .ok (.iconst 2, 1) := by decide +kernel
theorem dX11_lacks_81 : decode cX11_lacks 81 = .ok (.iadd, 1) := by decide +kernel
theorem dX11_lacks_82 : decode cX11_lacks 82 = .ok (.iaload, 1) := by decide +kernel
theorem dX11_lacks_83 : decode cX11_lacks 83 = .ok (.aload_n 0, 1) := by decide +kernel
theorem dX11_lacks_84 : decode cX11_lacks 84 = .ok (.getfield 59, 3) := by decide +kernel
theorem dX11_lacks_87 : decode cX11_lacks 87 = .ok (.iload 5, 2) := by decide +kernel
theorem dX11_lacks_89 : decode cX11_lacks 89 = .ok (.iconst 3, 1) := by decide +kernel
theorem dX11_lacks_90 : decode cX11_lacks 90 = .ok (.iadd, 1) := by decide +kernel
theorem dX11_lacks_91 : decode cX11_lacks 91 = .ok (.iaload, 1) := by decide +kernel
theorem dX11_lacks_92 : decode cX11_lacks 92 = .ok (.invokevirtual 203, 3) := by decide +kernel
theorem dX11_lacks_95 : decode cX11_lacks 95 = .ok (.aload_n 0, 1) := by decide +kernel
theorem dX11_lacks_96 : decode cX11_lacks 96 = .ok (.getfield 59, 3) := by decide +kernel
theorem dX11_lacks_99 : decode cX11_lacks 99 = .ok (.iload 5, 2) := by decide +kernel
theorem dX11_lacks_101 : decode cX11_lacks 101 = .ok (.iconst 4, 1) := by decide +kernel
theorem dX11_lacks_102 : decode cX11_lacks 102 = .ok (.iadd, 1) := by decide +kernel
theorem dX11_lacks_103 : decode cX11_lacks 103 = .ok (.iaload, 1) := by decide +kernel
theorem dX11_lacks_104 : decode cX11_lacks 104 = .ok (.iconst 1, 1) := by decide +kernel
theorem dX11_lacks_105 : decode cX11_lacks 105 = .ok (.if_icmp .ne 7, 3) := by decide +kernel
theorem dX11_lacks_108 : decode cX11_lacks 108 = .ok (.iconst 1, 1) := by decide +kernel
theorem dX11_lacks_109 : decode cX11_lacks 109 = .ok (.goto 4, 3) := by decide +kernel
theorem dX11_lacks_112 : decode cX11_lacks 112 = .ok (.iconst 0, 1) := by decide +kernel
theorem dX11_lacks_113 : decode cX11_lacks 113 = .ok (.if_icmp .ne 7, 3) := by decide +kernel
theorem dX11_lacks_116 : decode cX11_lacks 116 = .ok (.iconst 1, 1) := by decide +kernel
theorem dX11_lacks_117 : decode cX11_lacks 117 = .ok (.goto 4, 3) := by decide +kernel
theorem dX11_lacks_120 : decode cX11_lacks 120 = .ok (.iconst 0, 1) := by decide +kernel
theorem dX11_lacks_121 : decode cX11_lacks 121 = .ok (.istore 4, 2) := by decide +kernel
theorem dX11_lacks_123 : decode cX11_lacks 123 = .ok (.iinc 5 5, 3) := by decide +kernel
theorem dX11_lacks_126 : decode cX11_lacks 126 = .ok (.goto (-88), 3) := by decide +kernel
theorem dX11_lacks_129 : decode cX11_lacks 129 = .ok (.iload_n 2, 1) := by decide +kernel
theorem dX11_lacks_130 : decode cX11_lacks 130 = .ok (.iload 4, 2) := by decide +kernel
theorem dX11_lacks_132 : decode cX11_lacks 132 = .ok (.ifCond .eq 9, 3) := by decide +kernel
theorem dX11_lacks_135 : decode cX11_lacks 135 = .ok (.iconst 1, 1) := by decide +kernel
theorem dX11_lacks_136 : decode cX11_lacks 136 = .ok (.iload_n 3, 1) := by decide +kernel
theorem dX11_lacks_137 : decode cX11_lacks 137 = .ok (.ishl, 1) := by decide +kernel
theorem dX11_lacks_138 : decode cX11_lacks 138 = .ok (.goto 4, 3) := by decide +kernel
theorem dX11_lacks_141 : decode cX11_lacks 141 = .ok (.iconst 0, 1) := by decide +kernel
theorem dX11_lacks_142 : decode cX11_lacks 142 = .ok (.ior, 1) := by decide +kernel
theorem dX11_lacks_143 : decode cX11_lacks 143 = .ok (.istore_n 2, 1) := by decide +kernel
theorem dX11_lacks_144 : decode cX11_lacks 144 = .ok (.iinc 3 1, 3) := by decide +kernel
theorem dX11_lacks_147 : decode cX11_lacks 147 = .ok (.goto (-128), 3) := by decide +kernel
theorem dX11_lacks_150 : decode cX11_lacks 150 = .ok (.iload_n 2, 1) := by decide +kernel
theorem dX11_lacks_151 : decode cX11_lacks 151 = .ok (.ireturn, 1) := by decide +kernel
theorem dX11_layWays_0 : decode cX11_layWays 0 = .ok (.iconst 0, 1) := by decide +kernel
theorem dX11_layWays_1 : decode cX11_layWays 1 = .ok (.istore_n 1, 1) := by decide +kernel
theorem dX11_layWays_2 : decode cX11_layWays 2 = .ok (.iload_n 1, 1) := by decide +kernel
theorem dX11_layWays_3 : decode cX11_layWays 3 = .ok (.bipush 12, 2) := by decide +kernel
theorem dX11_layWays_5 : decode cX11_layWays 5 = .ok (.if_icmp .ge 92, 3) := by decide +kernel
theorem dX11_layWays_8 : decode cX11_layWays 8 = .ok (.aload_n 0, 1) := by decide +kernel
theorem dX11_layWays_9 : decode cX11_layWays 9 = .ok (.getfield 62, 3) := by decide +kernel
theorem dX11_layWays_12 : decode cX11_layWays 12 = .ok (.iload_n 1, 1) := by decide +kernel
theorem dX11_layWays_13 : decode cX11_layWays 13 = .ok (.aload_n 0, 1) := by decide +kernel
theorem dX11_layWays_14 : decode cX11_layWays 14 = .ok (.getfield 16, 3) := by decide +kernel
theorem dX11_layWays_17 : decode cX11_layWays 17 = .ok (.iload_n 1, 1) := by decide +kernel
theorem dX11_layWays_18 : decode cX11_layWays 18 = .ok (.invokestatic 87, 3) := by decide +kernel
theorem dX11_layWays_21 : decode cX11_layWays 21 = .ok (.ifCond .eq 11, 3) := by decide +kernel
theorem dX11_layWays_24 : decode cX11_layWays 24 = .ok (.aload_n 0, 1) := by decide +kernel
theorem dX11_layWays_25 : decode cX11_layWays 25 = .ok (.iload_n 1, 1) := by decide +kernel
theorem dX11_layWays_26 : decode cX11_layWays 26 = .ok (.invokevirtual 168, 3) := by decide +kernel
theorem dX11_layWays_29 : decode cX11_layWays 29 = .ok (.goto 4, 3) := by decide +kernel
theorem dX11_layWays_32 : decode cX11_layWays 32 = .ok (.iconst 0, 1) := by decide +kernel
theorem dX11_layWays_33 : decode cX11_layWays 33 = .ok (.iastore, 1) := by decide +kernel
theorem dX11_layWays_34 : decode cX11_layWays 34 = .ok (.iconst 0, 1) := by decide +kernel
theorem dX11_layWays_35 : decode cX11_layWays 35 = .ok (.istore_n 2, 1) := by decide +kernel
theorem dX11_layWays_36 : decode cX11_layWays 36 = .ok (.iload_n 2, 1) := by decide +kernel
theorem dX11_layWays_37 : decode cX11_layWays 37 = .ok (.bipush 12, 2) := by decide +kernel
theorem dX11_layWays_39 : decode cX11_layWays 39 = .ok (.if_icmp .ge 52, 3) := by decide +kernel
theorem dX11_layWays_42 : decode cX11_layWays 42 = .ok (.aload_n 0, 1) := by decide +kernel
theorem dX11_layWays_43 : decode cX11_layWays 43 = .ok (.getfield 65, 3) := by decide +kernel
theorem dX11_layWays_46 : decode cX11_layWays 46 = .ok (.bipush 12, 2) := by decide +kernel
theorem dX11_layWays_48 : decode cX11_layWays 48 = .ok (.iload_n 1, 1) := by decide +kernel
theorem dX11_layWays_49 : decode cX11_layWays 49 = .ok (.imul, 1) := by decide +kernel
theorem dX11_layWays_50 : decode cX11_layWays 50 = .ok (.iload_n 2, 1) := by decide +kernel
theorem dX11_layWays_51 : decode cX11_layWays 51 = .ok (.iadd, 1) := by decide +kernel
theorem dX11_layWays_52 : decode cX11_layWays 52 = .ok (.aload_n 0, 1) := by decide +kernel
theorem dX11_layWays_53 : decode cX11_layWays 53 = .ok (.getfield 16, 3) := by decide +kernel
theorem dX11_layWays_56 : decode cX11_layWays 56 = .ok (.iload_n 1, 1) := by decide +kernel
theorem dX11_layWays_57 : decode cX11_layWays 57 = .ok (.invokestatic 87, 3) := by decide +kernel
theorem dX11_layWays_60 : decode cX11_layWays 60 = .ok (.ifCond .eq 23, 3) := by decide +kernel
theorem dX11_layWays_63 : decode cX11_layWays 63 = .ok (.aload_n 0, 1) := by decide +kernel
theorem dX11_layWays_64 : decode cX11_layWays 64 = .ok (.getfield 16, 3) := by decide +kernel
theorem dX11_layWays_67 : decode cX11_layWays 67 = .ok (.iload_n 2, 1) := by decide +kernel
theorem dX11_layWays_68 : decode cX11_layWays 68 = .ok (.invokestatic 87, 3) := by decide +kernel
theorem dX11_layWays_71 : decode cX11_layWays 71 = .ok (.ifCond .eq 12, 3) := by decide +kernel
theorem dX11_layWays_74 : decode cX11_layWays 74 = .ok (.aload_n 0, 1) := by decide +kernel
theorem dX11_layWays_75 : decode cX11_layWays 75 = .ok (.iload_n 1, 1) := by decide +kernel
theorem dX11_layWays_76 : decode cX11_layWays 76 = .ok (.iload_n 2, 1) := by decide +kernel
theorem dX11_layWays_77 : decode cX11_layWays 77 = .ok (.invokevirtual 171, 3) := by decide +kernel
theorem dX11_layWays_80 : decode cX11_layWays 80 = .ok (.goto 4, 3) := by decide +kernel
theorem dX11_layWays_83 : decode cX11_layWays 83 = .ok (.iconst 0, 1) := by decide +kernel
theorem dX11_layWays_84 : decode cX11_layWays 84 = .ok (.iastore, 1) := by decide +kernel
theorem dX11_layWays_85 : decode cX11_layWays 85 = .ok (.iinc 2 1, 3) := by decide +kernel
theorem dX11_layWays_88 : decode cX11_layWays 88 = .ok (.goto (-52), 3) := by decide +kernel
theorem dX11_layWays_91 : decode cX11_layWays 91 = .ok (.iinc 1 1, 3) := by decide +kernel
theorem dX11_layWays_94 : decode cX11_layWays 94 = .ok (.goto (-92), 3) := by decide +kernel
theorem dX11_layWays_97 : decode cX11_layWays 97 = .ok (.return_, 1) := by decide +kernel
theorem dX11_parts_0 : decode cX11_parts 0 = .ok (.aload_n 0, 1) := by decide +kernel
theorem dX11_parts_1 : decode cX11_parts 1 = .ok (.getfield 16, 3) := by decide +kernel
theorem dX11_parts_4 : decode cX11_parts 4 = .ok (.iload_n 1, 1) := by decide +kernel
theorem dX11_parts_5 : decode cX11_parts 5 = .ok (.invokestatic 87, 3) := by decide +kernel
theorem dX11_parts_8 : decode cX11_parts 8 = .ok (.ifCond .eq 31, 3) := by decide +kernel
theorem dX11_parts_11 : decode cX11_parts 11 = .ok (.iload_n 2, 1) := by decide +kernel
theorem dX11_parts_12 : decode cX11_parts 12 = .ok (.aload_n 0, 1) := by decide +kernel
theorem dX11_parts_13 : decode cX11_parts 13 = .ok (.getfield 62, 3) := by decide +kernel
theorem dX11_parts_16 : decode cX11_parts 16 = .ok (.iload_n 1, 1) := by decide +kernel
theorem dX11_parts_17 : decode cX11_parts 17 = .ok (.iaload, 1) := by decide +kernel
theorem dX11_parts_18 : decode cX11_parts 18 = .ok (.iand, 1) := by decide +kernel
theorem dX11_parts_19 : decode cX11_parts 19 = .ok (.ifCond .eq 20, 3) := by decide +kernel
theorem dX11_parts_22 : decode cX11_parts 22 = .ok (.iload_n 2, 1) := by decide +kernel
theorem dX11_parts_23 : decode cX11_parts 23 = .ok (.aload_n 0, 1) := by decide +kernel
theorem dX11_parts_24 : decode cX11_parts 24 = .ok (.getfield 62, 3) := by decide +kernel
theorem dX11_parts_27 : decode cX11_parts 27 = .ok (.iload_n 1, 1) := by decide +kernel
theorem dX11_parts_28 : decode cX11_parts 28 = .ok (.iaload, 1) := by decide +kernel
theorem dX11_parts_29 : decode cX11_parts 29 = .ok (.iconst (-1), 1) := by decide +kernel
theorem dX11_parts_30 : decode cX11_parts 30 = .ok (.ixor, 1) := by decide +kernel
theorem dX11_parts_31 : decode cX11_parts 31 = .ok (.iand, 1) := by decide +kernel
theorem dX11_parts_32 : decode cX11_parts 32 = .ok (.ifCond .eq 7, 3) := by decide +kernel
theorem dX11_parts_35 : decode cX11_parts 35 = .ok (.iconst 1, 1) := by decide +kernel
theorem dX11_parts_36 : decode cX11_parts 36 = .ok (.goto 4, 3) := by decide +kernel
theorem dX11_parts_39 : decode cX11_parts 39 = .ok (.iconst 0, 1) := by decide +kernel
theorem dX11_parts_40 : decode cX11_parts 40 = .ok (.ireturn, 1) := by decide +kernel
theorem dX11_greater_0 : decode cX11_greater 0 = .ok (.iload_n 0, 1) := by decide +kernel
theorem dX11_greater_1 : decode cX11_greater 1 = .ok (.iload_n 1, 1) := by decide +kernel
theorem dX11_greater_2 : decode cX11_greater 2 = .ok (.if_icmp .le 7, 3) := by decide +kernel
theorem dX11_greater_5 : decode cX11_greater 5 = .ok (.iload_n 0, 1) := by decide +kernel
theorem dX11_greater_6 : decode cX11_greater 6 = .ok (.goto 4, 3) := by decide +kernel
theorem dX11_greater_9 : decode cX11_greater 9 = .ok (.iload_n 1, 1) := by decide +kernel
theorem dX11_greater_10 : decode cX11_greater 10 = .ok (.ireturn, 1) := by decide +kernel
theorem dX11_fewBy_0 : decode cX11_fewBy 0 = .ok (.iconst 1, 1) := by decide +kernel
theorem dX11_fewBy_1 : decode cX11_fewBy 1 = .ok (.aload_n 0, 1) := by decide +kernel
theorem dX11_fewBy_2 : decode cX11_fewBy 2 = .ok (.getfield 68, 3) := by decide +kernel
theorem dX11_fewBy_5 : decode cX11_fewBy 5 = .ok (.iload_n 2, 1) := by decide +kernel
theorem dX11_fewBy_6 : decode cX11_fewBy 6 = .ok (.aload_n 0, 1) := by decide +kernel
theorem dX11_fewBy_7 : decode cX11_fewBy 7 = .ok (.getfield 62, 3) := by decide +kernel
theorem dX11_fewBy_10 : decode cX11_fewBy 10 = .ok (.iload_n 1, 1) := by decide +kernel
theorem dX11_fewBy_11 : decode cX11_fewBy 11 = .ok (.iaload, 1) := by decide +kernel
theorem dX11_fewBy_12 : decode cX11_fewBy 12 = .ok (.iand, 1) := by decide +kernel
theorem dX11_fewBy_13 : decode cX11_fewBy 13 = .ok (.iaload, 1) := by decide +kernel
theorem dX11_fewBy_14 : decode cX11_fewBy 14 = .ok (.aload_n 0, 1) := by decide +kernel
theorem dX11_fewBy_15 : decode cX11_fewBy 15 = .ok (.getfield 68, 3) := by decide +kernel
theorem dX11_fewBy_18 : decode cX11_fewBy 18 = .ok (.iload_n 2, 1) := by decide +kernel
theorem dX11_fewBy_19 : decode cX11_fewBy 19 = .ok (.aload_n 0, 1) := by decide +kernel
theorem dX11_fewBy_20 : decode cX11_fewBy 20 = .ok (.getfield 62, 3) := by decide +kernel
theorem dX11_fewBy_23 : decode cX11_fewBy 23 = .ok (.iload_n 1, 1) := by decide +kernel
theorem dX11_fewBy_24 : decode cX11_fewBy 24 = .ok (.iaload, 1) := by decide +kernel
theorem dX11_fewBy_25 : decode cX11_fewBy 25 = .ok (.iconst (-1), 1) := by decide +kernel
theorem dX11_fewBy_26 : decode cX11_fewBy 26 = .ok (.ixor, 1) := by decide +kernel
theorem dX11_fewBy_27 : decode cX11_fewBy 27 = .ok (.iand, 1) := by decide +kernel
theorem dX11_fewBy_28 : decode cX11_fewBy 28 = .ok (.iaload, 1) := by decide +kernel
theorem dX11_fewBy_29 : decode cX11_fewBy 29 = .ok (.invokestatic 257, 3) := by decide +kernel
theorem dX11_fewBy_32 : decode cX11_fewBy 32 = .ok (.iadd, 1) := by decide +kernel
theorem dX11_fewBy_33 : decode cX11_fewBy 33 = .ok (.ireturn, 1) := by decide +kernel
theorem dX11_layFew_0 : decode cX11_layFew 0 = .ok (.aload_n 0, 1) := by decide +kernel
theorem dX11_layFew_1 : decode cX11_layFew 1 = .ok (.invokevirtual 260, 3) := by decide +kernel
theorem dX11_layFew_4 : decode cX11_layFew 4 = .ok (.iconst 0, 1) := by decide +kernel
theorem dX11_layFew_5 : decode cX11_layFew 5 = .ok (.istore_n 2, 1) := by decide +kernel
theorem dX11_layFew_6 : decode cX11_layFew 6 = .ok (.iload_n 2, 1) := by decide +kernel
theorem dX11_layFew_7 : decode cX11_layFew 7 = .ok (.sipush 4096, 3) := by decide +kernel
theorem dX11_layFew_10 : decode cX11_layFew 10 = .ok (.if_icmp .ge 105, 3) := by decide +kernel
theorem dX11_layFew_13 : decode cX11_layFew 13 = .ok (.aload_n 0, 1) := by decide +kernel
theorem dX11_layFew_14 : decode cX11_layFew 14 = .ok (.getfield 68, 3) := by decide +kernel
theorem dX11_layFew_17 : decode cX11_layFew 17 = .ok (.iload_n 2, 1) := by decide +kernel
theorem dX11_layFew_18 : decode cX11_layFew 18 = .ok (.iload_n 2, 1) := by decide +kernel
theorem dX11_layFew_19 : decode cX11_layFew 19 = .ok (.invokestatic 193, 3) := by decide +kernel
theorem dX11_layFew_22 : decode cX11_layFew 22 = .ok (.iconst 2, 1) := by decide +kernel
theorem dX11_layFew_23 : decode cX11_layFew 23 = .ok (.if_icmp .ge 7, 3) := by decide +kernel
theorem dX11_layFew_26 : decode cX11_layFew 26 = .ok (.iconst 0, 1) := by decide +kernel
theorem dX11_layFew_27 : decode cX11_layFew 27 = .ok (.goto 6, 3) := by decide +kernel
theorem dX11_layFew_30 : decode cX11_layFew 30 = .ok (.ldc_w 263, 3) := by decide +kernel
theorem dX11_layFew_33 : decode cX11_layFew 33 = .ok (.iastore, 1) := by decide +kernel
theorem dX11_layFew_34 : decode cX11_layFew 34 = .ok (.iconst 0, 1) := by decide +kernel
theorem dX11_layFew_35 : decode cX11_layFew 35 = .ok (.istore_n 3, 1) := by decide +kernel
theorem dX11_layFew_36 : decode cX11_layFew 36 = .ok (.iload_n 3, 1) := by decide +kernel
theorem dX11_layFew_37 : decode cX11_layFew 37 = .ok (.bipush 12, 2) := by decide +kernel
theorem dX11_layFew_39 : decode cX11_layFew 39 = .ok (.if_icmp .ge 70, 3) := by decide +kernel
theorem dX11_layFew_42 : decode cX11_layFew 42 = .ok (.iload_n 2, 1) := by decide +kernel
theorem dX11_layFew_43 : decode cX11_layFew 43 = .ok (.invokestatic 193, 3) := by decide +kernel
theorem dX11_layFew_46 : decode cX11_layFew 46 = .ok (.iconst 1, 1) := by decide +kernel
theorem dX11_layFew_47 : decode cX11_layFew 47 = .ok (.if_icmp .le 62, 3) := by decide +kernel
theorem dX11_layFew_50 : decode cX11_layFew 50 = .ok (.iload_n 2, 1) := by decide +kernel
theorem dX11_layFew_51 : decode cX11_layFew 51 = .ok (.iload_n 1, 1) := by decide +kernel
theorem dX11_layFew_52 : decode cX11_layFew 52 = .ok (.iconst (-1), 1) := by decide +kernel
theorem dX11_layFew_53 : decode cX11_layFew 53 = .ok (.ixor, 1) := by decide +kernel
theorem dX11_layFew_54 : decode cX11_layFew 54 = .ok (.iand, 1) := by decide +kernel
theorem dX11_layFew_55 : decode cX11_layFew 55 = .ok (.ifCond .ne 54, 3) := by decide +kernel
theorem dX11_layFew_58 : decode cX11_layFew 58 = .ok (.aload_n 0, 1) := by decide +kernel
theorem dX11_layFew_59 : decode cX11_layFew 59 = .ok (.iload_n 3, 1) := by decide +kernel
theorem dX11_layFew_60 : decode cX11_layFew 60 = .ok (.iload_n 2, 1) := by decide +kernel
theorem dX11_layFew_61 : decode cX11_layFew 61 = .ok (.invokevirtual 264, 3) := by decide +kernel
theorem dX11_layFew_64 : decode cX11_layFew 64 = .ok (.ifCond .eq 39, 3) := by decide +kernel
theorem dX11_layFew_67 : decode cX11_layFew 67 = .ok (.aload_n 0, 1) := by decide +kernel
theorem dX11_layFew_68 : decode cX11_layFew 68 = .ok (.getfield 68, 3) := by decide +kernel
theorem dX11_layFew_71 : decode cX11_layFew 71 = .ok (.iload_n 2, 1) := by decide +kernel
theorem dX11_layFew_72 : decode cX11_layFew 72 = .ok (.aload_n 0, 1) := by decide +kernel
theorem dX11_layFew_73 : decode cX11_layFew 73 = .ok (.iload_n 3, 1) := by decide +kernel
theorem dX11_layFew_74 : decode cX11_layFew 74 = .ok (.iload_n 2, 1) := by decide +kernel
theorem dX11_layFew_75 : decode cX11_layFew 75 = .ok (.invokevirtual 267, 3) := by decide +kernel
theorem dX11_layFew_78 : decode cX11_layFew 78 = .ok (.aload_n 0, 1) := by decide +kernel
theorem dX11_layFew_79 : decode cX11_layFew 79 = .ok (.getfield 68, 3) := by decide +kernel
theorem dX11_layFew_82 : decode cX11_layFew 82 = .ok (.iload_n 2, 1) := by decide +kernel
theorem dX11_layFew_83 : decode cX11_layFew 83 = .ok (.iaload, 1) := by decide +kernel
theorem dX11_layFew_84 : decode cX11_layFew 84 = .ok (.if_icmp .ge 12, 3) := by decide +kernel
theorem dX11_layFew_87 : decode cX11_layFew 87 = .ok (.aload_n 0, 1) := by decide +kernel
theorem dX11_layFew_88 : decode cX11_layFew 88 = .ok (.iload_n 3, 1) := by decide +kernel
theorem dX11_layFew_89 : decode cX11_layFew 89 = .ok (.iload_n 2, 1) := by decide +kernel
theorem dX11_layFew_90 : decode cX11_layFew 90 = .ok (.invokevirtual 267, 3) := by decide +kernel
theorem dX11_layFew_93 : decode cX11_layFew 93 = .ok (.goto 9, 3) := by decide +kernel
theorem dX11_layFew_96 : decode cX11_layFew 96 = .ok (.aload_n 0, 1) := by decide +kernel
theorem dX11_layFew_97 : decode cX11_layFew 97 = .ok (.getfield 68, 3) := by decide +kernel
theorem dX11_layFew_100 : decode cX11_layFew 100 = .ok (.iload_n 2, 1) := by decide +kernel
theorem dX11_layFew_101 : decode cX11_layFew 101 = .ok (.iaload, 1) := by decide +kernel
theorem dX11_layFew_102 : decode cX11_layFew 102 = .ok (.iastore, 1) := by decide +kernel
theorem dX11_layFew_103 : decode cX11_layFew 103 = .ok (.iinc 3 1, 3) := by decide +kernel
theorem dX11_layFew_106 : decode cX11_layFew 106 = .ok (.goto (-70), 3) := by decide +kernel
theorem dX11_layFew_109 : decode cX11_layFew 109 = .ok (.iinc 2 1, 3) := by decide +kernel
theorem dX11_layFew_112 : decode cX11_layFew 112 = .ok (.goto (-106), 3) := by decide +kernel
theorem dX11_layFew_115 : decode cX11_layFew 115 = .ok (.return_, 1) := by decide +kernel
theorem dX11_fewest_0 : decode cX11_fewest 0 = .ok (.iload_n 1, 1) := by decide +kernel
theorem dX11_fewest_1 : decode cX11_fewest 1 = .ok (.i2l, 1) := by decide +kernel
theorem dX11_fewest_2 : decode cX11_fewest 2 = .ok (.lconst 0, 1) := by decide +kernel
theorem dX11_fewest_3 : decode cX11_fewest 3 = .ok (.lconst 1, 1) := by decide +kernel
theorem dX11_fewest_4 : decode cX11_fewest 4 = .ok (.invokestatic 83, 3) := by decide +kernel
theorem dX11_fewest_7 : decode cX11_fewest 7 = .ok (.ifCond .ne 6, 3) := by decide +kernel
theorem dX11_fewest_10 : decode cX11_fewest 10 = .ok (.bipush (-3), 2) := by decide +kernel
theorem dX11_fewest_12 : decode cX11_fewest 12 = .ok (.ireturn, 1) := by decide +kernel
theorem dX11_fewest_13 : decode cX11_fewest 13 = .ok (.aload_n 0, 1) := by decide +kernel
theorem dX11_fewest_14 : decode cX11_fewest 14 = .ok (.invokevirtual 218, 3) := by decide +kernel
theorem dX11_fewest_17 : decode cX11_fewest 17 = .ok (.istore_n 2, 1) := by decide +kernel
theorem dX11_fewest_18 : decode cX11_fewest 18 = .ok (.aload_n 0, 1) := by decide +kernel
theorem dX11_fewest_19 : decode cX11_fewest 19 = .ok (.iload_n 2, 1) := by decide +kernel
theorem dX11_fewest_20 : decode cX11_fewest 20 = .ok (.invokevirtual 270, 3) := by decide +kernel
theorem dX11_fewest_23 : decode cX11_fewest 23 = .ok (.iload_n 1, 1) := by decide +kernel
theorem dX11_fewest_24 : decode cX11_fewest 24 = .ok (.ifCond .ne 10, 3) := by decide +kernel
theorem dX11_fewest_27 : decode cX11_fewest 27 = .ok (.aload_n 0, 1) := by decide +kernel
theorem dX11_fewest_28 : decode cX11_fewest 28 = .ok (.getfield 68, 3) := by decide +kernel
theorem dX11_fewest_31 : decode cX11_fewest 31 = .ok (.iload_n 2, 1) := by decide +kernel
theorem dX11_fewest_32 : decode cX11_fewest 32 = .ok (.iaload, 1) := by decide +kernel
theorem dX11_fewest_33 : decode cX11_fewest 33 = .ok (.ireturn, 1) := by decide +kernel
theorem dX11_fewest_34 : decode cX11_fewest 34 = .ok (.iconst 0, 1) := by decide +kernel
theorem dX11_fewest_35 : decode cX11_fewest 35 = .ok (.istore_n 3, 1) := by decide +kernel
theorem dX11_fewest_36 : decode cX11_fewest 36 = .ok (.iload_n 3, 1) := by decide +kernel
theorem dX11_fewest_37 : decode cX11_fewest 37 = .ok (.bipush 12, 2) := by decide +kernel
theorem dX11_fewest_39 : decode cX11_fewest 39 = .ok (.if_icmp .ge 35, 3) := by decide +kernel
theorem dX11_fewest_42 : decode cX11_fewest 42 = .ok (.aload_n 0, 1) := by decide +kernel
theorem dX11_fewest_43 : decode cX11_fewest 43 = .ok (.iload_n 3, 1) := by decide +kernel
theorem dX11_fewest_44 : decode cX11_fewest 44 = .ok (.iload_n 2, 1) := by decide +kernel
theorem dX11_fewest_45 : decode cX11_fewest 45 = .ok (.invokevirtual 264, 3) := by decide +kernel
theorem dX11_fewest_48 : decode cX11_fewest 48 = .ok (.ifCond .eq 20, 3) := by decide +kernel
theorem dX11_fewest_51 : decode cX11_fewest 51 = .ok (.aload_n 0, 1) := by decide +kernel
theorem dX11_fewest_52 : decode cX11_fewest 52 = .ok (.iload_n 3, 1) := by decide +kernel
theorem dX11_fewest_53 : decode cX11_fewest 53 = .ok (.iload_n 2, 1) := by decide +kernel
theorem dX11_fewest_54 : decode cX11_fewest 54 = .ok (.invokevirtual 267, 3) := by decide +kernel
theorem dX11_fewest_57 : decode cX11_fewest 57 = .ok (.aload_n 0, 1) := by decide +kernel
theorem dX11_fewest_58 : decode cX11_fewest 58 = .ok (.getfield 68, 3) := by decide +kernel
theorem dX11_fewest_61 : decode cX11_fewest 61 = .ok (.iload_n 2, 1) := by decide +kernel
theorem dX11_fewest_62 : decode cX11_fewest 62 = .ok (.iaload, 1) := by decide +kernel
theorem dX11_fewest_63 : decode cX11_fewest 63 = .ok (.if_icmp .ne 5, 3) := by decide +kernel
theorem dX11_fewest_66 : decode cX11_fewest 66 = .ok (.iload_n 3, 1) := by decide +kernel
theorem dX11_fewest_67 : decode cX11_fewest 67 = .ok (.ireturn, 1) := by decide +kernel
theorem dX11_fewest_68 : decode cX11_fewest 68 = .ok (.iinc 3 1, 3) := by decide +kernel
theorem dX11_fewest_71 : decode cX11_fewest 71 = .ok (.goto (-35), 3) := by decide +kernel
theorem dX11_fewest_74 : decode cX11_fewest 74 = .ok (.iconst (-1), 1) := by decide +kernel
theorem dX11_fewest_75 : decode cX11_fewest 75 = .ok (.ireturn, 1) := by decide +kernel
theorem dX11_likelyOf_0 : decode cX11_likelyOf 0 = .ok (.iconst 0, 1) := by decide +kernel
theorem dX11_likelyOf_1 : decode cX11_likelyOf 1 = .ok (.istore_n 2, 1) := by decide +kernel
theorem dX11_likelyOf_2 : decode cX11_likelyOf 2 = .ok (.iconst 0, 1) := by decide +kernel
theorem dX11_likelyOf_3 : decode cX11_likelyOf 3 = .ok (.istore_n 3, 1) := by decide +kernel
theorem dX11_likelyOf_4 : decode cX11_likelyOf 4 = .ok (.iload_n 3, 1) := by decide +kernel
theorem dX11_likelyOf_5 : decode cX11_likelyOf 5 = .ok (.bipush 12, 2) := by decide +kernel
theorem dX11_likelyOf_7 : decode cX11_likelyOf 7 = .ok (.if_icmp .ge 30, 3) := by decide +kernel
theorem dX11_likelyOf_10 : decode cX11_likelyOf 10 = .ok (.iload_n 2, 1) := by decide +kernel
theorem dX11_likelyOf_11 : decode cX11_likelyOf 11 = .ok (.iload_n 1, 1) := by decide +kernel
theorem dX11_likelyOf_12 : decode cX11_likelyOf 12 = .ok (.iload_n 3, 1) := by decide +kernel
theorem dX11_likelyOf_13 : decode cX11_likelyOf 13 = .ok (.invokestatic 87, 3) := by decide +kernel
theorem dX11_likelyOf_16 : decode cX11_likelyOf 16 = .ok (.ifCond .eq 12, 3) := by decide +kernel
theorem dX11_likelyOf_19 : decode cX11_likelyOf 19 = .ok (.aload_n 0, 1) := by decide +kernel
theorem dX11_likelyOf_20 : decode cX11_likelyOf 20 = .ok (.getfield 35, 3) := by decide +kernel
theorem dX11_likelyOf_23 : decode cX11_likelyOf 23 = .ok (.iload_n 3, 1) := by decide +kernel
theorem dX11_likelyOf_24 : decode cX11_likelyOf 24 = .ok (.iaload, 1) := by decide +kernel
theorem dX11_likelyOf_25 : decode cX11_likelyOf 25 = .ok (.goto 4, 3) := by decide +kernel
theorem dX11_likelyOf_28 : decode cX11_likelyOf 28 = .ok (.iconst 0, 1) := by decide +kernel
theorem dX11_likelyOf_29 : decode cX11_likelyOf 29 = .ok (.iadd, 1) := by decide +kernel
theorem dX11_likelyOf_30 : decode cX11_likelyOf 30 = .ok (.istore_n 2, 1) := by decide +kernel
theorem dX11_likelyOf_31 : decode cX11_likelyOf 31 = .ok (.iinc 3 1, 3) := by decide +kernel
theorem dX11_likelyOf_34 : decode cX11_likelyOf 34 = .ok (.goto (-30), 3) := by decide +kernel
theorem dX11_likelyOf_37 : decode cX11_likelyOf 37 = .ok (.iload_n 2, 1) := by decide +kernel
theorem dX11_likelyOf_38 : decode cX11_likelyOf 38 = .ok (.ireturn, 1) := by decide +kernel
theorem dX11_mean_0 : decode cX11_mean 0 = .ok (.iload_n 1, 1) := by decide +kernel
theorem dX11_mean_1 : decode cX11_mean 1 = .ok (.invokestatic 234, 3) := by decide +kernel
theorem dX11_mean_4 : decode cX11_mean 4 = .ok (.ifCond .ne 6, 3) := by decide +kernel
theorem dX11_mean_7 : decode cX11_mean 7 = .ok (.bipush (-3), 2) := by decide +kernel
theorem dX11_mean_9 : decode cX11_mean 9 = .ok (.ireturn, 1) := by decide +kernel
theorem dX11_mean_10 : decode cX11_mean 10 = .ok (.aload_n 0, 1) := by decide +kernel
theorem dX11_mean_11 : decode cX11_mean 11 = .ok (.invokevirtual 218, 3) := by decide +kernel
theorem dX11_mean_14 : decode cX11_mean 14 = .ok (.istore_n 2, 1) := by decide +kernel
theorem dX11_mean_15 : decode cX11_mean 15 = .ok (.iload_n 2, 1) := by decide +kernel
theorem dX11_mean_16 : decode cX11_mean 16 = .ok (.ifCond .ne 6, 3) := by decide +kernel
theorem dX11_mean_19 : decode cX11_mean 19 = .ok (.bipush (-4), 2) := by decide +kernel
theorem dX11_mean_21 : decode cX11_mean 21 = .ok (.ireturn, 1) := by decide +kernel
theorem dX11_mean_22 : decode cX11_mean 22 = .ok (.aload_n 0, 1) := by decide +kernel
theorem dX11_mean_23 : decode cX11_mean 23 = .ok (.invokevirtual 260, 3) := by decide +kernel
theorem dX11_mean_26 : decode cX11_mean 26 = .ok (.iconst 0, 1) := by decide +kernel
theorem dX11_mean_27 : decode cX11_mean 27 = .ok (.istore_n 3, 1) := by decide +kernel
theorem dX11_mean_28 : decode cX11_mean 28 = .ok (.iload_n 3, 1) := by decide +kernel
theorem dX11_mean_29 : decode cX11_mean 29 = .ok (.sipush 4096, 3) := by decide +kernel
theorem dX11_mean_32 : decode cX11_mean 32 = .ok (.if_icmp .ge 139, 3) := by decide +kernel
theorem dX11_mean_35 : decode cX11_mean 35 = .ok (.aload_n 0, 1) := by decide +kernel
theorem dX11_mean_36 : decode cX11_mean 36 = .ok (.getfield 71, 3) := by decide +kernel
theorem dX11_mean_39 : decode cX11_mean 39 = .ok (.iload_n 3, 1) := by decide +kernel
theorem dX11_mean_40 : decode cX11_mean 40 = .ok (.iload_n 3, 1) := by decide +kernel
theorem dX11_mean_41 : decode cX11_mean 41 = .ok (.invokestatic 193, 3) := by decide +kernel
theorem dX11_mean_44 : decode cX11_mean 44 = .ok (.iconst 2, 1) := by decide +kernel
theorem dX11_mean_45 : decode cX11_mean 45 = .ok (.if_icmp .ge 7, 3) := by decide +kernel
theorem dX11_mean_48 : decode cX11_mean 48 = .ok (.iconst 0, 1) := by decide +kernel
theorem dX11_mean_49 : decode cX11_mean 49 = .ok (.goto 6, 3) := by decide +kernel
theorem dX11_mean_52 : decode cX11_mean 52 = .ok (.ldc_w 263, 3) := by decide +kernel
theorem dX11_mean_55 : decode cX11_mean 55 = .ok (.iastore, 1) := by decide +kernel
theorem dX11_mean_56 : decode cX11_mean 56 = .ok (.iconst 0, 1) := by decide +kernel
theorem dX11_mean_57 : decode cX11_mean 57 = .ok (.istore 4, 2) := by decide +kernel
theorem dX11_mean_59 : decode cX11_mean 59 = .ok (.iload 4, 2) := by decide +kernel
theorem dX11_mean_61 : decode cX11_mean 61 = .ok (.bipush 12, 2) := by decide +kernel
theorem dX11_mean_63 : decode cX11_mean 63 = .ok (.if_icmp .ge 102, 3) := by decide +kernel
theorem dX11_mean_66 : decode cX11_mean 66 = .ok (.iload_n 3, 1) := by decide +kernel
theorem dX11_mean_67 : decode cX11_mean 67 = .ok (.invokestatic 193, 3) := by decide +kernel
theorem dX11_mean_70 : decode cX11_mean 70 = .ok (.iconst 1, 1) := by decide +kernel
theorem dX11_mean_71 : decode cX11_mean 71 = .ok (.if_icmp .le 94, 3) := by decide +kernel
theorem dX11_mean_74 : decode cX11_mean 74 = .ok (.iload_n 3, 1) := by decide +kernel
theorem dX11_mean_75 : decode cX11_mean 75 = .ok (.iload_n 2, 1) := by decide +kernel
theorem dX11_mean_76 : decode cX11_mean 76 = .ok (.iconst (-1), 1) := by decide +kernel
theorem dX11_mean_77 : decode cX11_mean 77 = .ok (.ixor, 1) := by decide +kernel
theorem dX11_mean_78 : decode cX11_mean 78 = .ok (.iand, 1) := by decide +kernel
theorem dX11_mean_79 : decode cX11_mean 79 = .ok (.ifCond .ne 86, 3) := by decide +kernel
theorem dX11_mean_82 : decode cX11_mean 82 = .ok (.aload_n 0, 1) := by decide +kernel
theorem dX11_mean_83 : decode cX11_mean 83 = .ok (.iload 4, 2) := by decide +kernel
theorem dX11_mean_85 : decode cX11_mean 85 = .ok (.iload_n 3, 1) := by decide +kernel
theorem dX11_mean_86 : decode cX11_mean 86 = .ok (.invokevirtual 264, 3) := by decide +kernel
theorem dX11_mean_89 : decode cX11_mean 89 = .ok (.ifCond .eq 70, 3) := by decide +kernel
theorem dX11_mean_92 : decode cX11_mean 92 = .ok (.aload_n 0, 1) := by decide +kernel
theorem dX11_mean_93 : decode cX11_mean 93 = .ok (.iload_n 3, 1) := by decide +kernel
theorem dX11_mean_94 : decode cX11_mean 94 = .ok (.invokevirtual 273, 3) := by decide +kernel
theorem dX11_mean_97 : decode cX11_mean 97 = .ok (.aload_n 0, 1) := by decide +kernel
theorem dX11_mean_98 : decode cX11_mean 98 = .ok (.getfield 71, 3) := by decide +kernel
theorem dX11_mean_101 : decode cX11_mean 101 = .ok (.iload_n 3, 1) := by decide +kernel
theorem dX11_mean_102 : decode cX11_mean 102 = .ok (.aload_n 0, 1) := by decide +kernel
theorem dX11_mean_103 : decode cX11_mean 103 = .ok (.getfield 62, 3) := by decide +kernel
theorem dX11_mean_106 : decode cX11_mean 106 = .ok (.iload 4, 2) := by decide +kernel
theorem dX11_mean_108 : decode cX11_mean 108 = .ok (.iaload, 1) := by decide +kernel
theorem dX11_mean_109 : decode cX11_mean 109 = .ok (.iand, 1) := by decide +kernel
theorem dX11_mean_110 : decode cX11_mean 110 = .ok (.iaload, 1) := by decide +kernel
theorem dX11_mean_111 : decode cX11_mean 111 = .ok (.iadd, 1) := by decide +kernel
theorem dX11_mean_112 : decode cX11_mean 112 = .ok (.aload_n 0, 1) := by decide +kernel
theorem dX11_mean_113 : decode cX11_mean 113 = .ok (.getfield 71, 3) := by decide +kernel
theorem dX11_mean_116 : decode cX11_mean 116 = .ok (.iload_n 3, 1) := by decide +kernel
theorem dX11_mean_117 : decode cX11_mean 117 = .ok (.aload_n 0, 1) := by decide +kernel
theorem dX11_mean_118 : decode cX11_mean 118 = .ok (.getfield 62, 3) := by decide +kernel
theorem dX11_mean_121 : decode cX11_mean 121 = .ok (.iload 4, 2) := by decide +kernel
theorem dX11_mean_123 : decode cX11_mean 123 = .ok (.iaload, 1) := by decide +kernel
theorem dX11_mean_124 : decode cX11_mean 124 = .ok (.iconst (-1), 1) := by decide +kernel
theorem dX11_mean_125 : decode cX11_mean 125 = .ok (.ixor, 1) := by decide +kernel
theorem dX11_mean_126 : decode cX11_mean 126 = .ok (.iand, 1) := by decide +kernel
theorem dX11_mean_127 : decode cX11_mean 127 = .ok (.iaload, 1) := by decide +kernel
theorem dX11_mean_128 : decode cX11_mean 128 = .ok (.iadd, 1) := by decide +kernel
theorem dX11_mean_129 : decode cX11_mean 129 = .ok (.istore 5, 2) := by decide +kernel
theorem dX11_mean_131 : decode cX11_mean 131 = .ok (.aload_n 0, 1) := by decide +kernel
theorem dX11_mean_132 : decode cX11_mean 132 = .ok (.getfield 71, 3) := by decide +kernel
theorem dX11_mean_135 : decode cX11_mean 135 = .ok (.iload_n 3, 1) := by decide +kernel
theorem dX11_mean_136 : decode cX11_mean 136 = .ok (.iload 5, 2) := by decide +kernel
theorem dX11_mean_138 : decode cX11_mean 138 = .ok (.aload_n 0, 1) := by decide +kernel
theorem dX11_mean_139 : decode cX11_mean 139 = .ok (.getfield 71, 3) := by decide +kernel
theorem dX11_mean_142 : decode cX11_mean 142 = .ok (.iload_n 3, 1) := by decide +kernel
theorem dX11_mean_143 : decode cX11_mean 143 = .ok (.iaload, 1) := by decide +kernel
theorem dX11_mean_144 : decode cX11_mean 144 = .ok (.if_icmp .ge 8, 3) := by decide +kernel
theorem dX11_mean_147 : decode cX11_mean 147 = .ok (.iload 5, 2) := by decide +kernel
theorem dX11_mean_149 : decode cX11_mean 149 = .ok (.goto 9, 3) := by decide +kernel
theorem dX11_mean_152 : decode cX11_mean 152 = .ok (.aload_n 0, 1) := by decide +kernel
theorem dX11_mean_153 : decode cX11_mean 153 = .ok (.getfield 71, 3) := by decide +kernel
theorem dX11_mean_156 : decode cX11_mean 156 = .ok (.iload_n 3, 1) := by decide +kernel
theorem dX11_mean_157 : decode cX11_mean 157 = .ok (.iaload, 1) := by decide +kernel
theorem dX11_mean_158 : decode cX11_mean 158 = .ok (.iastore, 1) := by decide +kernel
theorem dX11_mean_159 : decode cX11_mean 159 = .ok (.iinc 4 1, 3) := by decide +kernel
theorem dX11_mean_162 : decode cX11_mean 162 = .ok (.goto (-103), 3) := by decide +kernel
theorem dX11_mean_165 : decode cX11_mean 165 = .ok (.iinc 3 1, 3) := by decide +kernel
theorem dX11_mean_168 : decode cX11_mean 168 = .ok (.goto (-140), 3) := by decide +kernel
theorem dX11_mean_171 : decode cX11_mean 171 = .ok (.aload_n 0, 1) := by decide +kernel
theorem dX11_mean_172 : decode cX11_mean 172 = .ok (.getfield 71, 3) := by decide +kernel
theorem dX11_mean_175 : decode cX11_mean 175 = .ok (.iload_n 2, 1) := by decide +kernel
theorem dX11_mean_176 : decode cX11_mean 176 = .ok (.iaload, 1) := by decide +kernel
theorem dX11_mean_177 : decode cX11_mean 177 = .ok (.i2l, 1) := by decide +kernel
theorem dX11_mean_178 : decode cX11_mean 178 = .ok (.aload_n 0, 1) := by decide +kernel
theorem dX11_mean_179 : decode cX11_mean 179 = .ok (.iload_n 2, 1) := by decide +kernel
theorem dX11_mean_180 : decode cX11_mean 180 = .ok (.invokevirtual 273, 3) := by decide +kernel
theorem dX11_mean_183 : decode cX11_mean 183 = .ok (.i2l, 1) := by decide +kernel
theorem dX11_mean_184 : decode cX11_mean 184 = .ok (.iload_n 1, 1) := by decide +kernel
theorem dX11_mean_185 : decode cX11_mean 185 = .ok (.invokestatic 245, 3) := by decide +kernel
theorem dX11_mean_188 : decode cX11_mean 188 = .ok (.l2i, 1) := by decide +kernel
theorem dX11_mean_189 : decode cX11_mean 189 = .ok (.ireturn, 1) := by decide +kernel
theorem dX11_soonBy_0 : decode cX11_soonBy 0 = .ok (.aload_n 0, 1) := by decide +kernel
theorem dX11_soonBy_1 : decode cX11_soonBy 1 = .ok (.getfield 65, 3) := by decide +kernel
theorem dX11_soonBy_4 : decode cX11_soonBy 4 = .ok (.bipush 12, 2) := by decide +kernel
theorem dX11_soonBy_6 : decode cX11_soonBy 6 = .ok (.iload_n 1, 1) := by decide +kernel
theorem dX11_soonBy_7 : decode cX11_soonBy 7 = .ok (.imul, 1) := by decide +kernel
theorem dX11_soonBy_8 : decode cX11_soonBy 8 = .ok (.iload_n 2, 1) := by decide +kernel
theorem dX11_soonBy_9 : decode cX11_soonBy 9 = .ok (.iadd, 1) := by decide +kernel
theorem dX11_soonBy_10 : decode cX11_soonBy 10 = .ok (.iaload, 1) := by decide +kernel
theorem dX11_soonBy_11 : decode cX11_soonBy 11 = .ok (.aload_n 0, 1) := by decide +kernel
theorem dX11_soonBy_12 : decode cX11_soonBy 12 = .ok (.getfield 143, 3) := by decide +kernel
theorem dX11_soonBy_15 : decode cX11_soonBy 15 = .ok (.iadd, 1) := by decide +kernel
theorem dX11_soonBy_16 : decode cX11_soonBy 16 = .ok (.aload_n 0, 1) := by decide +kernel
theorem dX11_soonBy_17 : decode cX11_soonBy 17 = .ok (.getfield 75, 3) := by decide +kernel
theorem dX11_soonBy_20 : decode cX11_soonBy 20 = .ok (.bipush 12, 2) := by decide +kernel
theorem dX11_soonBy_22 : decode cX11_soonBy 22 = .ok (.iload_n 3, 1) := by decide +kernel
theorem dX11_soonBy_23 : decode cX11_soonBy 23 = .ok (.aload_n 0, 1) := by decide +kernel
theorem dX11_soonBy_24 : decode cX11_soonBy 24 = .ok (.getfield 62, 3) := by decide +kernel
theorem dX11_soonBy_27 : decode cX11_soonBy 27 = .ok (.iload_n 2, 1) := by decide +kernel
theorem dX11_soonBy_28 : decode cX11_soonBy 28 = .ok (.iaload, 1) := by decide +kernel
theorem dX11_soonBy_29 : decode cX11_soonBy 29 = .ok (.iand, 1) := by decide +kernel
theorem dX11_soonBy_30 : decode cX11_soonBy 30 = .ok (.imul, 1) := by decide +kernel
theorem dX11_soonBy_31 : decode cX11_soonBy 31 = .ok (.iload_n 2, 1) := by decide +kernel
theorem dX11_soonBy_32 : decode cX11_soonBy 32 = .ok (.iadd, 1) := by decide +kernel
theorem dX11_soonBy_33 : decode cX11_soonBy 33 = .ok (.iaload, 1) := by decide +kernel
theorem dX11_soonBy_34 : decode cX11_soonBy 34 = .ok (.aload_n 0, 1) := by decide +kernel
theorem dX11_soonBy_35 : decode cX11_soonBy 35 = .ok (.getfield 75, 3) := by decide +kernel
theorem dX11_soonBy_38 : decode cX11_soonBy 38 = .ok (.bipush 12, 2) := by decide +kernel
theorem dX11_soonBy_40 : decode cX11_soonBy 40 = .ok (.iload_n 3, 1) := by decide +kernel
theorem dX11_soonBy_41 : decode cX11_soonBy 41 = .ok (.aload_n 0, 1) := by decide +kernel
theorem dX11_soonBy_42 : decode cX11_soonBy 42 = .ok (.getfield 62, 3) := by decide +kernel
theorem dX11_soonBy_45 : decode cX11_soonBy 45 = .ok (.iload_n 2, 1) := by decide +kernel
theorem dX11_soonBy_46 : decode cX11_soonBy 46 = .ok (.iaload, 1) := by decide +kernel
theorem dX11_soonBy_47 : decode cX11_soonBy 47 = .ok (.iconst (-1), 1) := by decide +kernel
theorem dX11_soonBy_48 : decode cX11_soonBy 48 = .ok (.ixor, 1) := by decide +kernel
theorem dX11_soonBy_49 : decode cX11_soonBy 49 = .ok (.iand, 1) := by decide +kernel
theorem dX11_soonBy_50 : decode cX11_soonBy 50 = .ok (.imul, 1) := by decide +kernel
theorem dX11_soonBy_51 : decode cX11_soonBy 51 = .ok (.iload_n 2, 1) := by decide +kernel
theorem dX11_soonBy_52 : decode cX11_soonBy 52 = .ok (.iadd, 1) := by decide +kernel
theorem dX11_soonBy_53 : decode cX11_soonBy 53 = .ok (.iaload, 1) := by decide +kernel
theorem dX11_soonBy_54 : decode cX11_soonBy 54 = .ok (.invokestatic 257, 3) := by decide +kernel
theorem dX11_soonBy_57 : decode cX11_soonBy 57 = .ok (.iadd, 1) := by decide +kernel
theorem dX11_soonBy_58 : decode cX11_soonBy 58 = .ok (.ireturn, 1) := by decide +kernel
theorem dX11_laySoon_0 : decode cX11_laySoon 0 = .ok (.aload_n 0, 1) := by decide +kernel
theorem dX11_laySoon_1 : decode cX11_laySoon 1 = .ok (.invokevirtual 260, 3) := by decide +kernel
theorem dX11_laySoon_4 : decode cX11_laySoon 4 = .ok (.iconst 0, 1) := by decide +kernel
theorem dX11_laySoon_5 : decode cX11_laySoon 5 = .ok (.istore_n 2, 1) := by decide +kernel
theorem dX11_laySoon_6 : decode cX11_laySoon 6 = .ok (.iload_n 2, 1) := by decide +kernel
theorem dX11_laySoon_7 : decode cX11_laySoon 7 = .ok (.sipush 4096, 3) := by decide +kernel
theorem dX11_laySoon_10 : decode cX11_laySoon 10 = .ok (.if_icmp .ge 159, 3) := by decide +kernel
theorem dX11_laySoon_13 : decode cX11_laySoon 13 = .ok (.iconst 0, 1) := by decide +kernel
theorem dX11_laySoon_14 : decode cX11_laySoon 14 = .ok (.istore_n 3, 1) := by decide +kernel
theorem dX11_laySoon_15 : decode cX11_laySoon 15 = .ok (.iload_n 3, 1) := by decide +kernel
theorem dX11_laySoon_16 : decode cX11_laySoon 16 = .ok (.bipush 12, 2) := by decide +kernel
theorem dX11_laySoon_18 : decode cX11_laySoon 18 = .ok (.if_icmp .ge 35, 3) := by decide +kernel
theorem dX11_laySoon_21 : decode cX11_laySoon 21 = .ok (.aload_n 0, 1) := by decide +kernel
theorem dX11_laySoon_22 : decode cX11_laySoon 22 = .ok (.getfield 75, 3) := by decide +kernel
theorem dX11_laySoon_25 : decode cX11_laySoon 25 = .ok (.bipush 12, 2) := by decide +kernel
theorem dX11_laySoon_27 : decode cX11_laySoon 27 = .ok (.iload_n 2, 1) := by decide +kernel
theorem dX11_laySoon_28 : decode cX11_laySoon 28 = .ok (.imul, 1) := by decide +kernel
theorem dX11_laySoon_29 : decode cX11_laySoon 29 = .ok (.iload_n 3, 1) := by decide +kernel
theorem dX11_laySoon_30 : decode cX11_laySoon 30 = .ok (.iadd, 1) := by decide +kernel
theorem dX11_laySoon_31 : decode cX11_laySoon 31 = .ok (.iload_n 2, 1) := by decide +kernel
theorem dX11_laySoon_32 : decode cX11_laySoon 32 = .ok (.invokestatic 193, 3) := by decide +kernel
theorem dX11_laySoon_35 : decode cX11_laySoon 35 = .ok (.iconst 2, 1) := by decide +kernel
theorem dX11_laySoon_36 : decode cX11_laySoon 36 = .ok (.if_icmp .ge 7, 3) := by decide +kernel
theorem dX11_laySoon_39 : decode cX11_laySoon 39 = .ok (.iconst 0, 1) := by decide +kernel
theorem dX11_laySoon_40 : decode cX11_laySoon 40 = .ok (.goto 6, 3) := by decide +kernel
theorem dX11_laySoon_43 : decode cX11_laySoon 43 = .ok (.ldc_w 263, 3) := by decide +kernel
theorem dX11_laySoon_46 : decode cX11_laySoon 46 = .ok (.iastore, 1) := by decide +kernel
theorem dX11_laySoon_47 : decode cX11_laySoon 47 = .ok (.iinc 3 1, 3) := by decide +kernel
theorem dX11_laySoon_50 : decode cX11_laySoon 50 = .ok (.goto (-35), 3) := by decide +kernel
theorem dX11_laySoon_53 : decode cX11_laySoon 53 = .ok (.iconst 0, 1) := by decide +kernel
theorem dX11_laySoon_54 : decode cX11_laySoon 54 = .ok (.istore_n 3, 1) := by decide +kernel
theorem dX11_laySoon_55 : decode cX11_laySoon 55 = .ok (.iload_n 3, 1) := by decide +kernel
theorem dX11_laySoon_56 : decode cX11_laySoon 56 = .ok (.sipush 144, 3) := by decide +kernel
theorem dX11_laySoon_59 : decode cX11_laySoon 59 = .ok (.if_icmp .ge 104, 3) := by decide +kernel
theorem dX11_laySoon_62 : decode cX11_laySoon 62 = .ok (.iload_n 2, 1) := by decide +kernel
theorem dX11_laySoon_63 : decode cX11_laySoon 63 = .ok (.invokestatic 193, 3) := by decide +kernel
theorem dX11_laySoon_66 : decode cX11_laySoon 66 = .ok (.iconst 1, 1) := by decide +kernel
theorem dX11_laySoon_67 : decode cX11_laySoon 67 = .ok (.if_icmp .le 96, 3) := by decide +kernel
theorem dX11_laySoon_70 : decode cX11_laySoon 70 = .ok (.iload_n 2, 1) := by decide +kernel
theorem dX11_laySoon_71 : decode cX11_laySoon 71 = .ok (.iload_n 1, 1) := by decide +kernel
theorem dX11_laySoon_72 : decode cX11_laySoon 72 = .ok (.iconst (-1), 1) := by decide +kernel
theorem dX11_laySoon_73 : decode cX11_laySoon 73 = .ok (.ixor, 1) := by decide +kernel
theorem dX11_laySoon_74 : decode cX11_laySoon 74 = .ok (.iand, 1) := by decide +kernel
theorem dX11_laySoon_75 : decode cX11_laySoon 75 = .ok (.ifCond .ne 88, 3) := by decide +kernel
theorem dX11_laySoon_78 : decode cX11_laySoon 78 = .ok (.iload_n 3, 1) := by decide +kernel
theorem dX11_laySoon_79 : decode cX11_laySoon 79 = .ok (.bipush 12, 2) := by decide +kernel
theorem dX11_laySoon_81 : decode cX11_laySoon 81 = .ok (.idiv, 1) := by decide +kernel
theorem dX11_laySoon_82 : decode cX11_laySoon 82 = .ok (.istore 4, 2) := by decide +kernel
theorem dX11_laySoon_84 : decode cX11_laySoon 84 = .ok (.iload_n 3, 1) := by decide +kernel
theorem dX11_laySoon_85 : decode cX11_laySoon 85 = .ok (.bipush 12, 2) := by decide +kernel
theorem dX11_laySoon_87 : decode cX11_laySoon 87 = .ok (.irem, 1) := by decide +kernel
theorem dX11_laySoon_88 : decode cX11_laySoon 88 = .ok (.istore 5, 2) := by decide +kernel
theorem dX11_laySoon_90 : decode cX11_laySoon 90 = .ok (.aload_n 0, 1) := by decide +kernel
theorem dX11_laySoon_91 : decode cX11_laySoon 91 = .ok (.iload 4, 2) := by decide +kernel
theorem dX11_laySoon_93 : decode cX11_laySoon 93 = .ok (.iload_n 2, 1) := by decide +kernel
theorem dX11_laySoon_94 : decode cX11_laySoon 94 = .ok (.invokevirtual 264, 3) := by decide +kernel
theorem dX11_laySoon_97 : decode cX11_laySoon 97 = .ok (.ifCond .eq 60, 3) := by decide +kernel
theorem dX11_laySoon_100 : decode cX11_laySoon 100 = .ok (.aload_n 0, 1) := by decide +kernel
theorem dX11_laySoon_101 : decode cX11_laySoon 101 = .ok (.iload 5, 2) := by decide +kernel
theorem dX11_laySoon_103 : decode cX11_laySoon 103 = .ok (.iload 4, 2) := by decide +kernel
theorem dX11_laySoon_105 : decode cX11_laySoon 105 = .ok (.iload_n 2, 1) := by decide +kernel
theorem dX11_laySoon_106 : decode cX11_laySoon 106 = .ok (.invokevirtual 276, 3) := by decide +kernel
theorem dX11_laySoon_109 : decode cX11_laySoon 109 = .ok (.istore 6, 2) := by decide +kernel
theorem dX11_laySoon_111 : decode cX11_laySoon 111 = .ok (.aload_n 0, 1) := by decide +kernel
theorem dX11_laySoon_112 : decode cX11_laySoon 112 = .ok (.getfield 75, 3) := by decide +kernel
theorem dX11_laySoon_115 : decode cX11_laySoon 115 = .ok (.bipush 12, 2) := by decide +kernel
theorem dX11_laySoon_117 : decode cX11_laySoon 117 = .ok (.iload_n 2, 1) := by decide +kernel
theorem dX11_laySoon_118 : decode cX11_laySoon 118 = .ok (.imul, 1) := by decide +kernel
theorem dX11_laySoon_119 : decode cX11_laySoon 119 = .ok (.iload 5, 2) := by decide +kernel
theorem dX11_laySoon_121 : decode cX11_laySoon 121 = .ok (.iadd, 1) := by decide +kernel
theorem dX11_laySoon_122 : decode cX11_laySoon 122 = .ok (.iload 6, 2) := by decide +kernel
theorem dX11_laySoon_124 : decode cX11_laySoon 124 = .ok (.aload_n 0, 1) := by decide +kernel
theorem dX11_laySoon_125 : decode cX11_laySoon 125 = .ok (.getfield 75, 3) := by decide +kernel
theorem dX11_laySoon_128 : decode cX11_laySoon 128 = .ok (.bipush 12, 2) := by decide +kernel
theorem dX11_laySoon_130 : decode cX11_laySoon 130 = .ok (.iload_n 2, 1) := by decide +kernel
theorem dX11_laySoon_131 : decode cX11_laySoon 131 = .ok (.imul, 1) := by decide +kernel
theorem dX11_laySoon_132 : decode cX11_laySoon 132 = .ok (.iload 5, 2) := by decide +kernel
theorem dX11_laySoon_134 : decode cX11_laySoon 134 = .ok (.iadd, 1) := by decide +kernel
theorem dX11_laySoon_135 : decode cX11_laySoon 135 = .ok (.iaload, 1) := by decide +kernel
theorem dX11_laySoon_136 : decode cX11_laySoon 136 = .ok (.if_icmp .ge 8, 3) := by decide +kernel
theorem dX11_laySoon_139 : decode cX11_laySoon 139 = .ok (.iload 6, 2) := by decide +kernel
theorem dX11_laySoon_141 : decode cX11_laySoon 141 = .ok (.goto 15, 3) := by decide +kernel
theorem dX11_laySoon_144 : decode cX11_laySoon 144 = .ok (.aload_n 0, 1) := by decide +kernel
theorem dX11_laySoon_145 : decode cX11_laySoon 145 = .ok (.getfield 75, 3) := by decide +kernel
theorem dX11_laySoon_148 : decode cX11_laySoon 148 = .ok (.bipush 12, 2) := by decide +kernel
theorem dX11_laySoon_150 : decode cX11_laySoon 150 = .ok (.iload_n 2, 1) := by decide +kernel
theorem dX11_laySoon_151 : decode cX11_laySoon 151 = .ok (.imul, 1) := by decide +kernel
theorem dX11_laySoon_152 : decode cX11_laySoon 152 = .ok (.iload 5, 2) := by decide +kernel
theorem dX11_laySoon_154 : decode cX11_laySoon 154 = .ok (.iadd, 1) := by decide +kernel
theorem dX11_laySoon_155 : decode cX11_laySoon 155 = .ok (.iaload, 1) := by decide +kernel
theorem dX11_laySoon_156 : decode cX11_laySoon 156 = .ok (.iastore, 1) := by decide +kernel
theorem dX11_laySoon_157 : decode cX11_laySoon 157 = .ok (.iinc 3 1, 3) := by decide +kernel
theorem dX11_laySoon_160 : decode cX11_laySoon 160 = .ok (.goto (-105), 3) := by decide +kernel
theorem dX11_laySoon_163 : decode cX11_laySoon 163 = .ok (.iinc 2 1, 3) := by decide +kernel
theorem dX11_laySoon_166 : decode cX11_laySoon 166 = .ok (.goto (-160), 3) := by decide +kernel
theorem dX11_laySoon_169 : decode cX11_laySoon 169 = .ok (.return_, 1) := by decide +kernel
theorem dX11_soonLid_0 : decode cX11_soonLid 0 = .ok (.iconst 0, 1) := by decide +kernel
theorem dX11_soonLid_1 : decode cX11_soonLid 1 = .ok (.istore_n 3, 1) := by decide +kernel
theorem dX11_soonLid_2 : decode cX11_soonLid 2 = .ok (.iload_n 3, 1) := by decide +kernel
theorem dX11_soonLid_3 : decode cX11_soonLid 3 = .ok (.bipush 12, 2) := by decide +kernel
theorem dX11_soonLid_5 : decode cX11_soonLid 5 = .ok (.if_icmp .ge 41, 3) := by decide +kernel
theorem dX11_soonLid_8 : decode cX11_soonLid 8 = .ok (.aload_n 0, 1) := by decide +kernel
theorem dX11_soonLid_9 : decode cX11_soonLid 9 = .ok (.iload_n 3, 1) := by decide +kernel
theorem dX11_soonLid_10 : decode cX11_soonLid 10 = .ok (.iload_n 2, 1) := by decide +kernel
theorem dX11_soonLid_11 : decode cX11_soonLid 11 = .ok (.invokevirtual 264, 3) := by decide +kernel
theorem dX11_soonLid_14 : decode cX11_soonLid 14 = .ok (.ifCond .eq 26, 3) := by decide +kernel
theorem dX11_soonLid_17 : decode cX11_soonLid 17 = .ok (.aload_n 0, 1) := by decide +kernel
theorem dX11_soonLid_18 : decode cX11_soonLid 18 = .ok (.iload_n 1, 1) := by decide +kernel
theorem dX11_soonLid_19 : decode cX11_soonLid 19 = .ok (.iload_n 3, 1) := by decide +kernel
theorem dX11_soonLid_20 : decode cX11_soonLid 20 = .ok (.iload_n 2, 1) := by decide +kernel
theorem dX11_soonLid_21 : decode cX11_soonLid 21 = .ok (.invokevirtual 276, 3) := by decide +kernel
theorem dX11_soonLid_24 : decode cX11_soonLid 24 = .ok (.aload_n 0, 1) := by decide +kernel
theorem dX11_soonLid_25 : decode cX11_soonLid 25 = .ok (.getfield 75, 3) := by decide +kernel
theorem dX11_soonLid_28 : decode cX11_soonLid 28 = .ok (.bipush 12, 2) := by decide +kernel
theorem dX11_soonLid_30 : decode cX11_soonLid 30 = .ok (.iload_n 2, 1) := by decide +kernel
theorem dX11_soonLid_31 : decode cX11_soonLid 31 = .ok (.imul, 1) := by decide +kernel
theorem dX11_soonLid_32 : decode cX11_soonLid 32 = .ok (.iload_n 1, 1) := by decide +kernel
theorem dX11_soonLid_33 : decode cX11_soonLid 33 = .ok (.iadd, 1) := by decide +kernel
theorem dX11_soonLid_34 : decode cX11_soonLid 34 = .ok (.iaload, 1) := by decide +kernel
theorem dX11_soonLid_35 : decode cX11_soonLid 35 = .ok (.if_icmp .ne 5, 3) := by decide +kernel
theorem dX11_soonLid_38 : decode cX11_soonLid 38 = .ok (.iload_n 3, 1) := by decide +kernel
theorem dX11_soonLid_39 : decode cX11_soonLid 39 = .ok (.ireturn, 1) := by decide +kernel
theorem dX11_soonLid_40 : decode cX11_soonLid 40 = .ok (.iinc 3 1, 3) := by decide +kernel
theorem dX11_soonLid_43 : decode cX11_soonLid 43 = .ok (.goto (-41), 3) := by decide +kernel
theorem dX11_soonLid_46 : decode cX11_soonLid 46 = .ok (.iconst (-1), 1) := by decide +kernel
theorem dX11_soonLid_47 : decode cX11_soonLid 47 = .ok (.ireturn, 1) := by decide +kernel
theorem dX11_soon_0 : decode cX11_soon 0 = .ok (.aload_n 0, 1) := by decide +kernel
theorem dX11_soon_1 : decode cX11_soon 1 = .ok (.iload_n 1, 1) := by decide +kernel
theorem dX11_soon_2 : decode cX11_soon 2 = .ok (.invokevirtual 157, 3) := by decide +kernel
theorem dX11_soon_5 : decode cX11_soon 5 = .ok (.ifCond .ne 6, 3) := by decide +kernel
theorem dX11_soon_8 : decode cX11_soon 8 = .ok (.bipush (-2), 2) := by decide +kernel
theorem dX11_soon_10 : decode cX11_soon 10 = .ok (.ireturn, 1) := by decide +kernel
theorem dX11_soon_11 : decode cX11_soon 11 = .ok (.iload_n 2, 1) := by decide +kernel
theorem dX11_soon_12 : decode cX11_soon 12 = .ok (.i2l, 1) := by decide +kernel
theorem dX11_soon_13 : decode cX11_soon 13 = .ok (.lconst 0, 1) := by decide +kernel
theorem dX11_soon_14 : decode cX11_soon 14 = .ok (.lconst 1, 1) := by decide +kernel
theorem dX11_soon_15 : decode cX11_soon 15 = .ok (.invokestatic 83, 3) := by decide +kernel
theorem dX11_soon_18 : decode cX11_soon 18 = .ok (.ifCond .ne 6, 3) := by decide +kernel
theorem dX11_soon_21 : decode cX11_soon 21 = .ok (.bipush (-3), 2) := by decide +kernel
theorem dX11_soon_23 : decode cX11_soon 23 = .ok (.ireturn, 1) := by decide +kernel
theorem dX11_soon_24 : decode cX11_soon 24 = .ok (.aload_n 0, 1) := by decide +kernel
theorem dX11_soon_25 : decode cX11_soon 25 = .ok (.invokevirtual 218, 3) := by decide +kernel
theorem dX11_soon_28 : decode cX11_soon 28 = .ok (.istore_n 3, 1) := by decide +kernel
theorem dX11_soon_29 : decode cX11_soon 29 = .ok (.aload_n 0, 1) := by decide +kernel
theorem dX11_soon_30 : decode cX11_soon 30 = .ok (.iload_n 3, 1) := by decide +kernel
theorem dX11_soon_31 : decode cX11_soon 31 = .ok (.invokevirtual 279, 3) := by decide +kernel
theorem dX11_soon_34 : decode cX11_soon 34 = .ok (.iload_n 2, 1) := by decide +kernel
theorem dX11_soon_35 : decode cX11_soon 35 = .ok (.ifCond .ne 17, 3) := by decide +kernel
theorem dX11_soon_38 : decode cX11_soon 38 = .ok (.aload_n 0, 1) := by decide +kernel
theorem dX11_soon_39 : decode cX11_soon 39 = .ok (.getfield 75, 3) := by decide +kernel
theorem dX11_soon_42 : decode cX11_soon 42 = .ok (.bipush 12, 2) := by decide +kernel
theorem dX11_soon_44 : decode cX11_soon 44 = .ok (.iload_n 3, 1) := by decide +kernel
theorem dX11_soon_45 : decode cX11_soon 45 = .ok (.imul, 1) := by decide +kernel
theorem dX11_soon_46 : decode cX11_soon 46 = .ok (.iload_n 1, 1) := by decide +kernel
theorem dX11_soon_47 : decode cX11_soon 47 = .ok (.iadd, 1) := by decide +kernel
theorem dX11_soon_48 : decode cX11_soon 48 = .ok (.iaload, 1) := by decide +kernel
theorem dX11_soon_49 : decode cX11_soon 49 = .ok (.goto 9, 3) := by decide +kernel
theorem dX11_soon_52 : decode cX11_soon 52 = .ok (.aload_n 0, 1) := by decide +kernel
theorem dX11_soon_53 : decode cX11_soon 53 = .ok (.iload_n 1, 1) := by decide +kernel
theorem dX11_soon_54 : decode cX11_soon 54 = .ok (.iload_n 3, 1) := by decide +kernel
theorem dX11_soon_55 : decode cX11_soon 55 = .ok (.invokevirtual 282, 3) := by decide +kernel
theorem dX11_soon_58 : decode cX11_soon 58 = .ok (.ireturn, 1) := by decide +kernel
theorem dX11_answersOf_0 : decode cX11_answersOf 0 = .ok (.iconst 0, 1) := by decide +kernel
theorem dX11_answersOf_1 : decode cX11_answersOf 1 = .ok (.istore 5, 2) := by decide +kernel
theorem dX11_answersOf_3 : decode cX11_answersOf 3 = .ok (.iconst 0, 1) := by decide +kernel
theorem dX11_answersOf_4 : decode cX11_answersOf 4 = .ok (.istore 6, 2) := by decide +kernel
theorem dX11_answersOf_6 : decode cX11_answersOf 6 = .ok (.iconst 0, 1) := by decide +kernel
theorem dX11_answersOf_7 : decode cX11_answersOf 7 = .ok (.istore 7, 2) := by decide +kernel
theorem dX11_answersOf_9 : decode cX11_answersOf 9 = .ok (.iload 7, 2) := by decide +kernel
theorem dX11_answersOf_11 : decode cX11_answersOf 11 = .ok (.iload_n 3, 1) := by decide +kernel
theorem dX11_answersOf_12 : decode cX11_answersOf 12 = .ok (.if_icmp .ge 80, 3) := by decide +kernel
theorem dX11_answersOf_15 : decode cX11_answersOf 15 = .ok (.iload_n 2, 1) := by decide +kernel
theorem dX11_answersOf_16 : decode cX11_answersOf 16 = .ok (.iconst 4, 1) := by decide +kernel
theorem dX11_answersOf_17 : decode cX11_answersOf 17 = .ok (.iload 7, 2) := by decide +kernel
theorem dX11_answersOf_19 : decode cX11_answersOf 19 = .ok (.imul, 1) := by decide +kernel
theorem dX11_answersOf_20 : decode cX11_answersOf 20 = .ok (.ishr, 1) := by decide +kernel
theorem dX11_answersOf_21 : decode cX11_answersOf 21 = .ok (.bipush 15, 2) := by decide +kernel
theorem dX11_answersOf_23 : decode cX11_answersOf 23 = .ok (.iand, 1) := by decide +kernel
theorem dX11_answersOf_24 : decode cX11_answersOf 24 = .ok (.istore 8, 2) := by decide +kernel
theorem dX11_answersOf_26 : decode cX11_answersOf 26 = .ok (.iload 5, 2) := by decide +kernel
theorem dX11_answersOf_28 : decode cX11_answersOf 28 = .ok (.iload 6, 2) := by decide +kernel
theorem dX11_answersOf_30 : decode cX11_answersOf 30 = .ok (.ifCond .ne 23, 3) := by decide +kernel
theorem dX11_answersOf_33 : decode cX11_answersOf 33 = .ok (.aload_n 0, 1) := by decide +kernel
theorem dX11_answersOf_34 : decode cX11_answersOf 34 = .ok (.iload_n 1, 1) := by decide +kernel
theorem dX11_answersOf_35 : decode cX11_answersOf 35 = .ok (.invokevirtual 165, 3) := by decide +kernel
theorem dX11_answersOf_38 : decode cX11_answersOf 38 = .ok (.iload 8, 2) := by decide +kernel
theorem dX11_answersOf_40 : decode cX11_answersOf 40 = .ok (.invokestatic 87, 3) := by decide +kernel
theorem dX11_answersOf_43 : decode cX11_answersOf 43 = .ok (.ifCond .eq 10, 3) := by decide +kernel
theorem dX11_answersOf_46 : decode cX11_answersOf 46 = .ok (.iconst 1, 1) := by decide +kernel
theorem dX11_answersOf_47 : decode cX11_answersOf 47 = .ok (.iload 7, 2) := by decide +kernel
theorem dX11_answersOf_49 : decode cX11_answersOf 49 = .ok (.ishl, 1) := by decide +kernel
theorem dX11_answersOf_50 : decode cX11_answersOf 50 = .ok (.goto 4, 3) := by decide +kernel
theorem dX11_answersOf_53 : decode cX11_answersOf 53 = .ok (.iconst 0, 1) := by decide +kernel
theorem dX11_answersOf_54 : decode cX11_answersOf 54 = .ok (.ior, 1) := by decide +kernel
theorem dX11_answersOf_55 : decode cX11_answersOf 55 = .ok (.istore 5, 2) := by decide +kernel
theorem dX11_answersOf_57 : decode cX11_answersOf 57 = .ok (.iload 6, 2) := by decide +kernel
theorem dX11_answersOf_59 : decode cX11_answersOf 59 = .ok (.ifCond .ne 20, 3) := by decide +kernel
theorem dX11_answersOf_62 : decode cX11_answersOf 62 = .ok (.iload 4, 2) := by decide +kernel
theorem dX11_answersOf_64 : decode cX11_answersOf 64 = .ok (.ifCond .lt 19, 3) := by decide +kernel
theorem dX11_answersOf_67 : decode cX11_answersOf 67 = .ok (.aload_n 0, 1) := by decide +kernel
theorem dX11_answersOf_68 : decode cX11_answersOf 68 = .ok (.iload_n 1, 1) := by decide +kernel
theorem dX11_answersOf_69 : decode cX11_answersOf 69 = .ok (.iload 8, 2) := by decide +kernel
theorem dX11_answersOf_71 : decode cX11_answersOf 71 = .ok (.invokevirtual 171, 3) := by decide +kernel
theorem dX11_answersOf_74 : decode cX11_answersOf 74 = .ok (.iload 4, 2) := by decide +kernel
theorem dX11_answersOf_76 : decode cX11_answersOf 76 = .ok (.if_icmp .gt 7, 3) := by decide +kernel
theorem dX11_answersOf_79 : decode cX11_answersOf 79 = .ok (.iconst 1, 1) := by decide +kernel
theorem dX11_answersOf_80 : decode cX11_answersOf 80 = .ok (.goto 4, 3) := by decide +kernel
theorem dX11_answersOf_83 : decode cX11_answersOf 83 = .ok (.iconst 0, 1) := by decide +kernel
theorem dX11_answersOf_84 : decode cX11_answersOf 84 = .ok (.istore 6, 2) := by decide +kernel
theorem dX11_answersOf_86 : decode cX11_answersOf 86 = .ok (.iinc 7 1, 3) := by decide +kernel
theorem dX11_answersOf_89 : decode cX11_answersOf 89 = .ok (.goto (-80), 3) := by decide +kernel
theorem dX11_answersOf_92 : decode cX11_answersOf 92 = .ok (.iload 5, 2) := by decide +kernel
theorem dX11_answersOf_94 : decode cX11_answersOf 94 = .ok (.ireturn, 1) := by decide +kernel
theorem dX11_areLids_0 : decode cX11_areLids 0 = .ok (.iconst 1, 1) := by decide +kernel
theorem dX11_areLids_1 : decode cX11_areLids 1 = .ok (.istore_n 3, 1) := by decide +kernel
theorem dX11_areLids_2 : decode cX11_areLids 2 = .ok (.iconst 0, 1) := by decide +kernel
theorem dX11_areLids_3 : decode cX11_areLids 3 = .ok (.istore 4, 2) := by decide +kernel
theorem dX11_areLids_5 : decode cX11_areLids 5 = .ok (.iload 4, 2) := by decide +kernel
theorem dX11_areLids_7 : decode cX11_areLids 7 = .ok (.iload_n 2, 1) := by decide +kernel
theorem dX11_areLids_8 : decode cX11_areLids 8 = .ok (.if_icmp .ge 35, 3) := by decide +kernel
theorem dX11_areLids_11 : decode cX11_areLids 11 = .ok (.iload_n 3, 1) := by decide +kernel
theorem dX11_areLids_12 : decode cX11_areLids 12 = .ok (.ifCond .eq 23, 3) := by decide +kernel
theorem dX11_areLids_15 : decode cX11_areLids 15 = .ok (.aload_n 0, 1) := by decide +kernel
theorem dX11_areLids_16 : decode cX11_areLids 16 = .ok (.iload_n 1, 1) := by decide +kernel
theorem dX11_areLids_17 : decode cX11_areLids 17 = .ok (.iconst 4, 1) := by decide +kernel
theorem dX11_areLids_18 : decode cX11_areLids 18 = .ok (.iload 4, 2) := by decide +kernel
theorem dX11_areLids_20 : decode cX11_areLids 20 = .ok (.imul, 1) := by decide +kernel
theorem dX11_areLids_21 : decode cX11_areLids 21 = .ok (.ishr, 1) := by decide +kernel
theorem dX11_areLids_22 : decode cX11_areLids 22 = .ok (.bipush 15, 2) := by decide +kernel
theorem dX11_areLids_24 : decode cX11_areLids 24 = .ok (.iand, 1) := by decide +kernel
theorem dX11_areLids_25 : decode cX11_areLids 25 = .ok (.invokevirtual 157, 3) := by decide +kernel
theorem dX11_areLids_28 : decode cX11_areLids 28 = .ok (.ifCond .eq 7, 3) := by decide +kernel
theorem dX11_areLids_31 : decode cX11_areLids 31 = .ok (.iconst 1, 1) := by decide +kernel
theorem dX11_areLids_32 : decode cX11_areLids 32 = .ok (.goto 4, 3) := by decide +kernel
theorem dX11_areLids_35 : decode cX11_areLids 35 = .ok (.iconst 0, 1) := by decide +kernel
theorem dX11_areLids_36 : decode cX11_areLids 36 = .ok (.istore_n 3, 1) := by decide +kernel
theorem dX11_areLids_37 : decode cX11_areLids 37 = .ok (.iinc 4 1, 3) := by decide +kernel
theorem dX11_areLids_40 : decode cX11_areLids 40 = .ok (.goto (-35), 3) := by decide +kernel
theorem dX11_areLids_43 : decode cX11_areLids 43 = .ok (.iload_n 3, 1) := by decide +kernel
theorem dX11_areLids_44 : decode cX11_areLids 44 = .ok (.ireturn, 1) := by decide +kernel
theorem dX11_row_0 : decode cX11_row 0 = .ok (.iload_n 2, 1) := by decide +kernel
theorem dX11_row_1 : decode cX11_row 1 = .ok (.i2l, 1) := by decide +kernel
theorem dX11_row_2 : decode cX11_row 2 = .ok (.lconst 1, 1) := by decide +kernel
theorem dX11_row_3 : decode cX11_row 3 = .ok (.ldc2_w 91, 3) := by decide +kernel
theorem dX11_row_6 : decode cX11_row 6 = .ok (.invokestatic 83, 3) := by decide +kernel
theorem dX11_row_9 : decode cX11_row 9 = .ok (.ifCond .ne 6, 3) := by decide +kernel
theorem dX11_row_12 : decode cX11_row 12 = .ok (.bipush (-3), 2) := by decide +kernel
theorem dX11_row_14 : decode cX11_row 14 = .ok (.ireturn, 1) := by decide +kernel
theorem dX11_row_15 : decode cX11_row 15 = .ok (.aload_n 0, 1) := by decide +kernel
theorem dX11_row_16 : decode cX11_row 16 = .ok (.iload_n 1, 1) := by decide +kernel
theorem dX11_row_17 : decode cX11_row 17 = .ok (.iload_n 2, 1) := by decide +kernel
theorem dX11_row_18 : decode cX11_row 18 = .ok (.invokevirtual 285, 3) := by decide +kernel
theorem dX11_row_21 : decode cX11_row 21 = .ok (.ifCond .ne 6, 3) := by decide +kernel
theorem dX11_row_24 : decode cX11_row 24 = .ok (.bipush (-2), 2) := by decide +kernel
theorem dX11_row_26 : decode cX11_row 26 = .ok (.ireturn, 1) := by decide +kernel
theorem dX11_row_27 : decode cX11_row 27 = .ok (.iload 4, 2) := by decide +kernel
theorem dX11_row_29 : decode cX11_row 29 = .ok (.i2l, 1) := by decide +kernel
theorem dX11_row_30 : decode cX11_row 30 = .ok (.lconst 0, 1) := by decide +kernel
theorem dX11_row_31 : decode cX11_row 31 = .ok (.lconst 1, 1) := by decide +kernel
theorem dX11_row_32 : decode cX11_row 32 = .ok (.invokestatic 83, 3) := by decide +kernel
theorem dX11_row_35 : decode cX11_row 35 = .ok (.ifCond .eq 17, 3) := by decide +kernel
theorem dX11_row_38 : decode cX11_row 38 = .ok (.iload_n 3, 1) := by decide +kernel
theorem dX11_row_39 : decode cX11_row 39 = .ok (.i2l, 1) := by decide +kernel
theorem dX11_row_40 : decode cX11_row 40 = .ok (.ldc2_w 288, 3) := by decide +kernel
theorem dX11_row_43 : decode cX11_row 43 = .ok (.ldc2_w 290, 3) := by decide +kernel
theorem dX11_row_46 : decode cX11_row 46 = .ok (.invokestatic 83, 3) := by decide +kernel
theorem dX11_row_49 : decode cX11_row 49 = .ok (.ifCond .ne 6, 3) := by decide +kernel
theorem dX11_row_52 : decode cX11_row 52 = .ok (.bipush (-3), 2) := by decide +kernel
theorem dX11_row_54 : decode cX11_row 54 = .ok (.ireturn, 1) := by decide +kernel
theorem dX11_row_55 : decode cX11_row 55 = .ok (.iconst 0, 1) := by decide +kernel
theorem dX11_row_56 : decode cX11_row 56 = .ok (.istore 5, 2) := by decide +kernel
theorem dX11_row_58 : decode cX11_row 58 = .ok (.iload 5, 2) := by decide +kernel
theorem dX11_row_60 : decode cX11_row 60 = .ok (.sipush 256, 3) := by decide +kernel
theorem dX11_row_63 : decode cX11_row 63 = .ok (.if_icmp .ge 17, 3) := by decide +kernel
theorem dX11_row_66 : decode cX11_row 66 = .ok (.aload_n 0, 1) := by decide +kernel
theorem dX11_row_67 : decode cX11_row 67 = .ok (.getfield 78, 3) := by decide +kernel
theorem dX11_row_70 : decode cX11_row 70 = .ok (.iload 5, 2) := by decide +kernel
theorem dX11_row_72 : decode cX11_row 72 = .ok (.iconst 0, 1) := by decide +kernel
theorem dX11_row_73 : decode cX11_row 73 = .ok (.iastore, 1) := by decide +kernel
theorem dX11_row_74 : decode cX11_row 74 = .ok (.iinc 5 1, 3) := by decide +kernel
theorem dX11_row_77 : decode cX11_row 77 = .ok (.goto (-19), 3) := by decide +kernel
theorem dX11_row_80 : decode cX11_row 80 = .ok (.aload_n 0, 1) := by decide +kernel
theorem dX11_row_81 : decode cX11_row 81 = .ok (.invokevirtual 218, 3) := by decide +kernel
theorem dX11_row_84 : decode cX11_row 84 = .ok (.istore 5, 2) := by decide +kernel
theorem dX11_row_86 : decode cX11_row 86 = .ok (.iconst 0, 1) := by decide +kernel
theorem dX11_row_87 : decode cX11_row 87 = .ok (.istore 6, 2) := by decide +kernel
theorem dX11_row_89 : decode cX11_row 89 = .ok (.iconst 0, 1) := by decide +kernel
theorem dX11_row_90 : decode cX11_row 90 = .ok (.istore 7, 2) := by decide +kernel
theorem dX11_row_92 : decode cX11_row 92 = .ok (.iconst 0, 1) := by decide +kernel
theorem dX11_row_93 : decode cX11_row 93 = .ok (.istore 8, 2) := by decide +kernel
theorem dX11_row_95 : decode cX11_row 95 = .ok (.iload 8, 2) := by decide +kernel
theorem dX11_row_97 : decode cX11_row 97 = .ok (.bipush 12, 2) := by decide +kernel
theorem dX11_row_99 : decode cX11_row 99 = .ok (.if_icmp .ge 75, 3) := by decide +kernel
theorem dX11_row_102 : decode cX11_row 102 = .ok (.iload 5, 2) := by decide +kernel
theorem dX11_row_104 : decode cX11_row 104 = .ok (.iload 8, 2) := by decide +kernel
theorem dX11_row_106 : decode cX11_row 106 = .ok (.invokestatic 87, 3) := by decide +kernel
theorem dX11_row_109 : decode cX11_row 109 = .ok (.ifCond .eq 59, 3) := by decide +kernel
theorem dX11_row_112 : decode cX11_row 112 = .ok (.aload_n 0, 1) := by decide +kernel
theorem dX11_row_113 : decode cX11_row 113 = .ok (.iload 8, 2) := by decide +kernel
theorem dX11_row_115 : decode cX11_row 115 = .ok (.iload_n 1, 1) := by decide +kernel
theorem dX11_row_116 : decode cX11_row 116 = .ok (.iload_n 2, 1) := by decide +kernel
theorem dX11_row_117 : decode cX11_row 117 = .ok (.iload_n 3, 1) := by decide +kernel
theorem dX11_row_118 : decode cX11_row 118 = .ok (.invokevirtual 292, 3) := by decide +kernel
theorem dX11_row_121 : decode cX11_row 121 = .ok (.istore 9, 2) := by decide +kernel
theorem dX11_row_123 : decode cX11_row 123 = .ok (.iload 6, 2) := by decide +kernel
theorem dX11_row_125 : decode cX11_row 125 = .ok (.aload_n 0, 1) := by decide +kernel
theorem dX11_row_126 : decode cX11_row 126 = .ok (.getfield 78, 3) := by decide +kernel
theorem dX11_row_129 : decode cX11_row 129 = .ok (.iload 9, 2) := by decide +kernel
theorem dX11_row_131 : decode cX11_row 131 = .ok (.iaload, 1) := by decide +kernel
theorem dX11_row_132 : decode cX11_row 132 = .ok (.ifCond .ne 7, 3) := by decide +kernel
theorem dX11_row_135 : decode cX11_row 135 = .ok (.iconst 1, 1) := by decide +kernel
theorem dX11_row_136 : decode cX11_row 136 = .ok (.goto 4, 3) := by decide +kernel
theorem dX11_row_139 : decode cX11_row 139 = .ok (.iconst 0, 1) := by decide +kernel
theorem dX11_row_140 : decode cX11_row 140 = .ok (.iadd, 1) := by decide +kernel
theorem dX11_row_141 : decode cX11_row 141 = .ok (.istore 6, 2) := by decide +kernel
theorem dX11_row_143 : decode cX11_row 143 = .ok (.aload_n 0, 1) := by decide +kernel
theorem dX11_row_144 : decode cX11_row 144 = .ok (.getfield 78, 3) := by decide +kernel
theorem dX11_row_147 : decode cX11_row 147 = .ok (.iload 9, 2) := by decide +kernel
theorem dX11_row_149 : decode cX11_row 149 = .ok (.dup2, 1) := by decide +kernel
theorem dX11_row_150 : decode cX11_row 150 = .ok (.iaload, 1) := by decide +kernel
theorem dX11_row_151 : decode cX11_row 151 = .ok (.iconst 1, 1) := by decide +kernel
theorem dX11_row_152 : decode cX11_row 152 = .ok (.iadd, 1) := by decide +kernel
theorem dX11_row_153 : decode cX11_row 153 = .ok (.iastore, 1) := by decide +kernel
theorem dX11_row_154 : decode cX11_row 154 = .ok (.iload 7, 2) := by decide +kernel
theorem dX11_row_156 : decode cX11_row 156 = .ok (.aload_n 0, 1) := by decide +kernel
theorem dX11_row_157 : decode cX11_row 157 = .ok (.getfield 78, 3) := by decide +kernel
theorem dX11_row_160 : decode cX11_row 160 = .ok (.iload 9, 2) := by decide +kernel
theorem dX11_row_162 : decode cX11_row 162 = .ok (.iaload, 1) := by decide +kernel
theorem dX11_row_163 : decode cX11_row 163 = .ok (.invokestatic 257, 3) := by decide +kernel
theorem dX11_row_166 : decode cX11_row 166 = .ok (.istore 7, 2) := by decide +kernel
theorem dX11_row_168 : decode cX11_row 168 = .ok (.iinc 8 1, 3) := by decide +kernel
theorem dX11_row_171 : decode cX11_row 171 = .ok (.goto (-76), 3) := by decide +kernel
theorem dX11_row_174 : decode cX11_row 174 = .ok (.iload 4, 2) := by decide +kernel
theorem dX11_row_176 : decode cX11_row 176 = .ok (.ifCond .ne 8, 3) := by decide +kernel
theorem dX11_row_179 : decode cX11_row 179 = .ok (.iload 6, 2) := by decide +kernel
theorem dX11_row_181 : decode cX11_row 181 = .ok (.goto 5, 3) := by decide +kernel
theorem dX11_row_184 : decode cX11_row 184 = .ok (.iload 7, 2) := by decide +kernel
theorem dX11_row_186 : decode cX11_row 186 = .ok (.ireturn, 1) := by decide +kernel
theorem dX11_answers_0 : decode cX11_answers 0 = .ok (.iload_n 3, 1) := by decide +kernel
theorem dX11_answers_1 : decode cX11_answers 1 = .ok (.i2l, 1) := by decide +kernel
theorem dX11_answers_2 : decode cX11_answers 2 = .ok (.lconst 1, 1) := by decide +kernel
theorem dX11_answers_3 : decode cX11_answers 3 = .ok (.ldc2_w 91, 3) := by decide +kernel
theorem dX11_answers_6 : decode cX11_answers 6 = .ok (.invokestatic 83, 3) := by decide +kernel
theorem dX11_answers_9 : decode cX11_answers 9 = .ok (.ifCond .ne 6, 3) := by decide +kernel
theorem dX11_answers_12 : decode cX11_answers 12 = .ok (.bipush (-3), 2) := by decide +kernel
theorem dX11_answers_14 : decode cX11_answers 14 = .ok (.ireturn, 1) := by decide +kernel
theorem dX11_answers_15 : decode cX11_answers 15 = .ok (.aload_n 0, 1) := by decide +kernel
theorem dX11_answers_16 : decode cX11_answers 16 = .ok (.iload_n 1, 1) := by decide +kernel
theorem dX11_answers_17 : decode cX11_answers 17 = .ok (.invokevirtual 229, 3) := by decide +kernel
theorem dX11_answers_20 : decode cX11_answers 20 = .ok (.ifCond .eq 12, 3) := by decide +kernel
theorem dX11_answers_23 : decode cX11_answers 23 = .ok (.aload_n 0, 1) := by decide +kernel
theorem dX11_answers_24 : decode cX11_answers 24 = .ok (.iload_n 2, 1) := by decide +kernel
theorem dX11_answers_25 : decode cX11_answers 25 = .ok (.iload_n 3, 1) := by decide +kernel
theorem dX11_answers_26 : decode cX11_answers 26 = .ok (.invokevirtual 285, 3) := by decide +kernel
theorem dX11_answers_29 : decode cX11_answers 29 = .ok (.ifCond .ne 6, 3) := by decide +kernel
theorem dX11_answers_32 : decode cX11_answers 32 = .ok (.bipush (-2), 2) := by decide +kernel
theorem dX11_answers_34 : decode cX11_answers 34 = .ok (.ireturn, 1) := by decide +kernel
theorem dX11_answers_35 : decode cX11_answers 35 = .ok (.iload 4, 2) := by decide +kernel
theorem dX11_answers_37 : decode cX11_answers 37 = .ok (.i2l, 1) := by decide +kernel
theorem dX11_answers_38 : decode cX11_answers 38 = .ok (.ldc2_w 288, 3) := by decide +kernel
theorem dX11_answers_41 : decode cX11_answers 41 = .ok (.ldc2_w 290, 3) := by decide +kernel
theorem dX11_answers_44 : decode cX11_answers 44 = .ok (.invokestatic 83, 3) := by decide +kernel
theorem dX11_answers_47 : decode cX11_answers 47 = .ok (.ifCond .eq 15, 3) := by decide +kernel
theorem dX11_answers_50 : decode cX11_answers 50 = .ok (.aload_n 0, 1) := by decide +kernel
theorem dX11_answers_51 : decode cX11_answers 51 = .ok (.iload_n 1, 1) := by decide +kernel
theorem dX11_answers_52 : decode cX11_answers 52 = .ok (.iload_n 2, 1) := by decide +kernel
theorem dX11_answers_53 : decode cX11_answers 53 = .ok (.iload_n 3, 1) := by decide +kernel
theorem dX11_answers_54 : decode cX11_answers 54 = .ok (.iload 4, 2) := by decide +kernel
theorem dX11_answers_56 : decode cX11_answers 56 = .ok (.invokevirtual 292, 3) := by decide +kernel
theorem dX11_answers_59 : decode cX11_answers 59 = .ok (.goto 5, 3) := by decide +kernel
theorem dX11_answers_62 : decode cX11_answers 62 = .ok (.bipush (-3), 2) := by decide +kernel
theorem dX11_answers_64 : decode cX11_answers 64 = .ok (.ireturn, 1) := by decide +kernel
theorem dX11_hang_0 : decode cX11_hang 0 = .ok (.iload_n 1, 1) := by decide +kernel
theorem dX11_hang_1 : decode cX11_hang 1 = .ok (.i2l, 1) := by decide +kernel
theorem dX11_hang_2 : decode cX11_hang 2 = .ok (.lconst 0, 1) := by decide +kernel
theorem dX11_hang_3 : decode cX11_hang 3 = .ok (.ldc2_w 290, 3) := by decide +kernel
theorem dX11_hang_6 : decode cX11_hang 6 = .ok (.invokestatic 83, 3) := by decide +kernel
theorem dX11_hang_9 : decode cX11_hang 9 = .ok (.ifCond .ne 6, 3) := by decide +kernel
theorem dX11_hang_12 : decode cX11_hang 12 = .ok (.bipush (-3), 2) := by decide +kernel
theorem dX11_hang_14 : decode cX11_hang 14 = .ok (.ireturn, 1) := by decide +kernel
theorem dX11_hang_15 : decode cX11_hang 15 = .ok (.aload_n 0, 1) := by decide +kernel
theorem dX11_hang_16 : decode cX11_hang 16 = .ok (.invokevirtual 260, 3) := by decide +kernel
theorem dX11_hang_19 : decode cX11_hang 19 = .ok (.aload_n 0, 1) := by decide +kernel
theorem dX11_hang_20 : decode cX11_hang 20 = .ok (.invokevirtual 218, 3) := by decide +kernel
theorem dX11_hang_23 : decode cX11_hang 23 = .ok (.istore_n 2, 1) := by decide +kernel
theorem dX11_hang_24 : decode cX11_hang 24 = .ok (.iconst (-1), 1) := by decide +kernel
theorem dX11_hang_25 : decode cX11_hang 25 = .ok (.istore_n 3, 1) := by decide +kernel
theorem dX11_hang_26 : decode cX11_hang 26 = .ok (.iconst 0, 1) := by decide +kernel
theorem dX11_hang_27 : decode cX11_hang 27 = .ok (.istore 4, 2) := by decide +kernel
theorem dX11_hang_29 : decode cX11_hang 29 = .ok (.iload 4, 2) := by decide +kernel
theorem dX11_hang_31 : decode cX11_hang 31 = .ok (.sipush 4096, 3) := by decide +kernel
theorem dX11_hang_34 : decode cX11_hang 34 = .ok (.if_icmp .ge 175, 3) := by decide +kernel
theorem dX11_hang_37 : decode cX11_hang 37 = .ok (.iload 4, 2) := by decide +kernel
theorem dX11_hang_39 : decode cX11_hang 39 = .ok (.aload_n 0, 1) := by decide +kernel
theorem dX11_hang_40 : decode cX11_hang 40 = .ok (.getfield 16, 3) := by decide +kernel
theorem dX11_hang_43 : decode cX11_hang 43 = .ok (.iconst (-1), 1) := by decide +kernel
theorem dX11_hang_44 : decode cX11_hang 44 = .ok (.ixor, 1) := by decide +kernel
theorem dX11_hang_45 : decode cX11_hang 45 = .ok (.iand, 1) := by decide +kernel
theorem dX11_hang_46 : decode cX11_hang 46 = .ok (.ifCond .ne 24, 3) := by decide +kernel
theorem dX11_hang_49 : decode cX11_hang 49 = .ok (.iload_n 3, 1) := by decide +kernel
theorem dX11_hang_50 : decode cX11_hang 50 = .ok (.iconst (-1), 1) := by decide +kernel
theorem dX11_hang_51 : decode cX11_hang 51 = .ok (.if_icmp .eq 15, 3) := by decide +kernel
theorem dX11_hang_54 : decode cX11_hang 54 = .ok (.iload 4, 2) := by decide +kernel
theorem dX11_hang_56 : decode cX11_hang 56 = .ok (.invokestatic 193, 3) := by decide +kernel
theorem dX11_hang_59 : decode cX11_hang 59 = .ok (.iload_n 3, 1) := by decide +kernel
theorem dX11_hang_60 : decode cX11_hang 60 = .ok (.invokestatic 193, 3) := by decide +kernel
theorem dX11_hang_63 : decode cX11_hang 63 = .ok (.if_icmp .ge 7, 3) := by decide +kernel
theorem dX11_hang_66 : decode cX11_hang 66 = .ok (.iconst 1, 1) := by decide +kernel
theorem dX11_hang_67 : decode cX11_hang 67 = .ok (.goto 4, 3) := by decide +kernel
theorem dX11_hang_70 : decode cX11_hang 70 = .ok (.iconst 0, 1) := by decide +kernel
theorem dX11_hang_71 : decode cX11_hang 71 = .ok (.istore 5, 2) := by decide +kernel
theorem dX11_hang_73 : decode cX11_hang 73 = .ok (.iconst 0, 1) := by decide +kernel
theorem dX11_hang_74 : decode cX11_hang 74 = .ok (.istore 6, 2) := by decide +kernel
theorem dX11_hang_76 : decode cX11_hang 76 = .ok (.iload 6, 2) := by decide +kernel
theorem dX11_hang_78 : decode cX11_hang 78 = .ok (.sipush 144, 3) := by decide +kernel
theorem dX11_hang_81 : decode cX11_hang 81 = .ok (.if_icmp .ge 110, 3) := by decide +kernel
theorem dX11_hang_84 : decode cX11_hang 84 = .ok (.iload 5, 2) := by decide +kernel
theorem dX11_hang_86 : decode cX11_hang 86 = .ok (.ifCond .eq 105, 3) := by decide +kernel
theorem dX11_hang_89 : decode cX11_hang 89 = .ok (.iload 6, 2) := by decide +kernel
theorem dX11_hang_91 : decode cX11_hang 91 = .ok (.bipush 12, 2) := by decide +kernel
theorem dX11_hang_93 : decode cX11_hang 93 = .ok (.idiv, 1) := by decide +kernel
theorem dX11_hang_94 : decode cX11_hang 94 = .ok (.istore 7, 2) := by decide +kernel
theorem dX11_hang_96 : decode cX11_hang 96 = .ok (.iload 6, 2) := by decide +kernel
theorem dX11_hang_98 : decode cX11_hang 98 = .ok (.bipush 12, 2) := by decide +kernel
theorem dX11_hang_100 : decode cX11_hang 100 = .ok (.irem, 1) := by decide +kernel
theorem dX11_hang_101 : decode cX11_hang 101 = .ok (.istore 8, 2) := by decide +kernel
theorem dX11_hang_103 : decode cX11_hang 103 = .ok (.iload 7, 2) := by decide +kernel
theorem dX11_hang_105 : decode cX11_hang 105 = .ok (.iload 8, 2) := by decide +kernel
theorem dX11_hang_107 : decode cX11_hang 107 = .ok (.if_icmp .ge 42, 3) := by decide +kernel
theorem dX11_hang_110 : decode cX11_hang 110 = .ok (.iload_n 2, 1) := by decide +kernel
theorem dX11_hang_111 : decode cX11_hang 111 = .ok (.iload 7, 2) := by decide +kernel
theorem dX11_hang_113 : decode cX11_hang 113 = .ok (.invokestatic 87, 3) := by decide +kernel
theorem dX11_hang_116 : decode cX11_hang 116 = .ok (.ifCond .eq 33, 3) := by decide +kernel
theorem dX11_hang_119 : decode cX11_hang 119 = .ok (.iload_n 2, 1) := by decide +kernel
theorem dX11_hang_120 : decode cX11_hang 120 = .ok (.iload 8, 2) := by decide +kernel
theorem dX11_hang_122 : decode cX11_hang 122 = .ok (.invokestatic 87, 3) := by decide +kernel
theorem dX11_hang_125 : decode cX11_hang 125 = .ok (.ifCond .eq 24, 3) := by decide +kernel
theorem dX11_hang_128 : decode cX11_hang 128 = .ok (.aload_n 0, 1) := by decide +kernel
theorem dX11_hang_129 : decode cX11_hang 129 = .ok (.getfield 65, 3) := by decide +kernel
theorem dX11_hang_132 : decode cX11_hang 132 = .ok (.bipush 12, 2) := by decide +kernel
theorem dX11_hang_134 : decode cX11_hang 134 = .ok (.iload 7, 2) := by decide +kernel
theorem dX11_hang_136 : decode cX11_hang 136 = .ok (.imul, 1) := by decide +kernel
theorem dX11_hang_137 : decode cX11_hang 137 = .ok (.iload 8, 2) := by decide +kernel
theorem dX11_hang_139 : decode cX11_hang 139 = .ok (.iadd, 1) := by decide +kernel
theorem dX11_hang_140 : decode cX11_hang 140 = .ok (.iaload, 1) := by decide +kernel
theorem dX11_hang_141 : decode cX11_hang 141 = .ok (.iload_n 1, 1) := by decide +kernel
theorem dX11_hang_142 : decode cX11_hang 142 = .ok (.if_icmp .le 7, 3) := by decide +kernel
theorem dX11_hang_145 : decode cX11_hang 145 = .ok (.iconst 1, 1) := by decide +kernel
theorem dX11_hang_146 : decode cX11_hang 146 = .ok (.goto 4, 3) := by decide +kernel
theorem dX11_hang_149 : decode cX11_hang 149 = .ok (.iconst 0, 1) := by decide +kernel
theorem dX11_hang_150 : decode cX11_hang 150 = .ok (.istore 9, 2) := by decide +kernel
theorem dX11_hang_152 : decode cX11_hang 152 = .ok (.iload 9, 2) := by decide +kernel
theorem dX11_hang_154 : decode cX11_hang 154 = .ok (.ifCond .eq 24, 3) := by decide +kernel
theorem dX11_hang_157 : decode cX11_hang 157 = .ok (.aload_n 0, 1) := by decide +kernel
theorem dX11_hang_158 : decode cX11_hang 158 = .ok (.iload 7, 2) := by decide +kernel
theorem dX11_hang_160 : decode cX11_hang 160 = .ok (.invokevirtual 165, 3) := by decide +kernel
theorem dX11_hang_163 : decode cX11_hang 163 = .ok (.iload 4, 2) := by decide +kernel
theorem dX11_hang_165 : decode cX11_hang 165 = .ok (.iand, 1) := by decide +kernel
theorem dX11_hang_166 : decode cX11_hang 166 = .ok (.aload_n 0, 1) := by decide +kernel
theorem dX11_hang_167 : decode cX11_hang 167 = .ok (.iload 8, 2) := by decide +kernel
theorem dX11_hang_169 : decode cX11_hang 169 = .ok (.invokevirtual 165, 3) := by decide +kernel
theorem dX11_hang_172 : decode cX11_hang 172 = .ok (.iload 4, 2) := by decide +kernel
theorem dX11_hang_174 : decode cX11_hang 174 = .ok (.iand, 1) := by decide +kernel
theorem dX11_hang_175 : decode cX11_hang 175 = .ok (.if_icmp .eq 7, 3) := by decide +kernel
theorem dX11_hang_178 : decode cX11_hang 178 = .ok (.iconst 1, 1) := by decide +kernel
theorem dX11_hang_179 : decode cX11_hang 179 = .ok (.goto 4, 3) := by decide +kernel
theorem dX11_hang_182 : decode cX11_hang 182 = .ok (.iconst 0, 1) := by decide +kernel
theorem dX11_hang_183 : decode cX11_hang 183 = .ok (.istore 5, 2) := by decide +kernel
theorem dX11_hang_185 : decode cX11_hang 185 = .ok (.iinc 6 1, 3) := by decide +kernel
theorem dX11_hang_188 : decode cX11_hang 188 = .ok (.goto (-112), 3) := by decide +kernel
theorem dX11_hang_191 : decode cX11_hang 191 = .ok (.iload 5, 2) := by decide +kernel
theorem dX11_hang_193 : decode cX11_hang 193 = .ok (.ifCond .eq 8, 3) := by decide +kernel
theorem dX11_hang_196 : decode cX11_hang 196 = .ok (.iload 4, 2) := by decide +kernel
theorem dX11_hang_198 : decode cX11_hang 198 = .ok (.goto 4, 3) := by decide +kernel
theorem dX11_hang_201 : decode cX11_hang 201 = .ok (.iload_n 3, 1) := by decide +kernel
theorem dX11_hang_202 : decode cX11_hang 202 = .ok (.istore_n 3, 1) := by decide +kernel
theorem dX11_hang_203 : decode cX11_hang 203 = .ok (.iinc 4 1, 3) := by decide +kernel
theorem dX11_hang_206 : decode cX11_hang 206 = .ok (.goto (-177), 3) := by decide +kernel
theorem dX11_hang_209 : decode cX11_hang 209 = .ok (.iload_n 3, 1) := by decide +kernel
theorem dX11_hang_210 : decode cX11_hang 210 = .ok (.ireturn, 1) := by decide +kernel
theorem dX11_draw_0 : decode cX11_draw 0 = .ok (.aload_n 0, 1) := by decide +kernel
theorem dX11_draw_1 : decode cX11_draw 1 = .ok (.aload_n 0, 1) := by decide +kernel
theorem dX11_draw_2 : decode cX11_draw 2 = .ok (.getfield 296, 3) := by decide +kernel
theorem dX11_draw_5 : decode cX11_draw 5 = .ok (.sipush 25173, 3) := by decide +kernel
theorem dX11_draw_8 : decode cX11_draw 8 = .ok (.imul, 1) := by decide +kernel
theorem dX11_draw_9 : decode cX11_draw 9 = .ok (.sipush 13849, 3) := by decide +kernel
theorem dX11_draw_12 : decode cX11_draw 12 = .ok (.iadd, 1) := by decide +kernel
theorem dX11_draw_13 : decode cX11_draw 13 = .ok (.ldc_w 299, 3) := by decide +kernel
theorem dX11_draw_16 : decode cX11_draw 16 = .ok (.irem, 1) := by decide +kernel
theorem dX11_draw_17 : decode cX11_draw 17 = .ok (.putfield 296, 3) := by decide +kernel
theorem dX11_draw_20 : decode cX11_draw 20 = .ok (.aload_n 0, 1) := by decide +kernel
theorem dX11_draw_21 : decode cX11_draw 21 = .ok (.getfield 296, 3) := by decide +kernel
theorem dX11_draw_24 : decode cX11_draw 24 = .ok (.bipush 64, 2) := by decide +kernel
theorem dX11_draw_26 : decode cX11_draw 26 = .ok (.idiv, 1) := by decide +kernel
theorem dX11_draw_27 : decode cX11_draw 27 = .ok (.iload_n 1, 1) := by decide +kernel
theorem dX11_draw_28 : decode cX11_draw 28 = .ok (.irem, 1) := by decide +kernel
theorem dX11_draw_29 : decode cX11_draw 29 = .ok (.ireturn, 1) := by decide +kernel
theorem dX11_drawSource_0 : decode cX11_drawSource 0 = .ok (.aload_n 0, 1) := by decide +kernel
theorem dX11_drawSource_1 : decode cX11_drawSource 1 = .ok (.aload_n 0, 1) := by decide +kernel
theorem dX11_drawSource_2 : decode cX11_drawSource 2 = .ok (.iload_n 1, 1) := by decide +kernel
theorem dX11_drawSource_3 : decode cX11_drawSource 3 = .ok (.invokevirtual 273, 3) := by decide +kernel
theorem dX11_drawSource_6 : decode cX11_drawSource 6 = .ok (.invokevirtual 300, 3) := by decide +kernel
theorem dX11_drawSource_9 : decode cX11_drawSource 9 = .ok (.istore_n 2, 1) := by decide +kernel
theorem dX11_drawSource_10 : decode cX11_drawSource 10 = .ok (.iconst 0, 1) := by decide +kernel
theorem dX11_drawSource_11 : decode cX11_drawSource 11 = .ok (.istore_n 3, 1) := by decide +kernel
theorem dX11_drawSource_12 : decode cX11_drawSource 12 = .ok (.iload_n 3, 1) := by decide +kernel
theorem dX11_drawSource_13 : decode cX11_drawSource 13 = .ok (.bipush 12, 2) := by decide +kernel
theorem dX11_drawSource_15 : decode cX11_drawSource 15 = .ok (.if_icmp .ge 38, 3) := by decide +kernel
theorem dX11_drawSource_18 : decode cX11_drawSource 18 = .ok (.iload_n 1, 1) := by decide +kernel
theorem dX11_drawSource_19 : decode cX11_drawSource 19 = .ok (.iload_n 3, 1) := by decide +kernel
theorem dX11_drawSource_20 : decode cX11_drawSource 20 = .ok (.invokestatic 87, 3) := by decide +kernel
theorem dX11_drawSource_23 : decode cX11_drawSource 23 = .ok (.ifCond .eq 24, 3) := by decide +kernel
theorem dX11_drawSource_26 : decode cX11_drawSource 26 = .ok (.iload_n 2, 1) := by decide +kernel
theorem dX11_drawSource_27 : decode cX11_drawSource 27 = .ok (.aload_n 0, 1) := by decide +kernel
theorem dX11_drawSource_28 : decode cX11_drawSource 28 = .ok (.getfield 35, 3) := by decide +kernel
theorem dX11_drawSource_31 : decode cX11_drawSource 31 = .ok (.iload_n 3, 1) := by decide +kernel
theorem dX11_drawSource_32 : decode cX11_drawSource 32 = .ok (.iaload, 1) := by decide +kernel
theorem dX11_drawSource_33 : decode cX11_drawSource 33 = .ok (.if_icmp .ge 5, 3) := by decide +kernel
theorem dX11_drawSource_36 : decode cX11_drawSource 36 = .ok (.iload_n 3, 1) := by decide +kernel
theorem dX11_drawSource_37 : decode cX11_drawSource 37 = .ok (.ireturn, 1) := by decide +kernel
theorem dX11_drawSource_38 : decode cX11_drawSource 38 = .ok (.iload_n 2, 1) := by decide +kernel
theorem dX11_drawSource_39 : decode cX11_drawSource 39 = .ok (.aload_n 0, 1) := by decide +kernel
theorem dX11_drawSource_40 : decode cX11_drawSource 40 = .ok (.getfield 35, 3) := by decide +kernel
theorem dX11_drawSource_43 : decode cX11_drawSource 43 = .ok (.iload_n 3, 1) := by decide +kernel
theorem dX11_drawSource_44 : decode cX11_drawSource 44 = .ok (.iaload, 1) := by decide +kernel
theorem dX11_drawSource_45 : decode cX11_drawSource 45 = .ok (.isub, 1) := by decide +kernel
theorem dX11_drawSource_46 : decode cX11_drawSource 46 = .ok (.istore_n 2, 1) := by decide +kernel
theorem dX11_drawSource_47 : decode cX11_drawSource 47 = .ok (.iinc 3 1, 3) := by decide +kernel
theorem dX11_drawSource_50 : decode cX11_drawSource 50 = .ok (.goto (-38), 3) := by decide +kernel
theorem dX11_drawSource_53 : decode cX11_drawSource 53 = .ok (.iconst (-1), 1) := by decide +kernel
theorem dX11_drawSource_54 : decode cX11_drawSource 54 = .ok (.ireturn, 1) := by decide +kernel
theorem dX11_least_0 : decode cX11_least 0 = .ok (.iconst 0, 1) := by decide +kernel
theorem dX11_least_1 : decode cX11_least 1 = .ok (.istore_n 1, 1) := by decide +kernel
theorem dX11_least_2 : decode cX11_least 2 = .ok (.iload_n 0, 1) := by decide +kernel
theorem dX11_least_3 : decode cX11_least 3 = .ok (.iload_n 1, 1) := by decide +kernel
theorem dX11_least_4 : decode cX11_least 4 = .ok (.invokestatic 87, 3) := by decide +kernel
theorem dX11_least_7 : decode cX11_least 7 = .ok (.ifCond .ne 9, 3) := by decide +kernel
theorem dX11_least_10 : decode cX11_least 10 = .ok (.iinc 1 1, 3) := by decide +kernel
theorem dX11_least_13 : decode cX11_least 13 = .ok (.goto (-11), 3) := by decide +kernel
theorem dX11_least_16 : decode cX11_least 16 = .ok (.iload_n 1, 1) := by decide +kernel
theorem dX11_least_17 : decode cX11_least 17 = .ok (.ireturn, 1) := by decide +kernel
theorem dX11_day_0 : decode cX11_day 0 = .ok (.iload_n 2, 1) := by decide +kernel
theorem dX11_day_1 : decode cX11_day 1 = .ok (.invokestatic 162, 3) := by decide +kernel
theorem dX11_day_4 : decode cX11_day 4 = .ok (.ifCond .ne 6, 3) := by decide +kernel
theorem dX11_day_7 : decode cX11_day 7 = .ok (.bipush (-2), 2) := by decide +kernel
theorem dX11_day_9 : decode cX11_day 9 = .ok (.ireturn, 1) := by decide +kernel
theorem dX11_day_10 : decode cX11_day 10 = .ok (.iload_n 1, 1) := by decide +kernel
theorem dX11_day_11 : decode cX11_day 11 = .ok (.i2l, 1) := by decide +kernel
theorem dX11_day_12 : decode cX11_day 12 = .ok (.lconst 0, 1) := by decide +kernel
theorem dX11_day_13 : decode cX11_day 13 = .ok (.ldc2_w 303, 3) := by decide +kernel
theorem dX11_day_16 : decode cX11_day 16 = .ok (.invokestatic 83, 3) := by decide +kernel
theorem dX11_day_19 : decode cX11_day 19 = .ok (.ifCond .eq 15, 3) := by decide +kernel
theorem dX11_day_22 : decode cX11_day 22 = .ok (.iload_n 3, 1) := by decide +kernel
theorem dX11_day_23 : decode cX11_day 23 = .ok (.i2l, 1) := by decide +kernel
theorem dX11_day_24 : decode cX11_day 24 = .ok (.lconst 0, 1) := by decide +kernel
theorem dX11_day_25 : decode cX11_day 25 = .ok (.ldc2_w 160, 3) := by decide +kernel
theorem dX11_day_28 : decode cX11_day 28 = .ok (.invokestatic 83, 3) := by decide +kernel
theorem dX11_day_31 : decode cX11_day 31 = .ok (.ifCond .ne 6, 3) := by decide +kernel
theorem dX11_day_34 : decode cX11_day 34 = .ok (.bipush (-3), 2) := by decide +kernel
theorem dX11_day_36 : decode cX11_day 36 = .ok (.ireturn, 1) := by decide +kernel
theorem dX11_day_37 : decode cX11_day 37 = .ok (.aload_n 0, 1) := by decide +kernel
theorem dX11_day_38 : decode cX11_day 38 = .ok (.invokevirtual 218, 3) := by decide +kernel
theorem dX11_day_41 : decode cX11_day 41 = .ok (.istore 4, 2) := by decide +kernel
theorem dX11_day_43 : decode cX11_day 43 = .ok (.iload 4, 2) := by decide +kernel
theorem dX11_day_45 : decode cX11_day 45 = .ok (.ifCond .ne 6, 3) := by decide +kernel
theorem dX11_day_48 : decode cX11_day 48 = .ok (.bipush (-4), 2) := by decide +kernel
theorem dX11_day_50 : decode cX11_day 50 = .ok (.ireturn, 1) := by decide +kernel
theorem dX11_day_51 : decode cX11_day 51 = .ok (.aload_n 0, 1) := by decide +kernel
theorem dX11_day_52 : decode cX11_day 52 = .ok (.iload 4, 2) := by decide +kernel
theorem dX11_day_54 : decode cX11_day 54 = .ok (.invokevirtual 279, 3) := by decide +kernel
theorem dX11_day_57 : decode cX11_day 57 = .ok (.aload_n 0, 1) := by decide +kernel
theorem dX11_day_58 : decode cX11_day 58 = .ok (.iload_n 1, 1) := by decide +kernel
theorem dX11_day_59 : decode cX11_day 59 = .ok (.putfield 296, 3) := by decide +kernel
theorem dX11_day_62 : decode cX11_day 62 = .ok (.aload_n 0, 1) := by decide +kernel
theorem dX11_day_63 : decode cX11_day 63 = .ok (.iload 4, 2) := by decide +kernel
theorem dX11_day_65 : decode cX11_day 65 = .ok (.invokevirtual 305, 3) := by decide +kernel
theorem dX11_day_68 : decode cX11_day 68 = .ok (.istore 5, 2) := by decide +kernel
theorem dX11_day_70 : decode cX11_day 70 = .ok (.iload 4, 2) := by decide +kernel
theorem dX11_day_72 : decode cX11_day 72 = .ok (.istore 6, 2) := by decide +kernel
theorem dX11_day_74 : decode cX11_day 74 = .ok (.iconst 0, 1) := by decide +kernel
theorem dX11_day_75 : decode cX11_day 75 = .ok (.istore 7, 2) := by decide +kernel
theorem dX11_day_77 : decode cX11_day 77 = .ok (.iconst 0, 1) := by decide +kernel
theorem dX11_day_78 : decode cX11_day 78 = .ok (.istore 8, 2) := by decide +kernel
theorem dX11_day_80 : decode cX11_day 80 = .ok (.iconst 0, 1) := by decide +kernel
theorem dX11_day_81 : decode cX11_day 81 = .ok (.istore 9, 2) := by decide +kernel
theorem dX11_day_83 : decode cX11_day 83 = .ok (.iload 6, 2) := by decide +kernel
theorem dX11_day_85 : decode cX11_day 85 = .ok (.invokestatic 193, 3) := by decide +kernel
theorem dX11_day_88 : decode cX11_day 88 = .ok (.iconst 1, 1) := by decide +kernel
theorem dX11_day_89 : decode cX11_day 89 = .ok (.if_icmp .le 130, 3) := by decide +kernel
theorem dX11_day_92 : decode cX11_day 92 = .ok (.aload_n 0, 1) := by decide +kernel
theorem dX11_day_93 : decode cX11_day 93 = .ok (.iload 7, 2) := by decide +kernel
theorem dX11_day_95 : decode cX11_day 95 = .ok (.iload 6, 2) := by decide +kernel
theorem dX11_day_97 : decode cX11_day 97 = .ok (.invokevirtual 282, 3) := by decide +kernel
theorem dX11_day_100 : decode cX11_day 100 = .ok (.istore 10, 2) := by decide +kernel
theorem dX11_day_102 : decode cX11_day 102 = .ok (.aload_n 0, 1) := by decide +kernel
theorem dX11_day_103 : decode cX11_day 103 = .ok (.getfield 62, 3) := by decide +kernel
theorem dX11_day_106 : decode cX11_day 106 = .ok (.iload 10, 2) := by decide +kernel
theorem dX11_day_108 : decode cX11_day 108 = .ok (.iaload, 1) := by decide +kernel
theorem dX11_day_109 : decode cX11_day 109 = .ok (.iload 5, 2) := by decide +kernel
theorem dX11_day_111 : decode cX11_day 111 = .ok (.invokestatic 87, 3) := by decide +kernel
theorem dX11_day_114 : decode cX11_day 114 = .ok (.istore 11, 2) := by decide +kernel
theorem dX11_day_116 : decode cX11_day 116 = .ok (.aload_n 0, 1) := by decide +kernel
theorem dX11_day_117 : decode cX11_day 117 = .ok (.bipush 10, 2) := by decide +kernel
theorem dX11_day_119 : decode cX11_day 119 = .ok (.invokevirtual 300, 3) := by decide +kernel
theorem dX11_day_122 : decode cX11_day 122 = .ok (.iload 11, 2) := by decide +kernel
theorem dX11_day_124 : decode cX11_day 124 = .ok (.ifCond .eq 12, 3) := by decide +kernel
theorem dX11_day_127 : decode cX11_day 127 = .ok (.aload_n 0, 1) := by decide +kernel
theorem dX11_day_128 : decode cX11_day 128 = .ok (.getfield 56, 3) := by decide +kernel
theorem dX11_day_131 : decode cX11_day 131 = .ok (.iload_n 2, 1) := by decide +kernel
theorem dX11_day_132 : decode cX11_day 132 = .ok (.iaload, 1) := by decide +kernel
theorem dX11_day_133 : decode cX11_day 133 = .ok (.goto 9, 3) := by decide +kernel
theorem dX11_day_136 : decode cX11_day 136 = .ok (.aload_n 0, 1) := by decide +kernel
theorem dX11_day_137 : decode cX11_day 137 = .ok (.getfield 53, 3) := by decide +kernel
theorem dX11_day_140 : decode cX11_day 140 = .ok (.iload_n 2, 1) := by decide +kernel
theorem dX11_day_141 : decode cX11_day 141 = .ok (.iaload, 1) := by decide +kernel
theorem dX11_day_142 : decode cX11_day 142 = .ok (.if_icmp .ge 7, 3) := by decide +kernel
theorem dX11_day_145 : decode cX11_day 145 = .ok (.iconst 1, 1) := by decide +kernel
theorem dX11_day_146 : decode cX11_day 146 = .ok (.goto 4, 3) := by decide +kernel
theorem dX11_day_149 : decode cX11_day 149 = .ok (.iconst 0, 1) := by decide +kernel
theorem dX11_day_150 : decode cX11_day 150 = .ok (.istore 12, 2) := by decide +kernel
theorem dX11_day_152 : decode cX11_day 152 = .ok (.iload 8, 2) := by decide +kernel
theorem dX11_day_154 : decode cX11_day 154 = .ok (.aload_n 0, 1) := by decide +kernel
theorem dX11_day_155 : decode cX11_day 155 = .ok (.getfield 65, 3) := by decide +kernel
theorem dX11_day_158 : decode cX11_day 158 = .ok (.bipush 12, 2) := by decide +kernel
theorem dX11_day_160 : decode cX11_day 160 = .ok (.iload 7, 2) := by decide +kernel
theorem dX11_day_162 : decode cX11_day 162 = .ok (.imul, 1) := by decide +kernel
theorem dX11_day_163 : decode cX11_day 163 = .ok (.iload 10, 2) := by decide +kernel
theorem dX11_day_165 : decode cX11_day 165 = .ok (.iadd, 1) := by decide +kernel
theorem dX11_day_166 : decode cX11_day 166 = .ok (.iaload, 1) := by decide +kernel
theorem dX11_day_167 : decode cX11_day 167 = .ok (.aload_n 0, 1) := by decide +kernel
theorem dX11_day_168 : decode cX11_day 168 = .ok (.getfield 143, 3) := by decide +kernel
theorem dX11_day_171 : decode cX11_day 171 = .ok (.iadd, 1) := by decide +kernel
theorem dX11_day_172 : decode cX11_day 172 = .ok (.iadd, 1) := by decide +kernel
theorem dX11_day_173 : decode cX11_day 173 = .ok (.istore 8, 2) := by decide +kernel
theorem dX11_day_175 : decode cX11_day 175 = .ok (.iinc 9 1, 3) := by decide +kernel
theorem dX11_day_178 : decode cX11_day 178 = .ok (.iload 10, 2) := by decide +kernel
theorem dX11_day_180 : decode cX11_day 180 = .ok (.istore 7, 2) := by decide +kernel
theorem dX11_day_182 : decode cX11_day 182 = .ok (.iload 11, 2) := by decide +kernel
theorem dX11_day_184 : decode cX11_day 184 = .ok (.iload 12, 2) := by decide +kernel
theorem dX11_day_186 : decode cX11_day 186 = .ok (.if_icmp .eq 16, 3) := by decide +kernel
theorem dX11_day_189 : decode cX11_day 189 = .ok (.iload 6, 2) := by decide +kernel
theorem dX11_day_191 : decode cX11_day 191 = .ok (.aload_n 0, 1) := by decide +kernel
theorem dX11_day_192 : decode cX11_day 192 = .ok (.getfield 62, 3) := by decide +kernel
theorem dX11_day_195 : decode cX11_day 195 = .ok (.iload 10, 2) := by decide +kernel
theorem dX11_day_197 : decode cX11_day 197 = .ok (.iaload, 1) := by decide +kernel
theorem dX11_day_198 : decode cX11_day 198 = .ok (.iand, 1) := by decide +kernel
theorem dX11_day_199 : decode cX11_day 199 = .ok (.goto 15, 3) := by decide +kernel
theorem dX11_day_202 : decode cX11_day 202 = .ok (.iload 6, 2) := by decide +kernel
theorem dX11_day_204 : decode cX11_day 204 = .ok (.aload_n 0, 1) := by decide +kernel
theorem dX11_day_205 : decode cX11_day 205 = .ok (.getfield 62, 3) := by decide +kernel
theorem dX11_day_208 : decode cX11_day 208 = .ok (.iload 10, 2) := by decide +kernel
theorem dX11_day_210 : decode cX11_day 210 = .ok (.iaload, 1) := by decide +kernel
theorem dX11_day_211 : decode cX11_day 211 = .ok (.iconst (-1), 1) := by decide +kernel
theorem dX11_day_212 : decode cX11_day 212 = .ok (.ixor, 1) := by decide +kernel
theorem dX11_day_213 : decode cX11_day 213 = .ok (.iand, 1) := by decide +kernel
theorem dX11_day_214 : decode cX11_day 214 = .ok (.istore 6, 2) := by decide +kernel
theorem dX11_day_216 : decode cX11_day 216 = .ok (.goto (-133), 3) := by decide +kernel
theorem dX11_day_219 : decode cX11_day 219 = .ok (.iload_n 3, 1) := by decide +kernel
theorem dX11_day_220 : decode cX11_day 220 = .ok (.ifCond .ne 8, 3) := by decide +kernel
theorem dX11_day_223 : decode cX11_day 223 = .ok (.iload 8, 2) := by decide +kernel
theorem dX11_day_225 : decode cX11_day 225 = .ok (.goto 28, 3) := by decide +kernel
theorem dX11_day_228 : decode cX11_day 228 = .ok (.iload_n 3, 1) := by decide +kernel
theorem dX11_day_229 : decode cX11_day 229 = .ok (.iconst 1, 1) := by decide +kernel
theorem dX11_day_230 : decode cX11_day 230 = .ok (.if_icmp .ne 11, 3) := by decide +kernel
theorem dX11_day_233 : decode cX11_day 233 = .ok (.iload 6, 2) := by decide +kernel
theorem dX11_day_235 : decode cX11_day 235 = .ok (.invokestatic 308, 3) := by decide +kernel
theorem dX11_day_238 : decode cX11_day 238 = .ok (.goto 15, 3) := by decide +kernel
theorem dX11_day_241 : decode cX11_day 241 = .ok (.iload_n 3, 1) := by decide +kernel
theorem dX11_day_242 : decode cX11_day 242 = .ok (.iconst 2, 1) := by decide +kernel
theorem dX11_day_243 : decode cX11_day 243 = .ok (.if_icmp .ne 8, 3) := by decide +kernel
theorem dX11_day_246 : decode cX11_day 246 = .ok (.iload 5, 2) := by decide +kernel
theorem dX11_day_248 : decode cX11_day 248 = .ok (.goto 5, 3) := by decide +kernel
theorem dX11_day_251 : decode cX11_day 251 = .ok (.iload 9, 2) := by decide +kernel
theorem dX11_day_253 : decode cX11_day 253 = .ok (.ireturn, 1) := by decide +kernel
theorem dX11_count_0 : decode cX11_count 0 = .ok (.iconst 0, 1) := by decide +kernel
theorem dX11_count_1 : decode cX11_count 1 = .ok (.istore_n 2, 1) := by decide +kernel
theorem dX11_count_2 : decode cX11_count 2 = .ok (.iconst 1, 1) := by decide +kernel
theorem dX11_count_3 : decode cX11_count 3 = .ok (.istore_n 3, 1) := by decide +kernel
theorem dX11_count_4 : decode cX11_count 4 = .ok (.iload_n 3, 1) := by decide +kernel
theorem dX11_count_5 : decode cX11_count 5 = .ok (.bipush 12, 2) := by decide +kernel
theorem dX11_count_7 : decode cX11_count 7 = .ok (.if_icmp .ge 33, 3) := by decide +kernel
theorem dX11_count_10 : decode cX11_count 10 = .ok (.iload_n 2, 1) := by decide +kernel
theorem dX11_count_11 : decode cX11_count 11 = .ok (.aload_n 0, 1) := by decide +kernel
theorem dX11_count_12 : decode cX11_count 12 = .ok (.getfield 16, 3) := by decide +kernel
theorem dX11_count_15 : decode cX11_count 15 = .ok (.iload_n 3, 1) := by decide +kernel
theorem dX11_count_16 : decode cX11_count 16 = .ok (.invokestatic 87, 3) := by decide +kernel
theorem dX11_count_19 : decode cX11_count 19 = .ok (.ifCond .eq 12, 3) := by decide +kernel
theorem dX11_count_22 : decode cX11_count 22 = .ok (.aload_n 0, 1) := by decide +kernel
theorem dX11_count_23 : decode cX11_count 23 = .ok (.getfield 26, 3) := by decide +kernel
theorem dX11_count_26 : decode cX11_count 26 = .ok (.iload_n 3, 1) := by decide +kernel
theorem dX11_count_27 : decode cX11_count 27 = .ok (.iaload, 1) := by decide +kernel
theorem dX11_count_28 : decode cX11_count 28 = .ok (.goto 4, 3) := by decide +kernel
theorem dX11_count_31 : decode cX11_count 31 = .ok (.iconst 0, 1) := by decide +kernel
theorem dX11_count_32 : decode cX11_count 32 = .ok (.iadd, 1) := by decide +kernel
theorem dX11_count_33 : decode cX11_count 33 = .ok (.istore_n 2, 1) := by decide +kernel
theorem dX11_count_34 : decode cX11_count 34 = .ok (.iinc 3 1, 3) := by decide +kernel
theorem dX11_count_37 : decode cX11_count 37 = .ok (.goto (-33), 3) := by decide +kernel
theorem dX11_count_40 : decode cX11_count 40 = .ok (.iload_n 1, 1) := by decide +kernel
theorem dX11_count_41 : decode cX11_count 41 = .ok (.tableswitch 81 0 6 #[43, 51, 56, 64, 69, 74, 79], 43) := by decide +kernel
theorem dX11_count_84 : decode cX11_count 84 = .ok (.aload_n 0, 1) := by decide +kernel
theorem dX11_count_85 : decode cX11_count 85 = .ok (.getfield 16, 3) := by decide +kernel
theorem dX11_count_88 : decode cX11_count 88 = .ok (.invokestatic 193, 3) := by decide +kernel
theorem dX11_count_91 : decode cX11_count 91 = .ok (.ireturn, 1) := by decide +kernel
theorem dX11_count_92 : decode cX11_count 92 = .ok (.aload_n 0, 1) := by decide +kernel
theorem dX11_count_93 : decode cX11_count 93 = .ok (.getfield 93, 3) := by decide +kernel
theorem dX11_count_96 : decode cX11_count 96 = .ok (.ireturn, 1) := by decide +kernel
theorem dX11_count_97 : decode cX11_count 97 = .ok (.aload_n 0, 1) := by decide +kernel
theorem dX11_count_98 : decode cX11_count 98 = .ok (.invokevirtual 218, 3) := by decide +kernel
theorem dX11_count_101 : decode cX11_count 101 = .ok (.invokestatic 193, 3) := by decide +kernel
theorem dX11_count_104 : decode cX11_count 104 = .ok (.ireturn, 1) := by decide +kernel
theorem dX11_count_105 : decode cX11_count 105 = .ok (.aload_n 0, 1) := by decide +kernel
theorem dX11_count_106 : decode cX11_count 106 = .ok (.getfield 207, 3) := by decide +kernel
theorem dX11_count_109 : decode cX11_count 109 = .ok (.ireturn, 1) := by decide +kernel
theorem dX11_count_110 : decode cX11_count 110 = .ok (.aload_n 0, 1) := by decide +kernel
theorem dX11_count_111 : decode cX11_count 111 = .ok (.getfield 143, 3) := by decide +kernel
theorem dX11_count_114 : decode cX11_count 114 = .ok (.ireturn, 1) := by decide +kernel
theorem dX11_count_115 : decode cX11_count 115 = .ok (.aload_n 0, 1) := by decide +kernel
theorem dX11_count_116 : decode cX11_count 116 = .ok (.getfield 146, 3) := by decide +kernel
theorem dX11_count_119 : decode cX11_count 119 = .ok (.ireturn, 1) := by decide +kernel
theorem dX11_count_120 : decode cX11_count 120 = .ok (.iload_n 2, 1) := by decide +kernel
theorem dX11_count_121 : decode cX11_count 121 = .ok (.ireturn, 1) := by decide +kernel
theorem dX11_count_122 : decode cX11_count 122 = .ok (.bipush (-3), 2) := by decide +kernel
theorem dX11_count_124 : decode cX11_count 124 = .ok (.ireturn, 1) := by decide +kernel
theorem dJ6_bitCount_0f7a4_0 : decode cJ6_bitCount_0f7a4 0 = .ok (.iload_n 0, 1) := by decide +kernel
theorem dJ6_bitCount_0f7a4_1 : decode cJ6_bitCount_0f7a4 1 = .ok (.iload_n 0, 1) := by decide +kernel
theorem dJ6_bitCount_0f7a4_2 : decode cJ6_bitCount_0f7a4 2 = .ok (.iconst 1, 1) := by decide +kernel
theorem dJ6_bitCount_0f7a4_3 : decode cJ6_bitCount_0f7a4 3 = .ok (.iushr, 1) := by decide +kernel
theorem dJ6_bitCount_0f7a4_4 : decode cJ6_bitCount_0f7a4 4 = .ok (.ldc_w 265, 3) := by decide +kernel
theorem dJ6_bitCount_0f7a4_7 : decode cJ6_bitCount_0f7a4 7 = .ok (.iand, 1) := by decide +kernel
theorem dJ6_bitCount_0f7a4_8 : decode cJ6_bitCount_0f7a4 8 = .ok (.isub, 1) := by decide +kernel
theorem dJ6_bitCount_0f7a4_9 : decode cJ6_bitCount_0f7a4 9 = .ok (.istore_n 0, 1) := by decide +kernel
theorem dJ6_bitCount_0f7a4_10 : decode cJ6_bitCount_0f7a4 10 = .ok (.iload_n 0, 1) := by decide +kernel
theorem dJ6_bitCount_0f7a4_11 : decode cJ6_bitCount_0f7a4 11 = .ok (.ldc_w 266, 3) := by decide +kernel
theorem dJ6_bitCount_0f7a4_14 : decode cJ6_bitCount_0f7a4 14 = .ok (.iand, 1) := by decide +kernel
theorem dJ6_bitCount_0f7a4_15 : decode cJ6_bitCount_0f7a4 15 = .ok (.iload_n 0, 1) := by decide +kernel
theorem dJ6_bitCount_0f7a4_16 : decode cJ6_bitCount_0f7a4 16 = .ok (.iconst 2, 1) := by decide +kernel
theorem dJ6_bitCount_0f7a4_17 : decode cJ6_bitCount_0f7a4 17 = .ok (.iushr, 1) := by decide +kernel
theorem dJ6_bitCount_0f7a4_18 : decode cJ6_bitCount_0f7a4 18 = .ok (.ldc_w 266, 3) := by decide +kernel
theorem dJ6_bitCount_0f7a4_21 : decode cJ6_bitCount_0f7a4 21 = .ok (.iand, 1) := by decide +kernel
theorem dJ6_bitCount_0f7a4_22 : decode cJ6_bitCount_0f7a4 22 = .ok (.iadd, 1) := by decide +kernel
theorem dJ6_bitCount_0f7a4_23 : decode cJ6_bitCount_0f7a4 23 = .ok (.istore_n 0, 1) := by decide +kernel
theorem dJ6_bitCount_0f7a4_24 : decode cJ6_bitCount_0f7a4 24 = .ok (.iload_n 0, 1) := by decide +kernel
theorem dJ6_bitCount_0f7a4_25 : decode cJ6_bitCount_0f7a4 25 = .ok (.iload_n 0, 1) := by decide +kernel
theorem dJ6_bitCount_0f7a4_26 : decode cJ6_bitCount_0f7a4 26 = .ok (.iconst 4, 1) := by decide +kernel
theorem dJ6_bitCount_0f7a4_27 : decode cJ6_bitCount_0f7a4 27 = .ok (.iushr, 1) := by decide +kernel
theorem dJ6_bitCount_0f7a4_28 : decode cJ6_bitCount_0f7a4 28 = .ok (.iadd, 1) := by decide +kernel
theorem dJ6_bitCount_0f7a4_29 : decode cJ6_bitCount_0f7a4 29 = .ok (.ldc_w 267, 3) := by decide +kernel
theorem dJ6_bitCount_0f7a4_32 : decode cJ6_bitCount_0f7a4 32 = .ok (.iand, 1) := by decide +kernel
theorem dJ6_bitCount_0f7a4_33 : decode cJ6_bitCount_0f7a4 33 = .ok (.istore_n 0, 1) := by decide +kernel
theorem dJ6_bitCount_0f7a4_34 : decode cJ6_bitCount_0f7a4 34 = .ok (.iload_n 0, 1) := by decide +kernel
theorem dJ6_bitCount_0f7a4_35 : decode cJ6_bitCount_0f7a4 35 = .ok (.iload_n 0, 1) := by decide +kernel
theorem dJ6_bitCount_0f7a4_36 : decode cJ6_bitCount_0f7a4 36 = .ok (.bipush 8, 2) := by decide +kernel
theorem dJ6_bitCount_0f7a4_38 : decode cJ6_bitCount_0f7a4 38 = .ok (.iushr, 1) := by decide +kernel
theorem dJ6_bitCount_0f7a4_39 : decode cJ6_bitCount_0f7a4 39 = .ok (.iadd, 1) := by decide +kernel
theorem dJ6_bitCount_0f7a4_40 : decode cJ6_bitCount_0f7a4 40 = .ok (.istore_n 0, 1) := by decide +kernel
theorem dJ6_bitCount_0f7a4_41 : decode cJ6_bitCount_0f7a4 41 = .ok (.iload_n 0, 1) := by decide +kernel
theorem dJ6_bitCount_0f7a4_42 : decode cJ6_bitCount_0f7a4 42 = .ok (.iload_n 0, 1) := by decide +kernel
theorem dJ6_bitCount_0f7a4_43 : decode cJ6_bitCount_0f7a4 43 = .ok (.bipush 16, 2) := by decide +kernel
theorem dJ6_bitCount_0f7a4_45 : decode cJ6_bitCount_0f7a4 45 = .ok (.iushr, 1) := by decide +kernel
theorem dJ6_bitCount_0f7a4_46 : decode cJ6_bitCount_0f7a4 46 = .ok (.iadd, 1) := by decide +kernel
theorem dJ6_bitCount_0f7a4_47 : decode cJ6_bitCount_0f7a4 47 = .ok (.istore_n 0, 1) := by decide +kernel
theorem dJ6_bitCount_0f7a4_48 : decode cJ6_bitCount_0f7a4 48 = .ok (.iload_n 0, 1) := by decide +kernel
theorem dJ6_bitCount_0f7a4_49 : decode cJ6_bitCount_0f7a4 49 = .ok (.bipush 63, 2) := by decide +kernel
theorem dJ6_bitCount_0f7a4_51 : decode cJ6_bitCount_0f7a4 51 = .ok (.iand, 1) := by decide +kernel
theorem dJ6_bitCount_0f7a4_52 : decode cJ6_bitCount_0f7a4 52 = .ok (.ireturn, 1) := by decide +kernel
theorem dJ9_max_7cf53_0 : decode cJ9_max_7cf53 0 = .ok (.iload_n 0, 1) := by decide +kernel
theorem dJ9_max_7cf53_1 : decode cJ9_max_7cf53 1 = .ok (.iload_n 1, 1) := by decide +kernel
theorem dJ9_max_7cf53_2 : decode cJ9_max_7cf53 2 = .ok (.if_icmp .lt 7, 3) := by decide +kernel
theorem dJ9_max_7cf53_5 : decode cJ9_max_7cf53 5 = .ok (.iload_n 0, 1) := by decide +kernel
theorem dJ9_max_7cf53_6 : decode cJ9_max_7cf53 6 = .ok (.goto 4, 3) := by decide +kernel
theorem dJ9_max_7cf53_9 : decode cJ9_max_7cf53 9 = .ok (.iload_n 1, 1) := by decide +kernel
theorem dJ9_max_7cf53_10 : decode cJ9_max_7cf53 10 = .ok (.ireturn, 1) := by decide +kernel
theorem dJ9_min_7cf53_0 : decode cJ9_min_7cf53 0 = .ok (.iload_n 0, 1) := by decide +kernel
theorem dJ9_min_7cf53_1 : decode cJ9_min_7cf53 1 = .ok (.iload_n 1, 1) := by decide +kernel
theorem dJ9_min_7cf53_2 : decode cJ9_min_7cf53 2 = .ok (.if_icmp .gt 7, 3) := by decide +kernel
theorem dJ9_min_7cf53_5 : decode cJ9_min_7cf53 5 = .ok (.iload_n 0, 1) := by decide +kernel
theorem dJ9_min_7cf53_6 : decode cJ9_min_7cf53 6 = .ok (.goto 4, 3) := by decide +kernel
theorem dJ9_min_7cf53_9 : decode cJ9_min_7cf53 9 = .ok (.iload_n 1, 1) := by decide +kernel
theorem dJ9_min_7cf53_10 : decode cJ9_min_7cf53 10 = .ok (.ireturn, 1) := by decide +kernel
theorem dJ0_length_8abf5_0 : decode cJ0_length_8abf5 0 = .ok (.aload_n 0, 1) := by decide +kernel
theorem dJ0_length_8abf5_1 : decode cJ0_length_8abf5 1 = .ok (.getfield 9, 3) := by decide +kernel
theorem dJ0_length_8abf5_4 : decode cJ0_length_8abf5 4 = .ok (.arraylength, 1) := by decide +kernel
theorem dJ0_length_8abf5_5 : decode cJ0_length_8abf5 5 = .ok (.aload_n 0, 1) := by decide +kernel
theorem dJ0_length_8abf5_6 : decode cJ0_length_8abf5 6 = .ok (.invokevirtual 335, 3) := by decide +kernel
theorem dJ0_length_8abf5_9 : decode cJ0_length_8abf5 9 = .ok (.ishr, 1) := by decide +kernel
theorem dJ0_length_8abf5_10 : decode cJ0_length_8abf5 10 = .ok (.ireturn, 1) := by decide +kernel
theorem dJ0_charAt_5068e_0 : decode cJ0_charAt_5068e 0 = .ok (.aload_n 0, 1) := by decide +kernel
theorem dJ0_charAt_5068e_1 : decode cJ0_charAt_5068e 1 = .ok (.invokevirtual 492, 3) := by decide +kernel
theorem dJ0_charAt_5068e_4 : decode cJ0_charAt_5068e 4 = .ok (.ifCond .eq 12, 3) := by decide +kernel
theorem dJ0_charAt_5068e_7 : decode cJ0_charAt_5068e 7 = .ok (.aload_n 0, 1) := by decide +kernel
theorem dJ0_charAt_5068e_8 : decode cJ0_charAt_5068e 8 = .ok (.getfield 9, 3) := by decide +kernel
theorem dJ0_charAt_5068e_11 : decode cJ0_charAt_5068e 11 = .ok (.iload_n 1, 1) := by decide +kernel
theorem dJ0_charAt_5068e_12 : decode cJ0_charAt_5068e 12 = .ok (.invokestatic 495, 3) := by decide +kernel
theorem dJ0_charAt_5068e_15 : decode cJ0_charAt_5068e 15 = .ok (.ireturn, 1) := by decide +kernel
theorem dJ0_charAt_5068e_16 : decode cJ0_charAt_5068e 16 = .ok (.aload_n 0, 1) := by decide +kernel
theorem dJ0_charAt_5068e_17 : decode cJ0_charAt_5068e 17 = .ok (.getfield 9, 3) := by decide +kernel
theorem dJ0_charAt_5068e_20 : decode cJ0_charAt_5068e 20 = .ok (.iload_n 1, 1) := by decide +kernel
theorem dJ0_charAt_5068e_21 : decode cJ0_charAt_5068e 21 = .ok (.invokestatic 498, 3) := by decide +kernel
theorem dJ0_charAt_5068e_24 : decode cJ0_charAt_5068e 24 = .ok (.ireturn, 1) := by decide +kernel
theorem dJ0_coder_7d493_0 : decode cJ0_coder_7d493 0 = .ok (.getstatic 38, 3) := by decide +kernel
theorem dJ0_coder_7d493_3 : decode cJ0_coder_7d493 3 = .ok (.ifCond .eq 10, 3) := by decide +kernel
theorem dJ0_coder_7d493_6 : decode cJ0_coder_7d493 6 = .ok (.aload_n 0, 1) := by decide +kernel
theorem dJ0_coder_7d493_7 : decode cJ0_coder_7d493 7 = .ok (.getfield 15, 3) := by decide +kernel
theorem dJ0_coder_7d493_10 : decode cJ0_coder_7d493 10 = .ok (.goto 4, 3) := by decide +kernel
theorem dJ0_coder_7d493_13 : decode cJ0_coder_7d493 13 = .ok (.iconst 1, 1) := by decide +kernel
theorem dJ0_coder_7d493_14 : decode cJ0_coder_7d493 14 = .ok (.ireturn, 1) := by decide +kernel
theorem dJ0_isLatin1_aae02_0 : decode cJ0_isLatin1_aae02 0 = .ok (.getstatic 38, 3) := by decide +kernel
theorem dJ0_isLatin1_aae02_3 : decode cJ0_isLatin1_aae02 3 = .ok (.ifCond .eq 14, 3) := by decide +kernel
theorem dJ0_isLatin1_aae02_6 : decode cJ0_isLatin1_aae02 6 = .ok (.aload_n 0, 1) := by decide +kernel
theorem dJ0_isLatin1_aae02_7 : decode cJ0_isLatin1_aae02 7 = .ok (.getfield 15, 3) := by decide +kernel
theorem dJ0_isLatin1_aae02_10 : decode cJ0_isLatin1_aae02 10 = .ok (.ifCond .ne 7, 3) := by decide +kernel
theorem dJ0_isLatin1_aae02_13 : decode cJ0_isLatin1_aae02 13 = .ok (.iconst 1, 1) := by decide +kernel
theorem dJ0_isLatin1_aae02_14 : decode cJ0_isLatin1_aae02 14 = .ok (.goto 4, 3) := by decide +kernel
theorem dJ0_isLatin1_aae02_17 : decode cJ0_isLatin1_aae02 17 = .ok (.iconst 0, 1) := by decide +kernel
theorem dJ0_isLatin1_aae02_18 : decode cJ0_isLatin1_aae02 18 = .ok (.ireturn, 1) := by decide +kernel
theorem dJ0_checkIndex_df160_0 : decode cJ0_checkIndex_df160 0 = .ok (.iload_n 0, 1) := by decide +kernel
theorem dJ0_checkIndex_df160_1 : decode cJ0_checkIndex_df160 1 = .ok (.iload_n 1, 1) := by decide +kernel
theorem dJ0_checkIndex_df160_2 : decode cJ0_checkIndex_df160 2 = .ok (.getstatic 1053, 3) := by decide +kernel
theorem dJ0_checkIndex_df160_5 : decode cJ0_checkIndex_df160 5 = .ok (.invokestatic 1059, 3) := by decide +kernel
theorem dJ0_checkIndex_df160_8 : decode cJ0_checkIndex_df160 8 = .ok (.pop, 1) := by decide +kernel
theorem dJ0_checkIndex_df160_9 : decode cJ0_checkIndex_df160 9 = .ok (.return_, 1) := by decide +kernel
theorem dJ1_charAt_3b067_0 : decode cJ1_charAt_3b067 0 = .ok (.iload_n 1, 1) := by decide +kernel
theorem dJ1_charAt_3b067_1 : decode cJ1_charAt_3b067 1 = .ok (.aload_n 0, 1) := by decide +kernel
theorem dJ1_charAt_3b067_2 : decode cJ1_charAt_3b067 2 = .ok (.arraylength, 1) := by decide +kernel
theorem dJ1_charAt_3b067_3 : decode cJ1_charAt_3b067 3 = .ok (.invokestatic 9, 3) := by decide +kernel
theorem dJ1_charAt_3b067_6 : decode cJ1_charAt_3b067 6 = .ok (.aload_n 0, 1) := by decide +kernel
theorem dJ1_charAt_3b067_7 : decode cJ1_charAt_3b067 7 = .ok (.iload_n 1, 1) := by decide +kernel
theorem dJ1_charAt_3b067_8 : decode cJ1_charAt_3b067 8 = .ok (.baload, 1) := by decide +kernel
theorem dJ1_charAt_3b067_9 : decode cJ1_charAt_3b067 9 = .ok (.sipush 255, 3) := by decide +kernel
theorem dJ1_charAt_3b067_12 : decode cJ1_charAt_3b067 12 = .ok (.iand, 1) := by decide +kernel
theorem dJ1_charAt_3b067_13 : decode cJ1_charAt_3b067 13 = .ok (.i2c, 1) := by decide +kernel
theorem dJ1_charAt_3b067_14 : decode cJ1_charAt_3b067 14 = .ok (.ireturn, 1) := by decide +kernel
theorem dJ2_getChar_3b067_0 : decode cJ2_getChar_3b067 0 = .ok (.getstatic 44, 3) := by decide +kernel
theorem dJ2_getChar_3b067_3 : decode cJ2_getChar_3b067 3 = .ok (.ifCond .ne 25, 3) := by decide +kernel
theorem dJ2_getChar_3b067_6 : decode cJ2_getChar_3b067 6 = .ok (.iload_n 1, 1) := by decide +kernel
theorem dJ2_getChar_3b067_7 : decode cJ2_getChar_3b067 7 = .ok (.ifCond .lt 11, 3) := by decide +kernel
theorem dJ2_getChar_3b067_10 : decode cJ2_getChar_3b067 10 = .ok (.iload_n 1, 1) := by decide +kernel
theorem dJ2_getChar_3b067_11 : decode cJ2_getChar_3b067 11 = .ok (.aload_n 0, 1) := by decide +kernel
theorem dJ2_getChar_3b067_12 : decode cJ2_getChar_3b067 12 = .ok (.invokestatic 48, 3) := by decide +kernel
theorem dJ2_getChar_3b067_15 : decode cJ2_getChar_3b067 15 = .ok (.if_icmp .lt 13, 3) := by decide +kernel
theorem dJ2_getChar_3b067_18 : decode cJ2_getChar_3b067 18 = .ok (.new 52, 3) := by decide +kernel
theorem dJ2_getChar_3b067_21 : decode cJ2_getChar_3b067 21 = .ok (.dup, 1) := by decide +kernel
theorem dJ2_getChar_3b067_22 : decode cJ2_getChar_3b067 22 = .ok (.ldc 54, 2) := by decide +kernel
theorem dJ2_getChar_3b067_24 : decode cJ2_getChar_3b067 24 = .ok (.invokespecial 56, 3) := by decide +kernel
theorem dJ2_getChar_3b067_27 : decode cJ2_getChar_3b067 27 = .ok (.athrow, 1) := by decide +kernel
theorem dJ2_getChar_3b067_28 : decode cJ2_getChar_3b067 28 = .ok (.iload_n 1, 1) := by decide +kernel
theorem dJ2_getChar_3b067_29 : decode cJ2_getChar_3b067 29 = .ok (.iconst 1, 1) := by decide +kernel
theorem dJ2_getChar_3b067_30 : decode cJ2_getChar_3b067 30 = .ok (.ishl, 1) := by decide +kernel
theorem dJ2_getChar_3b067_31 : decode cJ2_getChar_3b067 31 = .ok (.istore_n 1, 1) := by decide +kernel
theorem dJ2_getChar_3b067_32 : decode cJ2_getChar_3b067 32 = .ok (.aload_n 0, 1) := by decide +kernel
theorem dJ2_getChar_3b067_33 : decode cJ2_getChar_3b067 33 = .ok (.iload_n 1, 1) := by decide +kernel
theorem dJ2_getChar_3b067_34 : decode cJ2_getChar_3b067 34 = .ok (.iinc 1 1, 3) := by decide +kernel
theorem dJ2_getChar_3b067_37 : decode cJ2_getChar_3b067 37 = .ok (.baload, 1) := by decide +kernel
theorem dJ2_getChar_3b067_38 : decode cJ2_getChar_3b067 38 = .ok (.sipush 255, 3) := by decide +kernel
theorem dJ2_getChar_3b067_41 : decode cJ2_getChar_3b067 41 = .ok (.iand, 1) := by decide +kernel
theorem dJ2_getChar_3b067_42 : decode cJ2_getChar_3b067 42 = .ok (.getstatic 59, 3) := by decide +kernel
theorem dJ2_getChar_3b067_45 : decode cJ2_getChar_3b067 45 = .ok (.ishl, 1) := by decide +kernel
theorem dJ2_getChar_3b067_46 : decode cJ2_getChar_3b067 46 = .ok (.aload_n 0, 1) := by decide +kernel
theorem dJ2_getChar_3b067_47 : decode cJ2_getChar_3b067 47 = .ok (.iload_n 1, 1) := by decide +kernel
theorem dJ2_getChar_3b067_48 : decode cJ2_getChar_3b067 48 = .ok (.baload, 1) := by decide +kernel
theorem dJ2_getChar_3b067_49 : decode cJ2_getChar_3b067 49 = .ok (.sipush 255, 3) := by decide +kernel
theorem dJ2_getChar_3b067_52 : decode cJ2_getChar_3b067 52 = .ok (.iand, 1) := by decide +kernel
theorem dJ2_getChar_3b067_53 : decode cJ2_getChar_3b067 53 = .ok (.getstatic 63, 3) := by decide +kernel
theorem dJ2_getChar_3b067_56 : decode cJ2_getChar_3b067 56 = .ok (.ishl, 1) := by decide +kernel
theorem dJ2_getChar_3b067_57 : decode cJ2_getChar_3b067 57 = .ok (.ior, 1) := by decide +kernel
theorem dJ2_getChar_3b067_58 : decode cJ2_getChar_3b067 58 = .ok (.i2c, 1) := by decide +kernel
theorem dJ2_getChar_3b067_59 : decode cJ2_getChar_3b067 59 = .ok (.ireturn, 1) := by decide +kernel
theorem dJ2_length_9d52b_0 : decode cJ2_length_9d52b 0 = .ok (.aload_n 0, 1) := by decide +kernel
theorem dJ2_length_9d52b_1 : decode cJ2_length_9d52b 1 = .ok (.arraylength, 1) := by decide +kernel
theorem dJ2_length_9d52b_2 : decode cJ2_length_9d52b 2 = .ok (.iconst 1, 1) := by decide +kernel
theorem dJ2_length_9d52b_3 : decode cJ2_length_9d52b 3 = .ok (.ishr, 1) := by decide +kernel
theorem dJ2_length_9d52b_4 : decode cJ2_length_9d52b 4 = .ok (.ireturn, 1) := by decide +kernel
theorem dJ2_charAt_3b067_0 : decode cJ2_charAt_3b067 0 = .ok (.iload_n 1, 1) := by decide +kernel
theorem dJ2_charAt_3b067_1 : decode cJ2_charAt_3b067 1 = .ok (.aload_n 0, 1) := by decide +kernel
theorem dJ2_charAt_3b067_2 : decode cJ2_charAt_3b067 2 = .ok (.invokestatic 67, 3) := by decide +kernel
theorem dJ2_charAt_3b067_5 : decode cJ2_charAt_3b067 5 = .ok (.aload_n 0, 1) := by decide +kernel
theorem dJ2_charAt_3b067_6 : decode cJ2_charAt_3b067 6 = .ok (.iload_n 1, 1) := by decide +kernel
theorem dJ2_charAt_3b067_7 : decode cJ2_charAt_3b067 7 = .ok (.invokestatic 71, 3) := by decide +kernel
theorem dJ2_charAt_3b067_10 : decode cJ2_charAt_3b067 10 = .ok (.ireturn, 1) := by decide +kernel
theorem dJ2_checkIndex_2214a_0 : decode cJ2_checkIndex_2214a 0 = .ok (.iload_n 0, 1) := by decide +kernel
theorem dJ2_checkIndex_2214a_1 : decode cJ2_checkIndex_2214a 1 = .ok (.aload_n 1, 1) := by decide +kernel
theorem dJ2_checkIndex_2214a_2 : decode cJ2_checkIndex_2214a 2 = .ok (.invokestatic 48, 3) := by decide +kernel
theorem dJ2_checkIndex_2214a_5 : decode cJ2_checkIndex_2214a 5 = .ok (.invokestatic 414, 3) := by decide +kernel
theorem dJ2_checkIndex_2214a_8 : decode cJ2_checkIndex_2214a 8 = .ok (.return_, 1) := by decide +kernel
theorem dJ3_checkIndex_8e157_0 : decode cJ3_checkIndex_8e157 0 = .ok (.iload_n 0, 1) := by decide +kernel
theorem dJ3_checkIndex_8e157_1 : decode cJ3_checkIndex_8e157 1 = .ok (.ifCond .lt 8, 3) := by decide +kernel
theorem dJ3_checkIndex_8e157_4 : decode cJ3_checkIndex_8e157 4 = .ok (.iload_n 0, 1) := by decide +kernel
theorem dJ3_checkIndex_8e157_5 : decode cJ3_checkIndex_8e157 5 = .ok (.iload_n 1, 1) := by decide +kernel
theorem dJ3_checkIndex_8e157_6 : decode cJ3_checkIndex_8e157 6 = .ok (.if_icmp .lt 10, 3) := by decide +kernel
theorem dJ3_checkIndex_8e157_9 : decode cJ3_checkIndex_8e157 9 = .ok (.aload_n 2, 1) := by decide +kernel
theorem dJ3_checkIndex_8e157_10 : decode cJ3_checkIndex_8e157 10 = .ok (.iload_n 0, 1) := by decide +kernel
theorem dJ3_checkIndex_8e157_11 : decode cJ3_checkIndex_8e157 11 = .ok (.iload_n 1, 1) := by decide +kernel
theorem dJ3_checkIndex_8e157_12 : decode cJ3_checkIndex_8e157 12 = .ok (.invokestatic 95, 3) := by decide +kernel
theorem dJ3_checkIndex_8e157_15 : decode cJ3_checkIndex_8e157 15 = .ok (.athrow, 1) := by decide +kernel
theorem dJ3_checkIndex_8e157_16 : decode cJ3_checkIndex_8e157 16 = .ok (.iload_n 0, 1) := by decide +kernel
theorem dJ3_checkIndex_8e157_17 : decode cJ3_checkIndex_8e157 17 = .ok (.ireturn, 1) := by decide +kernel
